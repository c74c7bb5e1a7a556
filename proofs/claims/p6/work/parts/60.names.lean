theorem wd_46 {U : State} (h : TB U) (args : Array Value) : (Cond.selects "BigRunnerModel" ⟨"BigRunnerModel", "negate", "()V"⟩ ⟨"BigRunnerModel", "negate", "()V"⟩).before args U = true := h.w 46 (by decide +kernel) rfl args
theorem wd_47 {U : State} (h : TB U) (args : Array Value) : (Cond.selects "BigRunnerModel" ⟨"BigRunnerModel", "number", "()Z"⟩ ⟨"BigRunnerModel", "number", "()Z"⟩).before args U = true := h.w 47 (by decide +kernel) rfl args
theorem wd_48 {U : State} (h : TB U) (args : Array Value) : (Cond.selects "BigRunnerModel" ⟨"BigRunnerModel", "release", "(I)V"⟩ ⟨"BigRunnerModel", "release", "(I)V"⟩).before args U = true := h.w 48 (by decide +kernel) rfl args
theorem wd_1116 {U : State} (h : TB U) (args : Array Value) : (Cond.methodLink "BigRunnerModel" 129 ⟨"BigRunnerModel", "isName", "(C)Z"⟩).before args U = true := h.w 1116 (by decide +kernel) rfl args
theorem wd_1117 {U : State} (h : TB U) (args : Array Value) : (Cond.static ⟨"BigRunnerModel", "isName", "(C)Z"⟩).before args U = true := h.w 1117 (by decide +kernel) rfl args
theorem wd_1118 {U : State} (h : TB U) (args : Array Value) : (Cond.code ⟨"BigRunnerModel", "isName", "(C)Z"⟩ prog_12_method_6_code 1 (some .boolean)).before args U = true := h.w 1118 (by decide +kernel) rfl args
theorem wd_1123 {U : State} (h : TB U) (args : Array Value) : (Cond.methodLink "BigRunnerModel" 132 ⟨"BigRunnerModel", "negate", "()V"⟩).before args U = true := h.w 1123 (by decide +kernel) rfl args
theorem wd_1125 {U : State} (h : TB U) (args : Array Value) : (Cond.instanceMethod ⟨"BigRunnerModel", "negate", "()V"⟩).before args U = true := h.w 1125 (by decide +kernel) rfl args
theorem wd_1126 {U : State} (h : TB U) (args : Array Value) : (Cond.code ⟨"BigRunnerModel", "negate", "()V"⟩ prog_12_method_9_code 1 none).before args U = true := h.w 1126 (by decide +kernel) rfl args
theorem wd_1130 {U : State} (h : TB U) (args : Array Value) : (Cond.methodLink "BigRunnerModel" 135 ⟨"BigRunnerModel", "number", "()Z"⟩).before args U = true := h.w 1130 (by decide +kernel) rfl args
theorem wd_1132 {U : State} (h : TB U) (args : Array Value) : (Cond.instanceMethod ⟨"BigRunnerModel", "number", "()Z"⟩).before args U = true := h.w 1132 (by decide +kernel) rfl args
theorem wd_1133 {U : State} (h : TB U) (args : Array Value) : (Cond.code ⟨"BigRunnerModel", "number", "()Z"⟩ prog_12_method_10_code 3 (some .boolean)).before args U = true := h.w 1133 (by decide +kernel) rfl args
theorem wd_1137 {U : State} (h : TB U) (args : Array Value) : (Cond.methodLink "BigRunnerModel" 139 ⟨"BigRunnerModel", "release", "(I)V"⟩).before args U = true := h.w 1137 (by decide +kernel) rfl args
theorem wd_1139 {U : State} (h : TB U) (args : Array Value) : (Cond.instanceMethod ⟨"BigRunnerModel", "release", "(I)V"⟩).before args U = true := h.w 1139 (by decide +kernel) rfl args
theorem wd_1140 {U : State} (h : TB U) (args : Array Value) : (Cond.code ⟨"BigRunnerModel", "release", "(I)V"⟩ prog_12_method_8_code 2 none).before args U = true := h.w 1140 (by decide +kernel) rfl args
theorem d_M_expr_0 : decode prog_12_method_11_code 0 = .ok (.aload_n 0, 1) := by decide +kernel
theorem d_M_expr_1 : decode prog_12_method_11_code 1 = .ok (.iconst 0, 1) := by decide +kernel
theorem d_M_expr_2 : decode prog_12_method_11_code 2 = .ok (.putfield 107, 3) := by decide +kernel
theorem d_M_expr_5 : decode prog_12_method_11_code 5 = .ok (.iconst 1, 1) := by decide +kernel
theorem d_M_expr_6 : decode prog_12_method_11_code 6 = .ok (.istore_n 1, 1) := by decide +kernel
theorem d_M_expr_7 : decode prog_12_method_11_code 7 = .ok (.iconst 1, 1) := by decide +kernel
theorem d_M_expr_8 : decode prog_12_method_11_code 8 = .ok (.istore_n 2, 1) := by decide +kernel
theorem d_M_expr_9 : decode prog_12_method_11_code 9 = .ok (.iload_n 2, 1) := by decide +kernel
theorem d_M_expr_10 : decode prog_12_method_11_code 10 = .ok (.ifCond .eq 274, 3) := by decide +kernel
theorem d_M_expr_13 : decode prog_12_method_11_code 13 = .ok (.aload_n 0, 1) := by decide +kernel
theorem d_M_expr_14 : decode prog_12_method_11_code 14 = .ok (.invokevirtual 121, 3) := by decide +kernel
theorem d_M_expr_17 : decode prog_12_method_11_code 17 = .ok (.istore_n 3, 1) := by decide +kernel
theorem d_M_expr_18 : decode prog_12_method_11_code 18 = .ok (.iload_n 1, 1) := by decide +kernel
theorem d_M_expr_19 : decode prog_12_method_11_code 19 = .ok (.ifCond .eq 141, 3) := by decide +kernel
theorem d_M_expr_22 : decode prog_12_method_11_code 22 = .ok (.iload_n 3, 1) := by decide +kernel
theorem d_M_expr_23 : decode prog_12_method_11_code 23 = .ok (.bipush 45, 2) := by decide +kernel
theorem d_M_expr_25 : decode prog_12_method_11_code 25 = .ok (.if_icmp .eq 9, 3) := by decide +kernel
theorem d_M_expr_28 : decode prog_12_method_11_code 28 = .ok (.iload_n 3, 1) := by decide +kernel
theorem d_M_expr_29 : decode prog_12_method_11_code 29 = .ok (.bipush 40, 2) := by decide +kernel
theorem d_M_expr_31 : decode prog_12_method_11_code 31 = .ok (.if_icmp .ne 69, 3) := by decide +kernel
theorem d_M_expr_34 : decode prog_12_method_11_code 34 = .ok (.aload_n 0, 1) := by decide +kernel
theorem d_M_expr_35 : decode prog_12_method_11_code 35 = .ok (.dup, 1) := by decide +kernel
theorem d_M_expr_36 : decode prog_12_method_11_code 36 = .ok (.getfield 118, 3) := by decide +kernel
theorem d_M_expr_39 : decode prog_12_method_11_code 39 = .ok (.iconst 1, 1) := by decide +kernel
theorem d_M_expr_40 : decode prog_12_method_11_code 40 = .ok (.iadd, 1) := by decide +kernel
theorem d_M_expr_41 : decode prog_12_method_11_code 41 = .ok (.putfield 118, 3) := by decide +kernel
theorem d_M_expr_44 : decode prog_12_method_11_code 44 = .ok (.aload_n 0, 1) := by decide +kernel
theorem d_M_expr_45 : decode prog_12_method_11_code 45 = .ok (.getfield 118, 3) := by decide +kernel
theorem d_M_expr_48 : decode prog_12_method_11_code 48 = .ok (.bipush 10, 2) := by decide +kernel
theorem d_M_expr_50 : decode prog_12_method_11_code 50 = .ok (.if_icmp .le 5, 3) := by decide +kernel
theorem d_M_expr_53 : decode prog_12_method_11_code 53 = .ok (.iconst 0, 1) := by decide +kernel
theorem d_M_expr_54 : decode prog_12_method_11_code 54 = .ok (.ireturn, 1) := by decide +kernel
theorem d_M_expr_55 : decode prog_12_method_11_code 55 = .ok (.aload_n 0, 1) := by decide +kernel
theorem d_M_expr_56 : decode prog_12_method_11_code 56 = .ok (.getfield 30, 3) := by decide +kernel
theorem d_M_expr_59 : decode prog_12_method_11_code 59 = .ok (.aload_n 0, 1) := by decide +kernel
theorem d_M_expr_60 : decode prog_12_method_11_code 60 = .ok (.getfield 107, 3) := by decide +kernel
theorem d_M_expr_63 : decode prog_12_method_11_code 63 = .ok (.iload_n 3, 1) := by decide +kernel
theorem d_M_expr_64 : decode prog_12_method_11_code 64 = .ok (.bipush 45, 2) := by decide +kernel
theorem d_M_expr_66 : decode prog_12_method_11_code 66 = .ok (.if_icmp .ne 8, 3) := by decide +kernel
theorem d_M_expr_69 : decode prog_12_method_11_code 69 = .ok (.bipush 117, 2) := by decide +kernel
theorem d_M_expr_71 : decode prog_12_method_11_code 71 = .ok (.goto 5, 3) := by decide +kernel
theorem d_M_expr_74 : decode prog_12_method_11_code 74 = .ok (.bipush 40, 2) := by decide +kernel
theorem d_M_expr_76 : decode prog_12_method_11_code 76 = .ok (.castore, 1) := by decide +kernel
theorem d_M_expr_77 : decode prog_12_method_11_code 77 = .ok (.aload_n 0, 1) := by decide +kernel
theorem d_M_expr_78 : decode prog_12_method_11_code 78 = .ok (.dup, 1) := by decide +kernel
theorem d_M_expr_79 : decode prog_12_method_11_code 79 = .ok (.getfield 107, 3) := by decide +kernel
theorem d_M_expr_82 : decode prog_12_method_11_code 82 = .ok (.iconst 1, 1) := by decide +kernel
theorem d_M_expr_83 : decode prog_12_method_11_code 83 = .ok (.iadd, 1) := by decide +kernel
theorem d_M_expr_84 : decode prog_12_method_11_code 84 = .ok (.putfield 107, 3) := by decide +kernel
theorem d_M_expr_87 : decode prog_12_method_11_code 87 = .ok (.aload_n 0, 1) := by decide +kernel
theorem d_M_expr_88 : decode prog_12_method_11_code 88 = .ok (.dup, 1) := by decide +kernel
theorem d_M_expr_89 : decode prog_12_method_11_code 89 = .ok (.getfield 98, 3) := by decide +kernel
theorem d_M_expr_92 : decode prog_12_method_11_code 92 = .ok (.iconst 1, 1) := by decide +kernel
theorem d_M_expr_93 : decode prog_12_method_11_code 93 = .ok (.iadd, 1) := by decide +kernel
theorem d_M_expr_94 : decode prog_12_method_11_code 94 = .ok (.putfield 98, 3) := by decide +kernel
theorem d_M_expr_97 : decode prog_12_method_11_code 97 = .ok (.goto 184, 3) := by decide +kernel
theorem d_M_expr_100 : decode prog_12_method_11_code 100 = .ok (.iload_n 3, 1) := by decide +kernel
theorem d_M_expr_101 : decode prog_12_method_11_code 101 = .ok (.invokestatic 129, 3) := by decide +kernel
theorem d_M_expr_104 : decode prog_12_method_11_code 104 = .ok (.ifCond .eq 31, 3) := by decide +kernel
theorem d_M_expr_107 : decode prog_12_method_11_code 107 = .ok (.aload_n 0, 1) := by decide +kernel
theorem d_M_expr_108 : decode prog_12_method_11_code 108 = .ok (.iconst 1, 1) := by decide +kernel
theorem d_M_expr_109 : decode prog_12_method_11_code 109 = .ok (.iload_n 3, 1) := by decide +kernel
theorem d_M_expr_110 : decode prog_12_method_11_code 110 = .ok (.bipush 97, 2) := by decide +kernel
theorem d_M_expr_112 : decode prog_12_method_11_code 112 = .ok (.isub, 1) := by decide +kernel
theorem d_M_expr_113 : decode prog_12_method_11_code 113 = .ok (.invokevirtual 114, 3) := by decide +kernel
theorem d_M_expr_116 : decode prog_12_method_11_code 116 = .ok (.aload_n 0, 1) := by decide +kernel
theorem d_M_expr_117 : decode prog_12_method_11_code 117 = .ok (.dup, 1) := by decide +kernel
theorem d_M_expr_118 : decode prog_12_method_11_code 118 = .ok (.getfield 98, 3) := by decide +kernel
theorem d_M_expr_121 : decode prog_12_method_11_code 121 = .ok (.iconst 1, 1) := by decide +kernel
theorem d_M_expr_122 : decode prog_12_method_11_code 122 = .ok (.iadd, 1) := by decide +kernel
theorem d_M_expr_123 : decode prog_12_method_11_code 123 = .ok (.putfield 98, 3) := by decide +kernel
theorem d_M_expr_126 : decode prog_12_method_11_code 126 = .ok (.aload_n 0, 1) := by decide +kernel
theorem d_M_expr_127 : decode prog_12_method_11_code 127 = .ok (.invokevirtual 132, 3) := by decide +kernel
theorem d_M_expr_130 : decode prog_12_method_11_code 130 = .ok (.iconst 0, 1) := by decide +kernel
theorem d_M_expr_131 : decode prog_12_method_11_code 131 = .ok (.istore_n 1, 1) := by decide +kernel
theorem d_M_expr_132 : decode prog_12_method_11_code 132 = .ok (.goto 149, 3) := by decide +kernel
theorem d_M_expr_135 : decode prog_12_method_11_code 135 = .ok (.iload_n 3, 1) := by decide +kernel
theorem d_M_expr_136 : decode prog_12_method_11_code 136 = .ok (.invokestatic 125, 3) := by decide +kernel
theorem d_M_expr_139 : decode prog_12_method_11_code 139 = .ok (.ifCond .eq 10, 3) := by decide +kernel
theorem d_M_expr_142 : decode prog_12_method_11_code 142 = .ok (.aload_n 0, 1) := by decide +kernel
theorem d_M_expr_143 : decode prog_12_method_11_code 143 = .ok (.invokevirtual 135, 3) := by decide +kernel
theorem d_M_expr_146 : decode prog_12_method_11_code 146 = .ok (.ifCond .ne 5, 3) := by decide +kernel
theorem d_M_expr_149 : decode prog_12_method_11_code 149 = .ok (.iconst 0, 1) := by decide +kernel
theorem d_M_expr_150 : decode prog_12_method_11_code 150 = .ok (.ireturn, 1) := by decide +kernel
theorem d_M_expr_151 : decode prog_12_method_11_code 151 = .ok (.aload_n 0, 1) := by decide +kernel
theorem d_M_expr_152 : decode prog_12_method_11_code 152 = .ok (.invokevirtual 132, 3) := by decide +kernel
theorem d_M_expr_155 : decode prog_12_method_11_code 155 = .ok (.iconst 0, 1) := by decide +kernel
theorem d_M_expr_156 : decode prog_12_method_11_code 156 = .ok (.istore_n 1, 1) := by decide +kernel
theorem d_M_expr_157 : decode prog_12_method_11_code 157 = .ok (.goto 124, 3) := by decide +kernel
theorem d_M_expr_160 : decode prog_12_method_11_code 160 = .ok (.iload_n 3, 1) := by decide +kernel
theorem d_M_expr_161 : decode prog_12_method_11_code 161 = .ok (.invokestatic 110, 3) := by decide +kernel
theorem d_M_expr_164 : decode prog_12_method_11_code 164 = .ok (.ifCond .le 55, 3) := by decide +kernel
theorem d_M_expr_167 : decode prog_12_method_11_code 167 = .ok (.aload_n 0, 1) := by decide +kernel
theorem d_M_expr_168 : decode prog_12_method_11_code 168 = .ok (.iload_n 3, 1) := by decide +kernel
theorem d_M_expr_169 : decode prog_12_method_11_code 169 = .ok (.invokestatic 110, 3) := by decide +kernel
theorem d_M_expr_172 : decode prog_12_method_11_code 172 = .ok (.iconst 3, 1) := by decide +kernel
theorem d_M_expr_173 : decode prog_12_method_11_code 173 = .ok (.if_icmp .le 7, 3) := by decide +kernel
theorem d_M_expr_176 : decode prog_12_method_11_code 176 = .ok (.iconst 2, 1) := by decide +kernel
theorem d_M_expr_177 : decode prog_12_method_11_code 177 = .ok (.goto 4, 3) := by decide +kernel
theorem d_M_expr_180 : decode prog_12_method_11_code 180 = .ok (.iconst 1, 1) := by decide +kernel
theorem d_M_expr_181 : decode prog_12_method_11_code 181 = .ok (.invokevirtual 139, 3) := by decide +kernel
theorem d_M_expr_184 : decode prog_12_method_11_code 184 = .ok (.aload_n 0, 1) := by decide +kernel
theorem d_M_expr_185 : decode prog_12_method_11_code 185 = .ok (.getfield 30, 3) := by decide +kernel
theorem d_M_expr_188 : decode prog_12_method_11_code 188 = .ok (.aload_n 0, 1) := by decide +kernel
theorem d_M_expr_189 : decode prog_12_method_11_code 189 = .ok (.getfield 107, 3) := by decide +kernel
theorem d_M_expr_192 : decode prog_12_method_11_code 192 = .ok (.iload_n 3, 1) := by decide +kernel
theorem d_M_expr_193 : decode prog_12_method_11_code 193 = .ok (.castore, 1) := by decide +kernel
theorem d_M_expr_194 : decode prog_12_method_11_code 194 = .ok (.aload_n 0, 1) := by decide +kernel
theorem d_M_expr_195 : decode prog_12_method_11_code 195 = .ok (.dup, 1) := by decide +kernel
theorem d_M_expr_196 : decode prog_12_method_11_code 196 = .ok (.getfield 107, 3) := by decide +kernel
theorem d_M_expr_199 : decode prog_12_method_11_code 199 = .ok (.iconst 1, 1) := by decide +kernel
theorem d_M_expr_200 : decode prog_12_method_11_code 200 = .ok (.iadd, 1) := by decide +kernel
theorem d_M_expr_201 : decode prog_12_method_11_code 201 = .ok (.putfield 107, 3) := by decide +kernel
theorem d_M_expr_204 : decode prog_12_method_11_code 204 = .ok (.aload_n 0, 1) := by decide +kernel
theorem d_M_expr_205 : decode prog_12_method_11_code 205 = .ok (.dup, 1) := by decide +kernel
theorem d_M_expr_206 : decode prog_12_method_11_code 206 = .ok (.getfield 98, 3) := by decide +kernel
theorem d_M_expr_209 : decode prog_12_method_11_code 209 = .ok (.iconst 1, 1) := by decide +kernel
theorem d_M_expr_210 : decode prog_12_method_11_code 210 = .ok (.iadd, 1) := by decide +kernel
theorem d_M_expr_211 : decode prog_12_method_11_code 211 = .ok (.putfield 98, 3) := by decide +kernel
theorem d_M_expr_214 : decode prog_12_method_11_code 214 = .ok (.iconst 1, 1) := by decide +kernel
theorem d_M_expr_215 : decode prog_12_method_11_code 215 = .ok (.istore_n 1, 1) := by decide +kernel
theorem d_M_expr_216 : decode prog_12_method_11_code 216 = .ok (.goto 65, 3) := by decide +kernel
theorem d_M_expr_219 : decode prog_12_method_11_code 219 = .ok (.aload_n 0, 1) := by decide +kernel
theorem d_M_expr_220 : decode prog_12_method_11_code 220 = .ok (.iconst 1, 1) := by decide +kernel
theorem d_M_expr_221 : decode prog_12_method_11_code 221 = .ok (.invokevirtual 139, 3) := by decide +kernel
theorem d_M_expr_224 : decode prog_12_method_11_code 224 = .ok (.iload_n 3, 1) := by decide +kernel
theorem d_M_expr_225 : decode prog_12_method_11_code 225 = .ok (.bipush 41, 2) := by decide +kernel
theorem d_M_expr_227 : decode prog_12_method_11_code 227 = .ok (.if_icmp .ne 14, 3) := by decide +kernel
theorem d_M_expr_230 : decode prog_12_method_11_code 230 = .ok (.aload_n 0, 1) := by decide +kernel
theorem d_M_expr_231 : decode prog_12_method_11_code 231 = .ok (.getfield 107, 3) := by decide +kernel
theorem d_M_expr_234 : decode prog_12_method_11_code 234 = .ok (.ifCond .le 7, 3) := by decide +kernel
theorem d_M_expr_237 : decode prog_12_method_11_code 237 = .ok (.iconst 1, 1) := by decide +kernel
theorem d_M_expr_238 : decode prog_12_method_11_code 238 = .ok (.goto 4, 3) := by decide +kernel
theorem d_M_expr_241 : decode prog_12_method_11_code 241 = .ok (.iconst 0, 1) := by decide +kernel
theorem d_M_expr_242 : decode prog_12_method_11_code 242 = .ok (.istore_n 2, 1) := by decide +kernel
theorem d_M_expr_243 : decode prog_12_method_11_code 243 = .ok (.iload_n 2, 1) := by decide +kernel
theorem d_M_expr_244 : decode prog_12_method_11_code 244 = .ok (.ifCond .eq 37, 3) := by decide +kernel
theorem d_M_expr_247 : decode prog_12_method_11_code 247 = .ok (.aload_n 0, 1) := by decide +kernel
theorem d_M_expr_248 : decode prog_12_method_11_code 248 = .ok (.dup, 1) := by decide +kernel
theorem d_M_expr_249 : decode prog_12_method_11_code 249 = .ok (.getfield 107, 3) := by decide +kernel
theorem d_M_expr_252 : decode prog_12_method_11_code 252 = .ok (.iconst 1, 1) := by decide +kernel
theorem d_M_expr_253 : decode prog_12_method_11_code 253 = .ok (.isub, 1) := by decide +kernel
theorem d_M_expr_254 : decode prog_12_method_11_code 254 = .ok (.putfield 107, 3) := by decide +kernel
theorem d_M_expr_257 : decode prog_12_method_11_code 257 = .ok (.aload_n 0, 1) := by decide +kernel
theorem d_M_expr_258 : decode prog_12_method_11_code 258 = .ok (.dup, 1) := by decide +kernel
theorem d_M_expr_259 : decode prog_12_method_11_code 259 = .ok (.getfield 118, 3) := by decide +kernel
theorem d_M_expr_262 : decode prog_12_method_11_code 262 = .ok (.iconst 1, 1) := by decide +kernel
theorem d_M_expr_263 : decode prog_12_method_11_code 263 = .ok (.isub, 1) := by decide +kernel
theorem d_M_expr_264 : decode prog_12_method_11_code 264 = .ok (.putfield 118, 3) := by decide +kernel
theorem d_M_expr_267 : decode prog_12_method_11_code 267 = .ok (.aload_n 0, 1) := by decide +kernel
theorem d_M_expr_268 : decode prog_12_method_11_code 268 = .ok (.dup, 1) := by decide +kernel
theorem d_M_expr_269 : decode prog_12_method_11_code 269 = .ok (.getfield 98, 3) := by decide +kernel
theorem d_M_expr_272 : decode prog_12_method_11_code 272 = .ok (.iconst 1, 1) := by decide +kernel
theorem d_M_expr_273 : decode prog_12_method_11_code 273 = .ok (.iadd, 1) := by decide +kernel
theorem d_M_expr_274 : decode prog_12_method_11_code 274 = .ok (.putfield 98, 3) := by decide +kernel
theorem d_M_expr_277 : decode prog_12_method_11_code 277 = .ok (.aload_n 0, 1) := by decide +kernel
theorem d_M_expr_278 : decode prog_12_method_11_code 278 = .ok (.invokevirtual 132, 3) := by decide +kernel
theorem d_M_expr_281 : decode prog_12_method_11_code 281 = .ok (.goto (-272), 3) := by decide +kernel
theorem d_M_expr_284 : decode prog_12_method_11_code 284 = .ok (.aload_n 0, 1) := by decide +kernel
theorem d_M_expr_285 : decode prog_12_method_11_code 285 = .ok (.getfield 107, 3) := by decide +kernel
theorem d_M_expr_288 : decode prog_12_method_11_code 288 = .ok (.ifCond .ne 7, 3) := by decide +kernel
theorem d_M_expr_291 : decode prog_12_method_11_code 291 = .ok (.iconst 1, 1) := by decide +kernel
theorem d_M_expr_292 : decode prog_12_method_11_code 292 = .ok (.goto 4, 3) := by decide +kernel
theorem d_M_expr_295 : decode prog_12_method_11_code 295 = .ok (.iconst 0, 1) := by decide +kernel
theorem d_M_expr_296 : decode prog_12_method_11_code 296 = .ok (.ireturn, 1) := by decide +kernel

