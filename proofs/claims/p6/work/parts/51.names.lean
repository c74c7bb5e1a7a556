theorem wd_57 {U : State} (h : TB U) (args : Array Value) : (Cond.selects "BigRunnerModel" ⟨"BigRunnerModel", "step", "()V"⟩ ⟨"BigRunnerModel", "step", "()V"⟩).before args U = true := h.w 57 (by decide +kernel) rfl args
theorem wd_947 {U : State} (h : TB U) (args : Array Value) : (Cond.fieldLink "BigRunnerModel" 94 "BigRunnerModel" "thrown" "I").before args U = true := h.w 947 (by decide +kernel) rfl args
theorem wd_986 {U : State} (h : TB U) (args : Array Value) : (Cond.fieldLink "BigRunnerModel" 270 "BigRunnerModel" "state" "I").before args U = true := h.w 986 (by decide +kernel) rfl args
theorem wd_1200 {U : State} (h : TB U) (args : Array Value) : (Cond.methodLink "BigRunnerModel" 294 ⟨"BigRunnerModel", "step", "()V"⟩).before args U = true := h.w 1200 (by decide +kernel) rfl args
theorem wd_1202 {U : State} (h : TB U) (args : Array Value) : (Cond.instanceMethod ⟨"BigRunnerModel", "step", "()V"⟩).before args U = true := h.w 1202 (by decide +kernel) rfl args
theorem wd_1203 {U : State} (h : TB U) (args : Array Value) : (Cond.code ⟨"BigRunnerModel", "step", "()V"⟩ prog_12_method_44_code 2 none).before args U = true := h.w 1203 (by decide +kernel) rfl args
theorem d_M_run_0 : decode prog_12_method_45_code 0 = .ok (.aload_n 0, 1) := by decide +kernel
theorem d_M_run_1 : decode prog_12_method_45_code 1 = .ok (.aload_n 0, 1) := by decide +kernel
theorem d_M_run_2 : decode prog_12_method_45_code 2 = .ok (.getfield 270, 3) := by decide +kernel
theorem d_M_run_5 : decode prog_12_method_45_code 5 = .ok (.ifCond .eq 11, 3) := by decide +kernel
theorem d_M_run_8 : decode prog_12_method_45_code 8 = .ok (.aload_n 0, 1) := by decide +kernel
theorem d_M_run_9 : decode prog_12_method_45_code 9 = .ok (.getfield 270, 3) := by decide +kernel
theorem d_M_run_12 : decode prog_12_method_45_code 12 = .ok (.iconst 2, 1) := by decide +kernel
theorem d_M_run_13 : decode prog_12_method_45_code 13 = .ok (.if_icmp .le 7, 3) := by decide +kernel
theorem d_M_run_16 : decode prog_12_method_45_code 16 = .ok (.iconst 1, 1) := by decide +kernel
theorem d_M_run_17 : decode prog_12_method_45_code 17 = .ok (.goto 20, 3) := by decide +kernel
theorem d_M_run_20 : decode prog_12_method_45_code 20 = .ok (.iload_n 1, 1) := by decide +kernel
theorem d_M_run_21 : decode prog_12_method_45_code 21 = .ok (.iconst 1, 1) := by decide +kernel
theorem d_M_run_22 : decode prog_12_method_45_code 22 = .ok (.if_icmp .lt 10, 3) := by decide +kernel
theorem d_M_run_25 : decode prog_12_method_45_code 25 = .ok (.iload_n 1, 1) := by decide +kernel
theorem d_M_run_26 : decode prog_12_method_45_code 26 = .ok (.sipush 200, 3) := by decide +kernel
theorem d_M_run_29 : decode prog_12_method_45_code 29 = .ok (.if_icmp .le 7, 3) := by decide +kernel
theorem d_M_run_32 : decode prog_12_method_45_code 32 = .ok (.iconst 2, 1) := by decide +kernel
theorem d_M_run_33 : decode prog_12_method_45_code 33 = .ok (.goto 4, 3) := by decide +kernel
theorem d_M_run_36 : decode prog_12_method_45_code 36 = .ok (.iconst 0, 1) := by decide +kernel
theorem d_M_run_37 : decode prog_12_method_45_code 37 = .ok (.putfield 94, 3) := by decide +kernel
theorem d_M_run_40 : decode prog_12_method_45_code 40 = .ok (.aload_n 0, 1) := by decide +kernel
theorem d_M_run_41 : decode prog_12_method_45_code 41 = .ok (.getfield 94, 3) := by decide +kernel
theorem d_M_run_44 : decode prog_12_method_45_code 44 = .ok (.ifCond .le 5, 3) := by decide +kernel
theorem d_M_run_47 : decode prog_12_method_45_code 47 = .ok (.iconst 0, 1) := by decide +kernel
theorem d_M_run_48 : decode prog_12_method_45_code 48 = .ok (.ireturn, 1) := by decide +kernel
theorem d_M_run_49 : decode prog_12_method_45_code 49 = .ok (.iconst 0, 1) := by decide +kernel
theorem d_M_run_50 : decode prog_12_method_45_code 50 = .ok (.istore_n 2, 1) := by decide +kernel
theorem d_M_run_51 : decode prog_12_method_45_code 51 = .ok (.aload_n 0, 1) := by decide +kernel
theorem d_M_run_52 : decode prog_12_method_45_code 52 = .ok (.iconst 1, 1) := by decide +kernel
theorem d_M_run_53 : decode prog_12_method_45_code 53 = .ok (.putfield 270, 3) := by decide +kernel
theorem d_M_run_56 : decode prog_12_method_45_code 56 = .ok (.iload_n 2, 1) := by decide +kernel
theorem d_M_run_57 : decode prog_12_method_45_code 57 = .ok (.iload_n 1, 1) := by decide +kernel
theorem d_M_run_58 : decode prog_12_method_45_code 58 = .ok (.if_icmp .ge 167, 3) := by decide +kernel
theorem d_M_run_61 : decode prog_12_method_45_code 61 = .ok (.aload_n 0, 1) := by decide +kernel
theorem d_M_run_62 : decode prog_12_method_45_code 62 = .ok (.getfield 270, 3) := by decide +kernel
theorem d_M_run_65 : decode prog_12_method_45_code 65 = .ok (.iconst 1, 1) := by decide +kernel
theorem d_M_run_66 : decode prog_12_method_45_code 66 = .ok (.if_icmp .ne 159, 3) := by decide +kernel
theorem d_M_run_69 : decode prog_12_method_45_code 69 = .ok (.aload_n 0, 1) := by decide +kernel
theorem d_M_run_70 : decode prog_12_method_45_code 70 = .ok (.getfield 273, 3) := by decide +kernel
theorem d_M_run_73 : decode prog_12_method_45_code 73 = .ok (.sipush 3000, 3) := by decide +kernel
theorem d_M_run_76 : decode prog_12_method_45_code 76 = .ok (.if_icmp .ne 11, 3) := by decide +kernel
theorem d_M_run_79 : decode prog_12_method_45_code 79 = .ok (.aload_n 0, 1) := by decide +kernel
theorem d_M_run_80 : decode prog_12_method_45_code 80 = .ok (.iconst 3, 1) := by decide +kernel
theorem d_M_run_81 : decode prog_12_method_45_code 81 = .ok (.putfield 238, 3) := by decide +kernel
theorem d_M_run_84 : decode prog_12_method_45_code 84 = .ok (.goto 39, 3) := by decide +kernel
theorem d_M_run_87 : decode prog_12_method_45_code 87 = .ok (.aload_n 0, 1) := by decide +kernel
theorem d_M_run_88 : decode prog_12_method_45_code 88 = .ok (.getfield 20, 3) := by decide +kernel
theorem d_M_run_91 : decode prog_12_method_45_code 91 = .ok (.aload_n 0, 1) := by decide +kernel
theorem d_M_run_92 : decode prog_12_method_45_code 92 = .ok (.getfield 267, 3) := by decide +kernel
theorem d_M_run_95 : decode prog_12_method_45_code 95 = .ok (.iaload, 1) := by decide +kernel
theorem d_M_run_96 : decode prog_12_method_45_code 96 = .ok (.bipush 9, 2) := by decide +kernel
theorem d_M_run_98 : decode prog_12_method_45_code 98 = .ok (.if_icmp .ne 18, 3) := by decide +kernel
theorem d_M_run_101 : decode prog_12_method_45_code 101 = .ok (.aload_n 0, 1) := by decide +kernel
theorem d_M_run_102 : decode prog_12_method_45_code 102 = .ok (.getfield 282, 3) := by decide +kernel
theorem d_M_run_105 : decode prog_12_method_45_code 105 = .ok (.ifCond .ne 11, 3) := by decide +kernel
theorem d_M_run_108 : decode prog_12_method_45_code 108 = .ok (.aload_n 0, 1) := by decide +kernel
theorem d_M_run_109 : decode prog_12_method_45_code 109 = .ok (.iconst 2, 1) := by decide +kernel
theorem d_M_run_110 : decode prog_12_method_45_code 110 = .ok (.putfield 270, 3) := by decide +kernel
theorem d_M_run_113 : decode prog_12_method_45_code 113 = .ok (.goto 10, 3) := by decide +kernel
theorem d_M_run_116 : decode prog_12_method_45_code 116 = .ok (.aload_n 0, 1) := by decide +kernel
theorem d_M_run_117 : decode prog_12_method_45_code 117 = .ok (.invokevirtual 294, 3) := by decide +kernel
theorem d_M_run_120 : decode prog_12_method_45_code 120 = .ok (.iinc 2 1, 3) := by decide +kernel
theorem d_M_run_123 : decode prog_12_method_45_code 123 = .ok (.aload_n 0, 1) := by decide +kernel
theorem d_M_run_124 : decode prog_12_method_45_code 124 = .ok (.aload_n 0, 1) := by decide +kernel
theorem d_M_run_125 : decode prog_12_method_45_code 125 = .ok (.getfield 238, 3) := by decide +kernel
theorem d_M_run_128 : decode prog_12_method_45_code 128 = .ok (.ifCond .le 7, 3) := by decide +kernel
theorem d_M_run_131 : decode prog_12_method_45_code 131 = .ok (.iconst 4, 1) := by decide +kernel
theorem d_M_run_132 : decode prog_12_method_45_code 132 = .ok (.goto 7, 3) := by decide +kernel
theorem d_M_run_135 : decode prog_12_method_45_code 135 = .ok (.aload_n 0, 1) := by decide +kernel
theorem d_M_run_136 : decode prog_12_method_45_code 136 = .ok (.getfield 270, 3) := by decide +kernel
theorem d_M_run_139 : decode prog_12_method_45_code 139 = .ok (.putfield 270, 3) := by decide +kernel
theorem d_M_run_142 : decode prog_12_method_45_code 142 = .ok (.aload_n 0, 1) := by decide +kernel
theorem d_M_run_143 : decode prog_12_method_45_code 143 = .ok (.getfield 270, 3) := by decide +kernel
theorem d_M_run_146 : decode prog_12_method_45_code 146 = .ok (.iconst 1, 1) := by decide +kernel
theorem d_M_run_147 : decode prog_12_method_45_code 147 = .ok (.if_icmp .ne 44, 3) := by decide +kernel
theorem d_M_run_150 : decode prog_12_method_45_code 150 = .ok (.aload_n 0, 1) := by decide +kernel
theorem d_M_run_151 : decode prog_12_method_45_code 151 = .ok (.getfield 267, 3) := by decide +kernel
theorem d_M_run_154 : decode prog_12_method_45_code 154 = .ok (.aload_n 0, 1) := by decide +kernel
theorem d_M_run_155 : decode prog_12_method_45_code 155 = .ok (.getfield 193, 3) := by decide +kernel
theorem d_M_run_158 : decode prog_12_method_45_code 158 = .ok (.if_icmp .ge 33, 3) := by decide +kernel
theorem d_M_run_161 : decode prog_12_method_45_code 161 = .ok (.aload_n 0, 1) := by decide +kernel
theorem d_M_run_162 : decode prog_12_method_45_code 162 = .ok (.getfield 20, 3) := by decide +kernel
theorem d_M_run_165 : decode prog_12_method_45_code 165 = .ok (.aload_n 0, 1) := by decide +kernel
theorem d_M_run_166 : decode prog_12_method_45_code 166 = .ok (.getfield 267, 3) := by decide +kernel
theorem d_M_run_169 : decode prog_12_method_45_code 169 = .ok (.iaload, 1) := by decide +kernel
theorem d_M_run_170 : decode prog_12_method_45_code 170 = .ok (.bipush 12, 2) := by decide +kernel
theorem d_M_run_172 : decode prog_12_method_45_code 172 = .ok (.if_icmp .ne 19, 3) := by decide +kernel
theorem d_M_run_175 : decode prog_12_method_45_code 175 = .ok (.aload_n 0, 1) := by decide +kernel
theorem d_M_run_176 : decode prog_12_method_45_code 176 = .ok (.aload_n 0, 1) := by decide +kernel
theorem d_M_run_177 : decode prog_12_method_45_code 177 = .ok (.getfield 23, 3) := by decide +kernel
theorem d_M_run_180 : decode prog_12_method_45_code 180 = .ok (.aload_n 0, 1) := by decide +kernel
theorem d_M_run_181 : decode prog_12_method_45_code 181 = .ok (.getfield 267, 3) := by decide +kernel
theorem d_M_run_184 : decode prog_12_method_45_code 184 = .ok (.iaload, 1) := by decide +kernel
theorem d_M_run_185 : decode prog_12_method_45_code 185 = .ok (.putfield 267, 3) := by decide +kernel
theorem d_M_run_188 : decode prog_12_method_45_code 188 = .ok (.goto (-46), 3) := by decide +kernel
theorem d_M_run_191 : decode prog_12_method_45_code 191 = .ok (.aload_n 0, 1) := by decide +kernel
theorem d_M_run_192 : decode prog_12_method_45_code 192 = .ok (.aload_n 0, 1) := by decide +kernel
theorem d_M_run_193 : decode prog_12_method_45_code 193 = .ok (.getfield 270, 3) := by decide +kernel
theorem d_M_run_196 : decode prog_12_method_45_code 196 = .ok (.iconst 1, 1) := by decide +kernel
theorem d_M_run_197 : decode prog_12_method_45_code 197 = .ok (.if_icmp .ne 18, 3) := by decide +kernel
theorem d_M_run_200 : decode prog_12_method_45_code 200 = .ok (.aload_n 0, 1) := by decide +kernel
theorem d_M_run_201 : decode prog_12_method_45_code 201 = .ok (.getfield 267, 3) := by decide +kernel
theorem d_M_run_204 : decode prog_12_method_45_code 204 = .ok (.aload_n 0, 1) := by decide +kernel
theorem d_M_run_205 : decode prog_12_method_45_code 205 = .ok (.getfield 193, 3) := by decide +kernel
theorem d_M_run_208 : decode prog_12_method_45_code 208 = .ok (.if_icmp .ne 7, 3) := by decide +kernel
theorem d_M_run_211 : decode prog_12_method_45_code 211 = .ok (.iconst 3, 1) := by decide +kernel
theorem d_M_run_212 : decode prog_12_method_45_code 212 = .ok (.goto 7, 3) := by decide +kernel
theorem d_M_run_215 : decode prog_12_method_45_code 215 = .ok (.aload_n 0, 1) := by decide +kernel
theorem d_M_run_216 : decode prog_12_method_45_code 216 = .ok (.getfield 270, 3) := by decide +kernel
theorem d_M_run_219 : decode prog_12_method_45_code 219 = .ok (.putfield 270, 3) := by decide +kernel
theorem d_M_run_222 : decode prog_12_method_45_code 222 = .ok (.goto (-166), 3) := by decide +kernel
theorem d_M_run_225 : decode prog_12_method_45_code 225 = .ok (.aload_n 0, 1) := by decide +kernel
theorem d_M_run_226 : decode prog_12_method_45_code 226 = .ok (.aload_n 0, 1) := by decide +kernel
theorem d_M_run_227 : decode prog_12_method_45_code 227 = .ok (.getfield 238, 3) := by decide +kernel
theorem d_M_run_230 : decode prog_12_method_45_code 230 = .ok (.ifCond .ne 7, 3) := by decide +kernel
theorem d_M_run_233 : decode prog_12_method_45_code 233 = .ok (.iconst 0, 1) := by decide +kernel
theorem d_M_run_234 : decode prog_12_method_45_code 234 = .ok (.goto 16, 3) := by decide +kernel
theorem d_M_run_237 : decode prog_12_method_45_code 237 = .ok (.aload_n 0, 1) := by decide +kernel
theorem d_M_run_238 : decode prog_12_method_45_code 238 = .ok (.getfield 238, 3) := by decide +kernel
theorem d_M_run_241 : decode prog_12_method_45_code 241 = .ok (.iconst 1, 1) := by decide +kernel
theorem d_M_run_242 : decode prog_12_method_45_code 242 = .ok (.if_icmp .ne 7, 3) := by decide +kernel
theorem d_M_run_245 : decode prog_12_method_45_code 245 = .ok (.iconst 3, 1) := by decide +kernel
theorem d_M_run_246 : decode prog_12_method_45_code 246 = .ok (.goto 4, 3) := by decide +kernel
theorem d_M_run_249 : decode prog_12_method_45_code 249 = .ok (.iconst 4, 1) := by decide +kernel
theorem d_M_run_250 : decode prog_12_method_45_code 250 = .ok (.putfield 94, 3) := by decide +kernel
theorem d_M_run_253 : decode prog_12_method_45_code 253 = .ok (.aload_n 0, 1) := by decide +kernel
theorem d_M_run_254 : decode prog_12_method_45_code 254 = .ok (.getfield 94, 3) := by decide +kernel
theorem d_M_run_257 : decode prog_12_method_45_code 257 = .ok (.ifCond .le 7, 3) := by decide +kernel
theorem d_M_run_260 : decode prog_12_method_45_code 260 = .ok (.iconst 0, 1) := by decide +kernel
theorem d_M_run_261 : decode prog_12_method_45_code 261 = .ok (.goto 4, 3) := by decide +kernel
theorem d_M_run_264 : decode prog_12_method_45_code 264 = .ok (.iload_n 2, 1) := by decide +kernel
theorem d_M_run_265 : decode prog_12_method_45_code 265 = .ok (.ireturn, 1) := by decide +kernel

