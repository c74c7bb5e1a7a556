theorem wd_45 {U : State} (h : TB U) (args : Array Value) : (Cond.selects "BigRunnerModel" ⟨"BigRunnerModel", "expr", "()Z"⟩ ⟨"BigRunnerModel", "expr", "()Z"⟩).before args U = true := h.w 45 (by decide +kernel) rfl args
theorem wd_1119 {U : State} (h : TB U) (args : Array Value) : (Cond.methodLink "BigRunnerModel" 146 ⟨"BigRunnerModel", "expr", "()Z"⟩).before args U = true := h.w 1119 (by decide +kernel) rfl args
theorem wd_1121 {U : State} (h : TB U) (args : Array Value) : (Cond.instanceMethod ⟨"BigRunnerModel", "expr", "()Z"⟩).before args U = true := h.w 1121 (by decide +kernel) rfl args
theorem wd_1122 {U : State} (h : TB U) (args : Array Value) : (Cond.code ⟨"BigRunnerModel", "expr", "()Z"⟩ prog_12_method_11_code 4 (some .boolean)).before args U = true := h.w 1122 (by decide +kernel) rfl args
theorem d_M_statement_0 : decode prog_12_method_12_code 0 = .ok (.aload_n 0, 1) := by decide +kernel
theorem d_M_statement_1 : decode prog_12_method_12_code 1 = .ok (.invokevirtual 121, 3) := by decide +kernel
theorem d_M_statement_4 : decode prog_12_method_12_code 4 = .ok (.istore_n 1, 1) := by decide +kernel
theorem d_M_statement_5 : decode prog_12_method_12_code 5 = .ok (.aload_n 0, 1) := by decide +kernel
theorem d_M_statement_6 : decode prog_12_method_12_code 6 = .ok (.dup, 1) := by decide +kernel
theorem d_M_statement_7 : decode prog_12_method_12_code 7 = .ok (.getfield 98, 3) := by decide +kernel
theorem d_M_statement_10 : decode prog_12_method_12_code 10 = .ok (.iconst 1, 1) := by decide +kernel
theorem d_M_statement_11 : decode prog_12_method_12_code 11 = .ok (.iadd, 1) := by decide +kernel
theorem d_M_statement_12 : decode prog_12_method_12_code 12 = .ok (.putfield 98, 3) := by decide +kernel
theorem d_M_statement_15 : decode prog_12_method_12_code 15 = .ok (.iload_n 1, 1) := by decide +kernel
theorem d_M_statement_16 : decode prog_12_method_12_code 16 = .ok (.bipush 63, 2) := by decide +kernel
theorem d_M_statement_18 : decode prog_12_method_12_code 18 = .ok (.if_icmp .ne 33, 3) := by decide +kernel
theorem d_M_statement_21 : decode prog_12_method_12_code 21 = .ok (.aload_n 0, 1) := by decide +kernel
theorem d_M_statement_22 : decode prog_12_method_12_code 22 = .ok (.invokevirtual 121, 3) := by decide +kernel
theorem d_M_statement_25 : decode prog_12_method_12_code 25 = .ok (.istore_n 2, 1) := by decide +kernel
theorem d_M_statement_26 : decode prog_12_method_12_code 26 = .ok (.aload_n 0, 1) := by decide +kernel
theorem d_M_statement_27 : decode prog_12_method_12_code 27 = .ok (.dup, 1) := by decide +kernel
theorem d_M_statement_28 : decode prog_12_method_12_code 28 = .ok (.getfield 98, 3) := by decide +kernel
theorem d_M_statement_31 : decode prog_12_method_12_code 31 = .ok (.iconst 1, 1) := by decide +kernel
theorem d_M_statement_32 : decode prog_12_method_12_code 32 = .ok (.iadd, 1) := by decide +kernel
theorem d_M_statement_33 : decode prog_12_method_12_code 33 = .ok (.putfield 98, 3) := by decide +kernel
theorem d_M_statement_36 : decode prog_12_method_12_code 36 = .ok (.aload_n 0, 1) := by decide +kernel
theorem d_M_statement_37 : decode prog_12_method_12_code 37 = .ok (.bipush 9, 2) := by decide +kernel
theorem d_M_statement_39 : decode prog_12_method_12_code 39 = .ok (.iload_n 2, 1) := by decide +kernel
theorem d_M_statement_40 : decode prog_12_method_12_code 40 = .ok (.bipush 97, 2) := by decide +kernel
theorem d_M_statement_42 : decode prog_12_method_12_code 42 = .ok (.isub, 1) := by decide +kernel
theorem d_M_statement_43 : decode prog_12_method_12_code 43 = .ok (.invokevirtual 114, 3) := by decide +kernel
theorem d_M_statement_46 : decode prog_12_method_12_code 46 = .ok (.iload_n 2, 1) := by decide +kernel
theorem d_M_statement_47 : decode prog_12_method_12_code 47 = .ok (.invokestatic 129, 3) := by decide +kernel
theorem d_M_statement_50 : decode prog_12_method_12_code 50 = .ok (.ireturn, 1) := by decide +kernel
theorem d_M_statement_51 : decode prog_12_method_12_code 51 = .ok (.iload_n 1, 1) := by decide +kernel
theorem d_M_statement_52 : decode prog_12_method_12_code 52 = .ok (.bipush 91, 2) := by decide +kernel
theorem d_M_statement_54 : decode prog_12_method_12_code 54 = .ok (.if_icmp .eq 9, 3) := by decide +kernel
theorem d_M_statement_57 : decode prog_12_method_12_code 57 = .ok (.iload_n 1, 1) := by decide +kernel
theorem d_M_statement_58 : decode prog_12_method_12_code 58 = .ok (.bipush 123, 2) := by decide +kernel
theorem d_M_statement_60 : decode prog_12_method_12_code 60 = .ok (.if_icmp .ne 124, 3) := by decide +kernel
theorem d_M_statement_63 : decode prog_12_method_12_code 63 = .ok (.aload_n 0, 1) := by decide +kernel
theorem d_M_statement_64 : decode prog_12_method_12_code 64 = .ok (.getfield 33, 3) := by decide +kernel
theorem d_M_statement_67 : decode prog_12_method_12_code 67 = .ok (.aload_n 0, 1) := by decide +kernel
theorem d_M_statement_68 : decode prog_12_method_12_code 68 = .ok (.getfield 143, 3) := by decide +kernel
theorem d_M_statement_71 : decode prog_12_method_12_code 71 = .ok (.aload_n 0, 1) := by decide +kernel
theorem d_M_statement_72 : decode prog_12_method_12_code 72 = .ok (.getfield 104, 3) := by decide +kernel
theorem d_M_statement_75 : decode prog_12_method_12_code 75 = .ok (.iastore, 1) := by decide +kernel
theorem d_M_statement_76 : decode prog_12_method_12_code 76 = .ok (.aload_n 0, 1) := by decide +kernel
theorem d_M_statement_77 : decode prog_12_method_12_code 77 = .ok (.invokevirtual 146, 3) := by decide +kernel
theorem d_M_statement_80 : decode prog_12_method_12_code 80 = .ok (.ifCond .eq 12, 3) := by decide +kernel
theorem d_M_statement_83 : decode prog_12_method_12_code 83 = .ok (.aload_n 0, 1) := by decide +kernel
theorem d_M_statement_84 : decode prog_12_method_12_code 84 = .ok (.invokevirtual 121, 3) := by decide +kernel
theorem d_M_statement_87 : decode prog_12_method_12_code 87 = .ok (.bipush 58, 2) := by decide +kernel
theorem d_M_statement_89 : decode prog_12_method_12_code 89 = .ok (.if_icmp .eq 5, 3) := by decide +kernel
theorem d_M_statement_92 : decode prog_12_method_12_code 92 = .ok (.iconst 0, 1) := by decide +kernel
theorem d_M_statement_93 : decode prog_12_method_12_code 93 = .ok (.ireturn, 1) := by decide +kernel
theorem d_M_statement_94 : decode prog_12_method_12_code 94 = .ok (.aload_n 0, 1) := by decide +kernel
theorem d_M_statement_95 : decode prog_12_method_12_code 95 = .ok (.dup, 1) := by decide +kernel
theorem d_M_statement_96 : decode prog_12_method_12_code 96 = .ok (.getfield 98, 3) := by decide +kernel
theorem d_M_statement_99 : decode prog_12_method_12_code 99 = .ok (.iconst 1, 1) := by decide +kernel
theorem d_M_statement_100 : decode prog_12_method_12_code 100 = .ok (.iadd, 1) := by decide +kernel
theorem d_M_statement_101 : decode prog_12_method_12_code 101 = .ok (.putfield 98, 3) := by decide +kernel
theorem d_M_statement_104 : decode prog_12_method_12_code 104 = .ok (.aload_n 0, 1) := by decide +kernel
theorem d_M_statement_105 : decode prog_12_method_12_code 105 = .ok (.getfield 36, 3) := by decide +kernel
theorem d_M_statement_108 : decode prog_12_method_12_code 108 = .ok (.aload_n 0, 1) := by decide +kernel
theorem d_M_statement_109 : decode prog_12_method_12_code 109 = .ok (.getfield 143, 3) := by decide +kernel
theorem d_M_statement_112 : decode prog_12_method_12_code 112 = .ok (.iload_n 1, 1) := by decide +kernel
theorem d_M_statement_113 : decode prog_12_method_12_code 113 = .ok (.iastore, 1) := by decide +kernel
theorem d_M_statement_114 : decode prog_12_method_12_code 114 = .ok (.aload_n 0, 1) := by decide +kernel
theorem d_M_statement_115 : decode prog_12_method_12_code 115 = .ok (.bipush 11, 2) := by decide +kernel
theorem d_M_statement_117 : decode prog_12_method_12_code 117 = .ok (.aload_n 0, 1) := by decide +kernel
theorem d_M_statement_118 : decode prog_12_method_12_code 118 = .ok (.getfield 33, 3) := by decide +kernel
theorem d_M_statement_121 : decode prog_12_method_12_code 121 = .ok (.aload_n 0, 1) := by decide +kernel
theorem d_M_statement_122 : decode prog_12_method_12_code 122 = .ok (.getfield 143, 3) := by decide +kernel
theorem d_M_statement_125 : decode prog_12_method_12_code 125 = .ok (.iaload, 1) := by decide +kernel
theorem d_M_statement_126 : decode prog_12_method_12_code 126 = .ok (.invokevirtual 114, 3) := by decide +kernel
theorem d_M_statement_129 : decode prog_12_method_12_code 129 = .ok (.aload_n 0, 1) := by decide +kernel
theorem d_M_statement_130 : decode prog_12_method_12_code 130 = .ok (.getfield 33, 3) := by decide +kernel
theorem d_M_statement_133 : decode prog_12_method_12_code 133 = .ok (.aload_n 0, 1) := by decide +kernel
theorem d_M_statement_134 : decode prog_12_method_12_code 134 = .ok (.getfield 143, 3) := by decide +kernel
theorem d_M_statement_137 : decode prog_12_method_12_code 137 = .ok (.aload_n 0, 1) := by decide +kernel
theorem d_M_statement_138 : decode prog_12_method_12_code 138 = .ok (.getfield 104, 3) := by decide +kernel
theorem d_M_statement_141 : decode prog_12_method_12_code 141 = .ok (.iconst 1, 1) := by decide +kernel
theorem d_M_statement_142 : decode prog_12_method_12_code 142 = .ok (.isub, 1) := by decide +kernel
theorem d_M_statement_143 : decode prog_12_method_12_code 143 = .ok (.iastore, 1) := by decide +kernel
theorem d_M_statement_144 : decode prog_12_method_12_code 144 = .ok (.aload_n 0, 1) := by decide +kernel
theorem d_M_statement_145 : decode prog_12_method_12_code 145 = .ok (.dup, 1) := by decide +kernel
theorem d_M_statement_146 : decode prog_12_method_12_code 146 = .ok (.getfield 143, 3) := by decide +kernel
theorem d_M_statement_149 : decode prog_12_method_12_code 149 = .ok (.iconst 1, 1) := by decide +kernel
theorem d_M_statement_150 : decode prog_12_method_12_code 150 = .ok (.iadd, 1) := by decide +kernel
theorem d_M_statement_151 : decode prog_12_method_12_code 151 = .ok (.putfield 143, 3) := by decide +kernel
theorem d_M_statement_154 : decode prog_12_method_12_code 154 = .ok (.aload_n 0, 1) := by decide +kernel
theorem d_M_statement_155 : decode prog_12_method_12_code 155 = .ok (.dup, 1) := by decide +kernel
theorem d_M_statement_156 : decode prog_12_method_12_code 156 = .ok (.getfield 118, 3) := by decide +kernel
theorem d_M_statement_159 : decode prog_12_method_12_code 159 = .ok (.iconst 1, 1) := by decide +kernel
theorem d_M_statement_160 : decode prog_12_method_12_code 160 = .ok (.iadd, 1) := by decide +kernel
theorem d_M_statement_161 : decode prog_12_method_12_code 161 = .ok (.putfield 118, 3) := by decide +kernel
theorem d_M_statement_164 : decode prog_12_method_12_code 164 = .ok (.aload_n 0, 1) := by decide +kernel
theorem d_M_statement_165 : decode prog_12_method_12_code 165 = .ok (.iconst 1, 1) := by decide +kernel
theorem d_M_statement_166 : decode prog_12_method_12_code 166 = .ok (.putfield 149, 3) := by decide +kernel
theorem d_M_statement_169 : decode prog_12_method_12_code 169 = .ok (.aload_n 0, 1) := by decide +kernel
theorem d_M_statement_170 : decode prog_12_method_12_code 170 = .ok (.getfield 118, 3) := by decide +kernel
theorem d_M_statement_173 : decode prog_12_method_12_code 173 = .ok (.bipush 10, 2) := by decide +kernel
theorem d_M_statement_175 : decode prog_12_method_12_code 175 = .ok (.if_icmp .gt 7, 3) := by decide +kernel
theorem d_M_statement_178 : decode prog_12_method_12_code 178 = .ok (.iconst 1, 1) := by decide +kernel
theorem d_M_statement_179 : decode prog_12_method_12_code 179 = .ok (.goto 4, 3) := by decide +kernel
theorem d_M_statement_182 : decode prog_12_method_12_code 182 = .ok (.iconst 0, 1) := by decide +kernel
theorem d_M_statement_183 : decode prog_12_method_12_code 183 = .ok (.ireturn, 1) := by decide +kernel
theorem d_M_statement_184 : decode prog_12_method_12_code 184 = .ok (.iload_n 1, 1) := by decide +kernel
theorem d_M_statement_185 : decode prog_12_method_12_code 185 = .ok (.bipush 33, 2) := by decide +kernel
theorem d_M_statement_187 : decode prog_12_method_12_code 187 = .ok (.if_icmp .ne 17, 3) := by decide +kernel
theorem d_M_statement_190 : decode prog_12_method_12_code 190 = .ok (.aload_n 0, 1) := by decide +kernel
theorem d_M_statement_191 : decode prog_12_method_12_code 191 = .ok (.invokevirtual 146, 3) := by decide +kernel
theorem d_M_statement_194 : decode prog_12_method_12_code 194 = .ok (.istore_n 2, 1) := by decide +kernel
theorem d_M_statement_195 : decode prog_12_method_12_code 195 = .ok (.aload_n 0, 1) := by decide +kernel
theorem d_M_statement_196 : decode prog_12_method_12_code 196 = .ok (.bipush 10, 2) := by decide +kernel
theorem d_M_statement_198 : decode prog_12_method_12_code 198 = .ok (.iconst 0, 1) := by decide +kernel
theorem d_M_statement_199 : decode prog_12_method_12_code 199 = .ok (.invokevirtual 114, 3) := by decide +kernel
theorem d_M_statement_202 : decode prog_12_method_12_code 202 = .ok (.iload_n 2, 1) := by decide +kernel
theorem d_M_statement_203 : decode prog_12_method_12_code 203 = .ok (.ireturn, 1) := by decide +kernel
theorem d_M_statement_204 : decode prog_12_method_12_code 204 = .ok (.iload_n 1, 1) := by decide +kernel
theorem d_M_statement_205 : decode prog_12_method_12_code 205 = .ok (.invokestatic 129, 3) := by decide +kernel
theorem d_M_statement_208 : decode prog_12_method_12_code 208 = .ok (.ifCond .eq 12, 3) := by decide +kernel
theorem d_M_statement_211 : decode prog_12_method_12_code 211 = .ok (.aload_n 0, 1) := by decide +kernel
theorem d_M_statement_212 : decode prog_12_method_12_code 212 = .ok (.invokevirtual 121, 3) := by decide +kernel
theorem d_M_statement_215 : decode prog_12_method_12_code 215 = .ok (.bipush 61, 2) := by decide +kernel
theorem d_M_statement_217 : decode prog_12_method_12_code 217 = .ok (.if_icmp .eq 5, 3) := by decide +kernel
theorem d_M_statement_220 : decode prog_12_method_12_code 220 = .ok (.iconst 0, 1) := by decide +kernel
theorem d_M_statement_221 : decode prog_12_method_12_code 221 = .ok (.ireturn, 1) := by decide +kernel
theorem d_M_statement_222 : decode prog_12_method_12_code 222 = .ok (.aload_n 0, 1) := by decide +kernel
theorem d_M_statement_223 : decode prog_12_method_12_code 223 = .ok (.dup, 1) := by decide +kernel
theorem d_M_statement_224 : decode prog_12_method_12_code 224 = .ok (.getfield 98, 3) := by decide +kernel
theorem d_M_statement_227 : decode prog_12_method_12_code 227 = .ok (.iconst 1, 1) := by decide +kernel
theorem d_M_statement_228 : decode prog_12_method_12_code 228 = .ok (.iadd, 1) := by decide +kernel
theorem d_M_statement_229 : decode prog_12_method_12_code 229 = .ok (.putfield 98, 3) := by decide +kernel
theorem d_M_statement_232 : decode prog_12_method_12_code 232 = .ok (.aload_n 0, 1) := by decide +kernel
theorem d_M_statement_233 : decode prog_12_method_12_code 233 = .ok (.invokevirtual 146, 3) := by decide +kernel
theorem d_M_statement_236 : decode prog_12_method_12_code 236 = .ok (.istore_n 2, 1) := by decide +kernel
theorem d_M_statement_237 : decode prog_12_method_12_code 237 = .ok (.aload_n 0, 1) := by decide +kernel
theorem d_M_statement_238 : decode prog_12_method_12_code 238 = .ok (.bipush 8, 2) := by decide +kernel
theorem d_M_statement_240 : decode prog_12_method_12_code 240 = .ok (.iload_n 1, 1) := by decide +kernel
theorem d_M_statement_241 : decode prog_12_method_12_code 241 = .ok (.bipush 97, 2) := by decide +kernel
theorem d_M_statement_243 : decode prog_12_method_12_code 243 = .ok (.isub, 1) := by decide +kernel
theorem d_M_statement_244 : decode prog_12_method_12_code 244 = .ok (.invokevirtual 114, 3) := by decide +kernel
theorem d_M_statement_247 : decode prog_12_method_12_code 247 = .ok (.iload_n 2, 1) := by decide +kernel
theorem d_M_statement_248 : decode prog_12_method_12_code 248 = .ok (.ireturn, 1) := by decide +kernel

