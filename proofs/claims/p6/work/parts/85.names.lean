theorem wd_108 {U : State} (h : TB U) (args : Array Value) : (Cond.methodLink "BigRunner$Reader" 3 ⟨"java/lang/Object", "<init>", "()V"⟩).before args U = true := h.w 108 (by decide +kernel) rfl args
theorem wd_109 {U : State} (h : TB U) (args : Array Value) : (Cond.classLink "BigRunner$Reader" 22 "BigRunner$Program").before args U = true := h.w 109 (by decide +kernel) rfl args
theorem wd_110 {U : State} (h : TB U) (args : Array Value) : (Cond.instantiable "BigRunner$Program" 6).before args U = true := h.w 110 (by decide +kernel) rfl args
theorem wd_111 {U : State} (h : TB U) (args : Array Value) : (Cond.methodLink "BigRunner$Reader" 24 ⟨"BigRunner$Program", "<init>", "()V"⟩).before args U = true := h.w 111 (by decide +kernel) rfl args
theorem wd_112 {U : State} (h : TB U) (args : Array Value) : (Cond.instanceMethod ⟨"BigRunner$Program", "<init>", "()V"⟩).before args U = true := h.w 112 (by decide +kernel) rfl args
theorem wd_113 {U : State} (h : TB U) (args : Array Value) : (Cond.code ⟨"BigRunner$Program", "<init>", "()V"⟩ prog_7_method_1_code 2 none).before args U = true := h.w 113 (by decide +kernel) rfl args
theorem wd_137 {U : State} (h : TB U) (args : Array Value) : (Cond.arrayClass .char).before args U = true := h.w 137 (by decide +kernel) rfl args
theorem wd_289 {U : State} (h : TB U) (args : Array Value) : (Cond.methodLink "BigRunner$Runner" 3 ⟨"java/lang/Object", "<init>", "()V"⟩).before args U = true := h.w 289 (by decide +kernel) rfl args
theorem wd_290 {U : State} (h : TB U) (args : Array Value) : (Cond.classLink "BigRunner$Runner" 9 "BigRunner$Program").before args U = true := h.w 290 (by decide +kernel) rfl args
theorem wd_291 {U : State} (h : TB U) (args : Array Value) : (Cond.methodLink "BigRunner$Runner" 11 ⟨"BigRunner$Program", "<init>", "()V"⟩).before args U = true := h.w 291 (by decide +kernel) rfl args
theorem wd_292 {U : State} (h : TB U) (args : Array Value) : (Cond.classLink "BigRunner$Runner" 18 "BigRunner$Inputs").before args U = true := h.w 292 (by decide +kernel) rfl args
theorem wd_293 {U : State} (h : TB U) (args : Array Value) : (Cond.instantiable "BigRunner$Inputs" 3).before args U = true := h.w 293 (by decide +kernel) rfl args
theorem wd_294 {U : State} (h : TB U) (args : Array Value) : (Cond.methodLinkNest "BigRunner$Runner" 20 ⟨"BigRunner$Inputs", "<init>", "()V"⟩ "BigRunner").before args U = true := h.w 294 (by decide +kernel) rfl args
theorem wd_295 {U : State} (h : TB U) (args : Array Value) : (Cond.instanceMethod ⟨"BigRunner$Inputs", "<init>", "()V"⟩).before args U = true := h.w 295 (by decide +kernel) rfl args
theorem wd_296 {U : State} (h : TB U) (args : Array Value) : (Cond.code ⟨"BigRunner$Inputs", "<init>", "()V"⟩ prog_2_method_1_code 1 none).before args U = true := h.w 296 (by decide +kernel) rfl args
theorem wd_310 {U : State} (h : TB U) (args : Array Value) : (Cond.classLink "BigRunner$Runner" 33 "BigRunner$LongNumber").before args U = true := h.w 310 (by decide +kernel) rfl args
theorem wd_311 {U : State} (h : TB U) (args : Array Value) : (Cond.arrayOver (.object "BigRunner$LongNumber")).before args U = true := h.w 311 (by decide +kernel) rfl args
theorem wd_312 {U : State} (h : TB U) (args : Array Value) : (Cond.methodLinkNest "BigRunner$Runner" 39 ⟨"BigRunner$LongNumber", "<init>", "()V"⟩ "BigRunner").before args U = true := h.w 312 (by decide +kernel) rfl args
theorem wd_313 {U : State} (h : TB U) (args : Array Value) : (Cond.classLink "BigRunner$Runner" 44 "BigRunner$LongDivision").before args U = true := h.w 313 (by decide +kernel) rfl args
theorem wd_314 {U : State} (h : TB U) (args : Array Value) : (Cond.instantiable "BigRunner$LongDivision" 3).before args U = true := h.w 314 (by decide +kernel) rfl args
theorem wd_315 {U : State} (h : TB U) (args : Array Value) : (Cond.methodLinkNest "BigRunner$Runner" 46 ⟨"BigRunner$LongDivision", "<init>", "()V"⟩ "BigRunner").before args U = true := h.w 315 (by decide +kernel) rfl args
theorem wd_316 {U : State} (h : TB U) (args : Array Value) : (Cond.instanceMethod ⟨"BigRunner$LongDivision", "<init>", "()V"⟩).before args U = true := h.w 316 (by decide +kernel) rfl args
theorem wd_317 {U : State} (h : TB U) (args : Array Value) : (Cond.code ⟨"BigRunner$LongDivision", "<init>", "()V"⟩ prog_4_method_1_code 1 none).before args U = true := h.w 317 (by decide +kernel) rfl args
theorem wd_329 {U : State} (h : TB U) (args : Array Value) : (Cond.arrayClass .long).before args U = true := h.w 329 (by decide +kernel) rfl args
theorem d_NReader_init_0 : decode prog_8_method_1_code 0 = .ok (.aload_n 0, 1) := by decide +kernel
theorem d_NReader_init_1 : decode prog_8_method_1_code 1 = .ok (.invokespecial 3, 3) := by decide +kernel
theorem d_NReader_init_4 : decode prog_8_method_1_code 4 = .ok (.aload_n 0, 1) := by decide +kernel
theorem d_NReader_init_5 : decode prog_8_method_1_code 5 = .ok (.iconst 0, 1) := by decide +kernel
theorem d_NReader_init_6 : decode prog_8_method_1_code 6 = .ok (.newarray .char, 2) := by decide +kernel
theorem d_NReader_init_8 : decode prog_8_method_1_code 8 = .ok (.putfield 9, 3) := by decide +kernel
theorem d_NReader_init_11 : decode prog_8_method_1_code 11 = .ok (.aload_n 0, 1) := by decide +kernel
theorem d_NReader_init_12 : decode prog_8_method_1_code 12 = .ok (.iconst 0, 1) := by decide +kernel
theorem d_NReader_init_13 : decode prog_8_method_1_code 13 = .ok (.putfield 15, 3) := by decide +kernel
theorem d_NReader_init_16 : decode prog_8_method_1_code 16 = .ok (.aload_n 0, 1) := by decide +kernel
theorem d_NReader_init_17 : decode prog_8_method_1_code 17 = .ok (.iconst 0, 1) := by decide +kernel
theorem d_NReader_init_18 : decode prog_8_method_1_code 18 = .ok (.putfield 19, 3) := by decide +kernel
theorem d_NReader_init_21 : decode prog_8_method_1_code 21 = .ok (.aload_n 0, 1) := by decide +kernel
theorem d_NReader_init_22 : decode prog_8_method_1_code 22 = .ok (.new 22, 3) := by decide +kernel
theorem d_NReader_init_25 : decode prog_8_method_1_code 25 = .ok (.dup, 1) := by decide +kernel
theorem d_NReader_init_26 : decode prog_8_method_1_code 26 = .ok (.invokespecial 24, 3) := by decide +kernel
theorem d_NReader_init_29 : decode prog_8_method_1_code 29 = .ok (.putfield 25, 3) := by decide +kernel
theorem d_NReader_init_32 : decode prog_8_method_1_code 32 = .ok (.return_, 1) := by decide +kernel
theorem d_NRunner_init_0 : decode prog_9_method_1_code 0 = .ok (.aload_n 0, 1) := by decide +kernel
theorem d_NRunner_init_1 : decode prog_9_method_1_code 1 = .ok (.invokespecial 3, 3) := by decide +kernel
theorem d_NRunner_init_4 : decode prog_9_method_1_code 4 = .ok (.aload_n 0, 1) := by decide +kernel
theorem d_NRunner_init_5 : decode prog_9_method_1_code 5 = .ok (.new 9, 3) := by decide +kernel
theorem d_NRunner_init_8 : decode prog_9_method_1_code 8 = .ok (.dup, 1) := by decide +kernel
theorem d_NRunner_init_9 : decode prog_9_method_1_code 9 = .ok (.invokespecial 11, 3) := by decide +kernel
theorem d_NRunner_init_12 : decode prog_9_method_1_code 12 = .ok (.putfield 12, 3) := by decide +kernel
theorem d_NRunner_init_15 : decode prog_9_method_1_code 15 = .ok (.aload_n 0, 1) := by decide +kernel
theorem d_NRunner_init_16 : decode prog_9_method_1_code 16 = .ok (.new 18, 3) := by decide +kernel
theorem d_NRunner_init_19 : decode prog_9_method_1_code 19 = .ok (.dup, 1) := by decide +kernel
theorem d_NRunner_init_20 : decode prog_9_method_1_code 20 = .ok (.invokespecial 20, 3) := by decide +kernel
theorem d_NRunner_init_23 : decode prog_9_method_1_code 23 = .ok (.putfield 21, 3) := by decide +kernel
theorem d_NRunner_init_26 : decode prog_9_method_1_code 26 = .ok (.aload_n 0, 1) := by decide +kernel
theorem d_NRunner_init_27 : decode prog_9_method_1_code 27 = .ok (.iconst 0, 1) := by decide +kernel
theorem d_NRunner_init_28 : decode prog_9_method_1_code 28 = .ok (.putfield 25, 3) := by decide +kernel
theorem d_NRunner_init_31 : decode prog_9_method_1_code 31 = .ok (.aload_n 0, 1) := by decide +kernel
theorem d_NRunner_init_32 : decode prog_9_method_1_code 32 = .ok (.bipush 10, 2) := by decide +kernel
theorem d_NRunner_init_34 : decode prog_9_method_1_code 34 = .ok (.newarray .long, 2) := by decide +kernel
theorem d_NRunner_init_36 : decode prog_9_method_1_code 36 = .ok (.putfield 29, 3) := by decide +kernel
theorem d_NRunner_init_39 : decode prog_9_method_1_code 39 = .ok (.aload_n 0, 1) := by decide +kernel
theorem d_NRunner_init_40 : decode prog_9_method_1_code 40 = .ok (.bipush 10, 2) := by decide +kernel
theorem d_NRunner_init_42 : decode prog_9_method_1_code 42 = .ok (.anewarray 33, 3) := by decide +kernel
theorem d_NRunner_init_45 : decode prog_9_method_1_code 45 = .ok (.putfield 35, 3) := by decide +kernel
theorem d_NRunner_init_48 : decode prog_9_method_1_code 48 = .ok (.aload_n 0, 1) := by decide +kernel
theorem d_NRunner_init_49 : decode prog_9_method_1_code 49 = .ok (.new 33, 3) := by decide +kernel
theorem d_NRunner_init_52 : decode prog_9_method_1_code 52 = .ok (.dup, 1) := by decide +kernel
theorem d_NRunner_init_53 : decode prog_9_method_1_code 53 = .ok (.invokespecial 39, 3) := by decide +kernel
theorem d_NRunner_init_56 : decode prog_9_method_1_code 56 = .ok (.putfield 40, 3) := by decide +kernel
theorem d_NRunner_init_59 : decode prog_9_method_1_code 59 = .ok (.aload_n 0, 1) := by decide +kernel
theorem d_NRunner_init_60 : decode prog_9_method_1_code 60 = .ok (.new 44, 3) := by decide +kernel
theorem d_NRunner_init_63 : decode prog_9_method_1_code 63 = .ok (.dup, 1) := by decide +kernel
theorem d_NRunner_init_64 : decode prog_9_method_1_code 64 = .ok (.invokespecial 46, 3) := by decide +kernel
theorem d_NRunner_init_67 : decode prog_9_method_1_code 67 = .ok (.putfield 47, 3) := by decide +kernel
theorem d_NRunner_init_70 : decode prog_9_method_1_code 70 = .ok (.aload_n 0, 1) := by decide +kernel
theorem d_NRunner_init_71 : decode prog_9_method_1_code 71 = .ok (.bipush 12, 2) := by decide +kernel
theorem d_NRunner_init_73 : decode prog_9_method_1_code 73 = .ok (.anewarray 33, 3) := by decide +kernel
theorem d_NRunner_init_76 : decode prog_9_method_1_code 76 = .ok (.putfield 51, 3) := by decide +kernel
theorem d_NRunner_init_79 : decode prog_9_method_1_code 79 = .ok (.aload_n 0, 1) := by decide +kernel
theorem d_NRunner_init_80 : decode prog_9_method_1_code 80 = .ok (.iconst 0, 1) := by decide +kernel
theorem d_NRunner_init_81 : decode prog_9_method_1_code 81 = .ok (.putfield 54, 3) := by decide +kernel
theorem d_NRunner_init_84 : decode prog_9_method_1_code 84 = .ok (.aload_n 0, 1) := by decide +kernel
theorem d_NRunner_init_85 : decode prog_9_method_1_code 85 = .ok (.iconst 0, 1) := by decide +kernel
theorem d_NRunner_init_86 : decode prog_9_method_1_code 86 = .ok (.putfield 57, 3) := by decide +kernel
theorem d_NRunner_init_89 : decode prog_9_method_1_code 89 = .ok (.aload_n 0, 1) := by decide +kernel
theorem d_NRunner_init_90 : decode prog_9_method_1_code 90 = .ok (.iconst 0, 1) := by decide +kernel
theorem d_NRunner_init_91 : decode prog_9_method_1_code 91 = .ok (.putfield 60, 3) := by decide +kernel
theorem d_NRunner_init_94 : decode prog_9_method_1_code 94 = .ok (.aload_n 0, 1) := by decide +kernel
theorem d_NRunner_init_95 : decode prog_9_method_1_code 95 = .ok (.iconst 0, 1) := by decide +kernel
theorem d_NRunner_init_96 : decode prog_9_method_1_code 96 = .ok (.putfield 63, 3) := by decide +kernel
theorem d_NRunner_init_99 : decode prog_9_method_1_code 99 = .ok (.aload_n 0, 1) := by decide +kernel
theorem d_NRunner_init_100 : decode prog_9_method_1_code 100 = .ok (.iconst 0, 1) := by decide +kernel
theorem d_NRunner_init_101 : decode prog_9_method_1_code 101 = .ok (.putfield 66, 3) := by decide +kernel
theorem d_NRunner_init_104 : decode prog_9_method_1_code 104 = .ok (.iconst 0, 1) := by decide +kernel
theorem d_NRunner_init_105 : decode prog_9_method_1_code 105 = .ok (.istore_n 1, 1) := by decide +kernel
theorem d_NRunner_init_106 : decode prog_9_method_1_code 106 = .ok (.iload_n 1, 1) := by decide +kernel
theorem d_NRunner_init_107 : decode prog_9_method_1_code 107 = .ok (.bipush 10, 2) := by decide +kernel
theorem d_NRunner_init_109 : decode prog_9_method_1_code 109 = .ok (.if_icmp .ge 22, 3) := by decide +kernel
theorem d_NRunner_init_112 : decode prog_9_method_1_code 112 = .ok (.aload_n 0, 1) := by decide +kernel
theorem d_NRunner_init_113 : decode prog_9_method_1_code 113 = .ok (.getfield 35, 3) := by decide +kernel
theorem d_NRunner_init_116 : decode prog_9_method_1_code 116 = .ok (.iload_n 1, 1) := by decide +kernel
theorem d_NRunner_init_117 : decode prog_9_method_1_code 117 = .ok (.new 33, 3) := by decide +kernel
theorem d_NRunner_init_120 : decode prog_9_method_1_code 120 = .ok (.dup, 1) := by decide +kernel
theorem d_NRunner_init_121 : decode prog_9_method_1_code 121 = .ok (.invokespecial 39, 3) := by decide +kernel
theorem d_NRunner_init_124 : decode prog_9_method_1_code 124 = .ok (.aastore, 1) := by decide +kernel
theorem d_NRunner_init_125 : decode prog_9_method_1_code 125 = .ok (.iinc 1 1, 3) := by decide +kernel
theorem d_NRunner_init_128 : decode prog_9_method_1_code 128 = .ok (.goto (-22), 3) := by decide +kernel
theorem d_NRunner_init_131 : decode prog_9_method_1_code 131 = .ok (.iconst 0, 1) := by decide +kernel
theorem d_NRunner_init_132 : decode prog_9_method_1_code 132 = .ok (.istore_n 1, 1) := by decide +kernel
theorem d_NRunner_init_133 : decode prog_9_method_1_code 133 = .ok (.iload_n 1, 1) := by decide +kernel
theorem d_NRunner_init_134 : decode prog_9_method_1_code 134 = .ok (.bipush 12, 2) := by decide +kernel
theorem d_NRunner_init_136 : decode prog_9_method_1_code 136 = .ok (.if_icmp .ge 22, 3) := by decide +kernel
theorem d_NRunner_init_139 : decode prog_9_method_1_code 139 = .ok (.aload_n 0, 1) := by decide +kernel
theorem d_NRunner_init_140 : decode prog_9_method_1_code 140 = .ok (.getfield 51, 3) := by decide +kernel
theorem d_NRunner_init_143 : decode prog_9_method_1_code 143 = .ok (.iload_n 1, 1) := by decide +kernel
theorem d_NRunner_init_144 : decode prog_9_method_1_code 144 = .ok (.new 33, 3) := by decide +kernel
theorem d_NRunner_init_147 : decode prog_9_method_1_code 147 = .ok (.dup, 1) := by decide +kernel
theorem d_NRunner_init_148 : decode prog_9_method_1_code 148 = .ok (.invokespecial 39, 3) := by decide +kernel
theorem d_NRunner_init_151 : decode prog_9_method_1_code 151 = .ok (.aastore, 1) := by decide +kernel
theorem d_NRunner_init_152 : decode prog_9_method_1_code 152 = .ok (.iinc 1 1, 3) := by decide +kernel
theorem d_NRunner_init_155 : decode prog_9_method_1_code 155 = .ok (.goto (-22), 3) := by decide +kernel
theorem d_NRunner_init_158 : decode prog_9_method_1_code 158 = .ok (.return_, 1) := by decide +kernel

