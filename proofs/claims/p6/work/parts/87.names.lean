theorem wd_100 {U : State} (h : TB U) (args : Array Value) : (Cond.methodLink "BigRunner" 1 ⟨"java/lang/Object", "<init>", "()V"⟩).before args U = true := h.w 100 (by decide +kernel) rfl args
theorem wd_103 {U : State} (h : TB U) (args : Array Value) : (Cond.classLink "BigRunner" 17 "BigRunner$Reader").before args U = true := h.w 103 (by decide +kernel) rfl args
theorem wd_104 {U : State} (h : TB U) (args : Array Value) : (Cond.instantiable "BigRunner$Reader" 4).before args U = true := h.w 104 (by decide +kernel) rfl args
theorem wd_105 {U : State} (h : TB U) (args : Array Value) : (Cond.methodLinkNest "BigRunner" 19 ⟨"BigRunner$Reader", "<init>", "()V"⟩ "BigRunner").before args U = true := h.w 105 (by decide +kernel) rfl args
theorem wd_106 {U : State} (h : TB U) (args : Array Value) : (Cond.instanceMethod ⟨"BigRunner$Reader", "<init>", "()V"⟩).before args U = true := h.w 106 (by decide +kernel) rfl args
theorem wd_107 {U : State} (h : TB U) (args : Array Value) : (Cond.code ⟨"BigRunner$Reader", "<init>", "()V"⟩ prog_8_method_1_code 1 none).before args U = true := h.w 107 (by decide +kernel) rfl args
theorem wd_284 {U : State} (h : TB U) (args : Array Value) : (Cond.classLink "BigRunner" 24 "BigRunner$Runner").before args U = true := h.w 284 (by decide +kernel) rfl args
theorem wd_285 {U : State} (h : TB U) (args : Array Value) : (Cond.instantiable "BigRunner$Runner" 13).before args U = true := h.w 285 (by decide +kernel) rfl args
theorem wd_286 {U : State} (h : TB U) (args : Array Value) : (Cond.methodLink "BigRunner" 26 ⟨"BigRunner$Runner", "<init>", "()V"⟩).before args U = true := h.w 286 (by decide +kernel) rfl args
theorem wd_287 {U : State} (h : TB U) (args : Array Value) : (Cond.instanceMethod ⟨"BigRunner$Runner", "<init>", "()V"⟩).before args U = true := h.w 287 (by decide +kernel) rfl args
theorem wd_288 {U : State} (h : TB U) (args : Array Value) : (Cond.code ⟨"BigRunner$Runner", "<init>", "()V"⟩ prog_9_method_1_code 2 none).before args U = true := h.w 288 (by decide +kernel) rfl args
theorem d_B_init_0 : decode prog_1_method_1_code 0 = .ok (.aload_n 0, 1) := by decide +kernel
theorem d_B_init_1 : decode prog_1_method_1_code 1 = .ok (.invokespecial 1, 3) := by decide +kernel
theorem d_B_init_4 : decode prog_1_method_1_code 4 = .ok (.aload_n 0, 1) := by decide +kernel
theorem d_B_init_5 : decode prog_1_method_1_code 5 = .ok (.bipush 72, 2) := by decide +kernel
theorem d_B_init_7 : decode prog_1_method_1_code 7 = .ok (.newarray .char, 2) := by decide +kernel
theorem d_B_init_9 : decode prog_1_method_1_code 9 = .ok (.putfield 9, 3) := by decide +kernel
theorem d_B_init_12 : decode prog_1_method_1_code 12 = .ok (.aload_n 0, 1) := by decide +kernel
theorem d_B_init_13 : decode prog_1_method_1_code 13 = .ok (.iconst 0, 1) := by decide +kernel
theorem d_B_init_14 : decode prog_1_method_1_code 14 = .ok (.putfield 13, 3) := by decide +kernel
theorem d_B_init_17 : decode prog_1_method_1_code 17 = .ok (.aload_n 0, 1) := by decide +kernel
theorem d_B_init_18 : decode prog_1_method_1_code 18 = .ok (.new 17, 3) := by decide +kernel
theorem d_B_init_21 : decode prog_1_method_1_code 21 = .ok (.dup, 1) := by decide +kernel
theorem d_B_init_22 : decode prog_1_method_1_code 22 = .ok (.invokespecial 19, 3) := by decide +kernel
theorem d_B_init_25 : decode prog_1_method_1_code 25 = .ok (.putfield 20, 3) := by decide +kernel
theorem d_B_init_28 : decode prog_1_method_1_code 28 = .ok (.aload_n 0, 1) := by decide +kernel
theorem d_B_init_29 : decode prog_1_method_1_code 29 = .ok (.new 24, 3) := by decide +kernel
theorem d_B_init_32 : decode prog_1_method_1_code 32 = .ok (.dup, 1) := by decide +kernel
theorem d_B_init_33 : decode prog_1_method_1_code 33 = .ok (.invokespecial 26, 3) := by decide +kernel
theorem d_B_init_36 : decode prog_1_method_1_code 36 = .ok (.putfield 27, 3) := by decide +kernel
theorem d_B_init_39 : decode prog_1_method_1_code 39 = .ok (.aload_n 0, 1) := by decide +kernel
theorem d_B_init_40 : decode prog_1_method_1_code 40 = .ok (.iconst 0, 1) := by decide +kernel
theorem d_B_init_41 : decode prog_1_method_1_code 41 = .ok (.putfield 31, 3) := by decide +kernel
theorem d_B_init_44 : decode prog_1_method_1_code 44 = .ok (.return_, 1) := by decide +kernel

