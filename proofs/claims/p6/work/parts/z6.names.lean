theorem wd_95 {U : State} (h : TB U) (args : Array Value) : (Cond.classLink "BigRunnerLaw" 8 "BigRunner").before args U = true := h.w 95 (by decide +kernel) rfl args
theorem wd_97 {U : State} (h : TB U) (args : Array Value) : (Cond.methodLink "BigRunnerLaw" 38 ⟨"BigRunner", "<init>", "()V"⟩).before args U = true := h.w 97 (by decide +kernel) rfl args
theorem wd_98 {U : State} (h : TB U) (args : Array Value) : (Cond.instanceMethod ⟨"BigRunner", "<init>", "()V"⟩).before args U = true := h.w 98 (by decide +kernel) rfl args
theorem wd_99 {U : State} (h : TB U) (args : Array Value) : (Cond.code ⟨"BigRunner", "<init>", "()V"⟩ prog_1_method_1_code 1 none).before args U = true := h.w 99 (by decide +kernel) rfl args
theorem wd_941 {U : State} (h : TB U) (args : Array Value) : (Cond.classLink "BigRunnerLaw" 39 "BigRunnerModel").before args U = true := h.w 941 (by decide +kernel) rfl args
theorem wd_943 {U : State} (h : TB U) (args : Array Value) : (Cond.methodLink "BigRunnerLaw" 41 ⟨"BigRunnerModel", "<init>", "()V"⟩).before args U = true := h.w 943 (by decide +kernel) rfl args
theorem wd_944 {U : State} (h : TB U) (args : Array Value) : (Cond.instanceMethod ⟨"BigRunnerModel", "<init>", "()V"⟩).before args U = true := h.w 944 (by decide +kernel) rfl args
theorem wd_945 {U : State} (h : TB U) (args : Array Value) : (Cond.code ⟨"BigRunnerModel", "<init>", "()V"⟩ prog_12_method_1_code 1 none).before args U = true := h.w 945 (by decide +kernel) rfl args
theorem d_L_law_0 : decode code 0 = .ok (.new 8, 3) := by decide +kernel
theorem d_L_law_3 : decode code 3 = .ok (.dup, 1) := by decide +kernel
theorem d_L_law_4 : decode code 4 = .ok (.invokespecial 38, 3) := by decide +kernel
theorem d_L_law_7 : decode code 7 = .ok (.astore_n 1, 1) := by decide +kernel
theorem d_L_law_8 : decode code 8 = .ok (.new 39, 3) := by decide +kernel
theorem d_L_law_11 : decode code 11 = .ok (.dup, 1) := by decide +kernel
theorem d_L_law_12 : decode code 12 = .ok (.invokespecial 41, 3) := by decide +kernel
theorem d_L_law_15 : decode code 15 = .ok (.astore_n 2, 1) := by decide +kernel
theorem d_L_law_16 : decode code 16 = .ok (.iconst 1, 1) := by decide +kernel
theorem d_L_law_17 : decode code 17 = .ok (.newarray .long, 2) := by decide +kernel
theorem d_L_law_19 : decode code 19 = .ok (.astore_n 3, 1) := by decide +kernel
theorem d_L_law_20 : decode code 20 = .ok (.iconst 0, 1) := by decide +kernel
theorem d_L_law_21 : decode code 21 = .ok (.istore 4, 2) := by decide +kernel
theorem d_L_law_23 : decode code 23 = .ok (.iload 4, 2) := by decide +kernel
theorem d_L_law_25 : decode code 25 = .ok (.aload_n 0, 1) := by decide +kernel
theorem d_L_law_26 : decode code 26 = .ok (.arraylength, 1) := by decide +kernel
theorem d_L_law_27 : decode code 27 = .ok (.iconst 3, 1) := by decide +kernel
theorem d_L_law_28 : decode code 28 = .ok (.isub, 1) := by decide +kernel
theorem d_L_law_29 : decode code 29 = .ok (.if_icmp .gt 390, 3) := by decide +kernel
theorem d_L_law_32 : decode code 32 = .ok (.aload_n 0, 1) := by decide +kernel
theorem d_L_law_33 : decode code 33 = .ok (.iload 4, 2) := by decide +kernel
theorem d_L_law_35 : decode code 35 = .ok (.iaload, 1) := by decide +kernel
theorem d_L_law_36 : decode code 36 = .ok (.bipush 15, 2) := by decide +kernel
theorem d_L_law_38 : decode code 38 = .ok (.iand, 1) := by decide +kernel
theorem d_L_law_39 : decode code 39 = .ok (.tableswitch 374 0 9 #[53, 80, 91, 107, 132, 188, 213, 269, 294, 334], 53) := by decide +kernel
theorem d_L_law_413 : decode code 413 = .ok (.iinc 4 3, 3) := by decide +kernel
theorem d_L_law_416 : decode code 416 = .ok (.goto (-393), 3) := by decide +kernel
theorem d_L_law_419 : decode code 419 = .ok (.iconst 1, 1) := by decide +kernel
theorem d_L_law_420 : decode code 420 = .ok (.ireturn, 1) := by decide +kernel

