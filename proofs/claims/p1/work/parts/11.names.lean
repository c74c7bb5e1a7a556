theorem wd_87 {U : State} (h : TB U) (args : Array Value) : (Cond.initialized "java/lang/IllegalArgumentException").before args U = true := h.w 87 (by decide +kernel) rfl args
theorem wd_89 {U : State} (h : TB U) (args : Array Value) : (Cond.initialized "java/lang/IllegalStateException").before args U = true := h.w 89 (by decide +kernel) rfl args
theorem wd_94 {U : State} (h : TB U) (args : Array Value) : (Cond.initialized "java/lang/IndexOutOfBoundsException").before args U = true := h.w 94 (by decide +kernel) rfl args
theorem wd_454 {U : State} (h : TB U) (args : Array Value) : (Cond.methodLink "BigRunner" 35 ⟨"BigRunner$Reader", "reads", "([CI)Z"⟩).before args U = true := h.w 454 (by decide +kernel) rfl args
theorem wd_455 {U : State} (h : TB U) (args : Array Value) : (Cond.instanceMethod ⟨"BigRunner$Reader", "reads", "([CI)Z"⟩).before args U = true := h.w 455 (by decide +kernel) rfl args
theorem wd_456 {U : State} (h : TB U) (args : Array Value) : (Cond.selects "BigRunner$Reader" ⟨"BigRunner$Reader", "reads", "([CI)Z"⟩ ⟨"BigRunner$Reader", "reads", "([CI)Z"⟩).before args U = true := h.w 456 (by decide +kernel) rfl args
theorem wd_457 {U : State} (h : TB U) (args : Array Value) : (Cond.code ⟨"BigRunner$Reader", "reads", "([CI)Z"⟩ prog_8_method_2_code 3 (some .boolean)).before args U = true := h.w 457 (by decide +kernel) rfl args
theorem wd_521 {U : State} (h : TB U) (args : Array Value) : (Cond.classLink "BigRunner" 39 "java/lang/IllegalArgumentException").before args U = true := h.w 521 (by decide +kernel) rfl args
theorem wd_522 {U : State} (h : TB U) (args : Array Value) : (Cond.instantiable "java/lang/IllegalArgumentException" 6).before args U = true := h.w 522 (by decide +kernel) rfl args
theorem wd_564 {U : State} (h : TB U) (args : Array Value) : (Cond.stringRef "BigRunner" 41 "the line is no PROGRAM").before args U = true := h.w 564 (by decide +kernel) rfl args
theorem wd_696 {U : State} (h : TB U) (args : Array Value) : (Cond.classLink "BigRunner" 78 "java/lang/IllegalStateException").before args U = true := h.w 696 (by decide +kernel) rfl args
theorem wd_697 {U : State} (h : TB U) (args : Array Value) : (Cond.instantiable "java/lang/IllegalStateException" 6).before args U = true := h.w 697 (by decide +kernel) rfl args
theorem wd_705 {U : State} (h : TB U) (args : Array Value) : (Cond.stringRef "BigRunner" 80 "no program is under way").before args U = true := h.w 705 (by decide +kernel) rfl args
theorem wd_888 {U : State} (h : TB U) (args : Array Value) : (Cond.classLink "BigRunner" 122 "java/lang/IndexOutOfBoundsException").before args U = true := h.w 888 (by decide +kernel) rfl args
theorem wd_889 {U : State} (h : TB U) (args : Array Value) : (Cond.instantiable "java/lang/IndexOutOfBoundsException" 6).before args U = true := h.w 889 (by decide +kernel) rfl args
theorem wd_897 {U : State} (h : TB U) (args : Array Value) : (Cond.stringRef "BigRunner" 124 "no such variable").before args U = true := h.w 897 (by decide +kernel) rfl args
theorem wd_913 {U : State} (h : TB U) (args : Array Value) : (Cond.stringRef "BigRunner" 151 "no such variable or part of it").before args U = true := h.w 913 (by decide +kernel) rfl args
theorem wd_935 {U : State} (h : TB U) (args : Array Value) : (Cond.methodLink "BigRunner" 161 ⟨"BigRunner$Runner", "keptOutputs", "()I"⟩).before args U = true := h.w 935 (by decide +kernel) rfl args
theorem wd_936 {U : State} (h : TB U) (args : Array Value) : (Cond.instanceMethod ⟨"BigRunner$Runner", "keptOutputs", "()I"⟩).before args U = true := h.w 936 (by decide +kernel) rfl args
theorem wd_937 {U : State} (h : TB U) (args : Array Value) : (Cond.selects "BigRunner$Runner" ⟨"BigRunner$Runner", "keptOutputs", "()I"⟩ ⟨"BigRunner$Runner", "keptOutputs", "()I"⟩).before args U = true := h.w 937 (by decide +kernel) rfl args
theorem wd_938 {U : State} (h : TB U) (args : Array Value) : (Cond.code ⟨"BigRunner$Runner", "keptOutputs", "()I"⟩ prog_9_method_5_code 1 (some .int)).before args U = true := h.w 938 (by decide +kernel) rfl args
theorem wd_940 {U : State} (h : TB U) (args : Array Value) : (Cond.stringRef "BigRunner" 164 "no such output or part of it").before args U = true := h.w 940 (by decide +kernel) rfl args
theorem d_B_bound_0 : decode prog_1_method_8_code 0 = .ok (.aload_n 0, 1) := by decide +kernel
theorem d_B_bound_1 : decode prog_1_method_8_code 1 = .ok (.iload_n 1, 1) := by decide +kernel
theorem d_B_bound_2 : decode prog_1_method_8_code 2 = .ok (.invokevirtual 119, 3) := by decide +kernel
theorem d_B_bound_5 : decode prog_1_method_8_code 5 = .ok (.ifCond .ne 13, 3) := by decide +kernel
theorem d_B_bound_8 : decode prog_1_method_8_code 8 = .ok (.new 122, 3) := by decide +kernel
theorem d_B_bound_11 : decode prog_1_method_8_code 11 = .ok (.dup, 1) := by decide +kernel
theorem d_B_bound_12 : decode prog_1_method_8_code 12 = .ok (.ldc 124, 2) := by decide +kernel
theorem d_B_bound_14 : decode prog_1_method_8_code 14 = .ok (.invokespecial 126, 3) := by decide +kernel
theorem d_B_bound_17 : decode prog_1_method_8_code 17 = .ok (.athrow, 1) := by decide +kernel
theorem d_B_load_0 : decode prog_1_method_4_code 0 = .ok (.aload_n 0, 1) := by decide +kernel
theorem d_B_load_1 : decode prog_1_method_4_code 1 = .ok (.getfield 20, 3) := by decide +kernel
theorem d_B_load_4 : decode prog_1_method_4_code 4 = .ok (.aload_n 0, 1) := by decide +kernel
theorem d_B_load_5 : decode prog_1_method_4_code 5 = .ok (.getfield 9, 3) := by decide +kernel
theorem d_B_load_8 : decode prog_1_method_4_code 8 = .ok (.aload_n 0, 1) := by decide +kernel
theorem d_B_load_9 : decode prog_1_method_4_code 9 = .ok (.getfield 13, 3) := by decide +kernel
theorem d_B_load_12 : decode prog_1_method_4_code 12 = .ok (.invokevirtual 35, 3) := by decide +kernel
theorem d_B_load_15 : decode prog_1_method_4_code 15 = .ok (.ifCond .ne 13, 3) := by decide +kernel
theorem d_B_load_18 : decode prog_1_method_4_code 18 = .ok (.new 39, 3) := by decide +kernel
theorem d_B_load_21 : decode prog_1_method_4_code 21 = .ok (.dup, 1) := by decide +kernel
theorem d_B_load_22 : decode prog_1_method_4_code 22 = .ok (.ldc 41, 2) := by decide +kernel
theorem d_B_load_24 : decode prog_1_method_4_code 24 = .ok (.invokespecial 43, 3) := by decide +kernel
theorem d_B_load_27 : decode prog_1_method_4_code 27 = .ok (.athrow, 1) := by decide +kernel
theorem d_B_output_0 : decode prog_1_method_11_code 0 = .ok (.iload_n 1, 1) := by decide +kernel
theorem d_B_output_1 : decode prog_1_method_11_code 1 = .ok (.ifCond .lt 20, 3) := by decide +kernel
theorem d_B_output_4 : decode prog_1_method_11_code 4 = .ok (.iload_n 1, 1) := by decide +kernel
theorem d_B_output_5 : decode prog_1_method_11_code 5 = .ok (.aload_n 0, 1) := by decide +kernel
theorem d_B_output_6 : decode prog_1_method_11_code 6 = .ok (.getfield 27, 3) := by decide +kernel
theorem d_B_output_9 : decode prog_1_method_11_code 9 = .ok (.invokevirtual 161, 3) := by decide +kernel
theorem d_B_output_12 : decode prog_1_method_11_code 12 = .ok (.if_icmp .ge 9, 3) := by decide +kernel
theorem d_B_output_21 : decode prog_1_method_11_code 21 = .ok (.new 122, 3) := by decide +kernel
theorem d_B_output_24 : decode prog_1_method_11_code 24 = .ok (.dup, 1) := by decide +kernel
theorem d_B_output_25 : decode prog_1_method_11_code 25 = .ok (.ldc 164, 2) := by decide +kernel
theorem d_B_output_27 : decode prog_1_method_11_code 27 = .ok (.invokespecial 126, 3) := by decide +kernel
theorem d_B_output_30 : decode prog_1_method_11_code 30 = .ok (.athrow, 1) := by decide +kernel
theorem d_B_run_0 : decode prog_1_method_6_code 0 = .ok (.aload_n 0, 1) := by decide +kernel
theorem d_B_run_1 : decode prog_1_method_6_code 1 = .ok (.getfield 31, 3) := by decide +kernel
theorem d_B_run_4 : decode prog_1_method_6_code 4 = .ok (.ifCond .eq 23, 3) := by decide +kernel
theorem d_B_run_27 : decode prog_1_method_6_code 27 = .ok (.new 78, 3) := by decide +kernel
theorem d_B_run_30 : decode prog_1_method_6_code 30 = .ok (.dup, 1) := by decide +kernel
theorem d_B_run_31 : decode prog_1_method_6_code 31 = .ok (.ldc 80, 2) := by decide +kernel
theorem d_B_run_33 : decode prog_1_method_6_code 33 = .ok (.invokespecial 82, 3) := by decide +kernel
theorem d_B_run_36 : decode prog_1_method_6_code 36 = .ok (.athrow, 1) := by decide +kernel
theorem d_B_variable_0 : decode prog_1_method_10_code 0 = .ok (.aload_n 0, 1) := by decide +kernel
theorem d_B_variable_1 : decode prog_1_method_10_code 1 = .ok (.iload_n 1, 1) := by decide +kernel
theorem d_B_variable_2 : decode prog_1_method_10_code 2 = .ok (.invokevirtual 119, 3) := by decide +kernel
theorem d_B_variable_5 : decode prog_1_method_10_code 5 = .ok (.ifCond .eq 9, 3) := by decide +kernel
theorem d_B_variable_14 : decode prog_1_method_10_code 14 = .ok (.new 122, 3) := by decide +kernel
theorem d_B_variable_17 : decode prog_1_method_10_code 17 = .ok (.dup, 1) := by decide +kernel
theorem d_B_variable_18 : decode prog_1_method_10_code 18 = .ok (.ldc 151, 2) := by decide +kernel
theorem d_B_variable_20 : decode prog_1_method_10_code 20 = .ok (.invokespecial 126, 3) := by decide +kernel
theorem d_B_variable_23 : decode prog_1_method_10_code 23 = .ok (.athrow, 1) := by decide +kernel
