theorem wd_449 {U : State} (h : TB U) (args : Array Value) : (Cond.classLink "BigRunnerLaw" 13 "java/lang/IllegalArgumentException").before args U = true := h.w 449 (by decide +kernel) rfl args
theorem wd_450 {U : State} (h : TB U) (args : Array Value) : (Cond.methodLink "BigRunnerLaw" 7 ⟨"BigRunner", "load", "()I"⟩).before args U = true := h.w 450 (by decide +kernel) rfl args
theorem wd_451 {U : State} (h : TB U) (args : Array Value) : (Cond.instanceMethod ⟨"BigRunner", "load", "()I"⟩).before args U = true := h.w 451 (by decide +kernel) rfl args
theorem wd_452 {U : State} (h : TB U) (args : Array Value) : (Cond.selects "BigRunner" ⟨"BigRunner", "load", "()I"⟩ ⟨"BigRunner", "load", "()I"⟩).before args U = true := h.w 452 (by decide +kernel) rfl args
theorem wd_453 {U : State} (h : TB U) (args : Array Value) : (Cond.code ⟨"BigRunner", "load", "()I"⟩ prog_1_method_4_code 3 (some .int)).before args U = true := h.w 453 (by decide +kernel) rfl args
theorem wd_689 {U : State} (h : TB U) (args : Array Value) : (Cond.classLink "BigRunnerLaw" 19 "java/lang/IllegalStateException").before args U = true := h.w 689 (by decide +kernel) rfl args
theorem wd_690 {U : State} (h : TB U) (args : Array Value) : (Cond.classLink "BigRunnerLaw" 21 "java/lang/ArithmeticException").before args U = true := h.w 690 (by decide +kernel) rfl args
theorem wd_691 {U : State} (h : TB U) (args : Array Value) : (Cond.classLink "BigRunnerLaw" 23 "java/lang/UnsupportedOperationException").before args U = true := h.w 691 (by decide +kernel) rfl args
theorem wd_692 {U : State} (h : TB U) (args : Array Value) : (Cond.methodLink "BigRunnerLaw" 15 ⟨"BigRunner", "run", "(I)I"⟩).before args U = true := h.w 692 (by decide +kernel) rfl args
theorem wd_693 {U : State} (h : TB U) (args : Array Value) : (Cond.instanceMethod ⟨"BigRunner", "run", "(I)I"⟩).before args U = true := h.w 693 (by decide +kernel) rfl args
theorem wd_694 {U : State} (h : TB U) (args : Array Value) : (Cond.selects "BigRunner" ⟨"BigRunner", "run", "(I)I"⟩ ⟨"BigRunner", "run", "(I)I"⟩).before args U = true := h.w 694 (by decide +kernel) rfl args
theorem wd_695 {U : State} (h : TB U) (args : Array Value) : (Cond.code ⟨"BigRunner", "run", "(I)I"⟩ prog_1_method_6_code 3 (some .int)).before args U = true := h.w 695 (by decide +kernel) rfl args
theorem wd_883 {U : State} (h : TB U) (args : Array Value) : (Cond.classLink "BigRunnerLaw" 29 "java/lang/IndexOutOfBoundsException").before args U = true := h.w 883 (by decide +kernel) rfl args
theorem wd_884 {U : State} (h : TB U) (args : Array Value) : (Cond.methodLink "BigRunnerLaw" 25 ⟨"BigRunner", "bound", "(IZ)J"⟩).before args U = true := h.w 884 (by decide +kernel) rfl args
theorem wd_885 {U : State} (h : TB U) (args : Array Value) : (Cond.instanceMethod ⟨"BigRunner", "bound", "(IZ)J"⟩).before args U = true := h.w 885 (by decide +kernel) rfl args
theorem wd_886 {U : State} (h : TB U) (args : Array Value) : (Cond.selects "BigRunner" ⟨"BigRunner", "bound", "(IZ)J"⟩ ⟨"BigRunner", "bound", "(IZ)J"⟩).before args U = true := h.w 886 (by decide +kernel) rfl args
theorem wd_887 {U : State} (h : TB U) (args : Array Value) : (Cond.code ⟨"BigRunner", "bound", "(IZ)J"⟩ prog_1_method_8_code 6 (some .long)).before args U = true := h.w 887 (by decide +kernel) rfl args
theorem wd_909 {U : State} (h : TB U) (args : Array Value) : (Cond.methodLink "BigRunnerLaw" 31 ⟨"BigRunner", "variable", "(II)I"⟩).before args U = true := h.w 909 (by decide +kernel) rfl args
theorem wd_910 {U : State} (h : TB U) (args : Array Value) : (Cond.instanceMethod ⟨"BigRunner", "variable", "(II)I"⟩).before args U = true := h.w 910 (by decide +kernel) rfl args
theorem wd_911 {U : State} (h : TB U) (args : Array Value) : (Cond.selects "BigRunner" ⟨"BigRunner", "variable", "(II)I"⟩ ⟨"BigRunner", "variable", "(II)I"⟩).before args U = true := h.w 911 (by decide +kernel) rfl args
theorem wd_912 {U : State} (h : TB U) (args : Array Value) : (Cond.code ⟨"BigRunner", "variable", "(II)I"⟩ prog_1_method_10_code 3 (some .int)).before args U = true := h.w 912 (by decide +kernel) rfl args
theorem wd_931 {U : State} (h : TB U) (args : Array Value) : (Cond.methodLink "BigRunnerLaw" 35 ⟨"BigRunner", "output", "(II)I"⟩).before args U = true := h.w 931 (by decide +kernel) rfl args
theorem wd_932 {U : State} (h : TB U) (args : Array Value) : (Cond.instanceMethod ⟨"BigRunner", "output", "(II)I"⟩).before args U = true := h.w 932 (by decide +kernel) rfl args
theorem wd_933 {U : State} (h : TB U) (args : Array Value) : (Cond.selects "BigRunner" ⟨"BigRunner", "output", "(II)I"⟩ ⟨"BigRunner", "output", "(II)I"⟩).before args U = true := h.w 933 (by decide +kernel) rfl args
theorem wd_934 {U : State} (h : TB U) (args : Array Value) : (Cond.code ⟨"BigRunner", "output", "(II)I"⟩ prog_1_method_11_code 3 (some .int)).before args U = true := h.w 934 (by decide +kernel) rfl args
theorem d_L_bound_0 : decode method_5_code 0 = .ok (.aload_n 3, 1) := by decide +kernel
theorem d_L_bound_1 : decode method_5_code 1 = .ok (.iconst 0, 1) := by decide +kernel
theorem d_L_bound_2 : decode method_5_code 2 = .ok (.aload_n 0, 1) := by decide +kernel
theorem d_L_bound_3 : decode method_5_code 3 = .ok (.iload_n 1, 1) := by decide +kernel
theorem d_L_bound_4 : decode method_5_code 4 = .ok (.iload_n 2, 1) := by decide +kernel
theorem d_L_bound_5 : decode method_5_code 5 = .ok (.invokevirtual 25, 3) := by decide +kernel
theorem d_L_bound_8 : decode method_5_code 8 = .ok (.lastore, 1) := by decide +kernel
theorem d_L_bound_9 : decode method_5_code 9 = .ok (.goto 11, 3) := by decide +kernel
theorem d_L_bound_12 : decode method_5_code 12 = .ok (.astore 4, 2) := by decide +kernel
theorem d_L_bound_14 : decode method_5_code 14 = .ok (.iconst 1, 1) := by decide +kernel
theorem d_L_bound_15 : decode method_5_code 15 = .ok (.ireturn, 1) := by decide +kernel
theorem d_L_bound_16 : decode method_5_code 16 = .ok (.astore 4, 2) := by decide +kernel
theorem d_L_bound_18 : decode method_5_code 18 = .ok (.iconst 2, 1) := by decide +kernel
theorem d_L_bound_19 : decode method_5_code 19 = .ok (.ireturn, 1) := by decide +kernel
theorem d_L_bound_20 : decode method_5_code 20 = .ok (.iconst 0, 1) := by decide +kernel
theorem d_L_bound_21 : decode method_5_code 21 = .ok (.ireturn, 1) := by decide +kernel
theorem d_L_load_0 : decode method_3_code 0 = .ok (.aload_n 1, 1) := by decide +kernel
theorem d_L_load_1 : decode method_3_code 1 = .ok (.iconst 0, 1) := by decide +kernel
theorem d_L_load_2 : decode method_3_code 2 = .ok (.aload_n 0, 1) := by decide +kernel
theorem d_L_load_3 : decode method_3_code 3 = .ok (.invokevirtual 7, 3) := by decide +kernel
theorem d_L_load_6 : decode method_3_code 6 = .ok (.i2l, 1) := by decide +kernel
theorem d_L_load_7 : decode method_3_code 7 = .ok (.lastore, 1) := by decide +kernel
theorem d_L_load_8 : decode method_3_code 8 = .ok (.goto 6, 3) := by decide +kernel
theorem d_L_load_11 : decode method_3_code 11 = .ok (.astore_n 2, 1) := by decide +kernel
theorem d_L_load_12 : decode method_3_code 12 = .ok (.iconst 1, 1) := by decide +kernel
theorem d_L_load_13 : decode method_3_code 13 = .ok (.ireturn, 1) := by decide +kernel
theorem d_L_load_14 : decode method_3_code 14 = .ok (.iconst 0, 1) := by decide +kernel
theorem d_L_load_15 : decode method_3_code 15 = .ok (.ireturn, 1) := by decide +kernel
theorem d_L_output_0 : decode method_7_code 0 = .ok (.aload_n 3, 1) := by decide +kernel
theorem d_L_output_1 : decode method_7_code 1 = .ok (.iconst 0, 1) := by decide +kernel
theorem d_L_output_2 : decode method_7_code 2 = .ok (.aload_n 0, 1) := by decide +kernel
theorem d_L_output_3 : decode method_7_code 3 = .ok (.iload_n 1, 1) := by decide +kernel
theorem d_L_output_4 : decode method_7_code 4 = .ok (.iload_n 2, 1) := by decide +kernel
theorem d_L_output_5 : decode method_7_code 5 = .ok (.invokevirtual 35, 3) := by decide +kernel
theorem d_L_output_8 : decode method_7_code 8 = .ok (.i2l, 1) := by decide +kernel
theorem d_L_output_9 : decode method_7_code 9 = .ok (.lastore, 1) := by decide +kernel
theorem d_L_output_10 : decode method_7_code 10 = .ok (.goto 7, 3) := by decide +kernel
theorem d_L_output_13 : decode method_7_code 13 = .ok (.astore 4, 2) := by decide +kernel
theorem d_L_output_15 : decode method_7_code 15 = .ok (.iconst 1, 1) := by decide +kernel
theorem d_L_output_16 : decode method_7_code 16 = .ok (.ireturn, 1) := by decide +kernel
theorem d_L_output_17 : decode method_7_code 17 = .ok (.iconst 0, 1) := by decide +kernel
theorem d_L_output_18 : decode method_7_code 18 = .ok (.ireturn, 1) := by decide +kernel
theorem d_L_run_0 : decode method_4_code 0 = .ok (.aload_n 2, 1) := by decide +kernel
theorem d_L_run_1 : decode method_4_code 1 = .ok (.iconst 0, 1) := by decide +kernel
theorem d_L_run_2 : decode method_4_code 2 = .ok (.aload_n 0, 1) := by decide +kernel
theorem d_L_run_3 : decode method_4_code 3 = .ok (.iload_n 1, 1) := by decide +kernel
theorem d_L_run_4 : decode method_4_code 4 = .ok (.invokevirtual 15, 3) := by decide +kernel
theorem d_L_run_7 : decode method_4_code 7 = .ok (.i2l, 1) := by decide +kernel
theorem d_L_run_8 : decode method_4_code 8 = .ok (.lastore, 1) := by decide +kernel
theorem d_L_run_9 : decode method_4_code 9 = .ok (.goto 15, 3) := by decide +kernel
theorem d_L_run_12 : decode method_4_code 12 = .ok (.astore_n 3, 1) := by decide +kernel
theorem d_L_run_13 : decode method_4_code 13 = .ok (.iconst 1, 1) := by decide +kernel
theorem d_L_run_14 : decode method_4_code 14 = .ok (.ireturn, 1) := by decide +kernel
theorem d_L_run_15 : decode method_4_code 15 = .ok (.astore_n 3, 1) := by decide +kernel
theorem d_L_run_16 : decode method_4_code 16 = .ok (.iconst 2, 1) := by decide +kernel
theorem d_L_run_17 : decode method_4_code 17 = .ok (.ireturn, 1) := by decide +kernel
theorem d_L_run_18 : decode method_4_code 18 = .ok (.astore_n 3, 1) := by decide +kernel
theorem d_L_run_19 : decode method_4_code 19 = .ok (.iconst 3, 1) := by decide +kernel
theorem d_L_run_20 : decode method_4_code 20 = .ok (.ireturn, 1) := by decide +kernel
theorem d_L_run_21 : decode method_4_code 21 = .ok (.astore_n 3, 1) := by decide +kernel
theorem d_L_run_22 : decode method_4_code 22 = .ok (.iconst 4, 1) := by decide +kernel
theorem d_L_run_23 : decode method_4_code 23 = .ok (.ireturn, 1) := by decide +kernel
theorem d_L_run_24 : decode method_4_code 24 = .ok (.iconst 0, 1) := by decide +kernel
theorem d_L_run_25 : decode method_4_code 25 = .ok (.ireturn, 1) := by decide +kernel
theorem d_L_variable_0 : decode method_6_code 0 = .ok (.aload_n 3, 1) := by decide +kernel
theorem d_L_variable_1 : decode method_6_code 1 = .ok (.iconst 0, 1) := by decide +kernel
theorem d_L_variable_2 : decode method_6_code 2 = .ok (.aload_n 0, 1) := by decide +kernel
theorem d_L_variable_3 : decode method_6_code 3 = .ok (.iload_n 1, 1) := by decide +kernel
theorem d_L_variable_4 : decode method_6_code 4 = .ok (.iload_n 2, 1) := by decide +kernel
theorem d_L_variable_5 : decode method_6_code 5 = .ok (.invokevirtual 31, 3) := by decide +kernel
theorem d_L_variable_8 : decode method_6_code 8 = .ok (.i2l, 1) := by decide +kernel
theorem d_L_variable_9 : decode method_6_code 9 = .ok (.lastore, 1) := by decide +kernel
theorem d_L_variable_10 : decode method_6_code 10 = .ok (.goto 7, 3) := by decide +kernel
theorem d_L_variable_13 : decode method_6_code 13 = .ok (.astore 4, 2) := by decide +kernel
theorem d_L_variable_15 : decode method_6_code 15 = .ok (.iconst 1, 1) := by decide +kernel
theorem d_L_variable_16 : decode method_6_code 16 = .ok (.ireturn, 1) := by decide +kernel
theorem d_L_variable_17 : decode method_6_code 17 = .ok (.iconst 0, 1) := by decide +kernel
theorem d_L_variable_18 : decode method_6_code 18 = .ok (.ireturn, 1) := by decide +kernel

