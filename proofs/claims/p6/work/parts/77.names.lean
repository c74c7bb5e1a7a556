theorem wd_40 {U : State} (h : TB U) (args : Array Value) : (Cond.selects "BigRunner$LongNumber" ⟨"BigRunner$LongNumber", "digits", "()I"⟩ ⟨"BigRunner$LongNumber", "digits", "()I"⟩).before args U = true := h.w 40 (by decide +kernel) rfl args
theorem wd_87 {U : State} (h : TB U) (args : Array Value) : (Cond.initialized "java/lang/IllegalArgumentException").before args U = true := h.w 87 (by decide +kernel) rfl args
theorem wd_89 {U : State} (h : TB U) (args : Array Value) : (Cond.initialized "java/lang/IllegalStateException").before args U = true := h.w 89 (by decide +kernel) rfl args
theorem wd_92 {U : State} (h : TB U) (args : Array Value) : (Cond.initialized "java/lang/ArithmeticException").before args U = true := h.w 92 (by decide +kernel) rfl args
theorem wd_93 {U : State} (h : TB U) (args : Array Value) : (Cond.initialized "java/lang/UnsupportedOperationException").before args U = true := h.w 93 (by decide +kernel) rfl args
theorem wd_94 {U : State} (h : TB U) (args : Array Value) : (Cond.initialized "java/lang/IndexOutOfBoundsException").before args U = true := h.w 94 (by decide +kernel) rfl args
theorem wd_128 {U : State} (h : TB U) (args : Array Value) : (Cond.fieldLink "BigRunner" 137 "BigRunner$Interval" "least" "J").before args U = true := h.w 128 (by decide +kernel) rfl args
theorem wd_131 {U : State} (h : TB U) (args : Array Value) : (Cond.fieldLink "BigRunner" 131 "BigRunner$Interval" "greatest" "J").before args U = true := h.w 131 (by decide +kernel) rfl args
theorem wd_274 {U : State} (h : TB U) (args : Array Value) : (Cond.fieldLink "BigRunner" 46 "BigRunner$Reader" "program" "LBigRunner$Program;").before args U = true := h.w 274 (by decide +kernel) rfl args
theorem wd_340 {U : State} (h : TB U) (args : Array Value) : (Cond.fieldLink "BigRunner" 166 "BigRunner$Runner" "kept" "[LBigRunner$LongNumber;").before args U = true := h.w 340 (by decide +kernel) rfl args
theorem wd_380 {U : State} (h : TB U) (args : Array Value) : (Cond.fieldLink "BigRunner" 20 "BigRunner" "reader" "LBigRunner$Reader;").before args U = true := h.w 380 (by decide +kernel) rfl args
theorem wd_454 {U : State} (h : TB U) (args : Array Value) : (Cond.methodLink "BigRunner" 35 ⟨"BigRunner$Reader", "reads", "([CI)Z"⟩).before args U = true := h.w 454 (by decide +kernel) rfl args
theorem wd_455 {U : State} (h : TB U) (args : Array Value) : (Cond.instanceMethod ⟨"BigRunner$Reader", "reads", "([CI)Z"⟩).before args U = true := h.w 455 (by decide +kernel) rfl args
theorem wd_456 {U : State} (h : TB U) (args : Array Value) : (Cond.selects "BigRunner$Reader" ⟨"BigRunner$Reader", "reads", "([CI)Z"⟩ ⟨"BigRunner$Reader", "reads", "([CI)Z"⟩).before args U = true := h.w 456 (by decide +kernel) rfl args
theorem wd_457 {U : State} (h : TB U) (args : Array Value) : (Cond.code ⟨"BigRunner$Reader", "reads", "([CI)Z"⟩ prog_8_method_2_code 3 (some .boolean)).before args U = true := h.w 457 (by decide +kernel) rfl args
theorem wd_521 {U : State} (h : TB U) (args : Array Value) : (Cond.classLink "BigRunner" 39 "java/lang/IllegalArgumentException").before args U = true := h.w 521 (by decide +kernel) rfl args
theorem wd_522 {U : State} (h : TB U) (args : Array Value) : (Cond.instantiable "java/lang/IllegalArgumentException" 6).before args U = true := h.w 522 (by decide +kernel) rfl args
theorem wd_564 {U : State} (h : TB U) (args : Array Value) : (Cond.stringRef "BigRunner" 41 "the line is no PROGRAM").before args U = true := h.w 564 (by decide +kernel) rfl args
theorem wd_591 {U : State} (h : TB U) (args : Array Value) : (Cond.methodLink "BigRunner" 51 ⟨"BigRunner$Program", "findIntervals", "()I"⟩).before args U = true := h.w 591 (by decide +kernel) rfl args
theorem wd_592 {U : State} (h : TB U) (args : Array Value) : (Cond.instanceMethod ⟨"BigRunner$Program", "findIntervals", "()I"⟩).before args U = true := h.w 592 (by decide +kernel) rfl args
theorem wd_593 {U : State} (h : TB U) (args : Array Value) : (Cond.selects "BigRunner$Program" ⟨"BigRunner$Program", "findIntervals", "()I"⟩ ⟨"BigRunner$Program", "findIntervals", "()I"⟩).before args U = true := h.w 593 (by decide +kernel) rfl args
theorem wd_594 {U : State} (h : TB U) (args : Array Value) : (Cond.code ⟨"BigRunner$Program", "findIntervals", "()I"⟩ prog_7_method_2_code 3 (some .int)).before args U = true := h.w 594 (by decide +kernel) rfl args
theorem wd_673 {U : State} (h : TB U) (args : Array Value) : (Cond.methodLink "BigRunner" 57 ⟨"BigRunner$Runner", "begin", "(LBigRunner$Program;)V"⟩).before args U = true := h.w 673 (by decide +kernel) rfl args
theorem wd_674 {U : State} (h : TB U) (args : Array Value) : (Cond.instanceMethod ⟨"BigRunner$Runner", "begin", "(LBigRunner$Program;)V"⟩).before args U = true := h.w 674 (by decide +kernel) rfl args
theorem wd_675 {U : State} (h : TB U) (args : Array Value) : (Cond.selects "BigRunner$Runner" ⟨"BigRunner$Runner", "begin", "(LBigRunner$Program;)V"⟩ ⟨"BigRunner$Runner", "begin", "(LBigRunner$Program;)V"⟩).before args U = true := h.w 675 (by decide +kernel) rfl args
theorem wd_676 {U : State} (h : TB U) (args : Array Value) : (Cond.code ⟨"BigRunner$Runner", "begin", "(LBigRunner$Program;)V"⟩ prog_9_method_2_code 3 none).before args U = true := h.w 676 (by decide +kernel) rfl args
theorem wd_696 {U : State} (h : TB U) (args : Array Value) : (Cond.classLink "BigRunner" 78 "java/lang/IllegalStateException").before args U = true := h.w 696 (by decide +kernel) rfl args
theorem wd_697 {U : State} (h : TB U) (args : Array Value) : (Cond.instantiable "java/lang/IllegalStateException" 6).before args U = true := h.w 697 (by decide +kernel) rfl args
theorem wd_705 {U : State} (h : TB U) (args : Array Value) : (Cond.stringRef "BigRunner" 80 "no program is under way").before args U = true := h.w 705 (by decide +kernel) rfl args
theorem wd_712 {U : State} (h : TB U) (args : Array Value) : (Cond.stringRef "BigRunner" 83 "not 1 .. 200 steps").before args U = true := h.w 712 (by decide +kernel) rfl args
theorem wd_713 {U : State} (h : TB U) (args : Array Value) : (Cond.methodLink "BigRunner" 85 ⟨"BigRunner$Runner", "goesOn", "()Z"⟩).before args U = true := h.w 713 (by decide +kernel) rfl args
theorem wd_714 {U : State} (h : TB U) (args : Array Value) : (Cond.instanceMethod ⟨"BigRunner$Runner", "goesOn", "()Z"⟩).before args U = true := h.w 714 (by decide +kernel) rfl args
theorem wd_715 {U : State} (h : TB U) (args : Array Value) : (Cond.selects "BigRunner$Runner" ⟨"BigRunner$Runner", "goesOn", "()Z"⟩ ⟨"BigRunner$Runner", "goesOn", "()Z"⟩).before args U = true := h.w 715 (by decide +kernel) rfl args
theorem wd_716 {U : State} (h : TB U) (args : Array Value) : (Cond.code ⟨"BigRunner$Runner", "goesOn", "()Z"⟩ prog_9_method_7_code 1 (some .boolean)).before args U = true := h.w 716 (by decide +kernel) rfl args
theorem wd_718 {U : State} (h : TB U) (args : Array Value) : (Cond.methodLink "BigRunner" 88 ⟨"BigRunner$Runner", "makeStep", "()V"⟩).before args U = true := h.w 718 (by decide +kernel) rfl args
theorem wd_719 {U : State} (h : TB U) (args : Array Value) : (Cond.instanceMethod ⟨"BigRunner$Runner", "makeStep", "()V"⟩).before args U = true := h.w 719 (by decide +kernel) rfl args
theorem wd_720 {U : State} (h : TB U) (args : Array Value) : (Cond.selects "BigRunner$Runner" ⟨"BigRunner$Runner", "makeStep", "()V"⟩ ⟨"BigRunner$Runner", "makeStep", "()V"⟩).before args U = true := h.w 720 (by decide +kernel) rfl args
theorem wd_721 {U : State} (h : TB U) (args : Array Value) : (Cond.code ⟨"BigRunner$Runner", "makeStep", "()V"⟩ prog_9_method_8_code 3 none).before args U = true := h.w 721 (by decide +kernel) rfl args
theorem wd_848 {U : State} (h : TB U) (args : Array Value) : (Cond.classLink "BigRunner" 91 "java/lang/ArithmeticException").before args U = true := h.w 848 (by decide +kernel) rfl args
theorem wd_849 {U : State} (h : TB U) (args : Array Value) : (Cond.instantiable "java/lang/ArithmeticException" 6).before args U = true := h.w 849 (by decide +kernel) rfl args
theorem wd_857 {U : State} (h : TB U) (args : Array Value) : (Cond.stringRef "BigRunner" 93 "a division by 0").before args U = true := h.w 857 (by decide +kernel) rfl args
theorem wd_864 {U : State} (h : TB U) (args : Array Value) : (Cond.classLink "BigRunner" 96 "java/lang/UnsupportedOperationException").before args U = true := h.w 864 (by decide +kernel) rfl args
theorem wd_865 {U : State} (h : TB U) (args : Array Value) : (Cond.instantiable "java/lang/UnsupportedOperationException" 6).before args U = true := h.w 865 (by decide +kernel) rfl args
theorem wd_873 {U : State} (h : TB U) (args : Array Value) : (Cond.stringRef "BigRunner" 98 "too many digits or steps").before args U = true := h.w 873 (by decide +kernel) rfl args
theorem wd_888 {U : State} (h : TB U) (args : Array Value) : (Cond.classLink "BigRunner" 122 "java/lang/IndexOutOfBoundsException").before args U = true := h.w 888 (by decide +kernel) rfl args
theorem wd_889 {U : State} (h : TB U) (args : Array Value) : (Cond.instantiable "java/lang/IndexOutOfBoundsException" 6).before args U = true := h.w 889 (by decide +kernel) rfl args
theorem wd_897 {U : State} (h : TB U) (args : Array Value) : (Cond.stringRef "BigRunner" 124 "no such variable").before args U = true := h.w 897 (by decide +kernel) rfl args
theorem wd_904 {U : State} (h : TB U) (args : Array Value) : (Cond.methodLink "BigRunner" 140 ⟨"BigRunner$Interval", "isUnbounded", "(J)Z"⟩).before args U = true := h.w 904 (by decide +kernel) rfl args
theorem wd_905 {U : State} (h : TB U) (args : Array Value) : (Cond.stringRef "BigRunner" 144 "UNBOUNDED").before args U = true := h.w 905 (by decide +kernel) rfl args
theorem wd_913 {U : State} (h : TB U) (args : Array Value) : (Cond.stringRef "BigRunner" 151 "no such variable or part of it").before args U = true := h.w 913 (by decide +kernel) rfl args
theorem wd_914 {U : State} (h : TB U) (args : Array Value) : (Cond.methodLink "BigRunner" 153 ⟨"BigRunner$Runner", "valueOf", "(I)LBigRunner$LongNumber;"⟩).before args U = true := h.w 914 (by decide +kernel) rfl args
theorem wd_915 {U : State} (h : TB U) (args : Array Value) : (Cond.instanceMethod ⟨"BigRunner$Runner", "valueOf", "(I)LBigRunner$LongNumber;"⟩).before args U = true := h.w 915 (by decide +kernel) rfl args
theorem wd_916 {U : State} (h : TB U) (args : Array Value) : (Cond.selects "BigRunner$Runner" ⟨"BigRunner$Runner", "valueOf", "(I)LBigRunner$LongNumber;"⟩ ⟨"BigRunner$Runner", "valueOf", "(I)LBigRunner$LongNumber;"⟩).before args U = true := h.w 916 (by decide +kernel) rfl args
theorem wd_917 {U : State} (h : TB U) (args : Array Value) : (Cond.code ⟨"BigRunner$Runner", "valueOf", "(I)LBigRunner$LongNumber;"⟩ prog_9_method_6_code 2 (some (.object "BigRunner$LongNumber"))).before args U = true := h.w 917 (by decide +kernel) rfl args
theorem wd_918 {U : State} (h : TB U) (args : Array Value) : (Cond.methodLink "BigRunner" 157 ⟨"BigRunner$LongNumber", "tell", "(I)I"⟩).before args U = true := h.w 918 (by decide +kernel) rfl args
theorem wd_919 {U : State} (h : TB U) (args : Array Value) : (Cond.instanceMethod ⟨"BigRunner$LongNumber", "tell", "(I)I"⟩).before args U = true := h.w 919 (by decide +kernel) rfl args
theorem wd_920 {U : State} (h : TB U) (args : Array Value) : (Cond.selects "BigRunner$LongNumber" ⟨"BigRunner$LongNumber", "tell", "(I)I"⟩ ⟨"BigRunner$LongNumber", "tell", "(I)I"⟩).before args U = true := h.w 920 (by decide +kernel) rfl args
theorem wd_921 {U : State} (h : TB U) (args : Array Value) : (Cond.code ⟨"BigRunner$LongNumber", "tell", "(I)I"⟩ prog_5_method_5_code 2 (some .int)).before args U = true := h.w 921 (by decide +kernel) rfl args
theorem wd_922 {U : State} (h : TB U) (args : Array Value) : (Cond.methodLink "BigRunner$LongNumber" 40 ⟨"BigRunner$LongNumber", "digits", "()I"⟩).before args U = true := h.w 922 (by decide +kernel) rfl args
theorem wd_924 {U : State} (h : TB U) (args : Array Value) : (Cond.instanceMethod ⟨"BigRunner$LongNumber", "digits", "()I"⟩).before args U = true := h.w 924 (by decide +kernel) rfl args
theorem wd_925 {U : State} (h : TB U) (args : Array Value) : (Cond.code ⟨"BigRunner$LongNumber", "digits", "()I"⟩ prog_5_method_6_code 2 (some .int)).before args U = true := h.w 925 (by decide +kernel) rfl args
theorem wd_926 {U : State} (h : TB U) (args : Array Value) : (Cond.fieldLink "BigRunner$LongNumber" 44 "BigRunner$LongNumber" "POWERS" "[I").before args U = true := h.w 926 (by decide +kernel) rfl args
theorem wd_935 {U : State} (h : TB U) (args : Array Value) : (Cond.methodLink "BigRunner" 161 ⟨"BigRunner$Runner", "keptOutputs", "()I"⟩).before args U = true := h.w 935 (by decide +kernel) rfl args
theorem wd_936 {U : State} (h : TB U) (args : Array Value) : (Cond.instanceMethod ⟨"BigRunner$Runner", "keptOutputs", "()I"⟩).before args U = true := h.w 936 (by decide +kernel) rfl args
theorem wd_937 {U : State} (h : TB U) (args : Array Value) : (Cond.selects "BigRunner$Runner" ⟨"BigRunner$Runner", "keptOutputs", "()I"⟩ ⟨"BigRunner$Runner", "keptOutputs", "()I"⟩).before args U = true := h.w 937 (by decide +kernel) rfl args
theorem wd_938 {U : State} (h : TB U) (args : Array Value) : (Cond.code ⟨"BigRunner$Runner", "keptOutputs", "()I"⟩ prog_9_method_5_code 1 (some .int)).before args U = true := h.w 938 (by decide +kernel) rfl args
theorem wd_940 {U : State} (h : TB U) (args : Array Value) : (Cond.stringRef "BigRunner" 164 "no such output or part of it").before args U = true := h.w 940 (by decide +kernel) rfl args
theorem d_B_bound_0 : decode prog_1_method_8_code 0 = .ok (.aload_n 0, 1) := by decide +kernel
theorem d_B_bound_1 : decode prog_1_method_8_code 1 = .ok (.iload_n 1, 1) := by decide +kernel
theorem d_B_bound_2 : decode prog_1_method_8_code 2 = .ok (.invokevirtual 119, 3) := by decide +kernel
theorem d_B_bound_5 : decode prog_1_method_8_code 5 = .ok (.ifCond .ne 13, 3) := by decide +kernel
theorem d_B_bound_8 : decode prog_1_method_8_code 8 = .ok (.new 122, 3) := by decide +kernel
theorem d_B_bound_11 : decode prog_1_method_8_code 11 = .ok (.dup, 1) := by decide +kernel
theorem d_B_bound_12 : decode prog_1_method_8_code 12 = .ok (.ldc 124, 2) := by decide +kernel
theorem d_B_bound_14 : decode prog_1_method_8_code 14 = .ok (.invokespecial 126, 3) := by decide +kernel
theorem d_B_bound_17 : decode prog_1_method_8_code 17 = .ok (.athrow, 1) := by decide +kernel
theorem d_B_bound_18 : decode prog_1_method_8_code 18 = .ok (.aload_n 0, 1) := by decide +kernel
theorem d_B_bound_19 : decode prog_1_method_8_code 19 = .ok (.getfield 27, 3) := by decide +kernel
theorem d_B_bound_22 : decode prog_1_method_8_code 22 = .ok (.getfield 50, 3) := by decide +kernel
theorem d_B_bound_25 : decode prog_1_method_8_code 25 = .ok (.getfield 127, 3) := by decide +kernel
theorem d_B_bound_28 : decode prog_1_method_8_code 28 = .ok (.iload_n 1, 1) := by decide +kernel
theorem d_B_bound_29 : decode prog_1_method_8_code 29 = .ok (.aaload, 1) := by decide +kernel
theorem d_B_bound_30 : decode prog_1_method_8_code 30 = .ok (.astore_n 3, 1) := by decide +kernel
theorem d_B_bound_31 : decode prog_1_method_8_code 31 = .ok (.iload_n 2, 1) := by decide +kernel
theorem d_B_bound_32 : decode prog_1_method_8_code 32 = .ok (.ifCond .eq 10, 3) := by decide +kernel
theorem d_B_bound_35 : decode prog_1_method_8_code 35 = .ok (.aload_n 3, 1) := by decide +kernel
theorem d_B_bound_36 : decode prog_1_method_8_code 36 = .ok (.getfield 131, 3) := by decide +kernel
theorem d_B_bound_39 : decode prog_1_method_8_code 39 = .ok (.goto 7, 3) := by decide +kernel
theorem d_B_bound_42 : decode prog_1_method_8_code 42 = .ok (.aload_n 3, 1) := by decide +kernel
theorem d_B_bound_43 : decode prog_1_method_8_code 43 = .ok (.getfield 137, 3) := by decide +kernel
theorem d_B_bound_46 : decode prog_1_method_8_code 46 = .ok (.lstore 4, 2) := by decide +kernel
theorem d_B_bound_48 : decode prog_1_method_8_code 48 = .ok (.lload 4, 2) := by decide +kernel
theorem d_B_bound_50 : decode prog_1_method_8_code 50 = .ok (.invokestatic 140, 3) := by decide +kernel
theorem d_B_bound_53 : decode prog_1_method_8_code 53 = .ok (.ifCond .eq 13, 3) := by decide +kernel
theorem d_B_bound_56 : decode prog_1_method_8_code 56 = .ok (.new 96, 3) := by decide +kernel
theorem d_B_bound_59 : decode prog_1_method_8_code 59 = .ok (.dup, 1) := by decide +kernel
theorem d_B_bound_60 : decode prog_1_method_8_code 60 = .ok (.ldc 144, 2) := by decide +kernel
theorem d_B_bound_62 : decode prog_1_method_8_code 62 = .ok (.invokespecial 100, 3) := by decide +kernel
theorem d_B_bound_65 : decode prog_1_method_8_code 65 = .ok (.athrow, 1) := by decide +kernel
theorem d_B_bound_66 : decode prog_1_method_8_code 66 = .ok (.lload 4, 2) := by decide +kernel
theorem d_B_bound_68 : decode prog_1_method_8_code 68 = .ok (.lreturn, 1) := by decide +kernel
theorem d_B_load_0 : decode prog_1_method_4_code 0 = .ok (.aload_n 0, 1) := by decide +kernel
theorem d_B_load_1 : decode prog_1_method_4_code 1 = .ok (.getfield 20, 3) := by decide +kernel
theorem d_B_load_4 : decode prog_1_method_4_code 4 = .ok (.aload_n 0, 1) := by decide +kernel
theorem d_B_load_5 : decode prog_1_method_4_code 5 = .ok (.getfield 9, 3) := by decide +kernel
theorem d_B_load_8 : decode prog_1_method_4_code 8 = .ok (.aload_n 0, 1) := by decide +kernel
theorem d_B_load_9 : decode prog_1_method_4_code 9 = .ok (.getfield 13, 3) := by decide +kernel
theorem d_B_load_12 : decode prog_1_method_4_code 12 = .ok (.invokevirtual 35, 3) := by decide +kernel
theorem d_B_load_15 : decode prog_1_method_4_code 15 = .ok (.ifCond .ne 13, 3) := by decide +kernel
theorem d_B_load_18 : decode prog_1_method_4_code 18 = .ok (.new 39, 3) := by decide +kernel
theorem d_B_load_21 : decode prog_1_method_4_code 21 = .ok (.dup, 1) := by decide +kernel
theorem d_B_load_22 : decode prog_1_method_4_code 22 = .ok (.ldc 41, 2) := by decide +kernel
theorem d_B_load_24 : decode prog_1_method_4_code 24 = .ok (.invokespecial 43, 3) := by decide +kernel
theorem d_B_load_27 : decode prog_1_method_4_code 27 = .ok (.athrow, 1) := by decide +kernel
theorem d_B_load_28 : decode prog_1_method_4_code 28 = .ok (.aload_n 0, 1) := by decide +kernel
theorem d_B_load_29 : decode prog_1_method_4_code 29 = .ok (.getfield 20, 3) := by decide +kernel
theorem d_B_load_32 : decode prog_1_method_4_code 32 = .ok (.getfield 46, 3) := by decide +kernel
theorem d_B_load_35 : decode prog_1_method_4_code 35 = .ok (.astore_n 1, 1) := by decide +kernel
theorem d_B_load_36 : decode prog_1_method_4_code 36 = .ok (.aload_n 0, 1) := by decide +kernel
theorem d_B_load_37 : decode prog_1_method_4_code 37 = .ok (.getfield 20, 3) := by decide +kernel
theorem d_B_load_40 : decode prog_1_method_4_code 40 = .ok (.aload_n 0, 1) := by decide +kernel
theorem d_B_load_41 : decode prog_1_method_4_code 41 = .ok (.getfield 27, 3) := by decide +kernel
theorem d_B_load_44 : decode prog_1_method_4_code 44 = .ok (.getfield 50, 3) := by decide +kernel
theorem d_B_load_47 : decode prog_1_method_4_code 47 = .ok (.putfield 46, 3) := by decide +kernel
theorem d_B_load_50 : decode prog_1_method_4_code 50 = .ok (.aload_n 1, 1) := by decide +kernel
theorem d_B_load_51 : decode prog_1_method_4_code 51 = .ok (.invokevirtual 51, 3) := by decide +kernel
theorem d_B_load_54 : decode prog_1_method_4_code 54 = .ok (.istore_n 2, 1) := by decide +kernel
theorem d_B_load_55 : decode prog_1_method_4_code 55 = .ok (.aload_n 0, 1) := by decide +kernel
theorem d_B_load_56 : decode prog_1_method_4_code 56 = .ok (.getfield 27, 3) := by decide +kernel
theorem d_B_load_59 : decode prog_1_method_4_code 59 = .ok (.aload_n 1, 1) := by decide +kernel
theorem d_B_load_60 : decode prog_1_method_4_code 60 = .ok (.invokevirtual 57, 3) := by decide +kernel
theorem d_B_load_63 : decode prog_1_method_4_code 63 = .ok (.aload_n 0, 1) := by decide +kernel
theorem d_B_load_64 : decode prog_1_method_4_code 64 = .ok (.iconst 1, 1) := by decide +kernel
theorem d_B_load_65 : decode prog_1_method_4_code 65 = .ok (.putfield 31, 3) := by decide +kernel
theorem d_B_load_68 : decode prog_1_method_4_code 68 = .ok (.aload_n 0, 1) := by decide +kernel
theorem d_B_load_69 : decode prog_1_method_4_code 69 = .ok (.iconst 0, 1) := by decide +kernel
theorem d_B_load_70 : decode prog_1_method_4_code 70 = .ok (.putfield 13, 3) := by decide +kernel
theorem d_B_load_73 : decode prog_1_method_4_code 73 = .ok (.iload_n 2, 1) := by decide +kernel
theorem d_B_load_74 : decode prog_1_method_4_code 74 = .ok (.ireturn, 1) := by decide +kernel
theorem d_B_output_0 : decode prog_1_method_11_code 0 = .ok (.iload_n 1, 1) := by decide +kernel
theorem d_B_output_1 : decode prog_1_method_11_code 1 = .ok (.ifCond .lt 20, 3) := by decide +kernel
theorem d_B_output_4 : decode prog_1_method_11_code 4 = .ok (.iload_n 1, 1) := by decide +kernel
theorem d_B_output_5 : decode prog_1_method_11_code 5 = .ok (.aload_n 0, 1) := by decide +kernel
theorem d_B_output_6 : decode prog_1_method_11_code 6 = .ok (.getfield 27, 3) := by decide +kernel
theorem d_B_output_9 : decode prog_1_method_11_code 9 = .ok (.invokevirtual 161, 3) := by decide +kernel
theorem d_B_output_12 : decode prog_1_method_11_code 12 = .ok (.if_icmp .ge 9, 3) := by decide +kernel
theorem d_B_output_15 : decode prog_1_method_11_code 15 = .ok (.iload_n 2, 1) := by decide +kernel
theorem d_B_output_16 : decode prog_1_method_11_code 16 = .ok (.bipush (-2), 2) := by decide +kernel
theorem d_B_output_18 : decode prog_1_method_11_code 18 = .ok (.if_icmp .ge 13, 3) := by decide +kernel
theorem d_B_output_21 : decode prog_1_method_11_code 21 = .ok (.new 122, 3) := by decide +kernel
theorem d_B_output_24 : decode prog_1_method_11_code 24 = .ok (.dup, 1) := by decide +kernel
theorem d_B_output_25 : decode prog_1_method_11_code 25 = .ok (.ldc 164, 2) := by decide +kernel
theorem d_B_output_27 : decode prog_1_method_11_code 27 = .ok (.invokespecial 126, 3) := by decide +kernel
theorem d_B_output_30 : decode prog_1_method_11_code 30 = .ok (.athrow, 1) := by decide +kernel
theorem d_B_output_31 : decode prog_1_method_11_code 31 = .ok (.aload_n 0, 1) := by decide +kernel
theorem d_B_output_32 : decode prog_1_method_11_code 32 = .ok (.getfield 27, 3) := by decide +kernel
theorem d_B_output_35 : decode prog_1_method_11_code 35 = .ok (.getfield 166, 3) := by decide +kernel
theorem d_B_output_38 : decode prog_1_method_11_code 38 = .ok (.iload_n 1, 1) := by decide +kernel
theorem d_B_output_39 : decode prog_1_method_11_code 39 = .ok (.aaload, 1) := by decide +kernel
theorem d_B_output_40 : decode prog_1_method_11_code 40 = .ok (.iload_n 2, 1) := by decide +kernel
theorem d_B_output_41 : decode prog_1_method_11_code 41 = .ok (.invokevirtual 157, 3) := by decide +kernel
theorem d_B_output_44 : decode prog_1_method_11_code 44 = .ok (.ireturn, 1) := by decide +kernel
theorem d_B_run_0 : decode prog_1_method_6_code 0 = .ok (.aload_n 0, 1) := by decide +kernel
theorem d_B_run_1 : decode prog_1_method_6_code 1 = .ok (.getfield 31, 3) := by decide +kernel
theorem d_B_run_4 : decode prog_1_method_6_code 4 = .ok (.ifCond .eq 23, 3) := by decide +kernel
theorem d_B_run_7 : decode prog_1_method_6_code 7 = .ok (.aload_n 0, 1) := by decide +kernel
theorem d_B_run_8 : decode prog_1_method_6_code 8 = .ok (.getfield 27, 3) := by decide +kernel
theorem d_B_run_11 : decode prog_1_method_6_code 11 = .ok (.invokevirtual 71, 3) := by decide +kernel
theorem d_B_run_14 : decode prog_1_method_6_code 14 = .ok (.ifCond .ne 13, 3) := by decide +kernel
theorem d_B_run_17 : decode prog_1_method_6_code 17 = .ok (.aload_n 0, 1) := by decide +kernel
theorem d_B_run_18 : decode prog_1_method_6_code 18 = .ok (.getfield 27, 3) := by decide +kernel
theorem d_B_run_21 : decode prog_1_method_6_code 21 = .ok (.getfield 75, 3) := by decide +kernel
theorem d_B_run_24 : decode prog_1_method_6_code 24 = .ok (.ifCond .eq 13, 3) := by decide +kernel
theorem d_B_run_27 : decode prog_1_method_6_code 27 = .ok (.new 78, 3) := by decide +kernel
theorem d_B_run_30 : decode prog_1_method_6_code 30 = .ok (.dup, 1) := by decide +kernel
theorem d_B_run_31 : decode prog_1_method_6_code 31 = .ok (.ldc 80, 2) := by decide +kernel
theorem d_B_run_33 : decode prog_1_method_6_code 33 = .ok (.invokespecial 82, 3) := by decide +kernel
theorem d_B_run_36 : decode prog_1_method_6_code 36 = .ok (.athrow, 1) := by decide +kernel
theorem d_B_run_37 : decode prog_1_method_6_code 37 = .ok (.iload_n 1, 1) := by decide +kernel
theorem d_B_run_38 : decode prog_1_method_6_code 38 = .ok (.iconst 1, 1) := by decide +kernel
theorem d_B_run_39 : decode prog_1_method_6_code 39 = .ok (.if_icmp .lt 10, 3) := by decide +kernel
theorem d_B_run_42 : decode prog_1_method_6_code 42 = .ok (.iload_n 1, 1) := by decide +kernel
theorem d_B_run_43 : decode prog_1_method_6_code 43 = .ok (.sipush 200, 3) := by decide +kernel
theorem d_B_run_46 : decode prog_1_method_6_code 46 = .ok (.if_icmp .le 13, 3) := by decide +kernel
theorem d_B_run_49 : decode prog_1_method_6_code 49 = .ok (.new 39, 3) := by decide +kernel
theorem d_B_run_52 : decode prog_1_method_6_code 52 = .ok (.dup, 1) := by decide +kernel
theorem d_B_run_53 : decode prog_1_method_6_code 53 = .ok (.ldc 83, 2) := by decide +kernel
theorem d_B_run_55 : decode prog_1_method_6_code 55 = .ok (.invokespecial 43, 3) := by decide +kernel
theorem d_B_run_58 : decode prog_1_method_6_code 58 = .ok (.athrow, 1) := by decide +kernel
theorem d_B_run_59 : decode prog_1_method_6_code 59 = .ok (.iconst 0, 1) := by decide +kernel
theorem d_B_run_60 : decode prog_1_method_6_code 60 = .ok (.istore_n 2, 1) := by decide +kernel
theorem d_B_run_61 : decode prog_1_method_6_code 61 = .ok (.iload_n 2, 1) := by decide +kernel
theorem d_B_run_62 : decode prog_1_method_6_code 62 = .ok (.iload_n 1, 1) := by decide +kernel
theorem d_B_run_63 : decode prog_1_method_6_code 63 = .ok (.if_icmp .ge 26, 3) := by decide +kernel
theorem d_B_run_66 : decode prog_1_method_6_code 66 = .ok (.aload_n 0, 1) := by decide +kernel
theorem d_B_run_67 : decode prog_1_method_6_code 67 = .ok (.getfield 27, 3) := by decide +kernel
theorem d_B_run_70 : decode prog_1_method_6_code 70 = .ok (.invokevirtual 85, 3) := by decide +kernel
theorem d_B_run_73 : decode prog_1_method_6_code 73 = .ok (.ifCond .eq 16, 3) := by decide +kernel
theorem d_B_run_76 : decode prog_1_method_6_code 76 = .ok (.aload_n 0, 1) := by decide +kernel
theorem d_B_run_77 : decode prog_1_method_6_code 77 = .ok (.getfield 27, 3) := by decide +kernel
theorem d_B_run_80 : decode prog_1_method_6_code 80 = .ok (.invokevirtual 88, 3) := by decide +kernel
theorem d_B_run_83 : decode prog_1_method_6_code 83 = .ok (.iinc 2 1, 3) := by decide +kernel
theorem d_B_run_86 : decode prog_1_method_6_code 86 = .ok (.goto (-25), 3) := by decide +kernel
theorem d_B_run_89 : decode prog_1_method_6_code 89 = .ok (.aload_n 0, 1) := by decide +kernel
theorem d_B_run_90 : decode prog_1_method_6_code 90 = .ok (.getfield 27, 3) := by decide +kernel
theorem d_B_run_93 : decode prog_1_method_6_code 93 = .ok (.getfield 75, 3) := by decide +kernel
theorem d_B_run_96 : decode prog_1_method_6_code 96 = .ok (.iconst 1, 1) := by decide +kernel
theorem d_B_run_97 : decode prog_1_method_6_code 97 = .ok (.if_icmp .ne 13, 3) := by decide +kernel
theorem d_B_run_100 : decode prog_1_method_6_code 100 = .ok (.new 91, 3) := by decide +kernel
theorem d_B_run_103 : decode prog_1_method_6_code 103 = .ok (.dup, 1) := by decide +kernel
theorem d_B_run_104 : decode prog_1_method_6_code 104 = .ok (.ldc 93, 2) := by decide +kernel
theorem d_B_run_106 : decode prog_1_method_6_code 106 = .ok (.invokespecial 95, 3) := by decide +kernel
theorem d_B_run_109 : decode prog_1_method_6_code 109 = .ok (.athrow, 1) := by decide +kernel
theorem d_B_run_110 : decode prog_1_method_6_code 110 = .ok (.aload_n 0, 1) := by decide +kernel
theorem d_B_run_111 : decode prog_1_method_6_code 111 = .ok (.getfield 27, 3) := by decide +kernel
theorem d_B_run_114 : decode prog_1_method_6_code 114 = .ok (.getfield 75, 3) := by decide +kernel
theorem d_B_run_117 : decode prog_1_method_6_code 117 = .ok (.ifCond .eq 13, 3) := by decide +kernel
theorem d_B_run_120 : decode prog_1_method_6_code 120 = .ok (.new 96, 3) := by decide +kernel
theorem d_B_run_123 : decode prog_1_method_6_code 123 = .ok (.dup, 1) := by decide +kernel
theorem d_B_run_124 : decode prog_1_method_6_code 124 = .ok (.ldc 98, 2) := by decide +kernel
theorem d_B_run_126 : decode prog_1_method_6_code 126 = .ok (.invokespecial 100, 3) := by decide +kernel
theorem d_B_run_129 : decode prog_1_method_6_code 129 = .ok (.athrow, 1) := by decide +kernel
theorem d_B_run_130 : decode prog_1_method_6_code 130 = .ok (.iload_n 2, 1) := by decide +kernel
theorem d_B_run_131 : decode prog_1_method_6_code 131 = .ok (.ireturn, 1) := by decide +kernel
theorem d_B_variable_0 : decode prog_1_method_10_code 0 = .ok (.aload_n 0, 1) := by decide +kernel
theorem d_B_variable_1 : decode prog_1_method_10_code 1 = .ok (.iload_n 1, 1) := by decide +kernel
theorem d_B_variable_2 : decode prog_1_method_10_code 2 = .ok (.invokevirtual 119, 3) := by decide +kernel
theorem d_B_variable_5 : decode prog_1_method_10_code 5 = .ok (.ifCond .eq 9, 3) := by decide +kernel
theorem d_B_variable_8 : decode prog_1_method_10_code 8 = .ok (.iload_n 2, 1) := by decide +kernel
theorem d_B_variable_9 : decode prog_1_method_10_code 9 = .ok (.bipush (-2), 2) := by decide +kernel
theorem d_B_variable_11 : decode prog_1_method_10_code 11 = .ok (.if_icmp .ge 13, 3) := by decide +kernel
theorem d_B_variable_14 : decode prog_1_method_10_code 14 = .ok (.new 122, 3) := by decide +kernel
theorem d_B_variable_17 : decode prog_1_method_10_code 17 = .ok (.dup, 1) := by decide +kernel
theorem d_B_variable_18 : decode prog_1_method_10_code 18 = .ok (.ldc 151, 2) := by decide +kernel
theorem d_B_variable_20 : decode prog_1_method_10_code 20 = .ok (.invokespecial 126, 3) := by decide +kernel
theorem d_B_variable_23 : decode prog_1_method_10_code 23 = .ok (.athrow, 1) := by decide +kernel
theorem d_B_variable_24 : decode prog_1_method_10_code 24 = .ok (.aload_n 0, 1) := by decide +kernel
theorem d_B_variable_25 : decode prog_1_method_10_code 25 = .ok (.getfield 27, 3) := by decide +kernel
theorem d_B_variable_28 : decode prog_1_method_10_code 28 = .ok (.iload_n 1, 1) := by decide +kernel
theorem d_B_variable_29 : decode prog_1_method_10_code 29 = .ok (.invokevirtual 153, 3) := by decide +kernel
theorem d_B_variable_32 : decode prog_1_method_10_code 32 = .ok (.iload_n 2, 1) := by decide +kernel
theorem d_B_variable_33 : decode prog_1_method_10_code 33 = .ok (.invokevirtual 157, 3) := by decide +kernel
theorem d_B_variable_36 : decode prog_1_method_10_code 36 = .ok (.ireturn, 1) := by decide +kernel
theorem d_NLongNumber_digits_0 : decode prog_5_method_6_code 0 = .ok (.aload_n 0, 1) := by decide +kernel
theorem d_NLongNumber_digits_1 : decode prog_5_method_6_code 1 = .ok (.getfield 13, 3) := by decide +kernel
theorem d_NLongNumber_digits_4 : decode prog_5_method_6_code 4 = .ok (.ifCond .ne 5, 3) := by decide +kernel
theorem d_NLongNumber_digits_7 : decode prog_5_method_6_code 7 = .ok (.iconst 1, 1) := by decide +kernel
theorem d_NLongNumber_digits_8 : decode prog_5_method_6_code 8 = .ok (.ireturn, 1) := by decide +kernel
theorem d_NLongNumber_digits_9 : decode prog_5_method_6_code 9 = .ok (.iconst 1, 1) := by decide +kernel
theorem d_NLongNumber_digits_10 : decode prog_5_method_6_code 10 = .ok (.istore_n 1, 1) := by decide +kernel
theorem d_NLongNumber_digits_11 : decode prog_5_method_6_code 11 = .ok (.iload_n 1, 1) := by decide +kernel
theorem d_NLongNumber_digits_12 : decode prog_5_method_6_code 12 = .ok (.bipush 9, 2) := by decide +kernel
theorem d_NLongNumber_digits_14 : decode prog_5_method_6_code 14 = .ok (.if_icmp .ge 28, 3) := by decide +kernel
theorem d_NLongNumber_digits_17 : decode prog_5_method_6_code 17 = .ok (.aload_n 0, 1) := by decide +kernel
theorem d_NLongNumber_digits_18 : decode prog_5_method_6_code 18 = .ok (.getfield 16, 3) := by decide +kernel
theorem d_NLongNumber_digits_21 : decode prog_5_method_6_code 21 = .ok (.aload_n 0, 1) := by decide +kernel
theorem d_NLongNumber_digits_22 : decode prog_5_method_6_code 22 = .ok (.getfield 13, 3) := by decide +kernel
theorem d_NLongNumber_digits_25 : decode prog_5_method_6_code 25 = .ok (.iconst 1, 1) := by decide +kernel
theorem d_NLongNumber_digits_26 : decode prog_5_method_6_code 26 = .ok (.isub, 1) := by decide +kernel
theorem d_NLongNumber_digits_27 : decode prog_5_method_6_code 27 = .ok (.iaload, 1) := by decide +kernel
theorem d_NLongNumber_digits_28 : decode prog_5_method_6_code 28 = .ok (.getstatic 44, 3) := by decide +kernel
theorem d_NLongNumber_digits_31 : decode prog_5_method_6_code 31 = .ok (.iload_n 1, 1) := by decide +kernel
theorem d_NLongNumber_digits_32 : decode prog_5_method_6_code 32 = .ok (.iaload, 1) := by decide +kernel
theorem d_NLongNumber_digits_33 : decode prog_5_method_6_code 33 = .ok (.if_icmp .lt 9, 3) := by decide +kernel
theorem d_NLongNumber_digits_36 : decode prog_5_method_6_code 36 = .ok (.iinc 1 1, 3) := by decide +kernel
theorem d_NLongNumber_digits_39 : decode prog_5_method_6_code 39 = .ok (.goto (-28), 3) := by decide +kernel
theorem d_NLongNumber_digits_42 : decode prog_5_method_6_code 42 = .ok (.aload_n 0, 1) := by decide +kernel
theorem d_NLongNumber_digits_43 : decode prog_5_method_6_code 43 = .ok (.getfield 13, 3) := by decide +kernel
theorem d_NLongNumber_digits_46 : decode prog_5_method_6_code 46 = .ok (.iconst 1, 1) := by decide +kernel
theorem d_NLongNumber_digits_47 : decode prog_5_method_6_code 47 = .ok (.isub, 1) := by decide +kernel
theorem d_NLongNumber_digits_48 : decode prog_5_method_6_code 48 = .ok (.bipush 9, 2) := by decide +kernel
theorem d_NLongNumber_digits_50 : decode prog_5_method_6_code 50 = .ok (.imul, 1) := by decide +kernel
theorem d_NLongNumber_digits_51 : decode prog_5_method_6_code 51 = .ok (.iload_n 1, 1) := by decide +kernel
theorem d_NLongNumber_digits_52 : decode prog_5_method_6_code 52 = .ok (.iadd, 1) := by decide +kernel
theorem d_NLongNumber_digits_53 : decode prog_5_method_6_code 53 = .ok (.ireturn, 1) := by decide +kernel
theorem d_NLongNumber_tell_0 : decode prog_5_method_5_code 0 = .ok (.iload_n 1, 1) := by decide +kernel
theorem d_NLongNumber_tell_1 : decode prog_5_method_5_code 1 = .ok (.iconst (-1), 1) := by decide +kernel
theorem d_NLongNumber_tell_2 : decode prog_5_method_5_code 2 = .ok (.if_icmp .ne 8, 3) := by decide +kernel
theorem d_NLongNumber_tell_5 : decode prog_5_method_5_code 5 = .ok (.aload_n 0, 1) := by decide +kernel
theorem d_NLongNumber_tell_6 : decode prog_5_method_5_code 6 = .ok (.getfield 7, 3) := by decide +kernel
theorem d_NLongNumber_tell_9 : decode prog_5_method_5_code 9 = .ok (.ireturn, 1) := by decide +kernel
theorem d_NLongNumber_tell_10 : decode prog_5_method_5_code 10 = .ok (.iload_n 1, 1) := by decide +kernel
theorem d_NLongNumber_tell_11 : decode prog_5_method_5_code 11 = .ok (.bipush (-2), 2) := by decide +kernel
theorem d_NLongNumber_tell_13 : decode prog_5_method_5_code 13 = .ok (.if_icmp .ne 8, 3) := by decide +kernel
theorem d_NLongNumber_tell_16 : decode prog_5_method_5_code 16 = .ok (.aload_n 0, 1) := by decide +kernel
theorem d_NLongNumber_tell_17 : decode prog_5_method_5_code 17 = .ok (.invokevirtual 40, 3) := by decide +kernel
theorem d_NLongNumber_tell_20 : decode prog_5_method_5_code 20 = .ok (.ireturn, 1) := by decide +kernel
theorem d_NLongNumber_tell_21 : decode prog_5_method_5_code 21 = .ok (.iload_n 1, 1) := by decide +kernel
theorem d_NLongNumber_tell_22 : decode prog_5_method_5_code 22 = .ok (.ifCond .lt 14, 3) := by decide +kernel
theorem d_NLongNumber_tell_25 : decode prog_5_method_5_code 25 = .ok (.iload_n 1, 1) := by decide +kernel
theorem d_NLongNumber_tell_26 : decode prog_5_method_5_code 26 = .ok (.bipush 9, 2) := by decide +kernel
theorem d_NLongNumber_tell_28 : decode prog_5_method_5_code 28 = .ok (.idiv, 1) := by decide +kernel
theorem d_NLongNumber_tell_29 : decode prog_5_method_5_code 29 = .ok (.aload_n 0, 1) := by decide +kernel
theorem d_NLongNumber_tell_30 : decode prog_5_method_5_code 30 = .ok (.getfield 13, 3) := by decide +kernel
theorem d_NLongNumber_tell_33 : decode prog_5_method_5_code 33 = .ok (.if_icmp .lt 7, 3) := by decide +kernel
theorem d_NLongNumber_tell_36 : decode prog_5_method_5_code 36 = .ok (.iconst 0, 1) := by decide +kernel
theorem d_NLongNumber_tell_37 : decode prog_5_method_5_code 37 = .ok (.goto 24, 3) := by decide +kernel
theorem d_NLongNumber_tell_40 : decode prog_5_method_5_code 40 = .ok (.aload_n 0, 1) := by decide +kernel
theorem d_NLongNumber_tell_41 : decode prog_5_method_5_code 41 = .ok (.getfield 16, 3) := by decide +kernel
theorem d_NLongNumber_tell_44 : decode prog_5_method_5_code 44 = .ok (.iload_n 1, 1) := by decide +kernel
theorem d_NLongNumber_tell_45 : decode prog_5_method_5_code 45 = .ok (.bipush 9, 2) := by decide +kernel
theorem d_NLongNumber_tell_47 : decode prog_5_method_5_code 47 = .ok (.idiv, 1) := by decide +kernel
theorem d_NLongNumber_tell_48 : decode prog_5_method_5_code 48 = .ok (.iaload, 1) := by decide +kernel
theorem d_NLongNumber_tell_49 : decode prog_5_method_5_code 49 = .ok (.getstatic 44, 3) := by decide +kernel
theorem d_NLongNumber_tell_52 : decode prog_5_method_5_code 52 = .ok (.iload_n 1, 1) := by decide +kernel
theorem d_NLongNumber_tell_53 : decode prog_5_method_5_code 53 = .ok (.bipush 9, 2) := by decide +kernel
theorem d_NLongNumber_tell_55 : decode prog_5_method_5_code 55 = .ok (.irem, 1) := by decide +kernel
theorem d_NLongNumber_tell_56 : decode prog_5_method_5_code 56 = .ok (.iaload, 1) := by decide +kernel
theorem d_NLongNumber_tell_57 : decode prog_5_method_5_code 57 = .ok (.idiv, 1) := by decide +kernel
theorem d_NLongNumber_tell_58 : decode prog_5_method_5_code 58 = .ok (.bipush 10, 2) := by decide +kernel
theorem d_NLongNumber_tell_60 : decode prog_5_method_5_code 60 = .ok (.irem, 1) := by decide +kernel
theorem d_NLongNumber_tell_61 : decode prog_5_method_5_code 61 = .ok (.ireturn, 1) := by decide +kernel

