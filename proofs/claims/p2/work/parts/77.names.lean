theorem wd_40 {U : State} (h : TB U) (args : Array Value) : (Cond.selects "BigRunner$LongNumber" ⟨"BigRunner$LongNumber", "digits", "()I"⟩ ⟨"BigRunner$LongNumber", "digits", "()I"⟩).before args U = true := h.w 40 (by decide +kernel) rfl args
theorem wd_93 {U : State} (h : TB U) (args : Array Value) : (Cond.initialized "java/lang/UnsupportedOperationException").before args U = true := h.w 93 (by decide +kernel) rfl args
theorem wd_94 {U : State} (h : TB U) (args : Array Value) : (Cond.initialized "java/lang/IndexOutOfBoundsException").before args U = true := h.w 94 (by decide +kernel) rfl args
theorem wd_128 {U : State} (h : TB U) (args : Array Value) : (Cond.fieldLink "BigRunner" 137 "BigRunner$Interval" "least" "J").before args U = true := h.w 128 (by decide +kernel) rfl args
theorem wd_131 {U : State} (h : TB U) (args : Array Value) : (Cond.fieldLink "BigRunner" 131 "BigRunner$Interval" "greatest" "J").before args U = true := h.w 131 (by decide +kernel) rfl args
theorem wd_340 {U : State} (h : TB U) (args : Array Value) : (Cond.fieldLink "BigRunner" 166 "BigRunner$Runner" "kept" "[LBigRunner$LongNumber;").before args U = true := h.w 340 (by decide +kernel) rfl args
theorem wd_864 {U : State} (h : TB U) (args : Array Value) : (Cond.classLink "BigRunner" 96 "java/lang/UnsupportedOperationException").before args U = true := h.w 864 (by decide +kernel) rfl args
theorem wd_865 {U : State} (h : TB U) (args : Array Value) : (Cond.instantiable "java/lang/UnsupportedOperationException" 6).before args U = true := h.w 865 (by decide +kernel) rfl args
theorem wd_888 {U : State} (h : TB U) (args : Array Value) : (Cond.classLink "BigRunner" 122 "java/lang/IndexOutOfBoundsException").before args U = true := h.w 888 (by decide +kernel) rfl args
theorem wd_889 {U : State} (h : TB U) (args : Array Value) : (Cond.instantiable "java/lang/IndexOutOfBoundsException" 6).before args U = true := h.w 889 (by decide +kernel) rfl args
theorem wd_897 {U : State} (h : TB U) (args : Array Value) : (Cond.stringRef "BigRunner" 124 "no such variable").before args U = true := h.w 897 (by decide +kernel) rfl args
theorem wd_904 {U : State} (h : TB U) (args : Array Value) : (Cond.methodLink "BigRunner" 140 ⟨"BigRunner$Interval", "isUnbounded", "(J)Z"⟩).before args U = true := h.w 904 (by decide +kernel) rfl args
theorem wd_905 {U : State} (h : TB U) (args : Array Value) : (Cond.stringRef "BigRunner" 144 "UNBOUNDED").before args U = true := h.w 905 (by decide +kernel) rfl args
theorem wd_913 {U : State} (h : TB U) (args : Array Value) : (Cond.stringRef "BigRunner" 151 "no such variable or part of it").before args U = true := h.w 913 (by decide +kernel) rfl args
theorem wd_914 {U : State} (h : TB U) (args : Array Value) : (Cond.methodLink "BigRunner" 153 ⟨"BigRunner$Runner", "valueOf", "(I)LBigRunner$LongNumber;"⟩).before args U = true := h.w 914 (by decide +kernel) rfl args
theorem wd_915 {U : State} (h : TB U) (args : Array Value) : (Cond.instanceMethod ⟨"BigRunner$Runner", "valueOf", "(I)LBigRunner$LongNumber;"⟩).before args U = true := h.w 915 (by decide +kernel) rfl args
theorem wd_916 {U : State} (h : TB U) (args : Array Value) : (Cond.selects "BigRunner$Runner" ⟨"BigRunner$Runner", "valueOf", "(I)LBigRunner$LongNumber;"⟩ ⟨"BigRunner$Runner", "valueOf", "(I)LBigRunner$LongNumber;"⟩).before args U = true := h.w 916 (by decide +kernel) rfl args
theorem wd_917 {U : State} (h : TB U) (args : Array Value) : (Cond.code ⟨"BigRunner$Runner", "valueOf", "(I)LBigRunner$LongNumber;"⟩ prog_9_method_6_code 2 (some (.object "BigRunner$LongNumber"))).before args U = true := h.w 917 (by decide +kernel) rfl args
theorem wd_918 {U : State} (h : TB U) (args : Array Value) : (Cond.methodLink "BigRunner" 157 ⟨"BigRunner$LongNumber", "tell", "(I)I"⟩).before args U = true := h.w 918 (by decide +kernel) rfl args
theorem wd_919 {U : State} (h : TB U) (args : Array Value) : (Cond.instanceMethod ⟨"BigRunner$LongNumber", "tell", "(I)I"⟩).before args U = true := h.w 919 (by decide +kernel) rfl args
theorem wd_920 {U : State} (h : TB U) (args : Array Value) : (Cond.selects "BigRunner$LongNumber" ⟨"BigRunner$LongNumber", "tell", "(I)I"⟩ ⟨"BigRunner$LongNumber", "tell", "(I)I"⟩).before args U = true := h.w 920 (by decide +kernel) rfl args
theorem wd_921 {U : State} (h : TB U) (args : Array Value) : (Cond.code ⟨"BigRunner$LongNumber", "tell", "(I)I"⟩ prog_5_method_5_code 2 (some .int)).before args U = true := h.w 921 (by decide +kernel) rfl args
theorem wd_922 {U : State} (h : TB U) (args : Array Value) : (Cond.methodLink "BigRunner$LongNumber" 40 ⟨"BigRunner$LongNumber", "digits", "()I"⟩).before args U = true := h.w 922 (by decide +kernel) rfl args
theorem wd_924 {U : State} (h : TB U) (args : Array Value) : (Cond.instanceMethod ⟨"BigRunner$LongNumber", "digits", "()I"⟩).before args U = true := h.w 924 (by decide +kernel) rfl args
theorem wd_925 {U : State} (h : TB U) (args : Array Value) : (Cond.code ⟨"BigRunner$LongNumber", "digits", "()I"⟩ prog_5_method_6_code 2 (some .int)).before args U = true := h.w 925 (by decide +kernel) rfl args
theorem wd_926 {U : State} (h : TB U) (args : Array Value) : (Cond.fieldLink "BigRunner$LongNumber" 44 "BigRunner$LongNumber" "POWERS" "[I").before args U = true := h.w 926 (by decide +kernel) rfl args
theorem wd_935 {U : State} (h : TB U) (args : Array Value) : (Cond.methodLink "BigRunner" 161 ⟨"BigRunner$Runner", "keptOutputs", "()I"⟩).before args U = true := h.w 935 (by decide +kernel) rfl args
theorem wd_936 {U : State} (h : TB U) (args : Array Value) : (Cond.instanceMethod ⟨"BigRunner$Runner", "keptOutputs", "()I"⟩).before args U = true := h.w 936 (by decide +kernel) rfl args
theorem wd_937 {U : State} (h : TB U) (args : Array Value) : (Cond.selects "BigRunner$Runner" ⟨"BigRunner$Runner", "keptOutputs", "()I"⟩ ⟨"BigRunner$Runner", "keptOutputs", "()I"⟩).before args U = true := h.w 937 (by decide +kernel) rfl args
theorem wd_938 {U : State} (h : TB U) (args : Array Value) : (Cond.code ⟨"BigRunner$Runner", "keptOutputs", "()I"⟩ prog_9_method_5_code 1 (some .int)).before args U = true := h.w 938 (by decide +kernel) rfl args
theorem wd_940 {U : State} (h : TB U) (args : Array Value) : (Cond.stringRef "BigRunner" 164 "no such output or part of it").before args U = true := h.w 940 (by decide +kernel) rfl args
theorem d_B_bound_0 : decode prog_1_method_8_code 0 = .ok (.aload_n 0, 1) := by decide +kernel
theorem d_B_bound_1 : decode prog_1_method_8_code 1 = .ok (.iload_n 1, 1) := by decide +kernel
theorem d_B_bound_2 : decode prog_1_method_8_code 2 = .ok (.invokevirtual 119, 3) := by decide +kernel
theorem d_B_bound_5 : decode prog_1_method_8_code 5 = .ok (.ifCond .ne 13, 3) := by decide +kernel
theorem d_B_bound_8 : decode prog_1_method_8_code 8 = .ok (.new 122, 3) := by decide +kernel
theorem d_B_bound_11 : decode prog_1_method_8_code 11 = .ok (.dup, 1) := by decide +kernel
theorem d_B_bound_12 : decode prog_1_method_8_code 12 = .ok (.ldc 124, 2) := by decide +kernel
theorem d_B_bound_14 : decode prog_1_method_8_code 14 = .ok (.invokespecial 126, 3) := by decide +kernel
theorem d_B_bound_17 : decode prog_1_method_8_code 17 = .ok (.athrow, 1) := by decide +kernel
theorem d_B_bound_18 : decode prog_1_method_8_code 18 = .ok (.aload_n 0, 1) := by decide +kernel
theorem d_B_bound_19 : decode prog_1_method_8_code 19 = .ok (.getfield 27, 3) := by decide +kernel
theorem d_B_bound_22 : decode prog_1_method_8_code 22 = .ok (.getfield 50, 3) := by decide +kernel
theorem d_B_bound_25 : decode prog_1_method_8_code 25 = .ok (.getfield 127, 3) := by decide +kernel
theorem d_B_bound_28 : decode prog_1_method_8_code 28 = .ok (.iload_n 1, 1) := by decide +kernel
theorem d_B_bound_29 : decode prog_1_method_8_code 29 = .ok (.aaload, 1) := by decide +kernel
theorem d_B_bound_30 : decode prog_1_method_8_code 30 = .ok (.astore_n 3, 1) := by decide +kernel
theorem d_B_bound_31 : decode prog_1_method_8_code 31 = .ok (.iload_n 2, 1) := by decide +kernel
theorem d_B_bound_32 : decode prog_1_method_8_code 32 = .ok (.ifCond .eq 10, 3) := by decide +kernel
theorem d_B_bound_35 : decode prog_1_method_8_code 35 = .ok (.aload_n 3, 1) := by decide +kernel
theorem d_B_bound_36 : decode prog_1_method_8_code 36 = .ok (.getfield 131, 3) := by decide +kernel
theorem d_B_bound_39 : decode prog_1_method_8_code 39 = .ok (.goto 7, 3) := by decide +kernel
theorem d_B_bound_42 : decode prog_1_method_8_code 42 = .ok (.aload_n 3, 1) := by decide +kernel
theorem d_B_bound_43 : decode prog_1_method_8_code 43 = .ok (.getfield 137, 3) := by decide +kernel
theorem d_B_bound_46 : decode prog_1_method_8_code 46 = .ok (.lstore 4, 2) := by decide +kernel
theorem d_B_bound_48 : decode prog_1_method_8_code 48 = .ok (.lload 4, 2) := by decide +kernel
theorem d_B_bound_50 : decode prog_1_method_8_code 50 = .ok (.invokestatic 140, 3) := by decide +kernel
theorem d_B_bound_53 : decode prog_1_method_8_code 53 = .ok (.ifCond .eq 13, 3) := by decide +kernel
theorem d_B_bound_56 : decode prog_1_method_8_code 56 = .ok (.new 96, 3) := by decide +kernel
theorem d_B_bound_59 : decode prog_1_method_8_code 59 = .ok (.dup, 1) := by decide +kernel
theorem d_B_bound_60 : decode prog_1_method_8_code 60 = .ok (.ldc 144, 2) := by decide +kernel
theorem d_B_bound_62 : decode prog_1_method_8_code 62 = .ok (.invokespecial 100, 3) := by decide +kernel
theorem d_B_bound_65 : decode prog_1_method_8_code 65 = .ok (.athrow, 1) := by decide +kernel
theorem d_B_bound_66 : decode prog_1_method_8_code 66 = .ok (.lload 4, 2) := by decide +kernel
theorem d_B_bound_68 : decode prog_1_method_8_code 68 = .ok (.lreturn, 1) := by decide +kernel
theorem d_B_output_0 : decode prog_1_method_11_code 0 = .ok (.iload_n 1, 1) := by decide +kernel
theorem d_B_output_1 : decode prog_1_method_11_code 1 = .ok (.ifCond .lt 20, 3) := by decide +kernel
theorem d_B_output_4 : decode prog_1_method_11_code 4 = .ok (.iload_n 1, 1) := by decide +kernel
theorem d_B_output_5 : decode prog_1_method_11_code 5 = .ok (.aload_n 0, 1) := by decide +kernel
theorem d_B_output_6 : decode prog_1_method_11_code 6 = .ok (.getfield 27, 3) := by decide +kernel
theorem d_B_output_9 : decode prog_1_method_11_code 9 = .ok (.invokevirtual 161, 3) := by decide +kernel
theorem d_B_output_12 : decode prog_1_method_11_code 12 = .ok (.if_icmp .ge 9, 3) := by decide +kernel
theorem d_B_output_15 : decode prog_1_method_11_code 15 = .ok (.iload_n 2, 1) := by decide +kernel
theorem d_B_output_16 : decode prog_1_method_11_code 16 = .ok (.bipush (-2), 2) := by decide +kernel
theorem d_B_output_18 : decode prog_1_method_11_code 18 = .ok (.if_icmp .ge 13, 3) := by decide +kernel
theorem d_B_output_21 : decode prog_1_method_11_code 21 = .ok (.new 122, 3) := by decide +kernel
theorem d_B_output_24 : decode prog_1_method_11_code 24 = .ok (.dup, 1) := by decide +kernel
theorem d_B_output_25 : decode prog_1_method_11_code 25 = .ok (.ldc 164, 2) := by decide +kernel
theorem d_B_output_27 : decode prog_1_method_11_code 27 = .ok (.invokespecial 126, 3) := by decide +kernel
theorem d_B_output_30 : decode prog_1_method_11_code 30 = .ok (.athrow, 1) := by decide +kernel
theorem d_B_output_31 : decode prog_1_method_11_code 31 = .ok (.aload_n 0, 1) := by decide +kernel
theorem d_B_output_32 : decode prog_1_method_11_code 32 = .ok (.getfield 27, 3) := by decide +kernel
theorem d_B_output_35 : decode prog_1_method_11_code 35 = .ok (.getfield 166, 3) := by decide +kernel
theorem d_B_output_38 : decode prog_1_method_11_code 38 = .ok (.iload_n 1, 1) := by decide +kernel
theorem d_B_output_39 : decode prog_1_method_11_code 39 = .ok (.aaload, 1) := by decide +kernel
theorem d_B_output_40 : decode prog_1_method_11_code 40 = .ok (.iload_n 2, 1) := by decide +kernel
theorem d_B_output_41 : decode prog_1_method_11_code 41 = .ok (.invokevirtual 157, 3) := by decide +kernel
theorem d_B_output_44 : decode prog_1_method_11_code 44 = .ok (.ireturn, 1) := by decide +kernel
theorem d_B_variable_0 : decode prog_1_method_10_code 0 = .ok (.aload_n 0, 1) := by decide +kernel
theorem d_B_variable_1 : decode prog_1_method_10_code 1 = .ok (.iload_n 1, 1) := by decide +kernel
theorem d_B_variable_2 : decode prog_1_method_10_code 2 = .ok (.invokevirtual 119, 3) := by decide +kernel
theorem d_B_variable_5 : decode prog_1_method_10_code 5 = .ok (.ifCond .eq 9, 3) := by decide +kernel
theorem d_B_variable_8 : decode prog_1_method_10_code 8 = .ok (.iload_n 2, 1) := by decide +kernel
theorem d_B_variable_9 : decode prog_1_method_10_code 9 = .ok (.bipush (-2), 2) := by decide +kernel
theorem d_B_variable_11 : decode prog_1_method_10_code 11 = .ok (.if_icmp .ge 13, 3) := by decide +kernel
theorem d_B_variable_14 : decode prog_1_method_10_code 14 = .ok (.new 122, 3) := by decide +kernel
theorem d_B_variable_17 : decode prog_1_method_10_code 17 = .ok (.dup, 1) := by decide +kernel
theorem d_B_variable_18 : decode prog_1_method_10_code 18 = .ok (.ldc 151, 2) := by decide +kernel
theorem d_B_variable_20 : decode prog_1_method_10_code 20 = .ok (.invokespecial 126, 3) := by decide +kernel
theorem d_B_variable_23 : decode prog_1_method_10_code 23 = .ok (.athrow, 1) := by decide +kernel
theorem d_B_variable_24 : decode prog_1_method_10_code 24 = .ok (.aload_n 0, 1) := by decide +kernel
theorem d_B_variable_25 : decode prog_1_method_10_code 25 = .ok (.getfield 27, 3) := by decide +kernel
theorem d_B_variable_28 : decode prog_1_method_10_code 28 = .ok (.iload_n 1, 1) := by decide +kernel
theorem d_B_variable_29 : decode prog_1_method_10_code 29 = .ok (.invokevirtual 153, 3) := by decide +kernel
theorem d_B_variable_32 : decode prog_1_method_10_code 32 = .ok (.iload_n 2, 1) := by decide +kernel
theorem d_B_variable_33 : decode prog_1_method_10_code 33 = .ok (.invokevirtual 157, 3) := by decide +kernel
theorem d_B_variable_36 : decode prog_1_method_10_code 36 = .ok (.ireturn, 1) := by decide +kernel
theorem d_NLongNumber_digits_0 : decode prog_5_method_6_code 0 = .ok (.aload_n 0, 1) := by decide +kernel
theorem d_NLongNumber_digits_1 : decode prog_5_method_6_code 1 = .ok (.getfield 13, 3) := by decide +kernel
theorem d_NLongNumber_digits_4 : decode prog_5_method_6_code 4 = .ok (.ifCond .ne 5, 3) := by decide +kernel
theorem d_NLongNumber_digits_7 : decode prog_5_method_6_code 7 = .ok (.iconst 1, 1) := by decide +kernel
theorem d_NLongNumber_digits_8 : decode prog_5_method_6_code 8 = .ok (.ireturn, 1) := by decide +kernel
theorem d_NLongNumber_digits_9 : decode prog_5_method_6_code 9 = .ok (.iconst 1, 1) := by decide +kernel
theorem d_NLongNumber_digits_10 : decode prog_5_method_6_code 10 = .ok (.istore_n 1, 1) := by decide +kernel
theorem d_NLongNumber_digits_11 : decode prog_5_method_6_code 11 = .ok (.iload_n 1, 1) := by decide +kernel
theorem d_NLongNumber_digits_12 : decode prog_5_method_6_code 12 = .ok (.bipush 9, 2) := by decide +kernel
theorem d_NLongNumber_digits_14 : decode prog_5_method_6_code 14 = .ok (.if_icmp .ge 28, 3) := by decide +kernel
theorem d_NLongNumber_digits_17 : decode prog_5_method_6_code 17 = .ok (.aload_n 0, 1) := by decide +kernel
theorem d_NLongNumber_digits_18 : decode prog_5_method_6_code 18 = .ok (.getfield 16, 3) := by decide +kernel
theorem d_NLongNumber_digits_21 : decode prog_5_method_6_code 21 = .ok (.aload_n 0, 1) := by decide +kernel
theorem d_NLongNumber_digits_22 : decode prog_5_method_6_code 22 = .ok (.getfield 13, 3) := by decide +kernel
theorem d_NLongNumber_digits_25 : decode prog_5_method_6_code 25 = .ok (.iconst 1, 1) := by decide +kernel
theorem d_NLongNumber_digits_26 : decode prog_5_method_6_code 26 = .ok (.isub, 1) := by decide +kernel
theorem d_NLongNumber_digits_27 : decode prog_5_method_6_code 27 = .ok (.iaload, 1) := by decide +kernel
theorem d_NLongNumber_digits_28 : decode prog_5_method_6_code 28 = .ok (.getstatic 44, 3) := by decide +kernel
theorem d_NLongNumber_digits_31 : decode prog_5_method_6_code 31 = .ok (.iload_n 1, 1) := by decide +kernel
theorem d_NLongNumber_digits_32 : decode prog_5_method_6_code 32 = .ok (.iaload, 1) := by decide +kernel
theorem d_NLongNumber_digits_33 : decode prog_5_method_6_code 33 = .ok (.if_icmp .lt 9, 3) := by decide +kernel
theorem d_NLongNumber_digits_36 : decode prog_5_method_6_code 36 = .ok (.iinc 1 1, 3) := by decide +kernel
theorem d_NLongNumber_digits_39 : decode prog_5_method_6_code 39 = .ok (.goto (-28), 3) := by decide +kernel
theorem d_NLongNumber_digits_42 : decode prog_5_method_6_code 42 = .ok (.aload_n 0, 1) := by decide +kernel
theorem d_NLongNumber_digits_43 : decode prog_5_method_6_code 43 = .ok (.getfield 13, 3) := by decide +kernel
theorem d_NLongNumber_digits_46 : decode prog_5_method_6_code 46 = .ok (.iconst 1, 1) := by decide +kernel
theorem d_NLongNumber_digits_47 : decode prog_5_method_6_code 47 = .ok (.isub, 1) := by decide +kernel
theorem d_NLongNumber_digits_48 : decode prog_5_method_6_code 48 = .ok (.bipush 9, 2) := by decide +kernel
theorem d_NLongNumber_digits_50 : decode prog_5_method_6_code 50 = .ok (.imul, 1) := by decide +kernel
theorem d_NLongNumber_digits_51 : decode prog_5_method_6_code 51 = .ok (.iload_n 1, 1) := by decide +kernel
theorem d_NLongNumber_digits_52 : decode prog_5_method_6_code 52 = .ok (.iadd, 1) := by decide +kernel
theorem d_NLongNumber_digits_53 : decode prog_5_method_6_code 53 = .ok (.ireturn, 1) := by decide +kernel
theorem d_NLongNumber_tell_0 : decode prog_5_method_5_code 0 = .ok (.iload_n 1, 1) := by decide +kernel
theorem d_NLongNumber_tell_1 : decode prog_5_method_5_code 1 = .ok (.iconst (-1), 1) := by decide +kernel
theorem d_NLongNumber_tell_2 : decode prog_5_method_5_code 2 = .ok (.if_icmp .ne 8, 3) := by decide +kernel
theorem d_NLongNumber_tell_5 : decode prog_5_method_5_code 5 = .ok (.aload_n 0, 1) := by decide +kernel
theorem d_NLongNumber_tell_6 : decode prog_5_method_5_code 6 = .ok (.getfield 7, 3) := by decide +kernel
theorem d_NLongNumber_tell_9 : decode prog_5_method_5_code 9 = .ok (.ireturn, 1) := by decide +kernel
theorem d_NLongNumber_tell_10 : decode prog_5_method_5_code 10 = .ok (.iload_n 1, 1) := by decide +kernel
theorem d_NLongNumber_tell_11 : decode prog_5_method_5_code 11 = .ok (.bipush (-2), 2) := by decide +kernel
theorem d_NLongNumber_tell_13 : decode prog_5_method_5_code 13 = .ok (.if_icmp .ne 8, 3) := by decide +kernel
theorem d_NLongNumber_tell_16 : decode prog_5_method_5_code 16 = .ok (.aload_n 0, 1) := by decide +kernel
theorem d_NLongNumber_tell_17 : decode prog_5_method_5_code 17 = .ok (.invokevirtual 40, 3) := by decide +kernel
theorem d_NLongNumber_tell_20 : decode prog_5_method_5_code 20 = .ok (.ireturn, 1) := by decide +kernel
theorem d_NLongNumber_tell_21 : decode prog_5_method_5_code 21 = .ok (.iload_n 1, 1) := by decide +kernel
theorem d_NLongNumber_tell_22 : decode prog_5_method_5_code 22 = .ok (.ifCond .lt 14, 3) := by decide +kernel
theorem d_NLongNumber_tell_25 : decode prog_5_method_5_code 25 = .ok (.iload_n 1, 1) := by decide +kernel
theorem d_NLongNumber_tell_26 : decode prog_5_method_5_code 26 = .ok (.bipush 9, 2) := by decide +kernel
theorem d_NLongNumber_tell_28 : decode prog_5_method_5_code 28 = .ok (.idiv, 1) := by decide +kernel
theorem d_NLongNumber_tell_29 : decode prog_5_method_5_code 29 = .ok (.aload_n 0, 1) := by decide +kernel
theorem d_NLongNumber_tell_30 : decode prog_5_method_5_code 30 = .ok (.getfield 13, 3) := by decide +kernel
theorem d_NLongNumber_tell_33 : decode prog_5_method_5_code 33 = .ok (.if_icmp .lt 7, 3) := by decide +kernel
theorem d_NLongNumber_tell_36 : decode prog_5_method_5_code 36 = .ok (.iconst 0, 1) := by decide +kernel
theorem d_NLongNumber_tell_37 : decode prog_5_method_5_code 37 = .ok (.goto 24, 3) := by decide +kernel
theorem d_NLongNumber_tell_40 : decode prog_5_method_5_code 40 = .ok (.aload_n 0, 1) := by decide +kernel
theorem d_NLongNumber_tell_41 : decode prog_5_method_5_code 41 = .ok (.getfield 16, 3) := by decide +kernel
theorem d_NLongNumber_tell_44 : decode prog_5_method_5_code 44 = .ok (.iload_n 1, 1) := by decide +kernel
theorem d_NLongNumber_tell_45 : decode prog_5_method_5_code 45 = .ok (.bipush 9, 2) := by decide +kernel
theorem d_NLongNumber_tell_47 : decode prog_5_method_5_code 47 = .ok (.idiv, 1) := by decide +kernel
theorem d_NLongNumber_tell_48 : decode prog_5_method_5_code 48 = .ok (.iaload, 1) := by decide +kernel
theorem d_NLongNumber_tell_49 : decode prog_5_method_5_code 49 = .ok (.getstatic 44, 3) := by decide +kernel
theorem d_NLongNumber_tell_52 : decode prog_5_method_5_code 52 = .ok (.iload_n 1, 1) := by decide +kernel
theorem d_NLongNumber_tell_53 : decode prog_5_method_5_code 53 = .ok (.bipush 9, 2) := by decide +kernel
theorem d_NLongNumber_tell_55 : decode prog_5_method_5_code 55 = .ok (.irem, 1) := by decide +kernel
theorem d_NLongNumber_tell_56 : decode prog_5_method_5_code 56 = .ok (.iaload, 1) := by decide +kernel
theorem d_NLongNumber_tell_57 : decode prog_5_method_5_code 57 = .ok (.idiv, 1) := by decide +kernel
theorem d_NLongNumber_tell_58 : decode prog_5_method_5_code 58 = .ok (.bipush 10, 2) := by decide +kernel
theorem d_NLongNumber_tell_60 : decode prog_5_method_5_code 60 = .ok (.irem, 1) := by decide +kernel
theorem d_NLongNumber_tell_61 : decode prog_5_method_5_code 61 = .ok (.ireturn, 1) := by decide +kernel
