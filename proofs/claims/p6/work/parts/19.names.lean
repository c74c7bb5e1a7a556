theorem wd_34 {U : State} (h : TB U) (args : Array Value) : (Cond.selects "BigRunner$LongDivision" ⟨"BigRunner$LongDivision", "guess", "(I)J"⟩ ⟨"BigRunner$LongDivision", "guess", "(I)J"⟩).before args U = true := h.w 34 (by decide +kernel) rfl args
theorem wd_35 {U : State} (h : TB U) (args : Array Value) : (Cond.selects "BigRunner$LongDivision" ⟨"BigRunner$LongDivision", "takeAway", "(JI)I"⟩ ⟨"BigRunner$LongDivision", "takeAway", "(JI)I"⟩).before args U = true := h.w 35 (by decide +kernel) rfl args
theorem wd_36 {U : State} (h : TB U) (args : Array Value) : (Cond.selects "BigRunner$LongDivision" ⟨"BigRunner$LongDivision", "putBack", "(I)V"⟩ ⟨"BigRunner$LongDivision", "putBack", "(I)V"⟩).before args U = true := h.w 36 (by decide +kernel) rfl args
theorem wd_37 {U : State} (h : TB U) (args : Array Value) : (Cond.selects "BigRunner$LongDivision" ⟨"BigRunner$LongDivision", "reduce", "(ILBigRunner$LongNumber;)V"⟩ ⟨"BigRunner$LongDivision", "reduce", "(ILBigRunner$LongNumber;)V"⟩).before args U = true := h.w 37 (by decide +kernel) rfl args
theorem wd_81 {U : State} (h : TB U) (args : Array Value) : (Cond.initialized "BigRunner$LongDivision").before args U = true := h.w 81 (by decide +kernel) rfl args
theorem wd_187 {U : State} (h : TB U) (args : Array Value) : (Cond.fieldLink "BigRunner$LongDivision" 23 "BigRunner$LongNumber" "sign" "I").before args U = true := h.w 187 (by decide +kernel) rfl args
theorem wd_191 {U : State} (h : TB U) (args : Array Value) : (Cond.fieldLink "BigRunner$LongDivision" 22 "BigRunner$LongNumber" "size" "I").before args U = true := h.w 191 (by decide +kernel) rfl args
theorem wd_193 {U : State} (h : TB U) (args : Array Value) : (Cond.fieldLink "BigRunner$LongDivision" 35 "BigRunner$LongNumber" "limbs" "[I").before args U = true := h.w 193 (by decide +kernel) rfl args
theorem wd_319 {U : State} (h : TB U) (args : Array Value) : (Cond.fieldLink "BigRunner$LongDivision" 9 "BigRunner$LongDivision" "dividend" "[I").before args U = true := h.w 319 (by decide +kernel) rfl args
theorem wd_320 {U : State} (h : TB U) (args : Array Value) : (Cond.fieldLink "BigRunner$LongDivision" 15 "BigRunner$LongDivision" "divisor" "[I").before args U = true := h.w 320 (by decide +kernel) rfl args
theorem wd_321 {U : State} (h : TB U) (args : Array Value) : (Cond.fieldLink "BigRunner$LongDivision" 18 "BigRunner$LongDivision" "size" "I").before args U = true := h.w 321 (by decide +kernel) rfl args
theorem wd_807 {U : State} (h : TB U) (args : Array Value) : (Cond.methodLink "BigRunner$LongDivision" 26 ⟨"BigRunner$LongNumber", "copy", "(LBigRunner$LongNumber;I)V"⟩).before args U = true := h.w 807 (by decide +kernel) rfl args
theorem wd_808 {U : State} (h : TB U) (args : Array Value) : (Cond.methodLink "BigRunner$LongDivision" 30 ⟨"BigRunner$LongNumber", "setTo", "(J)V"⟩).before args U = true := h.w 808 (by decide +kernel) rfl args
theorem wd_809 {U : State} (h : TB U) (args : Array Value) : (Cond.constant "BigRunner$LongDivision" 34 1000000000).before args U = true := h.w 809 (by decide +kernel) rfl args
theorem wd_810 {U : State} (h : TB U) (args : Array Value) : (Cond.methodLink "BigRunner$LongDivision" 38 ⟨"BigRunner$LongDivision", "enlarge", "(LBigRunner$LongNumber;I[I)V"⟩).before args U = true := h.w 810 (by decide +kernel) rfl args
theorem wd_811 {U : State} (h : TB U) (args : Array Value) : (Cond.static ⟨"BigRunner$LongDivision", "enlarge", "(LBigRunner$LongNumber;I[I)V"⟩).before args U = true := h.w 811 (by decide +kernel) rfl args
theorem wd_812 {U : State} (h : TB U) (args : Array Value) : (Cond.code ⟨"BigRunner$LongDivision", "enlarge", "(LBigRunner$LongNumber;I[I)V"⟩ prog_4_method_3_code 6 none).before args U = true := h.w 812 (by decide +kernel) rfl args
theorem wd_813 {U : State} (h : TB U) (args : Array Value) : (Cond.constantLong "BigRunner$LongDivision" 58 1000000000).before args U = true := h.w 813 (by decide +kernel) rfl args
theorem wd_814 {U : State} (h : TB U) (args : Array Value) : (Cond.methodLink "BigRunner$LongDivision" 42 ⟨"BigRunner$LongDivision", "guess", "(I)J"⟩).before args U = true := h.w 814 (by decide +kernel) rfl args
theorem wd_816 {U : State} (h : TB U) (args : Array Value) : (Cond.instanceMethod ⟨"BigRunner$LongDivision", "guess", "(I)J"⟩).before args U = true := h.w 816 (by decide +kernel) rfl args
theorem wd_817 {U : State} (h : TB U) (args : Array Value) : (Cond.code ⟨"BigRunner$LongDivision", "guess", "(I)J"⟩ prog_4_method_5_code 15 (some .long)).before args U = true := h.w 817 (by decide +kernel) rfl args
theorem wd_818 {U : State} (h : TB U) (args : Array Value) : (Cond.methodLink "BigRunner$LongDivision" 46 ⟨"BigRunner$LongDivision", "takeAway", "(JI)I"⟩).before args U = true := h.w 818 (by decide +kernel) rfl args
theorem wd_820 {U : State} (h : TB U) (args : Array Value) : (Cond.instanceMethod ⟨"BigRunner$LongDivision", "takeAway", "(JI)I"⟩).before args U = true := h.w 820 (by decide +kernel) rfl args
theorem wd_821 {U : State} (h : TB U) (args : Array Value) : (Cond.code ⟨"BigRunner$LongDivision", "takeAway", "(JI)I"⟩ prog_4_method_6_code 8 (some .int)).before args U = true := h.w 821 (by decide +kernel) rfl args
theorem wd_822 {U : State} (h : TB U) (args : Array Value) : (Cond.methodLink "BigRunner$LongDivision" 60 ⟨"BigRunner$LongDivision", "putBack", "(I)V"⟩).before args U = true := h.w 822 (by decide +kernel) rfl args
theorem wd_824 {U : State} (h : TB U) (args : Array Value) : (Cond.instanceMethod ⟨"BigRunner$LongDivision", "putBack", "(I)V"⟩).before args U = true := h.w 824 (by decide +kernel) rfl args
theorem wd_825 {U : State} (h : TB U) (args : Array Value) : (Cond.code ⟨"BigRunner$LongDivision", "putBack", "(I)V"⟩ prog_4_method_7_code 5 none).before args U = true := h.w 825 (by decide +kernel) rfl args
theorem wd_826 {U : State} (h : TB U) (args : Array Value) : (Cond.methodLink "BigRunner$LongDivision" 50 ⟨"BigRunner$LongDivision", "reduce", "(ILBigRunner$LongNumber;)V"⟩).before args U = true := h.w 826 (by decide +kernel) rfl args
theorem wd_828 {U : State} (h : TB U) (args : Array Value) : (Cond.instanceMethod ⟨"BigRunner$LongDivision", "reduce", "(ILBigRunner$LongNumber;)V"⟩).before args U = true := h.w 828 (by decide +kernel) rfl args
theorem wd_829 {U : State} (h : TB U) (args : Array Value) : (Cond.code ⟨"BigRunner$LongDivision", "reduce", "(ILBigRunner$LongNumber;)V"⟩ prog_4_method_4_code 6 none).before args U = true := h.w 829 (by decide +kernel) rfl args
theorem wd_830 {U : State} (h : TB U) (args : Array Value) : (Cond.methodLink "BigRunner$LongDivision" 54 ⟨"BigRunner$LongNumber", "finish", "(II)V"⟩).before args U = true := h.w 830 (by decide +kernel) rfl args
theorem d_NLongDivision_divide_0 : decode prog_4_method_2_code 0 = .ok (.aload_n 0, 1) := by decide +kernel
theorem d_NLongDivision_divide_1 : decode prog_4_method_2_code 1 = .ok (.aload_n 2, 1) := by decide +kernel
theorem d_NLongDivision_divide_2 : decode prog_4_method_2_code 2 = .ok (.getfield 22, 3) := by decide +kernel
theorem d_NLongDivision_divide_5 : decode prog_4_method_2_code 5 = .ok (.putfield 18, 3) := by decide +kernel
theorem d_NLongDivision_divide_8 : decode prog_4_method_2_code 8 = .ok (.aload_n 0, 1) := by decide +kernel
theorem d_NLongDivision_divide_9 : decode prog_4_method_2_code 9 = .ok (.getfield 18, 3) := by decide +kernel
theorem d_NLongDivision_divide_12 : decode prog_4_method_2_code 12 = .ok (.ifCond .eq 14, 3) := by decide +kernel
theorem d_NLongDivision_divide_15 : decode prog_4_method_2_code 15 = .ok (.aload_n 1, 1) := by decide +kernel
theorem d_NLongDivision_divide_16 : decode prog_4_method_2_code 16 = .ok (.getfield 22, 3) := by decide +kernel
theorem d_NLongDivision_divide_19 : decode prog_4_method_2_code 19 = .ok (.aload_n 0, 1) := by decide +kernel
theorem d_NLongDivision_divide_20 : decode prog_4_method_2_code 20 = .ok (.getfield 18, 3) := by decide +kernel
theorem d_NLongDivision_divide_23 : decode prog_4_method_2_code 23 = .ok (.if_icmp .ge 23, 3) := by decide +kernel
theorem d_NLongDivision_divide_26 : decode prog_4_method_2_code 26 = .ok (.aload_n 3, 1) := by decide +kernel
theorem d_NLongDivision_divide_27 : decode prog_4_method_2_code 27 = .ok (.aload_n 1, 1) := by decide +kernel
theorem d_NLongDivision_divide_28 : decode prog_4_method_2_code 28 = .ok (.aload_n 1, 1) := by decide +kernel
theorem d_NLongDivision_divide_29 : decode prog_4_method_2_code 29 = .ok (.getfield 23, 3) := by decide +kernel
theorem d_NLongDivision_divide_32 : decode prog_4_method_2_code 32 = .ok (.invokevirtual 26, 3) := by decide +kernel
theorem d_NLongDivision_divide_35 : decode prog_4_method_2_code 35 = .ok (.iload 4, 2) := by decide +kernel
theorem d_NLongDivision_divide_37 : decode prog_4_method_2_code 37 = .ok (.ifCond .ne 8, 3) := by decide +kernel
theorem d_NLongDivision_divide_40 : decode prog_4_method_2_code 40 = .ok (.aload_n 3, 1) := by decide +kernel
theorem d_NLongDivision_divide_41 : decode prog_4_method_2_code 41 = .ok (.lconst 0, 1) := by decide +kernel
theorem d_NLongDivision_divide_42 : decode prog_4_method_2_code 42 = .ok (.invokevirtual 30, 3) := by decide +kernel
theorem d_NLongDivision_divide_45 : decode prog_4_method_2_code 45 = .ok (.return_, 1) := by decide +kernel
theorem d_NLongDivision_divide_46 : decode prog_4_method_2_code 46 = .ok (.ldc 34, 2) := by decide +kernel
theorem d_NLongDivision_divide_48 : decode prog_4_method_2_code 48 = .ok (.aload_n 2, 1) := by decide +kernel
theorem d_NLongDivision_divide_49 : decode prog_4_method_2_code 49 = .ok (.getfield 35, 3) := by decide +kernel
theorem d_NLongDivision_divide_52 : decode prog_4_method_2_code 52 = .ok (.aload_n 0, 1) := by decide +kernel
theorem d_NLongDivision_divide_53 : decode prog_4_method_2_code 53 = .ok (.getfield 18, 3) := by decide +kernel
theorem d_NLongDivision_divide_56 : decode prog_4_method_2_code 56 = .ok (.iconst 1, 1) := by decide +kernel
theorem d_NLongDivision_divide_57 : decode prog_4_method_2_code 57 = .ok (.isub, 1) := by decide +kernel
theorem d_NLongDivision_divide_58 : decode prog_4_method_2_code 58 = .ok (.iaload, 1) := by decide +kernel
theorem d_NLongDivision_divide_59 : decode prog_4_method_2_code 59 = .ok (.iconst 1, 1) := by decide +kernel
theorem d_NLongDivision_divide_60 : decode prog_4_method_2_code 60 = .ok (.iadd, 1) := by decide +kernel
theorem d_NLongDivision_divide_61 : decode prog_4_method_2_code 61 = .ok (.idiv, 1) := by decide +kernel
theorem d_NLongDivision_divide_62 : decode prog_4_method_2_code 62 = .ok (.istore 5, 2) := by decide +kernel
theorem d_NLongDivision_divide_64 : decode prog_4_method_2_code 64 = .ok (.aload_n 1, 1) := by decide +kernel
theorem d_NLongDivision_divide_65 : decode prog_4_method_2_code 65 = .ok (.iload 5, 2) := by decide +kernel
theorem d_NLongDivision_divide_67 : decode prog_4_method_2_code 67 = .ok (.aload_n 0, 1) := by decide +kernel
theorem d_NLongDivision_divide_68 : decode prog_4_method_2_code 68 = .ok (.getfield 9, 3) := by decide +kernel
theorem d_NLongDivision_divide_71 : decode prog_4_method_2_code 71 = .ok (.invokestatic 38, 3) := by decide +kernel
theorem d_NLongDivision_divide_74 : decode prog_4_method_2_code 74 = .ok (.aload_n 2, 1) := by decide +kernel
theorem d_NLongDivision_divide_75 : decode prog_4_method_2_code 75 = .ok (.iload 5, 2) := by decide +kernel
theorem d_NLongDivision_divide_77 : decode prog_4_method_2_code 77 = .ok (.aload_n 0, 1) := by decide +kernel
theorem d_NLongDivision_divide_78 : decode prog_4_method_2_code 78 = .ok (.getfield 15, 3) := by decide +kernel
theorem d_NLongDivision_divide_81 : decode prog_4_method_2_code 81 = .ok (.invokestatic 38, 3) := by decide +kernel
theorem d_NLongDivision_divide_84 : decode prog_4_method_2_code 84 = .ok (.aload_n 1, 1) := by decide +kernel
theorem d_NLongDivision_divide_85 : decode prog_4_method_2_code 85 = .ok (.getfield 22, 3) := by decide +kernel
theorem d_NLongDivision_divide_88 : decode prog_4_method_2_code 88 = .ok (.aload_n 0, 1) := by decide +kernel
theorem d_NLongDivision_divide_89 : decode prog_4_method_2_code 89 = .ok (.getfield 18, 3) := by decide +kernel
theorem d_NLongDivision_divide_92 : decode prog_4_method_2_code 92 = .ok (.isub, 1) := by decide +kernel
theorem d_NLongDivision_divide_93 : decode prog_4_method_2_code 93 = .ok (.iconst 1, 1) := by decide +kernel
theorem d_NLongDivision_divide_94 : decode prog_4_method_2_code 94 = .ok (.iadd, 1) := by decide +kernel
theorem d_NLongDivision_divide_95 : decode prog_4_method_2_code 95 = .ok (.istore 6, 2) := by decide +kernel
theorem d_NLongDivision_divide_97 : decode prog_4_method_2_code 97 = .ok (.iload 6, 2) := by decide +kernel
theorem d_NLongDivision_divide_99 : decode prog_4_method_2_code 99 = .ok (.iconst 1, 1) := by decide +kernel
theorem d_NLongDivision_divide_100 : decode prog_4_method_2_code 100 = .ok (.isub, 1) := by decide +kernel
theorem d_NLongDivision_divide_101 : decode prog_4_method_2_code 101 = .ok (.istore 7, 2) := by decide +kernel
theorem d_NLongDivision_divide_103 : decode prog_4_method_2_code 103 = .ok (.iload 7, 2) := by decide +kernel
theorem d_NLongDivision_divide_105 : decode prog_4_method_2_code 105 = .ok (.ifCond .lt 28, 3) := by decide +kernel
theorem d_NLongDivision_divide_108 : decode prog_4_method_2_code 108 = .ok (.aload_n 3, 1) := by decide +kernel
theorem d_NLongDivision_divide_109 : decode prog_4_method_2_code 109 = .ok (.getfield 35, 3) := by decide +kernel
theorem d_NLongDivision_divide_112 : decode prog_4_method_2_code 112 = .ok (.iload 7, 2) := by decide +kernel
theorem d_NLongDivision_divide_114 : decode prog_4_method_2_code 114 = .ok (.aload_n 0, 1) := by decide +kernel
theorem d_NLongDivision_divide_115 : decode prog_4_method_2_code 115 = .ok (.aload_n 0, 1) := by decide +kernel
theorem d_NLongDivision_divide_116 : decode prog_4_method_2_code 116 = .ok (.iload 7, 2) := by decide +kernel
theorem d_NLongDivision_divide_118 : decode prog_4_method_2_code 118 = .ok (.invokevirtual 42, 3) := by decide +kernel
theorem d_NLongDivision_divide_121 : decode prog_4_method_2_code 121 = .ok (.iload 7, 2) := by decide +kernel
theorem d_NLongDivision_divide_123 : decode prog_4_method_2_code 123 = .ok (.invokevirtual 46, 3) := by decide +kernel
theorem d_NLongDivision_divide_126 : decode prog_4_method_2_code 126 = .ok (.iastore, 1) := by decide +kernel
theorem d_NLongDivision_divide_127 : decode prog_4_method_2_code 127 = .ok (.iinc 7 (-1), 3) := by decide +kernel
theorem d_NLongDivision_divide_130 : decode prog_4_method_2_code 130 = .ok (.goto (-27), 3) := by decide +kernel
theorem d_NLongDivision_divide_133 : decode prog_4_method_2_code 133 = .ok (.iload 4, 2) := by decide +kernel
theorem d_NLongDivision_divide_135 : decode prog_4_method_2_code 135 = .ok (.ifCond .eq 25, 3) := by decide +kernel
theorem d_NLongDivision_divide_138 : decode prog_4_method_2_code 138 = .ok (.aload_n 0, 1) := by decide +kernel
theorem d_NLongDivision_divide_139 : decode prog_4_method_2_code 139 = .ok (.iload 5, 2) := by decide +kernel
theorem d_NLongDivision_divide_141 : decode prog_4_method_2_code 141 = .ok (.aload_n 3, 1) := by decide +kernel
theorem d_NLongDivision_divide_142 : decode prog_4_method_2_code 142 = .ok (.invokevirtual 50, 3) := by decide +kernel
theorem d_NLongDivision_divide_145 : decode prog_4_method_2_code 145 = .ok (.aload_n 3, 1) := by decide +kernel
theorem d_NLongDivision_divide_146 : decode prog_4_method_2_code 146 = .ok (.aload_n 0, 1) := by decide +kernel
theorem d_NLongDivision_divide_147 : decode prog_4_method_2_code 147 = .ok (.getfield 18, 3) := by decide +kernel
theorem d_NLongDivision_divide_150 : decode prog_4_method_2_code 150 = .ok (.aload_n 1, 1) := by decide +kernel
theorem d_NLongDivision_divide_151 : decode prog_4_method_2_code 151 = .ok (.getfield 23, 3) := by decide +kernel
theorem d_NLongDivision_divide_154 : decode prog_4_method_2_code 154 = .ok (.invokevirtual 54, 3) := by decide +kernel
theorem d_NLongDivision_divide_157 : decode prog_4_method_2_code 157 = .ok (.goto 18, 3) := by decide +kernel
theorem d_NLongDivision_divide_160 : decode prog_4_method_2_code 160 = .ok (.aload_n 3, 1) := by decide +kernel
theorem d_NLongDivision_divide_161 : decode prog_4_method_2_code 161 = .ok (.iload 6, 2) := by decide +kernel
theorem d_NLongDivision_divide_163 : decode prog_4_method_2_code 163 = .ok (.aload_n 1, 1) := by decide +kernel
theorem d_NLongDivision_divide_164 : decode prog_4_method_2_code 164 = .ok (.getfield 23, 3) := by decide +kernel
theorem d_NLongDivision_divide_167 : decode prog_4_method_2_code 167 = .ok (.aload_n 2, 1) := by decide +kernel
theorem d_NLongDivision_divide_168 : decode prog_4_method_2_code 168 = .ok (.getfield 23, 3) := by decide +kernel
theorem d_NLongDivision_divide_171 : decode prog_4_method_2_code 171 = .ok (.imul, 1) := by decide +kernel
theorem d_NLongDivision_divide_172 : decode prog_4_method_2_code 172 = .ok (.invokevirtual 54, 3) := by decide +kernel
theorem d_NLongDivision_divide_175 : decode prog_4_method_2_code 175 = .ok (.return_, 1) := by decide +kernel
theorem d_NLongDivision_enlarge_0 : decode prog_4_method_3_code 0 = .ok (.lconst 0, 1) := by decide +kernel
theorem d_NLongDivision_enlarge_1 : decode prog_4_method_3_code 1 = .ok (.lstore_n 3, 1) := by decide +kernel
theorem d_NLongDivision_enlarge_2 : decode prog_4_method_3_code 2 = .ok (.iconst 0, 1) := by decide +kernel
theorem d_NLongDivision_enlarge_3 : decode prog_4_method_3_code 3 = .ok (.istore 5, 2) := by decide +kernel
theorem d_NLongDivision_enlarge_5 : decode prog_4_method_3_code 5 = .ok (.iload 5, 2) := by decide +kernel
theorem d_NLongDivision_enlarge_7 : decode prog_4_method_3_code 7 = .ok (.aload_n 0, 1) := by decide +kernel
theorem d_NLongDivision_enlarge_8 : decode prog_4_method_3_code 8 = .ok (.getfield 22, 3) := by decide +kernel
theorem d_NLongDivision_enlarge_11 : decode prog_4_method_3_code 11 = .ok (.if_icmp .ge 39, 3) := by decide +kernel
theorem d_NLongDivision_enlarge_14 : decode prog_4_method_3_code 14 = .ok (.lload_n 3, 1) := by decide +kernel
theorem d_NLongDivision_enlarge_15 : decode prog_4_method_3_code 15 = .ok (.aload_n 0, 1) := by decide +kernel
theorem d_NLongDivision_enlarge_16 : decode prog_4_method_3_code 16 = .ok (.getfield 35, 3) := by decide +kernel
theorem d_NLongDivision_enlarge_19 : decode prog_4_method_3_code 19 = .ok (.iload 5, 2) := by decide +kernel
theorem d_NLongDivision_enlarge_21 : decode prog_4_method_3_code 21 = .ok (.iaload, 1) := by decide +kernel
theorem d_NLongDivision_enlarge_22 : decode prog_4_method_3_code 22 = .ok (.i2l, 1) := by decide +kernel
theorem d_NLongDivision_enlarge_23 : decode prog_4_method_3_code 23 = .ok (.iload_n 1, 1) := by decide +kernel
theorem d_NLongDivision_enlarge_24 : decode prog_4_method_3_code 24 = .ok (.i2l, 1) := by decide +kernel
theorem d_NLongDivision_enlarge_25 : decode prog_4_method_3_code 25 = .ok (.lmul, 1) := by decide +kernel
theorem d_NLongDivision_enlarge_26 : decode prog_4_method_3_code 26 = .ok (.ladd, 1) := by decide +kernel
theorem d_NLongDivision_enlarge_27 : decode prog_4_method_3_code 27 = .ok (.lstore_n 3, 1) := by decide +kernel
theorem d_NLongDivision_enlarge_28 : decode prog_4_method_3_code 28 = .ok (.aload_n 2, 1) := by decide +kernel
theorem d_NLongDivision_enlarge_29 : decode prog_4_method_3_code 29 = .ok (.iload 5, 2) := by decide +kernel
theorem d_NLongDivision_enlarge_31 : decode prog_4_method_3_code 31 = .ok (.lload_n 3, 1) := by decide +kernel
theorem d_NLongDivision_enlarge_32 : decode prog_4_method_3_code 32 = .ok (.ldc2_w 58, 3) := by decide +kernel
theorem d_NLongDivision_enlarge_35 : decode prog_4_method_3_code 35 = .ok (.lrem, 1) := by decide +kernel
theorem d_NLongDivision_enlarge_36 : decode prog_4_method_3_code 36 = .ok (.l2i, 1) := by decide +kernel
theorem d_NLongDivision_enlarge_37 : decode prog_4_method_3_code 37 = .ok (.iastore, 1) := by decide +kernel
theorem d_NLongDivision_enlarge_38 : decode prog_4_method_3_code 38 = .ok (.lload_n 3, 1) := by decide +kernel
theorem d_NLongDivision_enlarge_39 : decode prog_4_method_3_code 39 = .ok (.ldc2_w 58, 3) := by decide +kernel
theorem d_NLongDivision_enlarge_42 : decode prog_4_method_3_code 42 = .ok (.ldiv, 1) := by decide +kernel
theorem d_NLongDivision_enlarge_43 : decode prog_4_method_3_code 43 = .ok (.lstore_n 3, 1) := by decide +kernel
theorem d_NLongDivision_enlarge_44 : decode prog_4_method_3_code 44 = .ok (.iinc 5 1, 3) := by decide +kernel
theorem d_NLongDivision_enlarge_47 : decode prog_4_method_3_code 47 = .ok (.goto (-42), 3) := by decide +kernel
theorem d_NLongDivision_enlarge_50 : decode prog_4_method_3_code 50 = .ok (.aload_n 2, 1) := by decide +kernel
theorem d_NLongDivision_enlarge_51 : decode prog_4_method_3_code 51 = .ok (.aload_n 0, 1) := by decide +kernel
theorem d_NLongDivision_enlarge_52 : decode prog_4_method_3_code 52 = .ok (.getfield 22, 3) := by decide +kernel
theorem d_NLongDivision_enlarge_55 : decode prog_4_method_3_code 55 = .ok (.lload_n 3, 1) := by decide +kernel
theorem d_NLongDivision_enlarge_56 : decode prog_4_method_3_code 56 = .ok (.l2i, 1) := by decide +kernel
theorem d_NLongDivision_enlarge_57 : decode prog_4_method_3_code 57 = .ok (.iastore, 1) := by decide +kernel
theorem d_NLongDivision_enlarge_58 : decode prog_4_method_3_code 58 = .ok (.return_, 1) := by decide +kernel
theorem d_NLongDivision_guess_0 : decode prog_4_method_5_code 0 = .ok (.aload_n 0, 1) := by decide +kernel
theorem d_NLongDivision_guess_1 : decode prog_4_method_5_code 1 = .ok (.getfield 15, 3) := by decide +kernel
theorem d_NLongDivision_guess_4 : decode prog_4_method_5_code 4 = .ok (.aload_n 0, 1) := by decide +kernel
theorem d_NLongDivision_guess_5 : decode prog_4_method_5_code 5 = .ok (.getfield 18, 3) := by decide +kernel
theorem d_NLongDivision_guess_8 : decode prog_4_method_5_code 8 = .ok (.iconst 1, 1) := by decide +kernel
theorem d_NLongDivision_guess_9 : decode prog_4_method_5_code 9 = .ok (.isub, 1) := by decide +kernel
theorem d_NLongDivision_guess_10 : decode prog_4_method_5_code 10 = .ok (.iaload, 1) := by decide +kernel
theorem d_NLongDivision_guess_11 : decode prog_4_method_5_code 11 = .ok (.i2l, 1) := by decide +kernel
theorem d_NLongDivision_guess_12 : decode prog_4_method_5_code 12 = .ok (.lstore_n 2, 1) := by decide +kernel
theorem d_NLongDivision_guess_13 : decode prog_4_method_5_code 13 = .ok (.lload_n 2, 1) := by decide +kernel
theorem d_NLongDivision_guess_14 : decode prog_4_method_5_code 14 = .ok (.lconst 0, 1) := by decide +kernel
theorem d_NLongDivision_guess_15 : decode prog_4_method_5_code 15 = .ok (.lcmp, 1) := by decide +kernel
theorem d_NLongDivision_guess_16 : decode prog_4_method_5_code 16 = .ok (.ifCond .ne 5, 3) := by decide +kernel
theorem d_NLongDivision_guess_21 : decode prog_4_method_5_code 21 = .ok (.aload_n 0, 1) := by decide +kernel
theorem d_NLongDivision_guess_22 : decode prog_4_method_5_code 22 = .ok (.getfield 18, 3) := by decide +kernel
theorem d_NLongDivision_guess_25 : decode prog_4_method_5_code 25 = .ok (.iconst 1, 1) := by decide +kernel
theorem d_NLongDivision_guess_26 : decode prog_4_method_5_code 26 = .ok (.if_icmp .le 18, 3) := by decide +kernel
theorem d_NLongDivision_guess_29 : decode prog_4_method_5_code 29 = .ok (.aload_n 0, 1) := by decide +kernel
theorem d_NLongDivision_guess_30 : decode prog_4_method_5_code 30 = .ok (.getfield 15, 3) := by decide +kernel
theorem d_NLongDivision_guess_33 : decode prog_4_method_5_code 33 = .ok (.aload_n 0, 1) := by decide +kernel
theorem d_NLongDivision_guess_34 : decode prog_4_method_5_code 34 = .ok (.getfield 18, 3) := by decide +kernel
theorem d_NLongDivision_guess_37 : decode prog_4_method_5_code 37 = .ok (.iconst 2, 1) := by decide +kernel
theorem d_NLongDivision_guess_38 : decode prog_4_method_5_code 38 = .ok (.isub, 1) := by decide +kernel
theorem d_NLongDivision_guess_39 : decode prog_4_method_5_code 39 = .ok (.iaload, 1) := by decide +kernel
theorem d_NLongDivision_guess_40 : decode prog_4_method_5_code 40 = .ok (.i2l, 1) := by decide +kernel
theorem d_NLongDivision_guess_41 : decode prog_4_method_5_code 41 = .ok (.goto 4, 3) := by decide +kernel
theorem d_NLongDivision_guess_44 : decode prog_4_method_5_code 44 = .ok (.lconst 0, 1) := by decide +kernel
theorem d_NLongDivision_guess_45 : decode prog_4_method_5_code 45 = .ok (.lstore 4, 2) := by decide +kernel
theorem d_NLongDivision_guess_47 : decode prog_4_method_5_code 47 = .ok (.aload_n 0, 1) := by decide +kernel
theorem d_NLongDivision_guess_48 : decode prog_4_method_5_code 48 = .ok (.getfield 18, 3) := by decide +kernel
theorem d_NLongDivision_guess_51 : decode prog_4_method_5_code 51 = .ok (.iconst 1, 1) := by decide +kernel
theorem d_NLongDivision_guess_52 : decode prog_4_method_5_code 52 = .ok (.if_icmp .le 20, 3) := by decide +kernel
theorem d_NLongDivision_guess_55 : decode prog_4_method_5_code 55 = .ok (.aload_n 0, 1) := by decide +kernel
theorem d_NLongDivision_guess_56 : decode prog_4_method_5_code 56 = .ok (.getfield 9, 3) := by decide +kernel
theorem d_NLongDivision_guess_59 : decode prog_4_method_5_code 59 = .ok (.iload_n 1, 1) := by decide +kernel
theorem d_NLongDivision_guess_60 : decode prog_4_method_5_code 60 = .ok (.aload_n 0, 1) := by decide +kernel
theorem d_NLongDivision_guess_61 : decode prog_4_method_5_code 61 = .ok (.getfield 18, 3) := by decide +kernel
theorem d_NLongDivision_guess_64 : decode prog_4_method_5_code 64 = .ok (.iadd, 1) := by decide +kernel
theorem d_NLongDivision_guess_65 : decode prog_4_method_5_code 65 = .ok (.iconst 2, 1) := by decide +kernel
theorem d_NLongDivision_guess_66 : decode prog_4_method_5_code 66 = .ok (.isub, 1) := by decide +kernel
theorem d_NLongDivision_guess_67 : decode prog_4_method_5_code 67 = .ok (.iaload, 1) := by decide +kernel
theorem d_NLongDivision_guess_68 : decode prog_4_method_5_code 68 = .ok (.i2l, 1) := by decide +kernel
theorem d_NLongDivision_guess_69 : decode prog_4_method_5_code 69 = .ok (.goto 4, 3) := by decide +kernel
theorem d_NLongDivision_guess_72 : decode prog_4_method_5_code 72 = .ok (.lconst 0, 1) := by decide +kernel
theorem d_NLongDivision_guess_73 : decode prog_4_method_5_code 73 = .ok (.lstore 6, 2) := by decide +kernel
theorem d_NLongDivision_guess_75 : decode prog_4_method_5_code 75 = .ok (.aload_n 0, 1) := by decide +kernel
theorem d_NLongDivision_guess_76 : decode prog_4_method_5_code 76 = .ok (.getfield 9, 3) := by decide +kernel
theorem d_NLongDivision_guess_79 : decode prog_4_method_5_code 79 = .ok (.iload_n 1, 1) := by decide +kernel
theorem d_NLongDivision_guess_80 : decode prog_4_method_5_code 80 = .ok (.aload_n 0, 1) := by decide +kernel
theorem d_NLongDivision_guess_81 : decode prog_4_method_5_code 81 = .ok (.getfield 18, 3) := by decide +kernel
theorem d_NLongDivision_guess_84 : decode prog_4_method_5_code 84 = .ok (.iadd, 1) := by decide +kernel
theorem d_NLongDivision_guess_85 : decode prog_4_method_5_code 85 = .ok (.iaload, 1) := by decide +kernel
theorem d_NLongDivision_guess_86 : decode prog_4_method_5_code 86 = .ok (.i2l, 1) := by decide +kernel
theorem d_NLongDivision_guess_87 : decode prog_4_method_5_code 87 = .ok (.ldc2_w 58, 3) := by decide +kernel
theorem d_NLongDivision_guess_90 : decode prog_4_method_5_code 90 = .ok (.lmul, 1) := by decide +kernel
theorem d_NLongDivision_guess_91 : decode prog_4_method_5_code 91 = .ok (.aload_n 0, 1) := by decide +kernel
theorem d_NLongDivision_guess_92 : decode prog_4_method_5_code 92 = .ok (.getfield 9, 3) := by decide +kernel
theorem d_NLongDivision_guess_95 : decode prog_4_method_5_code 95 = .ok (.iload_n 1, 1) := by decide +kernel
theorem d_NLongDivision_guess_96 : decode prog_4_method_5_code 96 = .ok (.aload_n 0, 1) := by decide +kernel
theorem d_NLongDivision_guess_97 : decode prog_4_method_5_code 97 = .ok (.getfield 18, 3) := by decide +kernel
theorem d_NLongDivision_guess_100 : decode prog_4_method_5_code 100 = .ok (.iadd, 1) := by decide +kernel
theorem d_NLongDivision_guess_101 : decode prog_4_method_5_code 101 = .ok (.iconst 1, 1) := by decide +kernel
theorem d_NLongDivision_guess_102 : decode prog_4_method_5_code 102 = .ok (.isub, 1) := by decide +kernel
theorem d_NLongDivision_guess_103 : decode prog_4_method_5_code 103 = .ok (.iaload, 1) := by decide +kernel
theorem d_NLongDivision_guess_104 : decode prog_4_method_5_code 104 = .ok (.i2l, 1) := by decide +kernel
theorem d_NLongDivision_guess_105 : decode prog_4_method_5_code 105 = .ok (.ladd, 1) := by decide +kernel
theorem d_NLongDivision_guess_106 : decode prog_4_method_5_code 106 = .ok (.lstore 8, 2) := by decide +kernel
theorem d_NLongDivision_guess_108 : decode prog_4_method_5_code 108 = .ok (.lload 8, 2) := by decide +kernel
theorem d_NLongDivision_guess_110 : decode prog_4_method_5_code 110 = .ok (.lload_n 2, 1) := by decide +kernel
theorem d_NLongDivision_guess_111 : decode prog_4_method_5_code 111 = .ok (.ldiv, 1) := by decide +kernel
theorem d_NLongDivision_guess_112 : decode prog_4_method_5_code 112 = .ok (.lstore 10, 2) := by decide +kernel
theorem d_NLongDivision_guess_114 : decode prog_4_method_5_code 114 = .ok (.lload 8, 2) := by decide +kernel
theorem d_NLongDivision_guess_116 : decode prog_4_method_5_code 116 = .ok (.lload_n 2, 1) := by decide +kernel
theorem d_NLongDivision_guess_117 : decode prog_4_method_5_code 117 = .ok (.lrem, 1) := by decide +kernel
theorem d_NLongDivision_guess_118 : decode prog_4_method_5_code 118 = .ok (.lstore 12, 2) := by decide +kernel
theorem d_NLongDivision_guess_120 : decode prog_4_method_5_code 120 = .ok (.iconst 0, 1) := by decide +kernel
theorem d_NLongDivision_guess_121 : decode prog_4_method_5_code 121 = .ok (.istore 14, 2) := by decide +kernel
theorem d_NLongDivision_guess_123 : decode prog_4_method_5_code 123 = .ok (.iload 14, 2) := by decide +kernel
theorem d_NLongDivision_guess_125 : decode prog_4_method_5_code 125 = .ok (.iconst 4, 1) := by decide +kernel
theorem d_NLongDivision_guess_126 : decode prog_4_method_5_code 126 = .ok (.if_icmp .ge 60, 3) := by decide +kernel
theorem d_NLongDivision_guess_129 : decode prog_4_method_5_code 129 = .ok (.lload 12, 2) := by decide +kernel
theorem d_NLongDivision_guess_131 : decode prog_4_method_5_code 131 = .ok (.ldc2_w 58, 3) := by decide +kernel
theorem d_NLongDivision_guess_134 : decode prog_4_method_5_code 134 = .ok (.lcmp, 1) := by decide +kernel
theorem d_NLongDivision_guess_135 : decode prog_4_method_5_code 135 = .ok (.ifCond .ge 51, 3) := by decide +kernel
theorem d_NLongDivision_guess_138 : decode prog_4_method_5_code 138 = .ok (.lload 10, 2) := by decide +kernel
theorem d_NLongDivision_guess_140 : decode prog_4_method_5_code 140 = .ok (.ldc2_w 58, 3) := by decide +kernel
theorem d_NLongDivision_guess_143 : decode prog_4_method_5_code 143 = .ok (.lcmp, 1) := by decide +kernel
theorem d_NLongDivision_guess_144 : decode prog_4_method_5_code 144 = .ok (.ifCond .ge 24, 3) := by decide +kernel
theorem d_NLongDivision_guess_147 : decode prog_4_method_5_code 147 = .ok (.lload 10, 2) := by decide +kernel
theorem d_NLongDivision_guess_149 : decode prog_4_method_5_code 149 = .ok (.lload 4, 2) := by decide +kernel
theorem d_NLongDivision_guess_151 : decode prog_4_method_5_code 151 = .ok (.lmul, 1) := by decide +kernel
theorem d_NLongDivision_guess_152 : decode prog_4_method_5_code 152 = .ok (.lload 12, 2) := by decide +kernel
theorem d_NLongDivision_guess_154 : decode prog_4_method_5_code 154 = .ok (.ldc2_w 58, 3) := by decide +kernel
theorem d_NLongDivision_guess_157 : decode prog_4_method_5_code 157 = .ok (.lmul, 1) := by decide +kernel
theorem d_NLongDivision_guess_158 : decode prog_4_method_5_code 158 = .ok (.lload 6, 2) := by decide +kernel
theorem d_NLongDivision_guess_160 : decode prog_4_method_5_code 160 = .ok (.ladd, 1) := by decide +kernel
theorem d_NLongDivision_guess_161 : decode prog_4_method_5_code 161 = .ok (.lcmp, 1) := by decide +kernel
theorem d_NLongDivision_guess_162 : decode prog_4_method_5_code 162 = .ok (.ifCond .gt 6, 3) := by decide +kernel
theorem d_NLongDivision_guess_165 : decode prog_4_method_5_code 165 = .ok (.lload 10, 2) := by decide +kernel
theorem d_NLongDivision_guess_167 : decode prog_4_method_5_code 167 = .ok (.lreturn, 1) := by decide +kernel
theorem d_NLongDivision_guess_168 : decode prog_4_method_5_code 168 = .ok (.lload 10, 2) := by decide +kernel
theorem d_NLongDivision_guess_170 : decode prog_4_method_5_code 170 = .ok (.lconst 1, 1) := by decide +kernel
theorem d_NLongDivision_guess_171 : decode prog_4_method_5_code 171 = .ok (.lsub, 1) := by decide +kernel
theorem d_NLongDivision_guess_172 : decode prog_4_method_5_code 172 = .ok (.lstore 10, 2) := by decide +kernel
theorem d_NLongDivision_guess_174 : decode prog_4_method_5_code 174 = .ok (.lload 12, 2) := by decide +kernel
theorem d_NLongDivision_guess_176 : decode prog_4_method_5_code 176 = .ok (.lload_n 2, 1) := by decide +kernel
theorem d_NLongDivision_guess_177 : decode prog_4_method_5_code 177 = .ok (.ladd, 1) := by decide +kernel
theorem d_NLongDivision_guess_178 : decode prog_4_method_5_code 178 = .ok (.lstore 12, 2) := by decide +kernel
theorem d_NLongDivision_guess_180 : decode prog_4_method_5_code 180 = .ok (.iinc 14 1, 3) := by decide +kernel
theorem d_NLongDivision_guess_183 : decode prog_4_method_5_code 183 = .ok (.goto (-60), 3) := by decide +kernel
theorem d_NLongDivision_guess_186 : decode prog_4_method_5_code 186 = .ok (.lload 10, 2) := by decide +kernel
theorem d_NLongDivision_guess_188 : decode prog_4_method_5_code 188 = .ok (.lreturn, 1) := by decide +kernel
theorem d_NLongDivision_putBack_0 : decode prog_4_method_7_code 0 = .ok (.iconst 0, 1) := by decide +kernel
theorem d_NLongDivision_putBack_1 : decode prog_4_method_7_code 1 = .ok (.istore_n 2, 1) := by decide +kernel
theorem d_NLongDivision_putBack_2 : decode prog_4_method_7_code 2 = .ok (.iconst 0, 1) := by decide +kernel
theorem d_NLongDivision_putBack_3 : decode prog_4_method_7_code 3 = .ok (.istore_n 3, 1) := by decide +kernel
theorem d_NLongDivision_putBack_4 : decode prog_4_method_7_code 4 = .ok (.iload_n 3, 1) := by decide +kernel
theorem d_NLongDivision_putBack_5 : decode prog_4_method_7_code 5 = .ok (.aload_n 0, 1) := by decide +kernel
theorem d_NLongDivision_putBack_6 : decode prog_4_method_7_code 6 = .ok (.getfield 18, 3) := by decide +kernel
theorem d_NLongDivision_putBack_9 : decode prog_4_method_7_code 9 = .ok (.if_icmp .ge 56, 3) := by decide +kernel
theorem d_NLongDivision_putBack_12 : decode prog_4_method_7_code 12 = .ok (.aload_n 0, 1) := by decide +kernel
theorem d_NLongDivision_putBack_13 : decode prog_4_method_7_code 13 = .ok (.getfield 9, 3) := by decide +kernel
theorem d_NLongDivision_putBack_16 : decode prog_4_method_7_code 16 = .ok (.iload_n 1, 1) := by decide +kernel
theorem d_NLongDivision_putBack_17 : decode prog_4_method_7_code 17 = .ok (.iload_n 3, 1) := by decide +kernel
theorem d_NLongDivision_putBack_18 : decode prog_4_method_7_code 18 = .ok (.iadd, 1) := by decide +kernel
theorem d_NLongDivision_putBack_19 : decode prog_4_method_7_code 19 = .ok (.iaload, 1) := by decide +kernel
theorem d_NLongDivision_putBack_20 : decode prog_4_method_7_code 20 = .ok (.aload_n 0, 1) := by decide +kernel
theorem d_NLongDivision_putBack_21 : decode prog_4_method_7_code 21 = .ok (.getfield 15, 3) := by decide +kernel
theorem d_NLongDivision_putBack_24 : decode prog_4_method_7_code 24 = .ok (.iload_n 3, 1) := by decide +kernel
theorem d_NLongDivision_putBack_25 : decode prog_4_method_7_code 25 = .ok (.iaload, 1) := by decide +kernel
theorem d_NLongDivision_putBack_26 : decode prog_4_method_7_code 26 = .ok (.iadd, 1) := by decide +kernel
theorem d_NLongDivision_putBack_27 : decode prog_4_method_7_code 27 = .ok (.iload_n 2, 1) := by decide +kernel
theorem d_NLongDivision_putBack_28 : decode prog_4_method_7_code 28 = .ok (.iadd, 1) := by decide +kernel
theorem d_NLongDivision_putBack_29 : decode prog_4_method_7_code 29 = .ok (.istore 4, 2) := by decide +kernel
theorem d_NLongDivision_putBack_31 : decode prog_4_method_7_code 31 = .ok (.iload 4, 2) := by decide +kernel
theorem d_NLongDivision_putBack_33 : decode prog_4_method_7_code 33 = .ok (.ldc 34, 2) := by decide +kernel
theorem d_NLongDivision_putBack_35 : decode prog_4_method_7_code 35 = .ok (.if_icmp .lt 7, 3) := by decide +kernel
theorem d_NLongDivision_putBack_38 : decode prog_4_method_7_code 38 = .ok (.iconst 1, 1) := by decide +kernel
theorem d_NLongDivision_putBack_39 : decode prog_4_method_7_code 39 = .ok (.goto 4, 3) := by decide +kernel
theorem d_NLongDivision_putBack_42 : decode prog_4_method_7_code 42 = .ok (.iconst 0, 1) := by decide +kernel
theorem d_NLongDivision_putBack_43 : decode prog_4_method_7_code 43 = .ok (.istore_n 2, 1) := by decide +kernel
theorem d_NLongDivision_putBack_44 : decode prog_4_method_7_code 44 = .ok (.aload_n 0, 1) := by decide +kernel
theorem d_NLongDivision_putBack_45 : decode prog_4_method_7_code 45 = .ok (.getfield 9, 3) := by decide +kernel
theorem d_NLongDivision_putBack_48 : decode prog_4_method_7_code 48 = .ok (.iload_n 1, 1) := by decide +kernel
theorem d_NLongDivision_putBack_49 : decode prog_4_method_7_code 49 = .ok (.iload_n 3, 1) := by decide +kernel
theorem d_NLongDivision_putBack_50 : decode prog_4_method_7_code 50 = .ok (.iadd, 1) := by decide +kernel
theorem d_NLongDivision_putBack_51 : decode prog_4_method_7_code 51 = .ok (.iload 4, 2) := by decide +kernel
theorem d_NLongDivision_putBack_53 : decode prog_4_method_7_code 53 = .ok (.iload_n 2, 1) := by decide +kernel
theorem d_NLongDivision_putBack_54 : decode prog_4_method_7_code 54 = .ok (.ldc 34, 2) := by decide +kernel
theorem d_NLongDivision_putBack_56 : decode prog_4_method_7_code 56 = .ok (.imul, 1) := by decide +kernel
theorem d_NLongDivision_putBack_57 : decode prog_4_method_7_code 57 = .ok (.isub, 1) := by decide +kernel
theorem d_NLongDivision_putBack_58 : decode prog_4_method_7_code 58 = .ok (.iastore, 1) := by decide +kernel
theorem d_NLongDivision_putBack_59 : decode prog_4_method_7_code 59 = .ok (.iinc 3 1, 3) := by decide +kernel
theorem d_NLongDivision_putBack_62 : decode prog_4_method_7_code 62 = .ok (.goto (-58), 3) := by decide +kernel
theorem d_NLongDivision_putBack_65 : decode prog_4_method_7_code 65 = .ok (.return_, 1) := by decide +kernel
theorem d_NLongDivision_reduce_0 : decode prog_4_method_4_code 0 = .ok (.iload_n 1, 1) := by decide +kernel
theorem d_NLongDivision_reduce_1 : decode prog_4_method_4_code 1 = .ok (.ifCond .ne 4, 3) := by decide +kernel
theorem d_NLongDivision_reduce_5 : decode prog_4_method_4_code 5 = .ok (.lconst 0, 1) := by decide +kernel
theorem d_NLongDivision_reduce_6 : decode prog_4_method_4_code 6 = .ok (.lstore_n 3, 1) := by decide +kernel
theorem d_NLongDivision_reduce_7 : decode prog_4_method_4_code 7 = .ok (.aload_n 0, 1) := by decide +kernel
theorem d_NLongDivision_reduce_8 : decode prog_4_method_4_code 8 = .ok (.getfield 18, 3) := by decide +kernel
theorem d_NLongDivision_reduce_11 : decode prog_4_method_4_code 11 = .ok (.iconst 1, 1) := by decide +kernel
theorem d_NLongDivision_reduce_12 : decode prog_4_method_4_code 12 = .ok (.isub, 1) := by decide +kernel
theorem d_NLongDivision_reduce_13 : decode prog_4_method_4_code 13 = .ok (.istore 5, 2) := by decide +kernel
theorem d_NLongDivision_reduce_15 : decode prog_4_method_4_code 15 = .ok (.iload 5, 2) := by decide +kernel
theorem d_NLongDivision_reduce_17 : decode prog_4_method_4_code 17 = .ok (.ifCond .lt 41, 3) := by decide +kernel
theorem d_NLongDivision_reduce_20 : decode prog_4_method_4_code 20 = .ok (.lload_n 3, 1) := by decide +kernel
theorem d_NLongDivision_reduce_21 : decode prog_4_method_4_code 21 = .ok (.ldc2_w 58, 3) := by decide +kernel
theorem d_NLongDivision_reduce_24 : decode prog_4_method_4_code 24 = .ok (.lmul, 1) := by decide +kernel
theorem d_NLongDivision_reduce_25 : decode prog_4_method_4_code 25 = .ok (.aload_n 0, 1) := by decide +kernel
theorem d_NLongDivision_reduce_26 : decode prog_4_method_4_code 26 = .ok (.getfield 9, 3) := by decide +kernel
theorem d_NLongDivision_reduce_29 : decode prog_4_method_4_code 29 = .ok (.iload 5, 2) := by decide +kernel
theorem d_NLongDivision_reduce_31 : decode prog_4_method_4_code 31 = .ok (.iaload, 1) := by decide +kernel
theorem d_NLongDivision_reduce_32 : decode prog_4_method_4_code 32 = .ok (.i2l, 1) := by decide +kernel
theorem d_NLongDivision_reduce_33 : decode prog_4_method_4_code 33 = .ok (.ladd, 1) := by decide +kernel
theorem d_NLongDivision_reduce_34 : decode prog_4_method_4_code 34 = .ok (.lstore_n 3, 1) := by decide +kernel
theorem d_NLongDivision_reduce_35 : decode prog_4_method_4_code 35 = .ok (.aload_n 2, 1) := by decide +kernel
theorem d_NLongDivision_reduce_36 : decode prog_4_method_4_code 36 = .ok (.getfield 35, 3) := by decide +kernel
theorem d_NLongDivision_reduce_39 : decode prog_4_method_4_code 39 = .ok (.iload 5, 2) := by decide +kernel
theorem d_NLongDivision_reduce_41 : decode prog_4_method_4_code 41 = .ok (.lload_n 3, 1) := by decide +kernel
theorem d_NLongDivision_reduce_42 : decode prog_4_method_4_code 42 = .ok (.iload_n 1, 1) := by decide +kernel
theorem d_NLongDivision_reduce_43 : decode prog_4_method_4_code 43 = .ok (.i2l, 1) := by decide +kernel
theorem d_NLongDivision_reduce_44 : decode prog_4_method_4_code 44 = .ok (.ldiv, 1) := by decide +kernel
theorem d_NLongDivision_reduce_45 : decode prog_4_method_4_code 45 = .ok (.l2i, 1) := by decide +kernel
theorem d_NLongDivision_reduce_46 : decode prog_4_method_4_code 46 = .ok (.iastore, 1) := by decide +kernel
theorem d_NLongDivision_reduce_47 : decode prog_4_method_4_code 47 = .ok (.lload_n 3, 1) := by decide +kernel
theorem d_NLongDivision_reduce_48 : decode prog_4_method_4_code 48 = .ok (.iload_n 1, 1) := by decide +kernel
theorem d_NLongDivision_reduce_49 : decode prog_4_method_4_code 49 = .ok (.i2l, 1) := by decide +kernel
theorem d_NLongDivision_reduce_50 : decode prog_4_method_4_code 50 = .ok (.lrem, 1) := by decide +kernel
theorem d_NLongDivision_reduce_51 : decode prog_4_method_4_code 51 = .ok (.lstore_n 3, 1) := by decide +kernel
theorem d_NLongDivision_reduce_52 : decode prog_4_method_4_code 52 = .ok (.iinc 5 (-1), 3) := by decide +kernel
theorem d_NLongDivision_reduce_55 : decode prog_4_method_4_code 55 = .ok (.goto (-40), 3) := by decide +kernel
theorem d_NLongDivision_reduce_58 : decode prog_4_method_4_code 58 = .ok (.return_, 1) := by decide +kernel
theorem d_NLongDivision_takeAway_0 : decode prog_4_method_6_code 0 = .ok (.lconst 0, 1) := by decide +kernel
theorem d_NLongDivision_takeAway_1 : decode prog_4_method_6_code 1 = .ok (.lstore 4, 2) := by decide +kernel
theorem d_NLongDivision_takeAway_3 : decode prog_4_method_6_code 3 = .ok (.iconst 0, 1) := by decide +kernel
theorem d_NLongDivision_takeAway_4 : decode prog_4_method_6_code 4 = .ok (.istore 6, 2) := by decide +kernel
theorem d_NLongDivision_takeAway_6 : decode prog_4_method_6_code 6 = .ok (.iload 6, 2) := by decide +kernel
theorem d_NLongDivision_takeAway_8 : decode prog_4_method_6_code 8 = .ok (.aload_n 0, 1) := by decide +kernel
theorem d_NLongDivision_takeAway_9 : decode prog_4_method_6_code 9 = .ok (.getfield 18, 3) := by decide +kernel
theorem d_NLongDivision_takeAway_12 : decode prog_4_method_6_code 12 = .ok (.if_icmp .ge 80, 3) := by decide +kernel
theorem d_NLongDivision_takeAway_15 : decode prog_4_method_6_code 15 = .ok (.lload 4, 2) := by decide +kernel
theorem d_NLongDivision_takeAway_17 : decode prog_4_method_6_code 17 = .ok (.lload_n 1, 1) := by decide +kernel
theorem d_NLongDivision_takeAway_18 : decode prog_4_method_6_code 18 = .ok (.aload_n 0, 1) := by decide +kernel
theorem d_NLongDivision_takeAway_19 : decode prog_4_method_6_code 19 = .ok (.getfield 15, 3) := by decide +kernel
theorem d_NLongDivision_takeAway_22 : decode prog_4_method_6_code 22 = .ok (.iload 6, 2) := by decide +kernel
theorem d_NLongDivision_takeAway_24 : decode prog_4_method_6_code 24 = .ok (.iaload, 1) := by decide +kernel
theorem d_NLongDivision_takeAway_25 : decode prog_4_method_6_code 25 = .ok (.i2l, 1) := by decide +kernel
theorem d_NLongDivision_takeAway_26 : decode prog_4_method_6_code 26 = .ok (.lmul, 1) := by decide +kernel
theorem d_NLongDivision_takeAway_27 : decode prog_4_method_6_code 27 = .ok (.ladd, 1) := by decide +kernel
theorem d_NLongDivision_takeAway_28 : decode prog_4_method_6_code 28 = .ok (.lstore 4, 2) := by decide +kernel
theorem d_NLongDivision_takeAway_30 : decode prog_4_method_6_code 30 = .ok (.aload_n 0, 1) := by decide +kernel
theorem d_NLongDivision_takeAway_31 : decode prog_4_method_6_code 31 = .ok (.getfield 9, 3) := by decide +kernel
theorem d_NLongDivision_takeAway_34 : decode prog_4_method_6_code 34 = .ok (.iload_n 3, 1) := by decide +kernel
theorem d_NLongDivision_takeAway_35 : decode prog_4_method_6_code 35 = .ok (.iload 6, 2) := by decide +kernel
theorem d_NLongDivision_takeAway_37 : decode prog_4_method_6_code 37 = .ok (.iadd, 1) := by decide +kernel
theorem d_NLongDivision_takeAway_38 : decode prog_4_method_6_code 38 = .ok (.iaload, 1) := by decide +kernel
theorem d_NLongDivision_takeAway_39 : decode prog_4_method_6_code 39 = .ok (.lload 4, 2) := by decide +kernel
theorem d_NLongDivision_takeAway_41 : decode prog_4_method_6_code 41 = .ok (.ldc2_w 58, 3) := by decide +kernel
theorem d_NLongDivision_takeAway_44 : decode prog_4_method_6_code 44 = .ok (.lrem, 1) := by decide +kernel
theorem d_NLongDivision_takeAway_45 : decode prog_4_method_6_code 45 = .ok (.l2i, 1) := by decide +kernel
theorem d_NLongDivision_takeAway_46 : decode prog_4_method_6_code 46 = .ok (.isub, 1) := by decide +kernel
theorem d_NLongDivision_takeAway_47 : decode prog_4_method_6_code 47 = .ok (.istore 7, 2) := by decide +kernel
theorem d_NLongDivision_takeAway_49 : decode prog_4_method_6_code 49 = .ok (.lload 4, 2) := by decide +kernel
theorem d_NLongDivision_takeAway_51 : decode prog_4_method_6_code 51 = .ok (.ldc2_w 58, 3) := by decide +kernel
theorem d_NLongDivision_takeAway_54 : decode prog_4_method_6_code 54 = .ok (.ldiv, 1) := by decide +kernel
theorem d_NLongDivision_takeAway_55 : decode prog_4_method_6_code 55 = .ok (.lstore 4, 2) := by decide +kernel
theorem d_NLongDivision_takeAway_57 : decode prog_4_method_6_code 57 = .ok (.iload 7, 2) := by decide +kernel
theorem d_NLongDivision_takeAway_59 : decode prog_4_method_6_code 59 = .ok (.ifCond .ge 16, 3) := by decide +kernel
theorem d_NLongDivision_takeAway_62 : decode prog_4_method_6_code 62 = .ok (.iload 7, 2) := by decide +kernel
theorem d_NLongDivision_takeAway_64 : decode prog_4_method_6_code 64 = .ok (.ldc 34, 2) := by decide +kernel
theorem d_NLongDivision_takeAway_66 : decode prog_4_method_6_code 66 = .ok (.iadd, 1) := by decide +kernel
theorem d_NLongDivision_takeAway_67 : decode prog_4_method_6_code 67 = .ok (.istore 7, 2) := by decide +kernel
theorem d_NLongDivision_takeAway_69 : decode prog_4_method_6_code 69 = .ok (.lload 4, 2) := by decide +kernel
theorem d_NLongDivision_takeAway_71 : decode prog_4_method_6_code 71 = .ok (.lconst 1, 1) := by decide +kernel
theorem d_NLongDivision_takeAway_72 : decode prog_4_method_6_code 72 = .ok (.ladd, 1) := by decide +kernel
theorem d_NLongDivision_takeAway_73 : decode prog_4_method_6_code 73 = .ok (.lstore 4, 2) := by decide +kernel
theorem d_NLongDivision_takeAway_75 : decode prog_4_method_6_code 75 = .ok (.aload_n 0, 1) := by decide +kernel
theorem d_NLongDivision_takeAway_76 : decode prog_4_method_6_code 76 = .ok (.getfield 9, 3) := by decide +kernel
theorem d_NLongDivision_takeAway_79 : decode prog_4_method_6_code 79 = .ok (.iload_n 3, 1) := by decide +kernel
theorem d_NLongDivision_takeAway_80 : decode prog_4_method_6_code 80 = .ok (.iload 6, 2) := by decide +kernel
theorem d_NLongDivision_takeAway_82 : decode prog_4_method_6_code 82 = .ok (.iadd, 1) := by decide +kernel
theorem d_NLongDivision_takeAway_83 : decode prog_4_method_6_code 83 = .ok (.iload 7, 2) := by decide +kernel
theorem d_NLongDivision_takeAway_85 : decode prog_4_method_6_code 85 = .ok (.iastore, 1) := by decide +kernel
theorem d_NLongDivision_takeAway_86 : decode prog_4_method_6_code 86 = .ok (.iinc 6 1, 3) := by decide +kernel
theorem d_NLongDivision_takeAway_89 : decode prog_4_method_6_code 89 = .ok (.goto (-83), 3) := by decide +kernel
theorem d_NLongDivision_takeAway_92 : decode prog_4_method_6_code 92 = .ok (.lload 4, 2) := by decide +kernel
theorem d_NLongDivision_takeAway_94 : decode prog_4_method_6_code 94 = .ok (.aload_n 0, 1) := by decide +kernel
theorem d_NLongDivision_takeAway_95 : decode prog_4_method_6_code 95 = .ok (.getfield 9, 3) := by decide +kernel
theorem d_NLongDivision_takeAway_98 : decode prog_4_method_6_code 98 = .ok (.iload_n 3, 1) := by decide +kernel
theorem d_NLongDivision_takeAway_99 : decode prog_4_method_6_code 99 = .ok (.aload_n 0, 1) := by decide +kernel
theorem d_NLongDivision_takeAway_100 : decode prog_4_method_6_code 100 = .ok (.getfield 18, 3) := by decide +kernel
theorem d_NLongDivision_takeAway_103 : decode prog_4_method_6_code 103 = .ok (.iadd, 1) := by decide +kernel
theorem d_NLongDivision_takeAway_104 : decode prog_4_method_6_code 104 = .ok (.iaload, 1) := by decide +kernel
theorem d_NLongDivision_takeAway_105 : decode prog_4_method_6_code 105 = .ok (.i2l, 1) := by decide +kernel
theorem d_NLongDivision_takeAway_106 : decode prog_4_method_6_code 106 = .ok (.lcmp, 1) := by decide +kernel
theorem d_NLongDivision_takeAway_107 : decode prog_4_method_6_code 107 = .ok (.ifCond .le 7, 3) := by decide +kernel
theorem d_NLongDivision_takeAway_110 : decode prog_4_method_6_code 110 = .ok (.iconst 1, 1) := by decide +kernel
theorem d_NLongDivision_takeAway_111 : decode prog_4_method_6_code 111 = .ok (.goto 4, 3) := by decide +kernel
theorem d_NLongDivision_takeAway_114 : decode prog_4_method_6_code 114 = .ok (.iconst 0, 1) := by decide +kernel
theorem d_NLongDivision_takeAway_115 : decode prog_4_method_6_code 115 = .ok (.istore 6, 2) := by decide +kernel
theorem d_NLongDivision_takeAway_117 : decode prog_4_method_6_code 117 = .ok (.iload 6, 2) := by decide +kernel
theorem d_NLongDivision_takeAway_119 : decode prog_4_method_6_code 119 = .ok (.ifCond .eq 8, 3) := by decide +kernel
theorem d_NLongDivision_takeAway_122 : decode prog_4_method_6_code 122 = .ok (.aload_n 0, 1) := by decide +kernel
theorem d_NLongDivision_takeAway_123 : decode prog_4_method_6_code 123 = .ok (.iload_n 3, 1) := by decide +kernel
theorem d_NLongDivision_takeAway_124 : decode prog_4_method_6_code 124 = .ok (.invokevirtual 60, 3) := by decide +kernel
theorem d_NLongDivision_takeAway_127 : decode prog_4_method_6_code 127 = .ok (.iload 6, 2) := by decide +kernel
theorem d_NLongDivision_takeAway_129 : decode prog_4_method_6_code 129 = .ok (.ifCond .eq 9, 3) := by decide +kernel
theorem d_NLongDivision_takeAway_132 : decode prog_4_method_6_code 132 = .ok (.lload_n 1, 1) := by decide +kernel
theorem d_NLongDivision_takeAway_133 : decode prog_4_method_6_code 133 = .ok (.lconst 1, 1) := by decide +kernel
theorem d_NLongDivision_takeAway_134 : decode prog_4_method_6_code 134 = .ok (.lsub, 1) := by decide +kernel
theorem d_NLongDivision_takeAway_135 : decode prog_4_method_6_code 135 = .ok (.goto 4, 3) := by decide +kernel
theorem d_NLongDivision_takeAway_138 : decode prog_4_method_6_code 138 = .ok (.lload_n 1, 1) := by decide +kernel
theorem d_NLongDivision_takeAway_139 : decode prog_4_method_6_code 139 = .ok (.l2i, 1) := by decide +kernel
theorem d_NLongDivision_takeAway_140 : decode prog_4_method_6_code 140 = .ok (.ireturn, 1) := by decide +kernel

