theorem wd_88 {U : State} (h : TB U) (args : Array Value) : (Cond.initialized "java/lang/Long").before args U = true := h.w 88 (by decide +kernel) rfl args
theorem wd_91 {U : State} (h : TB U) (args : Array Value) : (Cond.initialized "java/util/Arrays").before args U = true := h.w 91 (by decide +kernel) rfl args
theorem wd_188 {U : State} (h : TB U) (args : Array Value) : (Cond.fieldLink "BigRunner$Node" 51 "BigRunner$LongNumber" "sign" "I").before args U = true := h.w 188 (by decide +kernel) rfl args
theorem wd_216 {U : State} (h : TB U) (args : Array Value) : (Cond.fieldLink "BigRunner$Node" 26 "BigRunner$Node" "isSmall" "Z").before args U = true := h.w 216 (by decide +kernel) rfl args
theorem wd_219 {U : State} (h : TB U) (args : Array Value) : (Cond.fieldLink "BigRunner$Node" 30 "BigRunner$Node" "machine" "J").before args U = true := h.w 219 (by decide +kernel) rfl args
theorem wd_223 {U : State} (h : TB U) (args : Array Value) : (Cond.fieldLink "BigRunner$Node" 37 "BigRunner$Node" "wide" "LBigRunner$LongNumber;").before args U = true := h.w 223 (by decide +kernel) rfl args
theorem wd_678 {U : State} (h : TB U) (args : Array Value) : (Cond.instanceMethod ⟨"BigRunner$LongNumber", "setTo", "(J)V"⟩).before args U = true := h.w 678 (by decide +kernel) rfl args
theorem wd_679 {U : State} (h : TB U) (args : Array Value) : (Cond.selects "BigRunner$LongNumber" ⟨"BigRunner$LongNumber", "setTo", "(J)V"⟩ ⟨"BigRunner$LongNumber", "setTo", "(J)V"⟩).before args U = true := h.w 679 (by decide +kernel) rfl args
theorem wd_680 {U : State} (h : TB U) (args : Array Value) : (Cond.code ⟨"BigRunner$LongNumber", "setTo", "(J)V"⟩ prog_5_method_2_code 6 none).before args U = true := h.w 680 (by decide +kernel) rfl args
theorem wd_681 {U : State} (h : TB U) (args : Array Value) : (Cond.methodLink "BigRunner$LongNumber" 20 ⟨"java/lang/Math", "abs", "(J)J"⟩).before args U = true := h.w 681 (by decide +kernel) rfl args
theorem wd_682 {U : State} (h : TB U) (args : Array Value) : (Cond.methodLink "BigRunner$LongNumber" 26 ⟨"java/lang/Long", "signum", "(J)I"⟩).before args U = true := h.w 682 (by decide +kernel) rfl args
theorem wd_683 {U : State} (h : TB U) (args : Array Value) : (Cond.static ⟨"java/lang/Long", "signum", "(J)I"⟩).before args U = true := h.w 683 (by decide +kernel) rfl args
theorem wd_684 {U : State} (h : TB U) (args : Array Value) : (Cond.code ⟨"java/lang/Long", "signum", "(J)I"⟩ prog_18_method_57_code 2 (some .int)).before args U = true := h.w 684 (by decide +kernel) rfl args
theorem wd_762 {U : State} (h : TB U) (args : Array Value) : (Cond.methodLink "BigRunner$Node" 41 ⟨"BigRunner$LongNumber", "setTo", "(J)V"⟩).before args U = true := h.w 762 (by decide +kernel) rfl args
theorem wd_800 {U : State} (h : TB U) (args : Array Value) : (Cond.methodLink "BigRunner$LongNumber" 70 ⟨"java/util/Arrays", "fill", "([II)V"⟩).before args U = true := h.w 800 (by decide +kernel) rfl args
theorem wd_801 {U : State} (h : TB U) (args : Array Value) : (Cond.static ⟨"java/util/Arrays", "fill", "([II)V"⟩).before args U = true := h.w 801 (by decide +kernel) rfl args
theorem wd_802 {U : State} (h : TB U) (args : Array Value) : (Cond.code ⟨"java/util/Arrays", "fill", "([II)V"⟩ prog_25_method_103_code 4 none).before args U = true := h.w 802 (by decide +kernel) rfl args
theorem wd_847 {U : State} (h : TB U) (args : Array Value) : (Cond.methodLink "BigRunner$Node" 45 ⟨"java/lang/Long", "signum", "(J)I"⟩).before args U = true := h.w 847 (by decide +kernel) rfl args
theorem d_NLongNumber_setProduct_0 : decode prog_5_method_10_code 0 = .ok (.aload_n 1, 1) := by decide +kernel
theorem d_NLongNumber_setProduct_1 : decode prog_5_method_10_code 1 = .ok (.getfield 13, 3) := by decide +kernel
theorem d_NLongNumber_setProduct_4 : decode prog_5_method_10_code 4 = .ok (.aload_n 2, 1) := by decide +kernel
theorem d_NLongNumber_setProduct_5 : decode prog_5_method_10_code 5 = .ok (.getfield 13, 3) := by decide +kernel
theorem d_NLongNumber_setProduct_8 : decode prog_5_method_10_code 8 = .ok (.iadd, 1) := by decide +kernel
theorem d_NLongNumber_setProduct_9 : decode prog_5_method_10_code 9 = .ok (.istore_n 3, 1) := by decide +kernel
theorem d_NLongNumber_setProduct_10 : decode prog_5_method_10_code 10 = .ok (.iload_n 3, 1) := by decide +kernel
theorem d_NLongNumber_setProduct_11 : decode prog_5_method_10_code 11 = .ok (.bipush 15, 2) := by decide +kernel
theorem d_NLongNumber_setProduct_13 : decode prog_5_method_10_code 13 = .ok (.if_icmp .le 5, 3) := by decide +kernel
theorem d_NLongNumber_setProduct_16 : decode prog_5_method_10_code 16 = .ok (.iconst 0, 1) := by decide +kernel
theorem d_NLongNumber_setProduct_17 : decode prog_5_method_10_code 17 = .ok (.ireturn, 1) := by decide +kernel
theorem d_NLongNumber_setProduct_18 : decode prog_5_method_10_code 18 = .ok (.aload_n 0, 1) := by decide +kernel
theorem d_NLongNumber_setProduct_19 : decode prog_5_method_10_code 19 = .ok (.getfield 16, 3) := by decide +kernel
theorem d_NLongNumber_setProduct_22 : decode prog_5_method_10_code 22 = .ok (.iconst 0, 1) := by decide +kernel
theorem d_NLongNumber_setProduct_23 : decode prog_5_method_10_code 23 = .ok (.invokestatic 70, 3) := by decide +kernel
theorem d_NLongNumber_setProduct_26 : decode prog_5_method_10_code 26 = .ok (.iconst 0, 1) := by decide +kernel
theorem d_NLongNumber_setProduct_27 : decode prog_5_method_10_code 27 = .ok (.istore 4, 2) := by decide +kernel
theorem d_NLongNumber_setProduct_29 : decode prog_5_method_10_code 29 = .ok (.iload 4, 2) := by decide +kernel
theorem d_NLongNumber_setProduct_31 : decode prog_5_method_10_code 31 = .ok (.aload_n 1, 1) := by decide +kernel
theorem d_NLongNumber_setProduct_32 : decode prog_5_method_10_code 32 = .ok (.getfield 13, 3) := by decide +kernel
theorem d_NLongNumber_setProduct_35 : decode prog_5_method_10_code 35 = .ok (.if_icmp .ge 108, 3) := by decide +kernel
theorem d_NLongNumber_setProduct_38 : decode prog_5_method_10_code 38 = .ok (.aload_n 1, 1) := by decide +kernel
theorem d_NLongNumber_setProduct_39 : decode prog_5_method_10_code 39 = .ok (.getfield 16, 3) := by decide +kernel
theorem d_NLongNumber_setProduct_42 : decode prog_5_method_10_code 42 = .ok (.iload 4, 2) := by decide +kernel
theorem d_NLongNumber_setProduct_44 : decode prog_5_method_10_code 44 = .ok (.iaload, 1) := by decide +kernel
theorem d_NLongNumber_setProduct_45 : decode prog_5_method_10_code 45 = .ok (.i2l, 1) := by decide +kernel
theorem d_NLongNumber_setProduct_46 : decode prog_5_method_10_code 46 = .ok (.lstore 5, 2) := by decide +kernel
theorem d_NLongNumber_setProduct_48 : decode prog_5_method_10_code 48 = .ok (.lconst 0, 1) := by decide +kernel
theorem d_NLongNumber_setProduct_49 : decode prog_5_method_10_code 49 = .ok (.lstore 7, 2) := by decide +kernel
theorem d_NLongNumber_setProduct_51 : decode prog_5_method_10_code 51 = .ok (.iconst 0, 1) := by decide +kernel
theorem d_NLongNumber_setProduct_52 : decode prog_5_method_10_code 52 = .ok (.istore 9, 2) := by decide +kernel
theorem d_NLongNumber_setProduct_54 : decode prog_5_method_10_code 54 = .ok (.iload 9, 2) := by decide +kernel
theorem d_NLongNumber_setProduct_56 : decode prog_5_method_10_code 56 = .ok (.aload_n 2, 1) := by decide +kernel
theorem d_NLongNumber_setProduct_57 : decode prog_5_method_10_code 57 = .ok (.getfield 13, 3) := by decide +kernel
theorem d_NLongNumber_setProduct_60 : decode prog_5_method_10_code 60 = .ok (.if_icmp .ge 62, 3) := by decide +kernel
theorem d_NLongNumber_setProduct_63 : decode prog_5_method_10_code 63 = .ok (.lload 7, 2) := by decide +kernel
theorem d_NLongNumber_setProduct_65 : decode prog_5_method_10_code 65 = .ok (.aload_n 0, 1) := by decide +kernel
theorem d_NLongNumber_setProduct_66 : decode prog_5_method_10_code 66 = .ok (.getfield 16, 3) := by decide +kernel
theorem d_NLongNumber_setProduct_69 : decode prog_5_method_10_code 69 = .ok (.iload 4, 2) := by decide +kernel
theorem d_NLongNumber_setProduct_71 : decode prog_5_method_10_code 71 = .ok (.iload 9, 2) := by decide +kernel
theorem d_NLongNumber_setProduct_73 : decode prog_5_method_10_code 73 = .ok (.iadd, 1) := by decide +kernel
theorem d_NLongNumber_setProduct_74 : decode prog_5_method_10_code 74 = .ok (.iaload, 1) := by decide +kernel
theorem d_NLongNumber_setProduct_75 : decode prog_5_method_10_code 75 = .ok (.i2l, 1) := by decide +kernel
theorem d_NLongNumber_setProduct_76 : decode prog_5_method_10_code 76 = .ok (.lload 5, 2) := by decide +kernel
theorem d_NLongNumber_setProduct_78 : decode prog_5_method_10_code 78 = .ok (.aload_n 2, 1) := by decide +kernel
theorem d_NLongNumber_setProduct_79 : decode prog_5_method_10_code 79 = .ok (.getfield 16, 3) := by decide +kernel
theorem d_NLongNumber_setProduct_82 : decode prog_5_method_10_code 82 = .ok (.iload 9, 2) := by decide +kernel
theorem d_NLongNumber_setProduct_84 : decode prog_5_method_10_code 84 = .ok (.iaload, 1) := by decide +kernel
theorem d_NLongNumber_setProduct_85 : decode prog_5_method_10_code 85 = .ok (.i2l, 1) := by decide +kernel
theorem d_NLongNumber_setProduct_86 : decode prog_5_method_10_code 86 = .ok (.lmul, 1) := by decide +kernel
theorem d_NLongNumber_setProduct_87 : decode prog_5_method_10_code 87 = .ok (.ladd, 1) := by decide +kernel
theorem d_NLongNumber_setProduct_88 : decode prog_5_method_10_code 88 = .ok (.ladd, 1) := by decide +kernel
theorem d_NLongNumber_setProduct_89 : decode prog_5_method_10_code 89 = .ok (.lstore 7, 2) := by decide +kernel
theorem d_NLongNumber_setProduct_91 : decode prog_5_method_10_code 91 = .ok (.aload_n 0, 1) := by decide +kernel
theorem d_NLongNumber_setProduct_92 : decode prog_5_method_10_code 92 = .ok (.getfield 16, 3) := by decide +kernel
theorem d_NLongNumber_setProduct_95 : decode prog_5_method_10_code 95 = .ok (.iload 4, 2) := by decide +kernel
theorem d_NLongNumber_setProduct_97 : decode prog_5_method_10_code 97 = .ok (.iload 9, 2) := by decide +kernel
theorem d_NLongNumber_setProduct_99 : decode prog_5_method_10_code 99 = .ok (.iadd, 1) := by decide +kernel
theorem d_NLongNumber_setProduct_100 : decode prog_5_method_10_code 100 = .ok (.lload 7, 2) := by decide +kernel
theorem d_NLongNumber_setProduct_102 : decode prog_5_method_10_code 102 = .ok (.ldc2_w 32, 3) := by decide +kernel
theorem d_NLongNumber_setProduct_105 : decode prog_5_method_10_code 105 = .ok (.lrem, 1) := by decide +kernel
theorem d_NLongNumber_setProduct_106 : decode prog_5_method_10_code 106 = .ok (.l2i, 1) := by decide +kernel
theorem d_NLongNumber_setProduct_107 : decode prog_5_method_10_code 107 = .ok (.iastore, 1) := by decide +kernel
theorem d_NLongNumber_setProduct_108 : decode prog_5_method_10_code 108 = .ok (.lload 7, 2) := by decide +kernel
theorem d_NLongNumber_setProduct_110 : decode prog_5_method_10_code 110 = .ok (.ldc2_w 32, 3) := by decide +kernel
theorem d_NLongNumber_setProduct_113 : decode prog_5_method_10_code 113 = .ok (.ldiv, 1) := by decide +kernel
theorem d_NLongNumber_setProduct_114 : decode prog_5_method_10_code 114 = .ok (.lstore 7, 2) := by decide +kernel
theorem d_NLongNumber_setProduct_116 : decode prog_5_method_10_code 116 = .ok (.iinc 9 1, 3) := by decide +kernel
theorem d_NLongNumber_setProduct_119 : decode prog_5_method_10_code 119 = .ok (.goto (-65), 3) := by decide +kernel
theorem d_NLongNumber_setProduct_122 : decode prog_5_method_10_code 122 = .ok (.aload_n 0, 1) := by decide +kernel
theorem d_NLongNumber_setProduct_123 : decode prog_5_method_10_code 123 = .ok (.getfield 16, 3) := by decide +kernel
theorem d_NLongNumber_setProduct_126 : decode prog_5_method_10_code 126 = .ok (.iload 4, 2) := by decide +kernel
theorem d_NLongNumber_setProduct_128 : decode prog_5_method_10_code 128 = .ok (.aload_n 2, 1) := by decide +kernel
theorem d_NLongNumber_setProduct_129 : decode prog_5_method_10_code 129 = .ok (.getfield 13, 3) := by decide +kernel
theorem d_NLongNumber_setProduct_132 : decode prog_5_method_10_code 132 = .ok (.iadd, 1) := by decide +kernel
theorem d_NLongNumber_setProduct_133 : decode prog_5_method_10_code 133 = .ok (.lload 7, 2) := by decide +kernel
theorem d_NLongNumber_setProduct_135 : decode prog_5_method_10_code 135 = .ok (.l2i, 1) := by decide +kernel
theorem d_NLongNumber_setProduct_136 : decode prog_5_method_10_code 136 = .ok (.iastore, 1) := by decide +kernel
theorem d_NLongNumber_setProduct_137 : decode prog_5_method_10_code 137 = .ok (.iinc 4 1, 3) := by decide +kernel
theorem d_NLongNumber_setProduct_140 : decode prog_5_method_10_code 140 = .ok (.goto (-111), 3) := by decide +kernel
theorem d_NLongNumber_setProduct_143 : decode prog_5_method_10_code 143 = .ok (.aload_n 0, 1) := by decide +kernel
theorem d_NLongNumber_setProduct_144 : decode prog_5_method_10_code 144 = .ok (.iload_n 3, 1) := by decide +kernel
theorem d_NLongNumber_setProduct_145 : decode prog_5_method_10_code 145 = .ok (.aload_n 1, 1) := by decide +kernel
theorem d_NLongNumber_setProduct_146 : decode prog_5_method_10_code 146 = .ok (.getfield 7, 3) := by decide +kernel
theorem d_NLongNumber_setProduct_149 : decode prog_5_method_10_code 149 = .ok (.aload_n 2, 1) := by decide +kernel
theorem d_NLongNumber_setProduct_150 : decode prog_5_method_10_code 150 = .ok (.getfield 7, 3) := by decide +kernel
theorem d_NLongNumber_setProduct_153 : decode prog_5_method_10_code 153 = .ok (.imul, 1) := by decide +kernel
theorem d_NLongNumber_setProduct_154 : decode prog_5_method_10_code 154 = .ok (.invokevirtual 76, 3) := by decide +kernel
theorem d_NLongNumber_setProduct_157 : decode prog_5_method_10_code 157 = .ok (.aload_n 0, 1) := by decide +kernel
theorem d_NLongNumber_setProduct_158 : decode prog_5_method_10_code 158 = .ok (.invokevirtual 66, 3) := by decide +kernel
theorem d_NLongNumber_setProduct_161 : decode prog_5_method_10_code 161 = .ok (.ireturn, 1) := by decide +kernel
theorem d_NLongNumber_setTo_0 : decode prog_5_method_2_code 0 = .ok (.lload_n 1, 1) := by decide +kernel
theorem d_NLongNumber_setTo_1 : decode prog_5_method_2_code 1 = .ok (.invokestatic 20, 3) := by decide +kernel
theorem d_NLongNumber_setTo_4 : decode prog_5_method_2_code 4 = .ok (.lstore_n 3, 1) := by decide +kernel
theorem d_NLongNumber_setTo_5 : decode prog_5_method_2_code 5 = .ok (.aload_n 0, 1) := by decide +kernel
theorem d_NLongNumber_setTo_6 : decode prog_5_method_2_code 6 = .ok (.lload_n 1, 1) := by decide +kernel
theorem d_NLongNumber_setTo_7 : decode prog_5_method_2_code 7 = .ok (.invokestatic 26, 3) := by decide +kernel
theorem d_NLongNumber_setTo_10 : decode prog_5_method_2_code 10 = .ok (.putfield 7, 3) := by decide +kernel
theorem d_NLongNumber_setTo_13 : decode prog_5_method_2_code 13 = .ok (.aload_n 0, 1) := by decide +kernel
theorem d_NLongNumber_setTo_14 : decode prog_5_method_2_code 14 = .ok (.iconst 0, 1) := by decide +kernel
theorem d_NLongNumber_setTo_15 : decode prog_5_method_2_code 15 = .ok (.putfield 13, 3) := by decide +kernel
theorem d_NLongNumber_setTo_18 : decode prog_5_method_2_code 18 = .ok (.iconst 0, 1) := by decide +kernel
theorem d_NLongNumber_setTo_19 : decode prog_5_method_2_code 19 = .ok (.istore 5, 2) := by decide +kernel
theorem d_NLongNumber_setTo_21 : decode prog_5_method_2_code 21 = .ok (.iload 5, 2) := by decide +kernel
theorem d_NLongNumber_setTo_23 : decode prog_5_method_2_code 23 = .ok (.bipush 15, 2) := by decide +kernel
theorem d_NLongNumber_setTo_25 : decode prog_5_method_2_code 25 = .ok (.if_icmp .ge 44, 3) := by decide +kernel
theorem d_NLongNumber_setTo_28 : decode prog_5_method_2_code 28 = .ok (.lload_n 3, 1) := by decide +kernel
theorem d_NLongNumber_setTo_29 : decode prog_5_method_2_code 29 = .ok (.lconst 0, 1) := by decide +kernel
theorem d_NLongNumber_setTo_30 : decode prog_5_method_2_code 30 = .ok (.lcmp, 1) := by decide +kernel
theorem d_NLongNumber_setTo_31 : decode prog_5_method_2_code 31 = .ok (.ifCond .le 38, 3) := by decide +kernel
theorem d_NLongNumber_setTo_34 : decode prog_5_method_2_code 34 = .ok (.aload_n 0, 1) := by decide +kernel
theorem d_NLongNumber_setTo_35 : decode prog_5_method_2_code 35 = .ok (.getfield 16, 3) := by decide +kernel
theorem d_NLongNumber_setTo_38 : decode prog_5_method_2_code 38 = .ok (.iload 5, 2) := by decide +kernel
theorem d_NLongNumber_setTo_40 : decode prog_5_method_2_code 40 = .ok (.lload_n 3, 1) := by decide +kernel
theorem d_NLongNumber_setTo_41 : decode prog_5_method_2_code 41 = .ok (.ldc2_w 32, 3) := by decide +kernel
theorem d_NLongNumber_setTo_44 : decode prog_5_method_2_code 44 = .ok (.lrem, 1) := by decide +kernel
theorem d_NLongNumber_setTo_45 : decode prog_5_method_2_code 45 = .ok (.l2i, 1) := by decide +kernel
theorem d_NLongNumber_setTo_46 : decode prog_5_method_2_code 46 = .ok (.iastore, 1) := by decide +kernel
theorem d_NLongNumber_setTo_47 : decode prog_5_method_2_code 47 = .ok (.lload_n 3, 1) := by decide +kernel
theorem d_NLongNumber_setTo_48 : decode prog_5_method_2_code 48 = .ok (.ldc2_w 32, 3) := by decide +kernel
theorem d_NLongNumber_setTo_51 : decode prog_5_method_2_code 51 = .ok (.ldiv, 1) := by decide +kernel
theorem d_NLongNumber_setTo_52 : decode prog_5_method_2_code 52 = .ok (.lstore_n 3, 1) := by decide +kernel
theorem d_NLongNumber_setTo_53 : decode prog_5_method_2_code 53 = .ok (.aload_n 0, 1) := by decide +kernel
theorem d_NLongNumber_setTo_54 : decode prog_5_method_2_code 54 = .ok (.dup, 1) := by decide +kernel
theorem d_NLongNumber_setTo_55 : decode prog_5_method_2_code 55 = .ok (.getfield 13, 3) := by decide +kernel
theorem d_NLongNumber_setTo_58 : decode prog_5_method_2_code 58 = .ok (.iconst 1, 1) := by decide +kernel
theorem d_NLongNumber_setTo_59 : decode prog_5_method_2_code 59 = .ok (.iadd, 1) := by decide +kernel
theorem d_NLongNumber_setTo_60 : decode prog_5_method_2_code 60 = .ok (.putfield 13, 3) := by decide +kernel
theorem d_NLongNumber_setTo_63 : decode prog_5_method_2_code 63 = .ok (.iinc 5 1, 3) := by decide +kernel
theorem d_NLongNumber_setTo_66 : decode prog_5_method_2_code 66 = .ok (.goto (-45), 3) := by decide +kernel
theorem d_NLongNumber_setTo_69 : decode prog_5_method_2_code 69 = .ok (.return_, 1) := by decide +kernel
theorem d_NNode_sign_0 : decode prog_6_method_3_code 0 = .ok (.aload_n 0, 1) := by decide +kernel
theorem d_NNode_sign_1 : decode prog_6_method_3_code 1 = .ok (.getfield 26, 3) := by decide +kernel
theorem d_NNode_sign_4 : decode prog_6_method_3_code 4 = .ok (.ifCond .eq 13, 3) := by decide +kernel
theorem d_NNode_sign_7 : decode prog_6_method_3_code 7 = .ok (.aload_n 0, 1) := by decide +kernel
theorem d_NNode_sign_8 : decode prog_6_method_3_code 8 = .ok (.getfield 30, 3) := by decide +kernel
theorem d_NNode_sign_11 : decode prog_6_method_3_code 11 = .ok (.invokestatic 45, 3) := by decide +kernel
theorem d_NNode_sign_14 : decode prog_6_method_3_code 14 = .ok (.goto 10, 3) := by decide +kernel
theorem d_NNode_sign_17 : decode prog_6_method_3_code 17 = .ok (.aload_n 0, 1) := by decide +kernel
theorem d_NNode_sign_18 : decode prog_6_method_3_code 18 = .ok (.getfield 37, 3) := by decide +kernel
theorem d_NNode_sign_21 : decode prog_6_method_3_code 21 = .ok (.getfield 51, 3) := by decide +kernel
theorem d_NNode_sign_24 : decode prog_6_method_3_code 24 = .ok (.ireturn, 1) := by decide +kernel
theorem d_NNode_widened_0 : decode prog_6_method_2_code 0 = .ok (.aload_n 0, 1) := by decide +kernel
theorem d_NNode_widened_1 : decode prog_6_method_2_code 1 = .ok (.getfield 26, 3) := by decide +kernel
theorem d_NNode_widened_4 : decode prog_6_method_2_code 4 = .ok (.ifCond .eq 14, 3) := by decide +kernel
theorem d_NNode_widened_7 : decode prog_6_method_2_code 7 = .ok (.aload_n 0, 1) := by decide +kernel
theorem d_NNode_widened_8 : decode prog_6_method_2_code 8 = .ok (.getfield 37, 3) := by decide +kernel
theorem d_NNode_widened_11 : decode prog_6_method_2_code 11 = .ok (.aload_n 0, 1) := by decide +kernel
theorem d_NNode_widened_12 : decode prog_6_method_2_code 12 = .ok (.getfield 30, 3) := by decide +kernel
theorem d_NNode_widened_15 : decode prog_6_method_2_code 15 = .ok (.invokevirtual 41, 3) := by decide +kernel
theorem d_NNode_widened_18 : decode prog_6_method_2_code 18 = .ok (.aload_n 0, 1) := by decide +kernel
theorem d_NNode_widened_19 : decode prog_6_method_2_code 19 = .ok (.getfield 37, 3) := by decide +kernel
theorem d_NNode_widened_22 : decode prog_6_method_2_code 22 = .ok (.areturn, 1) := by decide +kernel
theorem d_Long_signum_0 : decode prog_18_method_57_code 0 = .ok (.lload_n 0, 1) := by decide +kernel
theorem d_Long_signum_1 : decode prog_18_method_57_code 1 = .ok (.bipush 63, 2) := by decide +kernel
theorem d_Long_signum_3 : decode prog_18_method_57_code 3 = .ok (.lshr, 1) := by decide +kernel
theorem d_Long_signum_4 : decode prog_18_method_57_code 4 = .ok (.lload_n 0, 1) := by decide +kernel
theorem d_Long_signum_5 : decode prog_18_method_57_code 5 = .ok (.lneg, 1) := by decide +kernel
theorem d_Long_signum_6 : decode prog_18_method_57_code 6 = .ok (.bipush 63, 2) := by decide +kernel
theorem d_Long_signum_8 : decode prog_18_method_57_code 8 = .ok (.lushr, 1) := by decide +kernel
theorem d_Long_signum_9 : decode prog_18_method_57_code 9 = .ok (.lor, 1) := by decide +kernel
theorem d_Long_signum_10 : decode prog_18_method_57_code 10 = .ok (.l2i, 1) := by decide +kernel
theorem d_Long_signum_11 : decode prog_18_method_57_code 11 = .ok (.ireturn, 1) := by decide +kernel
theorem d_javautilArrays_fill_0 : decode prog_25_method_103_code 0 = .ok (.iconst 0, 1) := by decide +kernel
theorem d_javautilArrays_fill_1 : decode prog_25_method_103_code 1 = .ok (.istore_n 2, 1) := by decide +kernel
theorem d_javautilArrays_fill_2 : decode prog_25_method_103_code 2 = .ok (.aload_n 0, 1) := by decide +kernel
theorem d_javautilArrays_fill_3 : decode prog_25_method_103_code 3 = .ok (.arraylength, 1) := by decide +kernel
theorem d_javautilArrays_fill_4 : decode prog_25_method_103_code 4 = .ok (.istore_n 3, 1) := by decide +kernel
theorem d_javautilArrays_fill_5 : decode prog_25_method_103_code 5 = .ok (.iload_n 2, 1) := by decide +kernel
theorem d_javautilArrays_fill_6 : decode prog_25_method_103_code 6 = .ok (.iload_n 3, 1) := by decide +kernel
theorem d_javautilArrays_fill_7 : decode prog_25_method_103_code 7 = .ok (.if_icmp .ge 13, 3) := by decide +kernel
theorem d_javautilArrays_fill_10 : decode prog_25_method_103_code 10 = .ok (.aload_n 0, 1) := by decide +kernel
theorem d_javautilArrays_fill_11 : decode prog_25_method_103_code 11 = .ok (.iload_n 2, 1) := by decide +kernel
theorem d_javautilArrays_fill_12 : decode prog_25_method_103_code 12 = .ok (.iload_n 1, 1) := by decide +kernel
theorem d_javautilArrays_fill_13 : decode prog_25_method_103_code 13 = .ok (.iastore, 1) := by decide +kernel
theorem d_javautilArrays_fill_14 : decode prog_25_method_103_code 14 = .ok (.iinc 2 1, 3) := by decide +kernel
theorem d_javautilArrays_fill_17 : decode prog_25_method_103_code 17 = .ok (.goto (-12), 3) := by decide +kernel
theorem d_javautilArrays_fill_20 : decode prog_25_method_103_code 20 = .ok (.return_, 1) := by decide +kernel

