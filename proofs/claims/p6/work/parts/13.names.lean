theorem wd_30 {U : State} (h : TB U) (args : Array Value) : (Cond.selects "BigRunner$LongNumber" ⟨"BigRunner$LongNumber", "addLimbs", "(LBigRunner$LongNumber;LBigRunner$LongNumber;I)V"⟩ ⟨"BigRunner$LongNumber", "addLimbs", "(LBigRunner$LongNumber;LBigRunner$LongNumber;I)V"⟩).before args U = true := h.w 30 (by decide +kernel) rfl args
theorem wd_31 {U : State} (h : TB U) (args : Array Value) : (Cond.selects "BigRunner$LongNumber" ⟨"BigRunner$LongNumber", "limb", "(I)I"⟩ ⟨"BigRunner$LongNumber", "limb", "(I)I"⟩).before args U = true := h.w 31 (by decide +kernel) rfl args
theorem wd_32 {U : State} (h : TB U) (args : Array Value) : (Cond.selects "BigRunner$LongNumber" ⟨"BigRunner$LongNumber", "subtractLimbs", "(LBigRunner$LongNumber;LBigRunner$LongNumber;I)V"⟩ ⟨"BigRunner$LongNumber", "subtractLimbs", "(LBigRunner$LongNumber;LBigRunner$LongNumber;I)V"⟩).before args U = true := h.w 32 (by decide +kernel) rfl args
theorem wd_33 {U : State} (h : TB U) (args : Array Value) : (Cond.selects "BigRunner$LongNumber" ⟨"BigRunner$LongNumber", "fits", "()Z"⟩ ⟨"BigRunner$LongNumber", "fits", "()Z"⟩).before args U = true := h.w 33 (by decide +kernel) rfl args
theorem wd_78 {U : State} (h : TB U) (args : Array Value) : (Cond.initialized "BigRunner$LongNumber").before args U = true := h.w 78 (by decide +kernel) rfl args
theorem wd_83 {U : State} (h : TB U) (args : Array Value) : (Cond.initialized "java/lang/Math").before args U = true := h.w 83 (by decide +kernel) rfl args
theorem wd_90 {U : State} (h : TB U) (args : Array Value) : (Cond.initialized "java/lang/System").before args U = true := h.w 90 (by decide +kernel) rfl args
theorem wd_186 {U : State} (h : TB U) (args : Array Value) : (Cond.fieldLink "BigRunner$LongNumber" 7 "BigRunner$LongNumber" "sign" "I").before args U = true := h.w 186 (by decide +kernel) rfl args
theorem wd_190 {U : State} (h : TB U) (args : Array Value) : (Cond.fieldLink "BigRunner$LongNumber" 13 "BigRunner$LongNumber" "size" "I").before args U = true := h.w 190 (by decide +kernel) rfl args
theorem wd_192 {U : State} (h : TB U) (args : Array Value) : (Cond.fieldLink "BigRunner$LongNumber" 16 "BigRunner$LongNumber" "limbs" "[I").before args U = true := h.w 192 (by decide +kernel) rfl args
theorem wd_459 {U : State} (h : TB U) (args : Array Value) : (Cond.static ⟨"java/lang/Math", "min", "(II)I"⟩).before args U = true := h.w 459 (by decide +kernel) rfl args
theorem wd_460 {U : State} (h : TB U) (args : Array Value) : (Cond.code Lib.Math.min.name Lib.Math.min.code 2 (some .int)).before args U = true := h.w 460 (by decide +kernel) rfl args
theorem wd_685 {U : State} (h : TB U) (args : Array Value) : (Cond.constantLong "BigRunner$LongNumber" 32 1000000000).before args U = true := h.w 685 (by decide +kernel) rfl args
theorem wd_744 {U : State} (h : TB U) (args : Array Value) : (Cond.instanceMethod ⟨"BigRunner$LongNumber", "copy", "(LBigRunner$LongNumber;I)V"⟩).before args U = true := h.w 744 (by decide +kernel) rfl args
theorem wd_745 {U : State} (h : TB U) (args : Array Value) : (Cond.selects "BigRunner$LongNumber" ⟨"BigRunner$LongNumber", "copy", "(LBigRunner$LongNumber;I)V"⟩ ⟨"BigRunner$LongNumber", "copy", "(LBigRunner$LongNumber;I)V"⟩).before args U = true := h.w 745 (by decide +kernel) rfl args
theorem wd_746 {U : State} (h : TB U) (args : Array Value) : (Cond.code ⟨"BigRunner$LongNumber", "copy", "(LBigRunner$LongNumber;I)V"⟩ prog_5_method_3_code 3 none).before args U = true := h.w 746 (by decide +kernel) rfl args
theorem wd_747 {U : State} (h : TB U) (args : Array Value) : (Cond.methodLink "BigRunner$LongNumber" 34 ⟨"java/lang/System", "arraycopy", "(Ljava/lang/Object;ILjava/lang/Object;II)V"⟩).before args U = true := h.w 747 (by decide +kernel) rfl args
theorem wd_748 {U : State} (h : TB U) (args : Array Value) : (Cond.static ⟨"java/lang/System", "arraycopy", "(Ljava/lang/Object;ILjava/lang/Object;II)V"⟩).before args U = true := h.w 748 (by decide +kernel) rfl args
theorem wd_749 {U : State} (h : TB U) (args : Array Value) : (Cond.native ⟨"java/lang/System", "arraycopy", "(Ljava/lang/Object;ILjava/lang/Object;II)V"⟩).before args U = true := h.w 749 (by decide +kernel) rfl args
theorem wd_767 {U : State} (h : TB U) (args : Array Value) : (Cond.methodLink "BigRunner$LongNumber" 51 ⟨"BigRunner$LongNumber", "copy", "(LBigRunner$LongNumber;I)V"⟩).before args U = true := h.w 767 (by decide +kernel) rfl args
theorem wd_768 {U : State} (h : TB U) (args : Array Value) : (Cond.methodLink "BigRunner$LongNumber" 55 ⟨"BigRunner$LongNumber", "addLimbs", "(LBigRunner$LongNumber;LBigRunner$LongNumber;I)V"⟩).before args U = true := h.w 768 (by decide +kernel) rfl args
theorem wd_770 {U : State} (h : TB U) (args : Array Value) : (Cond.instanceMethod ⟨"BigRunner$LongNumber", "addLimbs", "(LBigRunner$LongNumber;LBigRunner$LongNumber;I)V"⟩).before args U = true := h.w 770 (by decide +kernel) rfl args
theorem wd_771 {U : State} (h : TB U) (args : Array Value) : (Cond.code ⟨"BigRunner$LongNumber", "addLimbs", "(LBigRunner$LongNumber;LBigRunner$LongNumber;I)V"⟩ prog_5_method_13_code 8 none).before args U = true := h.w 771 (by decide +kernel) rfl args
theorem wd_772 {U : State} (h : TB U) (args : Array Value) : (Cond.methodLink "BigRunner$LongNumber" 80 ⟨"java/lang/Math", "max", "(II)I"⟩).before args U = true := h.w 772 (by decide +kernel) rfl args
theorem wd_773 {U : State} (h : TB U) (args : Array Value) : (Cond.static ⟨"java/lang/Math", "max", "(II)I"⟩).before args U = true := h.w 773 (by decide +kernel) rfl args
theorem wd_774 {U : State} (h : TB U) (args : Array Value) : (Cond.code Lib.Math.max.name Lib.Math.max.code 2 (some .int)).before args U = true := h.w 774 (by decide +kernel) rfl args
theorem wd_775 {U : State} (h : TB U) (args : Array Value) : (Cond.methodLink "BigRunner$LongNumber" 47 ⟨"java/lang/Math", "min", "(II)I"⟩).before args U = true := h.w 775 (by decide +kernel) rfl args
theorem wd_776 {U : State} (h : TB U) (args : Array Value) : (Cond.methodLink "BigRunner$LongNumber" 83 ⟨"BigRunner$LongNumber", "limb", "(I)I"⟩).before args U = true := h.w 776 (by decide +kernel) rfl args
theorem wd_778 {U : State} (h : TB U) (args : Array Value) : (Cond.instanceMethod ⟨"BigRunner$LongNumber", "limb", "(I)I"⟩).before args U = true := h.w 778 (by decide +kernel) rfl args
theorem wd_779 {U : State} (h : TB U) (args : Array Value) : (Cond.code ⟨"BigRunner$LongNumber", "limb", "(I)I"⟩ prog_5_method_12_code 2 (some .int)).before args U = true := h.w 779 (by decide +kernel) rfl args
theorem wd_780 {U : State} (h : TB U) (args : Array Value) : (Cond.constant "BigRunner$LongNumber" 87 1000000000).before args U = true := h.w 780 (by decide +kernel) rfl args
theorem wd_781 {U : State} (h : TB U) (args : Array Value) : (Cond.methodLink "BigRunner$LongNumber" 76 ⟨"BigRunner$LongNumber", "finish", "(II)V"⟩).before args U = true := h.w 781 (by decide +kernel) rfl args
theorem wd_782 {U : State} (h : TB U) (args : Array Value) : (Cond.instanceMethod ⟨"BigRunner$LongNumber", "finish", "(II)V"⟩).before args U = true := h.w 782 (by decide +kernel) rfl args
theorem wd_783 {U : State} (h : TB U) (args : Array Value) : (Cond.selects "BigRunner$LongNumber" ⟨"BigRunner$LongNumber", "finish", "(II)V"⟩ ⟨"BigRunner$LongNumber", "finish", "(II)V"⟩).before args U = true := h.w 783 (by decide +kernel) rfl args
theorem wd_784 {U : State} (h : TB U) (args : Array Value) : (Cond.code ⟨"BigRunner$LongNumber", "finish", "(II)V"⟩ prog_5_method_7_code 3 none).before args U = true := h.w 784 (by decide +kernel) rfl args
theorem wd_785 {U : State} (h : TB U) (args : Array Value) : (Cond.methodLink "BigRunner$LongNumber" 59 ⟨"BigRunner$LongNumber", "isFarther", "(LBigRunner$LongNumber;LBigRunner$LongNumber;)Z"⟩).before args U = true := h.w 785 (by decide +kernel) rfl args
theorem wd_786 {U : State} (h : TB U) (args : Array Value) : (Cond.static ⟨"BigRunner$LongNumber", "isFarther", "(LBigRunner$LongNumber;LBigRunner$LongNumber;)Z"⟩).before args U = true := h.w 786 (by decide +kernel) rfl args
theorem wd_787 {U : State} (h : TB U) (args : Array Value) : (Cond.code ⟨"BigRunner$LongNumber", "isFarther", "(LBigRunner$LongNumber;LBigRunner$LongNumber;)Z"⟩ prog_5_method_11_code 3 (some .boolean)).before args U = true := h.w 787 (by decide +kernel) rfl args
theorem wd_788 {U : State} (h : TB U) (args : Array Value) : (Cond.methodLink "BigRunner$LongNumber" 63 ⟨"BigRunner$LongNumber", "subtractLimbs", "(LBigRunner$LongNumber;LBigRunner$LongNumber;I)V"⟩).before args U = true := h.w 788 (by decide +kernel) rfl args
theorem wd_790 {U : State} (h : TB U) (args : Array Value) : (Cond.instanceMethod ⟨"BigRunner$LongNumber", "subtractLimbs", "(LBigRunner$LongNumber;LBigRunner$LongNumber;I)V"⟩).before args U = true := h.w 790 (by decide +kernel) rfl args
theorem wd_791 {U : State} (h : TB U) (args : Array Value) : (Cond.code ⟨"BigRunner$LongNumber", "subtractLimbs", "(LBigRunner$LongNumber;LBigRunner$LongNumber;I)V"⟩ prog_5_method_14_code 7 none).before args U = true := h.w 791 (by decide +kernel) rfl args
theorem wd_792 {U : State} (h : TB U) (args : Array Value) : (Cond.methodLink "BigRunner$LongNumber" 66 ⟨"BigRunner$LongNumber", "fits", "()Z"⟩).before args U = true := h.w 792 (by decide +kernel) rfl args
theorem wd_794 {U : State} (h : TB U) (args : Array Value) : (Cond.instanceMethod ⟨"BigRunner$LongNumber", "fits", "()Z"⟩).before args U = true := h.w 794 (by decide +kernel) rfl args
theorem wd_795 {U : State} (h : TB U) (args : Array Value) : (Cond.code ⟨"BigRunner$LongNumber", "fits", "()Z"⟩ prog_5_method_8_code 1 (some .boolean)).before args U = true := h.w 795 (by decide +kernel) rfl args
theorem d_NLongNumber_addLimbs_0 : decode prog_5_method_13_code 0 = .ok (.aload_n 1, 1) := by decide +kernel
theorem d_NLongNumber_addLimbs_1 : decode prog_5_method_13_code 1 = .ok (.getfield 13, 3) := by decide +kernel
theorem d_NLongNumber_addLimbs_4 : decode prog_5_method_13_code 4 = .ok (.aload_n 2, 1) := by decide +kernel
theorem d_NLongNumber_addLimbs_5 : decode prog_5_method_13_code 5 = .ok (.getfield 13, 3) := by decide +kernel
theorem d_NLongNumber_addLimbs_8 : decode prog_5_method_13_code 8 = .ok (.invokestatic 80, 3) := by decide +kernel
theorem d_NLongNumber_addLimbs_11 : decode prog_5_method_13_code 11 = .ok (.iconst 1, 1) := by decide +kernel
theorem d_NLongNumber_addLimbs_12 : decode prog_5_method_13_code 12 = .ok (.iadd, 1) := by decide +kernel
theorem d_NLongNumber_addLimbs_13 : decode prog_5_method_13_code 13 = .ok (.bipush 15, 2) := by decide +kernel
theorem d_NLongNumber_addLimbs_15 : decode prog_5_method_13_code 15 = .ok (.invokestatic 47, 3) := by decide +kernel
theorem d_NLongNumber_addLimbs_18 : decode prog_5_method_13_code 18 = .ok (.istore 4, 2) := by decide +kernel
theorem d_NLongNumber_addLimbs_20 : decode prog_5_method_13_code 20 = .ok (.iconst 0, 1) := by decide +kernel
theorem d_NLongNumber_addLimbs_21 : decode prog_5_method_13_code 21 = .ok (.istore 5, 2) := by decide +kernel
theorem d_NLongNumber_addLimbs_23 : decode prog_5_method_13_code 23 = .ok (.iconst 0, 1) := by decide +kernel
theorem d_NLongNumber_addLimbs_24 : decode prog_5_method_13_code 24 = .ok (.istore 6, 2) := by decide +kernel
theorem d_NLongNumber_addLimbs_26 : decode prog_5_method_13_code 26 = .ok (.iload 6, 2) := by decide +kernel
theorem d_NLongNumber_addLimbs_28 : decode prog_5_method_13_code 28 = .ok (.iload 4, 2) := by decide +kernel
theorem d_NLongNumber_addLimbs_30 : decode prog_5_method_13_code 30 = .ok (.if_icmp .ge 56, 3) := by decide +kernel
theorem d_NLongNumber_addLimbs_33 : decode prog_5_method_13_code 33 = .ok (.aload_n 1, 1) := by decide +kernel
theorem d_NLongNumber_addLimbs_34 : decode prog_5_method_13_code 34 = .ok (.iload 6, 2) := by decide +kernel
theorem d_NLongNumber_addLimbs_36 : decode prog_5_method_13_code 36 = .ok (.invokevirtual 83, 3) := by decide +kernel
theorem d_NLongNumber_addLimbs_39 : decode prog_5_method_13_code 39 = .ok (.aload_n 2, 1) := by decide +kernel
theorem d_NLongNumber_addLimbs_40 : decode prog_5_method_13_code 40 = .ok (.iload 6, 2) := by decide +kernel
theorem d_NLongNumber_addLimbs_42 : decode prog_5_method_13_code 42 = .ok (.invokevirtual 83, 3) := by decide +kernel
theorem d_NLongNumber_addLimbs_45 : decode prog_5_method_13_code 45 = .ok (.iadd, 1) := by decide +kernel
theorem d_NLongNumber_addLimbs_46 : decode prog_5_method_13_code 46 = .ok (.iload 5, 2) := by decide +kernel
theorem d_NLongNumber_addLimbs_48 : decode prog_5_method_13_code 48 = .ok (.iadd, 1) := by decide +kernel
theorem d_NLongNumber_addLimbs_49 : decode prog_5_method_13_code 49 = .ok (.istore 7, 2) := by decide +kernel
theorem d_NLongNumber_addLimbs_51 : decode prog_5_method_13_code 51 = .ok (.iload 7, 2) := by decide +kernel
theorem d_NLongNumber_addLimbs_53 : decode prog_5_method_13_code 53 = .ok (.ldc 87, 2) := by decide +kernel
theorem d_NLongNumber_addLimbs_55 : decode prog_5_method_13_code 55 = .ok (.if_icmp .lt 7, 3) := by decide +kernel
theorem d_NLongNumber_addLimbs_58 : decode prog_5_method_13_code 58 = .ok (.iconst 1, 1) := by decide +kernel
theorem d_NLongNumber_addLimbs_59 : decode prog_5_method_13_code 59 = .ok (.goto 4, 3) := by decide +kernel
theorem d_NLongNumber_addLimbs_62 : decode prog_5_method_13_code 62 = .ok (.iconst 0, 1) := by decide +kernel
theorem d_NLongNumber_addLimbs_63 : decode prog_5_method_13_code 63 = .ok (.istore 5, 2) := by decide +kernel
theorem d_NLongNumber_addLimbs_65 : decode prog_5_method_13_code 65 = .ok (.aload_n 0, 1) := by decide +kernel
theorem d_NLongNumber_addLimbs_66 : decode prog_5_method_13_code 66 = .ok (.getfield 16, 3) := by decide +kernel
theorem d_NLongNumber_addLimbs_69 : decode prog_5_method_13_code 69 = .ok (.iload 6, 2) := by decide +kernel
theorem d_NLongNumber_addLimbs_71 : decode prog_5_method_13_code 71 = .ok (.iload 7, 2) := by decide +kernel
theorem d_NLongNumber_addLimbs_73 : decode prog_5_method_13_code 73 = .ok (.iload 5, 2) := by decide +kernel
theorem d_NLongNumber_addLimbs_75 : decode prog_5_method_13_code 75 = .ok (.ldc 87, 2) := by decide +kernel
theorem d_NLongNumber_addLimbs_77 : decode prog_5_method_13_code 77 = .ok (.imul, 1) := by decide +kernel
theorem d_NLongNumber_addLimbs_78 : decode prog_5_method_13_code 78 = .ok (.isub, 1) := by decide +kernel
theorem d_NLongNumber_addLimbs_79 : decode prog_5_method_13_code 79 = .ok (.iastore, 1) := by decide +kernel
theorem d_NLongNumber_addLimbs_80 : decode prog_5_method_13_code 80 = .ok (.iinc 6 1, 3) := by decide +kernel
theorem d_NLongNumber_addLimbs_83 : decode prog_5_method_13_code 83 = .ok (.goto (-57), 3) := by decide +kernel
theorem d_NLongNumber_addLimbs_86 : decode prog_5_method_13_code 86 = .ok (.aload_n 0, 1) := by decide +kernel
theorem d_NLongNumber_addLimbs_87 : decode prog_5_method_13_code 87 = .ok (.iload 4, 2) := by decide +kernel
theorem d_NLongNumber_addLimbs_89 : decode prog_5_method_13_code 89 = .ok (.iload_n 3, 1) := by decide +kernel
theorem d_NLongNumber_addLimbs_90 : decode prog_5_method_13_code 90 = .ok (.invokevirtual 76, 3) := by decide +kernel
theorem d_NLongNumber_addLimbs_93 : decode prog_5_method_13_code 93 = .ok (.return_, 1) := by decide +kernel
theorem d_NLongNumber_copy_0 : decode prog_5_method_3_code 0 = .ok (.aload_n 0, 1) := by decide +kernel
theorem d_NLongNumber_copy_1 : decode prog_5_method_3_code 1 = .ok (.iload_n 2, 1) := by decide +kernel
theorem d_NLongNumber_copy_2 : decode prog_5_method_3_code 2 = .ok (.putfield 7, 3) := by decide +kernel
theorem d_NLongNumber_copy_5 : decode prog_5_method_3_code 5 = .ok (.aload_n 0, 1) := by decide +kernel
theorem d_NLongNumber_copy_6 : decode prog_5_method_3_code 6 = .ok (.aload_n 1, 1) := by decide +kernel
theorem d_NLongNumber_copy_7 : decode prog_5_method_3_code 7 = .ok (.getfield 13, 3) := by decide +kernel
theorem d_NLongNumber_copy_10 : decode prog_5_method_3_code 10 = .ok (.putfield 13, 3) := by decide +kernel
theorem d_NLongNumber_copy_13 : decode prog_5_method_3_code 13 = .ok (.aload_n 1, 1) := by decide +kernel
theorem d_NLongNumber_copy_14 : decode prog_5_method_3_code 14 = .ok (.getfield 16, 3) := by decide +kernel
theorem d_NLongNumber_copy_17 : decode prog_5_method_3_code 17 = .ok (.iconst 0, 1) := by decide +kernel
theorem d_NLongNumber_copy_18 : decode prog_5_method_3_code 18 = .ok (.aload_n 0, 1) := by decide +kernel
theorem d_NLongNumber_copy_19 : decode prog_5_method_3_code 19 = .ok (.getfield 16, 3) := by decide +kernel
theorem d_NLongNumber_copy_22 : decode prog_5_method_3_code 22 = .ok (.iconst 0, 1) := by decide +kernel
theorem d_NLongNumber_copy_23 : decode prog_5_method_3_code 23 = .ok (.aload_n 1, 1) := by decide +kernel
theorem d_NLongNumber_copy_24 : decode prog_5_method_3_code 24 = .ok (.getfield 13, 3) := by decide +kernel
theorem d_NLongNumber_copy_27 : decode prog_5_method_3_code 27 = .ok (.invokestatic 34, 3) := by decide +kernel
theorem d_NLongNumber_copy_30 : decode prog_5_method_3_code 30 = .ok (.return_, 1) := by decide +kernel
theorem d_NLongNumber_finish_0 : decode prog_5_method_7_code 0 = .ok (.aload_n 0, 1) := by decide +kernel
theorem d_NLongNumber_finish_1 : decode prog_5_method_7_code 1 = .ok (.iload_n 1, 1) := by decide +kernel
theorem d_NLongNumber_finish_2 : decode prog_5_method_7_code 2 = .ok (.bipush 15, 2) := by decide +kernel
theorem d_NLongNumber_finish_4 : decode prog_5_method_7_code 4 = .ok (.invokestatic 47, 3) := by decide +kernel
theorem d_NLongNumber_finish_7 : decode prog_5_method_7_code 7 = .ok (.putfield 13, 3) := by decide +kernel
theorem d_NLongNumber_finish_10 : decode prog_5_method_7_code 10 = .ok (.aload_n 0, 1) := by decide +kernel
theorem d_NLongNumber_finish_11 : decode prog_5_method_7_code 11 = .ok (.getfield 13, 3) := by decide +kernel
theorem d_NLongNumber_finish_14 : decode prog_5_method_7_code 14 = .ok (.ifCond .le 30, 3) := by decide +kernel
theorem d_NLongNumber_finish_17 : decode prog_5_method_7_code 17 = .ok (.aload_n 0, 1) := by decide +kernel
theorem d_NLongNumber_finish_18 : decode prog_5_method_7_code 18 = .ok (.getfield 16, 3) := by decide +kernel
theorem d_NLongNumber_finish_21 : decode prog_5_method_7_code 21 = .ok (.aload_n 0, 1) := by decide +kernel
theorem d_NLongNumber_finish_22 : decode prog_5_method_7_code 22 = .ok (.getfield 13, 3) := by decide +kernel
theorem d_NLongNumber_finish_25 : decode prog_5_method_7_code 25 = .ok (.iconst 1, 1) := by decide +kernel
theorem d_NLongNumber_finish_26 : decode prog_5_method_7_code 26 = .ok (.isub, 1) := by decide +kernel
theorem d_NLongNumber_finish_27 : decode prog_5_method_7_code 27 = .ok (.iaload, 1) := by decide +kernel
theorem d_NLongNumber_finish_28 : decode prog_5_method_7_code 28 = .ok (.ifCond .ne 16, 3) := by decide +kernel
theorem d_NLongNumber_finish_31 : decode prog_5_method_7_code 31 = .ok (.aload_n 0, 1) := by decide +kernel
theorem d_NLongNumber_finish_32 : decode prog_5_method_7_code 32 = .ok (.dup, 1) := by decide +kernel
theorem d_NLongNumber_finish_33 : decode prog_5_method_7_code 33 = .ok (.getfield 13, 3) := by decide +kernel
theorem d_NLongNumber_finish_36 : decode prog_5_method_7_code 36 = .ok (.iconst 1, 1) := by decide +kernel
theorem d_NLongNumber_finish_37 : decode prog_5_method_7_code 37 = .ok (.isub, 1) := by decide +kernel
theorem d_NLongNumber_finish_38 : decode prog_5_method_7_code 38 = .ok (.putfield 13, 3) := by decide +kernel
theorem d_NLongNumber_finish_41 : decode prog_5_method_7_code 41 = .ok (.goto (-31), 3) := by decide +kernel
theorem d_NLongNumber_finish_44 : decode prog_5_method_7_code 44 = .ok (.aload_n 0, 1) := by decide +kernel
theorem d_NLongNumber_finish_45 : decode prog_5_method_7_code 45 = .ok (.aload_n 0, 1) := by decide +kernel
theorem d_NLongNumber_finish_46 : decode prog_5_method_7_code 46 = .ok (.getfield 13, 3) := by decide +kernel
theorem d_NLongNumber_finish_49 : decode prog_5_method_7_code 49 = .ok (.ifCond .ne 7, 3) := by decide +kernel
theorem d_NLongNumber_finish_52 : decode prog_5_method_7_code 52 = .ok (.iconst 0, 1) := by decide +kernel
theorem d_NLongNumber_finish_53 : decode prog_5_method_7_code 53 = .ok (.goto 4, 3) := by decide +kernel
theorem d_NLongNumber_finish_56 : decode prog_5_method_7_code 56 = .ok (.iload_n 2, 1) := by decide +kernel
theorem d_NLongNumber_finish_57 : decode prog_5_method_7_code 57 = .ok (.putfield 7, 3) := by decide +kernel
theorem d_NLongNumber_finish_60 : decode prog_5_method_7_code 60 = .ok (.return_, 1) := by decide +kernel
theorem d_NLongNumber_fits_0 : decode prog_5_method_8_code 0 = .ok (.aload_n 0, 1) := by decide +kernel
theorem d_NLongNumber_fits_1 : decode prog_5_method_8_code 1 = .ok (.getfield 13, 3) := by decide +kernel
theorem d_NLongNumber_fits_4 : decode prog_5_method_8_code 4 = .ok (.bipush 13, 2) := by decide +kernel
theorem d_NLongNumber_fits_6 : decode prog_5_method_8_code 6 = .ok (.if_icmp .le 25, 3) := by decide +kernel
theorem d_NLongNumber_fits_9 : decode prog_5_method_8_code 9 = .ok (.aload_n 0, 1) := by decide +kernel
theorem d_NLongNumber_fits_10 : decode prog_5_method_8_code 10 = .ok (.getfield 13, 3) := by decide +kernel
theorem d_NLongNumber_fits_13 : decode prog_5_method_8_code 13 = .ok (.bipush 14, 2) := by decide +kernel
theorem d_NLongNumber_fits_15 : decode prog_5_method_8_code 15 = .ok (.if_icmp .ne 20, 3) := by decide +kernel
theorem d_NLongNumber_fits_18 : decode prog_5_method_8_code 18 = .ok (.aload_n 0, 1) := by decide +kernel
theorem d_NLongNumber_fits_19 : decode prog_5_method_8_code 19 = .ok (.getfield 16, 3) := by decide +kernel
theorem d_NLongNumber_fits_22 : decode prog_5_method_8_code 22 = .ok (.bipush 13, 2) := by decide +kernel
theorem d_NLongNumber_fits_24 : decode prog_5_method_8_code 24 = .ok (.iaload, 1) := by decide +kernel
theorem d_NLongNumber_fits_25 : decode prog_5_method_8_code 25 = .ok (.sipush 1000, 3) := by decide +kernel
theorem d_NLongNumber_fits_28 : decode prog_5_method_8_code 28 = .ok (.if_icmp .ge 7, 3) := by decide +kernel
theorem d_NLongNumber_fits_31 : decode prog_5_method_8_code 31 = .ok (.iconst 1, 1) := by decide +kernel
theorem d_NLongNumber_fits_32 : decode prog_5_method_8_code 32 = .ok (.goto 4, 3) := by decide +kernel
theorem d_NLongNumber_fits_35 : decode prog_5_method_8_code 35 = .ok (.iconst 0, 1) := by decide +kernel
theorem d_NLongNumber_fits_36 : decode prog_5_method_8_code 36 = .ok (.ireturn, 1) := by decide +kernel
theorem d_NLongNumber_isFarther_0 : decode prog_5_method_11_code 0 = .ok (.aload_n 0, 1) := by decide +kernel
theorem d_NLongNumber_isFarther_1 : decode prog_5_method_11_code 1 = .ok (.getfield 13, 3) := by decide +kernel
theorem d_NLongNumber_isFarther_4 : decode prog_5_method_11_code 4 = .ok (.aload_n 1, 1) := by decide +kernel
theorem d_NLongNumber_isFarther_5 : decode prog_5_method_11_code 5 = .ok (.getfield 13, 3) := by decide +kernel
theorem d_NLongNumber_isFarther_8 : decode prog_5_method_11_code 8 = .ok (.if_icmp .eq 20, 3) := by decide +kernel
theorem d_NLongNumber_isFarther_11 : decode prog_5_method_11_code 11 = .ok (.aload_n 0, 1) := by decide +kernel
theorem d_NLongNumber_isFarther_12 : decode prog_5_method_11_code 12 = .ok (.getfield 13, 3) := by decide +kernel
theorem d_NLongNumber_isFarther_15 : decode prog_5_method_11_code 15 = .ok (.aload_n 1, 1) := by decide +kernel
theorem d_NLongNumber_isFarther_16 : decode prog_5_method_11_code 16 = .ok (.getfield 13, 3) := by decide +kernel
theorem d_NLongNumber_isFarther_19 : decode prog_5_method_11_code 19 = .ok (.if_icmp .le 7, 3) := by decide +kernel
theorem d_NLongNumber_isFarther_22 : decode prog_5_method_11_code 22 = .ok (.iconst 1, 1) := by decide +kernel
theorem d_NLongNumber_isFarther_23 : decode prog_5_method_11_code 23 = .ok (.goto 4, 3) := by decide +kernel
theorem d_NLongNumber_isFarther_26 : decode prog_5_method_11_code 26 = .ok (.iconst 0, 1) := by decide +kernel
theorem d_NLongNumber_isFarther_27 : decode prog_5_method_11_code 27 = .ok (.ireturn, 1) := by decide +kernel
theorem d_NLongNumber_isFarther_28 : decode prog_5_method_11_code 28 = .ok (.aload_n 0, 1) := by decide +kernel
theorem d_NLongNumber_isFarther_29 : decode prog_5_method_11_code 29 = .ok (.getfield 13, 3) := by decide +kernel
theorem d_NLongNumber_isFarther_32 : decode prog_5_method_11_code 32 = .ok (.iconst 1, 1) := by decide +kernel
theorem d_NLongNumber_isFarther_33 : decode prog_5_method_11_code 33 = .ok (.isub, 1) := by decide +kernel
theorem d_NLongNumber_isFarther_34 : decode prog_5_method_11_code 34 = .ok (.istore_n 2, 1) := by decide +kernel
theorem d_NLongNumber_isFarther_35 : decode prog_5_method_11_code 35 = .ok (.iload_n 2, 1) := by decide +kernel
theorem d_NLongNumber_isFarther_36 : decode prog_5_method_11_code 36 = .ok (.ifCond .lt 45, 3) := by decide +kernel
theorem d_NLongNumber_isFarther_39 : decode prog_5_method_11_code 39 = .ok (.aload_n 0, 1) := by decide +kernel
theorem d_NLongNumber_isFarther_40 : decode prog_5_method_11_code 40 = .ok (.getfield 16, 3) := by decide +kernel
theorem d_NLongNumber_isFarther_43 : decode prog_5_method_11_code 43 = .ok (.iload_n 2, 1) := by decide +kernel
theorem d_NLongNumber_isFarther_44 : decode prog_5_method_11_code 44 = .ok (.iaload, 1) := by decide +kernel
theorem d_NLongNumber_isFarther_45 : decode prog_5_method_11_code 45 = .ok (.aload_n 1, 1) := by decide +kernel
theorem d_NLongNumber_isFarther_46 : decode prog_5_method_11_code 46 = .ok (.getfield 16, 3) := by decide +kernel
theorem d_NLongNumber_isFarther_49 : decode prog_5_method_11_code 49 = .ok (.iload_n 2, 1) := by decide +kernel
theorem d_NLongNumber_isFarther_50 : decode prog_5_method_11_code 50 = .ok (.iaload, 1) := by decide +kernel
theorem d_NLongNumber_isFarther_51 : decode prog_5_method_11_code 51 = .ok (.if_icmp .eq 24, 3) := by decide +kernel
theorem d_NLongNumber_isFarther_54 : decode prog_5_method_11_code 54 = .ok (.aload_n 0, 1) := by decide +kernel
theorem d_NLongNumber_isFarther_55 : decode prog_5_method_11_code 55 = .ok (.getfield 16, 3) := by decide +kernel
theorem d_NLongNumber_isFarther_58 : decode prog_5_method_11_code 58 = .ok (.iload_n 2, 1) := by decide +kernel
theorem d_NLongNumber_isFarther_59 : decode prog_5_method_11_code 59 = .ok (.iaload, 1) := by decide +kernel
theorem d_NLongNumber_isFarther_60 : decode prog_5_method_11_code 60 = .ok (.aload_n 1, 1) := by decide +kernel
theorem d_NLongNumber_isFarther_61 : decode prog_5_method_11_code 61 = .ok (.getfield 16, 3) := by decide +kernel
theorem d_NLongNumber_isFarther_64 : decode prog_5_method_11_code 64 = .ok (.iload_n 2, 1) := by decide +kernel
theorem d_NLongNumber_isFarther_65 : decode prog_5_method_11_code 65 = .ok (.iaload, 1) := by decide +kernel
theorem d_NLongNumber_isFarther_66 : decode prog_5_method_11_code 66 = .ok (.if_icmp .le 7, 3) := by decide +kernel
theorem d_NLongNumber_isFarther_69 : decode prog_5_method_11_code 69 = .ok (.iconst 1, 1) := by decide +kernel
theorem d_NLongNumber_isFarther_70 : decode prog_5_method_11_code 70 = .ok (.goto 4, 3) := by decide +kernel
theorem d_NLongNumber_isFarther_73 : decode prog_5_method_11_code 73 = .ok (.iconst 0, 1) := by decide +kernel
theorem d_NLongNumber_isFarther_74 : decode prog_5_method_11_code 74 = .ok (.ireturn, 1) := by decide +kernel
theorem d_NLongNumber_isFarther_75 : decode prog_5_method_11_code 75 = .ok (.iinc 2 (-1), 3) := by decide +kernel
theorem d_NLongNumber_isFarther_78 : decode prog_5_method_11_code 78 = .ok (.goto (-43), 3) := by decide +kernel
theorem d_NLongNumber_isFarther_81 : decode prog_5_method_11_code 81 = .ok (.iconst 0, 1) := by decide +kernel
theorem d_NLongNumber_isFarther_82 : decode prog_5_method_11_code 82 = .ok (.ireturn, 1) := by decide +kernel
theorem d_NLongNumber_limb_0 : decode prog_5_method_12_code 0 = .ok (.iload_n 1, 1) := by decide +kernel
theorem d_NLongNumber_limb_1 : decode prog_5_method_12_code 1 = .ok (.aload_n 0, 1) := by decide +kernel
theorem d_NLongNumber_limb_2 : decode prog_5_method_12_code 2 = .ok (.getfield 13, 3) := by decide +kernel
theorem d_NLongNumber_limb_5 : decode prog_5_method_12_code 5 = .ok (.if_icmp .ge 12, 3) := by decide +kernel
theorem d_NLongNumber_limb_8 : decode prog_5_method_12_code 8 = .ok (.aload_n 0, 1) := by decide +kernel
theorem d_NLongNumber_limb_9 : decode prog_5_method_12_code 9 = .ok (.getfield 16, 3) := by decide +kernel
theorem d_NLongNumber_limb_12 : decode prog_5_method_12_code 12 = .ok (.iload_n 1, 1) := by decide +kernel
theorem d_NLongNumber_limb_13 : decode prog_5_method_12_code 13 = .ok (.iaload, 1) := by decide +kernel
theorem d_NLongNumber_limb_14 : decode prog_5_method_12_code 14 = .ok (.goto 4, 3) := by decide +kernel
theorem d_NLongNumber_limb_17 : decode prog_5_method_12_code 17 = .ok (.iconst 0, 1) := by decide +kernel
theorem d_NLongNumber_limb_18 : decode prog_5_method_12_code 18 = .ok (.ireturn, 1) := by decide +kernel
theorem d_NLongNumber_setSum_0 : decode prog_5_method_9_code 0 = .ok (.iload_n 3, 1) := by decide +kernel
theorem d_NLongNumber_setSum_1 : decode prog_5_method_9_code 1 = .ok (.ifCond .ne 15, 3) := by decide +kernel
theorem d_NLongNumber_setSum_4 : decode prog_5_method_9_code 4 = .ok (.aload_n 0, 1) := by decide +kernel
theorem d_NLongNumber_setSum_5 : decode prog_5_method_9_code 5 = .ok (.aload_n 1, 1) := by decide +kernel
theorem d_NLongNumber_setSum_6 : decode prog_5_method_9_code 6 = .ok (.aload_n 1, 1) := by decide +kernel
theorem d_NLongNumber_setSum_7 : decode prog_5_method_9_code 7 = .ok (.getfield 7, 3) := by decide +kernel
theorem d_NLongNumber_setSum_10 : decode prog_5_method_9_code 10 = .ok (.invokevirtual 51, 3) := by decide +kernel
theorem d_NLongNumber_setSum_13 : decode prog_5_method_9_code 13 = .ok (.goto 68, 3) := by decide +kernel
theorem d_NLongNumber_setSum_16 : decode prog_5_method_9_code 16 = .ok (.aload_n 1, 1) := by decide +kernel
theorem d_NLongNumber_setSum_17 : decode prog_5_method_9_code 17 = .ok (.getfield 7, 3) := by decide +kernel
theorem d_NLongNumber_setSum_20 : decode prog_5_method_9_code 20 = .ok (.ifCond .ne 12, 3) := by decide +kernel
theorem d_NLongNumber_setSum_23 : decode prog_5_method_9_code 23 = .ok (.aload_n 0, 1) := by decide +kernel
theorem d_NLongNumber_setSum_24 : decode prog_5_method_9_code 24 = .ok (.aload_n 2, 1) := by decide +kernel
theorem d_NLongNumber_setSum_25 : decode prog_5_method_9_code 25 = .ok (.iload_n 3, 1) := by decide +kernel
theorem d_NLongNumber_setSum_26 : decode prog_5_method_9_code 26 = .ok (.invokevirtual 51, 3) := by decide +kernel
theorem d_NLongNumber_setSum_29 : decode prog_5_method_9_code 29 = .ok (.goto 52, 3) := by decide +kernel
theorem d_NLongNumber_setSum_32 : decode prog_5_method_9_code 32 = .ok (.aload_n 1, 1) := by decide +kernel
theorem d_NLongNumber_setSum_33 : decode prog_5_method_9_code 33 = .ok (.getfield 7, 3) := by decide +kernel
theorem d_NLongNumber_setSum_36 : decode prog_5_method_9_code 36 = .ok (.iload_n 3, 1) := by decide +kernel
theorem d_NLongNumber_setSum_37 : decode prog_5_method_9_code 37 = .ok (.if_icmp .ne 16, 3) := by decide +kernel
theorem d_NLongNumber_setSum_40 : decode prog_5_method_9_code 40 = .ok (.aload_n 0, 1) := by decide +kernel
theorem d_NLongNumber_setSum_41 : decode prog_5_method_9_code 41 = .ok (.aload_n 1, 1) := by decide +kernel
theorem d_NLongNumber_setSum_42 : decode prog_5_method_9_code 42 = .ok (.aload_n 2, 1) := by decide +kernel
theorem d_NLongNumber_setSum_43 : decode prog_5_method_9_code 43 = .ok (.aload_n 1, 1) := by decide +kernel
theorem d_NLongNumber_setSum_44 : decode prog_5_method_9_code 44 = .ok (.getfield 7, 3) := by decide +kernel
theorem d_NLongNumber_setSum_47 : decode prog_5_method_9_code 47 = .ok (.invokevirtual 55, 3) := by decide +kernel
theorem d_NLongNumber_setSum_50 : decode prog_5_method_9_code 50 = .ok (.goto 31, 3) := by decide +kernel
theorem d_NLongNumber_setSum_53 : decode prog_5_method_9_code 53 = .ok (.aload_n 1, 1) := by decide +kernel
theorem d_NLongNumber_setSum_54 : decode prog_5_method_9_code 54 = .ok (.aload_n 2, 1) := by decide +kernel
theorem d_NLongNumber_setSum_55 : decode prog_5_method_9_code 55 = .ok (.invokestatic 59, 3) := by decide +kernel
theorem d_NLongNumber_setSum_58 : decode prog_5_method_9_code 58 = .ok (.ifCond .eq 16, 3) := by decide +kernel
theorem d_NLongNumber_setSum_61 : decode prog_5_method_9_code 61 = .ok (.aload_n 0, 1) := by decide +kernel
theorem d_NLongNumber_setSum_62 : decode prog_5_method_9_code 62 = .ok (.aload_n 1, 1) := by decide +kernel
theorem d_NLongNumber_setSum_63 : decode prog_5_method_9_code 63 = .ok (.aload_n 2, 1) := by decide +kernel
theorem d_NLongNumber_setSum_64 : decode prog_5_method_9_code 64 = .ok (.aload_n 1, 1) := by decide +kernel
theorem d_NLongNumber_setSum_65 : decode prog_5_method_9_code 65 = .ok (.getfield 7, 3) := by decide +kernel
theorem d_NLongNumber_setSum_68 : decode prog_5_method_9_code 68 = .ok (.invokevirtual 63, 3) := by decide +kernel
theorem d_NLongNumber_setSum_71 : decode prog_5_method_9_code 71 = .ok (.goto 10, 3) := by decide +kernel
theorem d_NLongNumber_setSum_74 : decode prog_5_method_9_code 74 = .ok (.aload_n 0, 1) := by decide +kernel
theorem d_NLongNumber_setSum_75 : decode prog_5_method_9_code 75 = .ok (.aload_n 2, 1) := by decide +kernel
theorem d_NLongNumber_setSum_76 : decode prog_5_method_9_code 76 = .ok (.aload_n 1, 1) := by decide +kernel
theorem d_NLongNumber_setSum_77 : decode prog_5_method_9_code 77 = .ok (.iload_n 3, 1) := by decide +kernel
theorem d_NLongNumber_setSum_78 : decode prog_5_method_9_code 78 = .ok (.invokevirtual 63, 3) := by decide +kernel
theorem d_NLongNumber_setSum_81 : decode prog_5_method_9_code 81 = .ok (.aload_n 0, 1) := by decide +kernel
theorem d_NLongNumber_setSum_82 : decode prog_5_method_9_code 82 = .ok (.invokevirtual 66, 3) := by decide +kernel
theorem d_NLongNumber_setSum_85 : decode prog_5_method_9_code 85 = .ok (.ireturn, 1) := by decide +kernel
theorem d_NLongNumber_subtractLimbs_0 : decode prog_5_method_14_code 0 = .ok (.iconst 0, 1) := by decide +kernel
theorem d_NLongNumber_subtractLimbs_1 : decode prog_5_method_14_code 1 = .ok (.istore 4, 2) := by decide +kernel
theorem d_NLongNumber_subtractLimbs_3 : decode prog_5_method_14_code 3 = .ok (.iconst 0, 1) := by decide +kernel
theorem d_NLongNumber_subtractLimbs_4 : decode prog_5_method_14_code 4 = .ok (.istore 5, 2) := by decide +kernel
theorem d_NLongNumber_subtractLimbs_6 : decode prog_5_method_14_code 6 = .ok (.iload 5, 2) := by decide +kernel
theorem d_NLongNumber_subtractLimbs_8 : decode prog_5_method_14_code 8 = .ok (.aload_n 1, 1) := by decide +kernel
theorem d_NLongNumber_subtractLimbs_9 : decode prog_5_method_14_code 9 = .ok (.getfield 13, 3) := by decide +kernel
theorem d_NLongNumber_subtractLimbs_12 : decode prog_5_method_14_code 12 = .ok (.if_icmp .ge 55, 3) := by decide +kernel
theorem d_NLongNumber_subtractLimbs_15 : decode prog_5_method_14_code 15 = .ok (.aload_n 1, 1) := by decide +kernel
theorem d_NLongNumber_subtractLimbs_16 : decode prog_5_method_14_code 16 = .ok (.getfield 16, 3) := by decide +kernel
theorem d_NLongNumber_subtractLimbs_19 : decode prog_5_method_14_code 19 = .ok (.iload 5, 2) := by decide +kernel
theorem d_NLongNumber_subtractLimbs_21 : decode prog_5_method_14_code 21 = .ok (.iaload, 1) := by decide +kernel
theorem d_NLongNumber_subtractLimbs_22 : decode prog_5_method_14_code 22 = .ok (.aload_n 2, 1) := by decide +kernel
theorem d_NLongNumber_subtractLimbs_23 : decode prog_5_method_14_code 23 = .ok (.iload 5, 2) := by decide +kernel
theorem d_NLongNumber_subtractLimbs_25 : decode prog_5_method_14_code 25 = .ok (.invokevirtual 83, 3) := by decide +kernel
theorem d_NLongNumber_subtractLimbs_28 : decode prog_5_method_14_code 28 = .ok (.isub, 1) := by decide +kernel
theorem d_NLongNumber_subtractLimbs_29 : decode prog_5_method_14_code 29 = .ok (.iload 4, 2) := by decide +kernel
theorem d_NLongNumber_subtractLimbs_31 : decode prog_5_method_14_code 31 = .ok (.isub, 1) := by decide +kernel
theorem d_NLongNumber_subtractLimbs_32 : decode prog_5_method_14_code 32 = .ok (.istore 6, 2) := by decide +kernel
theorem d_NLongNumber_subtractLimbs_34 : decode prog_5_method_14_code 34 = .ok (.iload 6, 2) := by decide +kernel
theorem d_NLongNumber_subtractLimbs_36 : decode prog_5_method_14_code 36 = .ok (.ifCond .ge 7, 3) := by decide +kernel
theorem d_NLongNumber_subtractLimbs_39 : decode prog_5_method_14_code 39 = .ok (.iconst 1, 1) := by decide +kernel
theorem d_NLongNumber_subtractLimbs_40 : decode prog_5_method_14_code 40 = .ok (.goto 4, 3) := by decide +kernel
theorem d_NLongNumber_subtractLimbs_43 : decode prog_5_method_14_code 43 = .ok (.iconst 0, 1) := by decide +kernel
theorem d_NLongNumber_subtractLimbs_44 : decode prog_5_method_14_code 44 = .ok (.istore 4, 2) := by decide +kernel
theorem d_NLongNumber_subtractLimbs_46 : decode prog_5_method_14_code 46 = .ok (.aload_n 0, 1) := by decide +kernel
theorem d_NLongNumber_subtractLimbs_47 : decode prog_5_method_14_code 47 = .ok (.getfield 16, 3) := by decide +kernel
theorem d_NLongNumber_subtractLimbs_50 : decode prog_5_method_14_code 50 = .ok (.iload 5, 2) := by decide +kernel
theorem d_NLongNumber_subtractLimbs_52 : decode prog_5_method_14_code 52 = .ok (.iload 6, 2) := by decide +kernel
theorem d_NLongNumber_subtractLimbs_54 : decode prog_5_method_14_code 54 = .ok (.iload 4, 2) := by decide +kernel
theorem d_NLongNumber_subtractLimbs_56 : decode prog_5_method_14_code 56 = .ok (.ldc 87, 2) := by decide +kernel
theorem d_NLongNumber_subtractLimbs_58 : decode prog_5_method_14_code 58 = .ok (.imul, 1) := by decide +kernel
theorem d_NLongNumber_subtractLimbs_59 : decode prog_5_method_14_code 59 = .ok (.iadd, 1) := by decide +kernel
theorem d_NLongNumber_subtractLimbs_60 : decode prog_5_method_14_code 60 = .ok (.iastore, 1) := by decide +kernel
theorem d_NLongNumber_subtractLimbs_61 : decode prog_5_method_14_code 61 = .ok (.iinc 5 1, 3) := by decide +kernel
theorem d_NLongNumber_subtractLimbs_64 : decode prog_5_method_14_code 64 = .ok (.goto (-58), 3) := by decide +kernel
theorem d_NLongNumber_subtractLimbs_67 : decode prog_5_method_14_code 67 = .ok (.aload_n 0, 1) := by decide +kernel
theorem d_NLongNumber_subtractLimbs_68 : decode prog_5_method_14_code 68 = .ok (.aload_n 1, 1) := by decide +kernel
theorem d_NLongNumber_subtractLimbs_69 : decode prog_5_method_14_code 69 = .ok (.getfield 13, 3) := by decide +kernel
theorem d_NLongNumber_subtractLimbs_72 : decode prog_5_method_14_code 72 = .ok (.iload_n 3, 1) := by decide +kernel
theorem d_NLongNumber_subtractLimbs_73 : decode prog_5_method_14_code 73 = .ok (.invokevirtual 76, 3) := by decide +kernel
theorem d_NLongNumber_subtractLimbs_76 : decode prog_5_method_14_code 76 = .ok (.return_, 1) := by decide +kernel
theorem d_NLongNumber_toMachine_0 : decode prog_5_method_4_code 0 = .ok (.lconst 0, 1) := by decide +kernel
theorem d_NLongNumber_toMachine_1 : decode prog_5_method_4_code 1 = .ok (.lstore_n 1, 1) := by decide +kernel
theorem d_NLongNumber_toMachine_2 : decode prog_5_method_4_code 2 = .ok (.aload_n 0, 1) := by decide +kernel
theorem d_NLongNumber_toMachine_3 : decode prog_5_method_4_code 3 = .ok (.getfield 13, 3) := by decide +kernel
theorem d_NLongNumber_toMachine_6 : decode prog_5_method_4_code 6 = .ok (.iconst 1, 1) := by decide +kernel
theorem d_NLongNumber_toMachine_7 : decode prog_5_method_4_code 7 = .ok (.isub, 1) := by decide +kernel
theorem d_NLongNumber_toMachine_8 : decode prog_5_method_4_code 8 = .ok (.istore_n 3, 1) := by decide +kernel
theorem d_NLongNumber_toMachine_9 : decode prog_5_method_4_code 9 = .ok (.iload_n 3, 1) := by decide +kernel
theorem d_NLongNumber_toMachine_10 : decode prog_5_method_4_code 10 = .ok (.ifCond .lt 23, 3) := by decide +kernel
theorem d_NLongNumber_toMachine_13 : decode prog_5_method_4_code 13 = .ok (.lload_n 1, 1) := by decide +kernel
theorem d_NLongNumber_toMachine_14 : decode prog_5_method_4_code 14 = .ok (.ldc2_w 32, 3) := by decide +kernel
theorem d_NLongNumber_toMachine_17 : decode prog_5_method_4_code 17 = .ok (.lmul, 1) := by decide +kernel
theorem d_NLongNumber_toMachine_18 : decode prog_5_method_4_code 18 = .ok (.aload_n 0, 1) := by decide +kernel
theorem d_NLongNumber_toMachine_19 : decode prog_5_method_4_code 19 = .ok (.getfield 16, 3) := by decide +kernel
theorem d_NLongNumber_toMachine_22 : decode prog_5_method_4_code 22 = .ok (.iload_n 3, 1) := by decide +kernel
theorem d_NLongNumber_toMachine_23 : decode prog_5_method_4_code 23 = .ok (.iaload, 1) := by decide +kernel
theorem d_NLongNumber_toMachine_24 : decode prog_5_method_4_code 24 = .ok (.i2l, 1) := by decide +kernel
theorem d_NLongNumber_toMachine_25 : decode prog_5_method_4_code 25 = .ok (.ladd, 1) := by decide +kernel
theorem d_NLongNumber_toMachine_26 : decode prog_5_method_4_code 26 = .ok (.lstore_n 1, 1) := by decide +kernel
theorem d_NLongNumber_toMachine_27 : decode prog_5_method_4_code 27 = .ok (.iinc 3 (-1), 3) := by decide +kernel
theorem d_NLongNumber_toMachine_30 : decode prog_5_method_4_code 30 = .ok (.goto (-21), 3) := by decide +kernel
theorem d_NLongNumber_toMachine_33 : decode prog_5_method_4_code 33 = .ok (.aload_n 0, 1) := by decide +kernel
theorem d_NLongNumber_toMachine_34 : decode prog_5_method_4_code 34 = .ok (.getfield 7, 3) := by decide +kernel
theorem d_NLongNumber_toMachine_37 : decode prog_5_method_4_code 37 = .ok (.ifCond .ge 8, 3) := by decide +kernel
theorem d_NLongNumber_toMachine_40 : decode prog_5_method_4_code 40 = .ok (.lload_n 1, 1) := by decide +kernel
theorem d_NLongNumber_toMachine_41 : decode prog_5_method_4_code 41 = .ok (.lneg, 1) := by decide +kernel
theorem d_NLongNumber_toMachine_42 : decode prog_5_method_4_code 42 = .ok (.goto 4, 3) := by decide +kernel
theorem d_NLongNumber_toMachine_45 : decode prog_5_method_4_code 45 = .ok (.lload_n 1, 1) := by decide +kernel
theorem d_NLongNumber_toMachine_46 : decode prog_5_method_4_code 46 = .ok (.lreturn, 1) := by decide +kernel

