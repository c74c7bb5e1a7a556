theorem wd_21 {U : State} (h : TB U) (args : Array Value) : (Cond.selects "BigRunner$Interval" ⟨"BigRunner$Interval", "isZero", "()Z"⟩ ⟨"BigRunner$Interval", "isZero", "()Z"⟩).before args U = true := h.w 21 (by decide +kernel) rfl args
theorem wd_22 {U : State} (h : TB U) (args : Array Value) : (Cond.selects "BigRunner$Interval" ⟨"BigRunner$Interval", "farthest", "()J"⟩ ⟨"BigRunner$Interval", "farthest", "()J"⟩).before args U = true := h.w 22 (by decide +kernel) rfl args
theorem wd_75 {U : State} (h : TB U) (args : Array Value) : (Cond.initialized "BigRunner$Interval").before args U = true := h.w 75 (by decide +kernel) rfl args
theorem wd_126 {U : State} (h : TB U) (args : Array Value) : (Cond.fieldLink "BigRunner$Interval" 11 "BigRunner$Interval" "least" "J").before args U = true := h.w 126 (by decide +kernel) rfl args
theorem wd_129 {U : State} (h : TB U) (args : Array Value) : (Cond.fieldLink "BigRunner$Interval" 15 "BigRunner$Interval" "greatest" "J").before args U = true := h.w 129 (by decide +kernel) rfl args
theorem wd_298 {U : State} (h : TB U) (args : Array Value) : (Cond.fieldLink "BigRunner$Inputs" 9 "BigRunner$Inputs" "ring" "[I").before args U = true := h.w 298 (by decide +kernel) rfl args
theorem wd_299 {U : State} (h : TB U) (args : Array Value) : (Cond.fieldLink "BigRunner$Inputs" 13 "BigRunner$Inputs" "first" "I").before args U = true := h.w 299 (by decide +kernel) rfl args
theorem wd_300 {U : State} (h : TB U) (args : Array Value) : (Cond.fieldLink "BigRunner$Inputs" 17 "BigRunner$Inputs" "waiting" "I").before args U = true := h.w 300 (by decide +kernel) rfl args
theorem wd_410 {U : State} (h : TB U) (args : Array Value) : (Cond.constant "BigRunner$Inputs" 20 (-1000000000)).before args U = true := h.w 410 (by decide +kernel) rfl args
theorem wd_411 {U : State} (h : TB U) (args : Array Value) : (Cond.constant "BigRunner$Inputs" 21 1000000000).before args U = true := h.w 411 (by decide +kernel) rfl args
theorem wd_438 {U : State} (h : TB U) (args : Array Value) : (Cond.instanceMethod ⟨"BigRunner$Interval", "isBounded", "()Z"⟩).before args U = true := h.w 438 (by decide +kernel) rfl args
theorem wd_439 {U : State} (h : TB U) (args : Array Value) : (Cond.selects "BigRunner$Interval" ⟨"BigRunner$Interval", "isBounded", "()Z"⟩ ⟨"BigRunner$Interval", "isBounded", "()Z"⟩).before args U = true := h.w 439 (by decide +kernel) rfl args
theorem wd_440 {U : State} (h : TB U) (args : Array Value) : (Cond.code ⟨"BigRunner$Interval", "isBounded", "()Z"⟩ prog_3_method_3_code 1 (some .boolean)).before args U = true := h.w 440 (by decide +kernel) rfl args
theorem wd_441 {U : State} (h : TB U) (args : Array Value) : (Cond.methodLink "BigRunner$Interval" 22 ⟨"BigRunner$Interval", "isUnbounded", "(J)Z"⟩).before args U = true := h.w 441 (by decide +kernel) rfl args
theorem wd_442 {U : State} (h : TB U) (args : Array Value) : (Cond.static ⟨"BigRunner$Interval", "isUnbounded", "(J)Z"⟩).before args U = true := h.w 442 (by decide +kernel) rfl args
theorem wd_443 {U : State} (h : TB U) (args : Array Value) : (Cond.code ⟨"BigRunner$Interval", "isUnbounded", "(J)Z"⟩ prog_3_method_2_code 2 (some .boolean)).before args U = true := h.w 443 (by decide +kernel) rfl args
theorem wd_444 {U : State} (h : TB U) (args : Array Value) : (Cond.constantLong "BigRunner$Interval" 18 (-1152921504606846976)).before args U = true := h.w 444 (by decide +kernel) rfl args
theorem wd_445 {U : State} (h : TB U) (args : Array Value) : (Cond.constantLong "BigRunner$Interval" 20 1152921504606846976).before args U = true := h.w 445 (by decide +kernel) rfl args
theorem wd_596 {U : State} (h : TB U) (args : Array Value) : (Cond.instanceMethod ⟨"BigRunner$Interval", "set", "(JJ)V"⟩).before args U = true := h.w 596 (by decide +kernel) rfl args
theorem wd_597 {U : State} (h : TB U) (args : Array Value) : (Cond.selects "BigRunner$Interval" ⟨"BigRunner$Interval", "set", "(JJ)V"⟩ ⟨"BigRunner$Interval", "set", "(JJ)V"⟩).before args U = true := h.w 597 (by decide +kernel) rfl args
theorem wd_598 {U : State} (h : TB U) (args : Array Value) : (Cond.code ⟨"BigRunner$Interval", "set", "(JJ)V"⟩ prog_3_method_4_code 5 none).before args U = true := h.w 598 (by decide +kernel) rfl args
theorem wd_599 {U : State} (h : TB U) (args : Array Value) : (Cond.constantLong "BigRunner$Interval" 26 (-9223372036854775808)).before args U = true := h.w 599 (by decide +kernel) rfl args
theorem wd_600 {U : State} (h : TB U) (args : Array Value) : (Cond.constantLong "BigRunner$Interval" 28 9223372036854775807).before args U = true := h.w 600 (by decide +kernel) rfl args
theorem wd_621 {U : State} (h : TB U) (args : Array Value) : (Cond.methodLink "BigRunner$Interval" 30 ⟨"BigRunner$Interval", "set", "(JJ)V"⟩).before args U = true := h.w 621 (by decide +kernel) rfl args
theorem wd_626 {U : State} (h : TB U) (args : Array Value) : (Cond.methodLink "BigRunner$Interval" 34 ⟨"BigRunner$Interval", "sum", "(JJ)J"⟩).before args U = true := h.w 626 (by decide +kernel) rfl args
theorem wd_627 {U : State} (h : TB U) (args : Array Value) : (Cond.static ⟨"BigRunner$Interval", "sum", "(JJ)J"⟩).before args U = true := h.w 627 (by decide +kernel) rfl args
theorem wd_628 {U : State} (h : TB U) (args : Array Value) : (Cond.code ⟨"BigRunner$Interval", "sum", "(JJ)J"⟩ prog_3_method_14_code 4 (some .long)).before args U = true := h.w 628 (by decide +kernel) rfl args
theorem wd_629 {U : State} (h : TB U) (args : Array Value) : (Cond.constantLong "BigRunner$Interval" 64 1152921504606846977).before args U = true := h.w 629 (by decide +kernel) rfl args
theorem wd_638 {U : State} (h : TB U) (args : Array Value) : (Cond.methodLink "BigRunner$Interval" 38 ⟨"BigRunner$Interval", "isZero", "()Z"⟩).before args U = true := h.w 638 (by decide +kernel) rfl args
theorem wd_640 {U : State} (h : TB U) (args : Array Value) : (Cond.instanceMethod ⟨"BigRunner$Interval", "isZero", "()Z"⟩).before args U = true := h.w 640 (by decide +kernel) rfl args
theorem wd_641 {U : State} (h : TB U) (args : Array Value) : (Cond.code ⟨"BigRunner$Interval", "isZero", "()Z"⟩ prog_3_method_12_code 1 (some .boolean)).before args U = true := h.w 641 (by decide +kernel) rfl args
theorem wd_642 {U : State} (h : TB U) (args : Array Value) : (Cond.methodLink "BigRunner$Interval" 42 ⟨"BigRunner$Interval", "isBounded", "()Z"⟩).before args U = true := h.w 642 (by decide +kernel) rfl args
theorem wd_643 {U : State} (h : TB U) (args : Array Value) : (Cond.methodLink "BigRunner$Interval" 45 ⟨"BigRunner$Interval", "product", "(JJ)J"⟩).before args U = true := h.w 643 (by decide +kernel) rfl args
theorem wd_644 {U : State} (h : TB U) (args : Array Value) : (Cond.static ⟨"BigRunner$Interval", "product", "(JJ)J"⟩).before args U = true := h.w 644 (by decide +kernel) rfl args
theorem wd_645 {U : State} (h : TB U) (args : Array Value) : (Cond.code ⟨"BigRunner$Interval", "product", "(JJ)J"⟩ prog_3_method_15_code 4 (some .long)).before args U = true := h.w 645 (by decide +kernel) rfl args
theorem wd_646 {U : State} (h : TB U) (args : Array Value) : (Cond.methodLink "BigRunner$Interval" 60 ⟨"java/lang/Math", "abs", "(J)J"⟩).before args U = true := h.w 646 (by decide +kernel) rfl args
theorem wd_647 {U : State} (h : TB U) (args : Array Value) : (Cond.static ⟨"java/lang/Math", "abs", "(J)J"⟩).before args U = true := h.w 647 (by decide +kernel) rfl args
theorem wd_648 {U : State} (h : TB U) (args : Array Value) : (Cond.code Lib.MathLoose.abs_long.x Lib.MathLoose.abs_long.code 2 (some .long)).before args U = true := h.w 648 (by decide +kernel) rfl args
theorem wd_649 {U : State} (h : TB U) (args : Array Value) : (Cond.constantLong "BigRunner$Interval" 66 (-1152921504606846977)).before args U = true := h.w 649 (by decide +kernel) rfl args
theorem wd_650 {U : State} (h : TB U) (args : Array Value) : (Cond.methodLink "BigRunner$Interval" 48 ⟨"java/lang/Math", "min", "(JJ)J"⟩).before args U = true := h.w 650 (by decide +kernel) rfl args
theorem wd_651 {U : State} (h : TB U) (args : Array Value) : (Cond.static ⟨"java/lang/Math", "min", "(JJ)J"⟩).before args U = true := h.w 651 (by decide +kernel) rfl args
theorem wd_652 {U : State} (h : TB U) (args : Array Value) : (Cond.code Lib.MathLoose.min_long.x Lib.MathLoose.min_long.code 4 (some .long)).before args U = true := h.w 652 (by decide +kernel) rfl args
theorem wd_653 {U : State} (h : TB U) (args : Array Value) : (Cond.methodLink "BigRunner$Interval" 53 ⟨"java/lang/Math", "max", "(JJ)J"⟩).before args U = true := h.w 653 (by decide +kernel) rfl args
theorem wd_654 {U : State} (h : TB U) (args : Array Value) : (Cond.static ⟨"java/lang/Math", "max", "(JJ)J"⟩).before args U = true := h.w 654 (by decide +kernel) rfl args
theorem wd_655 {U : State} (h : TB U) (args : Array Value) : (Cond.code Lib.MathLoose.max_long.x Lib.MathLoose.max_long.code 4 (some .long)).before args U = true := h.w 655 (by decide +kernel) rfl args
theorem wd_660 {U : State} (h : TB U) (args : Array Value) : (Cond.methodLink "BigRunner$Interval" 56 ⟨"BigRunner$Interval", "farthest", "()J"⟩).before args U = true := h.w 660 (by decide +kernel) rfl args
theorem wd_662 {U : State} (h : TB U) (args : Array Value) : (Cond.instanceMethod ⟨"BigRunner$Interval", "farthest", "()J"⟩).before args U = true := h.w 662 (by decide +kernel) rfl args
theorem wd_663 {U : State} (h : TB U) (args : Array Value) : (Cond.code ⟨"BigRunner$Interval", "farthest", "()J"⟩ prog_3_method_13_code 1 (some .long)).before args U = true := h.w 663 (by decide +kernel) rfl args
theorem d_NInputs_append_0 : decode prog_2_method_2_code 0 = .ok (.iload_n 1, 1) := by decide +kernel
theorem d_NInputs_append_1 : decode prog_2_method_2_code 1 = .ok (.ldc 20, 2) := by decide +kernel
theorem d_NInputs_append_3 : decode prog_2_method_2_code 3 = .ok (.if_icmp .lt 18, 3) := by decide +kernel
theorem d_NInputs_append_6 : decode prog_2_method_2_code 6 = .ok (.iload_n 1, 1) := by decide +kernel
theorem d_NInputs_append_7 : decode prog_2_method_2_code 7 = .ok (.ldc 21, 2) := by decide +kernel
theorem d_NInputs_append_9 : decode prog_2_method_2_code 9 = .ok (.if_icmp .gt 12, 3) := by decide +kernel
theorem d_NInputs_append_12 : decode prog_2_method_2_code 12 = .ok (.aload_n 0, 1) := by decide +kernel
theorem d_NInputs_append_13 : decode prog_2_method_2_code 13 = .ok (.getfield 17, 3) := by decide +kernel
theorem d_NInputs_append_16 : decode prog_2_method_2_code 16 = .ok (.bipush 20, 2) := by decide +kernel
theorem d_NInputs_append_18 : decode prog_2_method_2_code 18 = .ok (.if_icmp .lt 5, 3) := by decide +kernel
theorem d_NInputs_append_21 : decode prog_2_method_2_code 21 = .ok (.iconst 0, 1) := by decide +kernel
theorem d_NInputs_append_22 : decode prog_2_method_2_code 22 = .ok (.ireturn, 1) := by decide +kernel
theorem d_NInputs_append_23 : decode prog_2_method_2_code 23 = .ok (.aload_n 0, 1) := by decide +kernel
theorem d_NInputs_append_24 : decode prog_2_method_2_code 24 = .ok (.getfield 9, 3) := by decide +kernel
theorem d_NInputs_append_27 : decode prog_2_method_2_code 27 = .ok (.aload_n 0, 1) := by decide +kernel
theorem d_NInputs_append_28 : decode prog_2_method_2_code 28 = .ok (.getfield 13, 3) := by decide +kernel
theorem d_NInputs_append_31 : decode prog_2_method_2_code 31 = .ok (.aload_n 0, 1) := by decide +kernel
theorem d_NInputs_append_32 : decode prog_2_method_2_code 32 = .ok (.getfield 17, 3) := by decide +kernel
theorem d_NInputs_append_35 : decode prog_2_method_2_code 35 = .ok (.iadd, 1) := by decide +kernel
theorem d_NInputs_append_36 : decode prog_2_method_2_code 36 = .ok (.bipush 20, 2) := by decide +kernel
theorem d_NInputs_append_38 : decode prog_2_method_2_code 38 = .ok (.irem, 1) := by decide +kernel
theorem d_NInputs_append_39 : decode prog_2_method_2_code 39 = .ok (.iload_n 1, 1) := by decide +kernel
theorem d_NInputs_append_40 : decode prog_2_method_2_code 40 = .ok (.iastore, 1) := by decide +kernel
theorem d_NInputs_append_41 : decode prog_2_method_2_code 41 = .ok (.aload_n 0, 1) := by decide +kernel
theorem d_NInputs_append_42 : decode prog_2_method_2_code 42 = .ok (.dup, 1) := by decide +kernel
theorem d_NInputs_append_43 : decode prog_2_method_2_code 43 = .ok (.getfield 17, 3) := by decide +kernel
theorem d_NInputs_append_46 : decode prog_2_method_2_code 46 = .ok (.iconst 1, 1) := by decide +kernel
theorem d_NInputs_append_47 : decode prog_2_method_2_code 47 = .ok (.iadd, 1) := by decide +kernel
theorem d_NInputs_append_48 : decode prog_2_method_2_code 48 = .ok (.putfield 17, 3) := by decide +kernel
theorem d_NInputs_append_51 : decode prog_2_method_2_code 51 = .ok (.iconst 1, 1) := by decide +kernel
theorem d_NInputs_append_52 : decode prog_2_method_2_code 52 = .ok (.ireturn, 1) := by decide +kernel
theorem d_NInputs_take_0 : decode prog_2_method_3_code 0 = .ok (.aload_n 0, 1) := by decide +kernel
theorem d_NInputs_take_1 : decode prog_2_method_3_code 1 = .ok (.getfield 17, 3) := by decide +kernel
theorem d_NInputs_take_4 : decode prog_2_method_3_code 4 = .ok (.ifCond .ne 5, 3) := by decide +kernel
theorem d_NInputs_take_9 : decode prog_2_method_3_code 9 = .ok (.aload_n 0, 1) := by decide +kernel
theorem d_NInputs_take_10 : decode prog_2_method_3_code 10 = .ok (.getfield 9, 3) := by decide +kernel
theorem d_NInputs_take_13 : decode prog_2_method_3_code 13 = .ok (.aload_n 0, 1) := by decide +kernel
theorem d_NInputs_take_14 : decode prog_2_method_3_code 14 = .ok (.getfield 13, 3) := by decide +kernel
theorem d_NInputs_take_17 : decode prog_2_method_3_code 17 = .ok (.iaload, 1) := by decide +kernel
theorem d_NInputs_take_18 : decode prog_2_method_3_code 18 = .ok (.istore_n 1, 1) := by decide +kernel
theorem d_NInputs_take_19 : decode prog_2_method_3_code 19 = .ok (.aload_n 0, 1) := by decide +kernel
theorem d_NInputs_take_20 : decode prog_2_method_3_code 20 = .ok (.aload_n 0, 1) := by decide +kernel
theorem d_NInputs_take_21 : decode prog_2_method_3_code 21 = .ok (.getfield 13, 3) := by decide +kernel
theorem d_NInputs_take_24 : decode prog_2_method_3_code 24 = .ok (.iconst 1, 1) := by decide +kernel
theorem d_NInputs_take_25 : decode prog_2_method_3_code 25 = .ok (.iadd, 1) := by decide +kernel
theorem d_NInputs_take_26 : decode prog_2_method_3_code 26 = .ok (.bipush 20, 2) := by decide +kernel
theorem d_NInputs_take_28 : decode prog_2_method_3_code 28 = .ok (.irem, 1) := by decide +kernel
theorem d_NInputs_take_29 : decode prog_2_method_3_code 29 = .ok (.putfield 13, 3) := by decide +kernel
theorem d_NInputs_take_32 : decode prog_2_method_3_code 32 = .ok (.aload_n 0, 1) := by decide +kernel
theorem d_NInputs_take_33 : decode prog_2_method_3_code 33 = .ok (.dup, 1) := by decide +kernel
theorem d_NInputs_take_34 : decode prog_2_method_3_code 34 = .ok (.getfield 17, 3) := by decide +kernel
theorem d_NInputs_take_37 : decode prog_2_method_3_code 37 = .ok (.iconst 1, 1) := by decide +kernel
theorem d_NInputs_take_38 : decode prog_2_method_3_code 38 = .ok (.isub, 1) := by decide +kernel
theorem d_NInputs_take_39 : decode prog_2_method_3_code 39 = .ok (.putfield 17, 3) := by decide +kernel
theorem d_NInputs_take_42 : decode prog_2_method_3_code 42 = .ok (.iload_n 1, 1) := by decide +kernel
theorem d_NInputs_take_43 : decode prog_2_method_3_code 43 = .ok (.ireturn, 1) := by decide +kernel
theorem d_NInterval_farthest_0 : decode prog_3_method_13_code 0 = .ok (.aload_n 0, 1) := by decide +kernel
theorem d_NInterval_farthest_1 : decode prog_3_method_13_code 1 = .ok (.invokevirtual 42, 3) := by decide +kernel
theorem d_NInterval_farthest_4 : decode prog_3_method_13_code 4 = .ok (.ifCond .eq 23, 3) := by decide +kernel
theorem d_NInterval_farthest_7 : decode prog_3_method_13_code 7 = .ok (.aload_n 0, 1) := by decide +kernel
theorem d_NInterval_farthest_8 : decode prog_3_method_13_code 8 = .ok (.getfield 11, 3) := by decide +kernel
theorem d_NInterval_farthest_11 : decode prog_3_method_13_code 11 = .ok (.invokestatic 60, 3) := by decide +kernel
theorem d_NInterval_farthest_14 : decode prog_3_method_13_code 14 = .ok (.aload_n 0, 1) := by decide +kernel
theorem d_NInterval_farthest_15 : decode prog_3_method_13_code 15 = .ok (.getfield 15, 3) := by decide +kernel
theorem d_NInterval_farthest_18 : decode prog_3_method_13_code 18 = .ok (.invokestatic 60, 3) := by decide +kernel
theorem d_NInterval_farthest_21 : decode prog_3_method_13_code 21 = .ok (.invokestatic 53, 3) := by decide +kernel
theorem d_NInterval_farthest_24 : decode prog_3_method_13_code 24 = .ok (.goto 6, 3) := by decide +kernel
theorem d_NInterval_farthest_27 : decode prog_3_method_13_code 27 = .ok (.ldc2_w 28, 3) := by decide +kernel
theorem d_NInterval_farthest_30 : decode prog_3_method_13_code 30 = .ok (.lreturn, 1) := by decide +kernel
theorem d_NInterval_isBounded_0 : decode prog_3_method_3_code 0 = .ok (.aload_n 0, 1) := by decide +kernel
theorem d_NInterval_isBounded_1 : decode prog_3_method_3_code 1 = .ok (.getfield 11, 3) := by decide +kernel
theorem d_NInterval_isBounded_4 : decode prog_3_method_3_code 4 = .ok (.invokestatic 22, 3) := by decide +kernel
theorem d_NInterval_isBounded_7 : decode prog_3_method_3_code 7 = .ok (.ifCond .ne 17, 3) := by decide +kernel
theorem d_NInterval_isBounded_10 : decode prog_3_method_3_code 10 = .ok (.aload_n 0, 1) := by decide +kernel
theorem d_NInterval_isBounded_11 : decode prog_3_method_3_code 11 = .ok (.getfield 15, 3) := by decide +kernel
theorem d_NInterval_isBounded_14 : decode prog_3_method_3_code 14 = .ok (.invokestatic 22, 3) := by decide +kernel
theorem d_NInterval_isBounded_17 : decode prog_3_method_3_code 17 = .ok (.ifCond .ne 7, 3) := by decide +kernel
theorem d_NInterval_isBounded_20 : decode prog_3_method_3_code 20 = .ok (.iconst 1, 1) := by decide +kernel
theorem d_NInterval_isBounded_21 : decode prog_3_method_3_code 21 = .ok (.goto 4, 3) := by decide +kernel
theorem d_NInterval_isBounded_24 : decode prog_3_method_3_code 24 = .ok (.iconst 0, 1) := by decide +kernel
theorem d_NInterval_isBounded_25 : decode prog_3_method_3_code 25 = .ok (.ireturn, 1) := by decide +kernel
theorem d_NInterval_isUnbounded_0 : decode prog_3_method_2_code 0 = .ok (.lload_n 0, 1) := by decide +kernel
theorem d_NInterval_isUnbounded_1 : decode prog_3_method_2_code 1 = .ok (.ldc2_w 18, 3) := by decide +kernel
theorem d_NInterval_isUnbounded_4 : decode prog_3_method_2_code 4 = .ok (.lcmp, 1) := by decide +kernel
theorem d_NInterval_isUnbounded_5 : decode prog_3_method_2_code 5 = .ok (.ifCond .lt 11, 3) := by decide +kernel
theorem d_NInterval_isUnbounded_8 : decode prog_3_method_2_code 8 = .ok (.lload_n 0, 1) := by decide +kernel
theorem d_NInterval_isUnbounded_9 : decode prog_3_method_2_code 9 = .ok (.ldc2_w 20, 3) := by decide +kernel
theorem d_NInterval_isUnbounded_12 : decode prog_3_method_2_code 12 = .ok (.lcmp, 1) := by decide +kernel
theorem d_NInterval_isUnbounded_13 : decode prog_3_method_2_code 13 = .ok (.ifCond .le 7, 3) := by decide +kernel
theorem d_NInterval_isUnbounded_16 : decode prog_3_method_2_code 16 = .ok (.iconst 1, 1) := by decide +kernel
theorem d_NInterval_isUnbounded_17 : decode prog_3_method_2_code 17 = .ok (.goto 4, 3) := by decide +kernel
theorem d_NInterval_isUnbounded_20 : decode prog_3_method_2_code 20 = .ok (.iconst 0, 1) := by decide +kernel
theorem d_NInterval_isUnbounded_21 : decode prog_3_method_2_code 21 = .ok (.ireturn, 1) := by decide +kernel
theorem d_NInterval_isZero_0 : decode prog_3_method_12_code 0 = .ok (.aload_n 0, 1) := by decide +kernel
theorem d_NInterval_isZero_1 : decode prog_3_method_12_code 1 = .ok (.getfield 11, 3) := by decide +kernel
theorem d_NInterval_isZero_4 : decode prog_3_method_12_code 4 = .ok (.lconst 0, 1) := by decide +kernel
theorem d_NInterval_isZero_5 : decode prog_3_method_12_code 5 = .ok (.lcmp, 1) := by decide +kernel
theorem d_NInterval_isZero_6 : decode prog_3_method_12_code 6 = .ok (.ifCond .ne 16, 3) := by decide +kernel
theorem d_NInterval_isZero_9 : decode prog_3_method_12_code 9 = .ok (.aload_n 0, 1) := by decide +kernel
theorem d_NInterval_isZero_10 : decode prog_3_method_12_code 10 = .ok (.getfield 15, 3) := by decide +kernel
theorem d_NInterval_isZero_13 : decode prog_3_method_12_code 13 = .ok (.lconst 0, 1) := by decide +kernel
theorem d_NInterval_isZero_14 : decode prog_3_method_12_code 14 = .ok (.lcmp, 1) := by decide +kernel
theorem d_NInterval_isZero_15 : decode prog_3_method_12_code 15 = .ok (.ifCond .ne 7, 3) := by decide +kernel
theorem d_NInterval_isZero_18 : decode prog_3_method_12_code 18 = .ok (.iconst 1, 1) := by decide +kernel
theorem d_NInterval_isZero_19 : decode prog_3_method_12_code 19 = .ok (.goto 4, 3) := by decide +kernel
theorem d_NInterval_isZero_22 : decode prog_3_method_12_code 22 = .ok (.iconst 0, 1) := by decide +kernel
theorem d_NInterval_isZero_23 : decode prog_3_method_12_code 23 = .ok (.ireturn, 1) := by decide +kernel
theorem d_NInterval_join_0 : decode prog_3_method_5_code 0 = .ok (.iconst 0, 1) := by decide +kernel
theorem d_NInterval_join_1 : decode prog_3_method_5_code 1 = .ok (.istore_n 3, 1) := by decide +kernel
theorem d_NInterval_join_2 : decode prog_3_method_5_code 2 = .ok (.aload_n 1, 1) := by decide +kernel
theorem d_NInterval_join_3 : decode prog_3_method_5_code 3 = .ok (.getfield 11, 3) := by decide +kernel
theorem d_NInterval_join_6 : decode prog_3_method_5_code 6 = .ok (.aload_n 0, 1) := by decide +kernel
theorem d_NInterval_join_7 : decode prog_3_method_5_code 7 = .ok (.getfield 11, 3) := by decide +kernel
theorem d_NInterval_join_10 : decode prog_3_method_5_code 10 = .ok (.lcmp, 1) := by decide +kernel
theorem d_NInterval_join_11 : decode prog_3_method_5_code 11 = .ok (.ifCond .ge 23, 3) := by decide +kernel
theorem d_NInterval_join_14 : decode prog_3_method_5_code 14 = .ok (.aload_n 0, 1) := by decide +kernel
theorem d_NInterval_join_15 : decode prog_3_method_5_code 15 = .ok (.iload_n 2, 1) := by decide +kernel
theorem d_NInterval_join_16 : decode prog_3_method_5_code 16 = .ok (.ifCond .eq 9, 3) := by decide +kernel
theorem d_NInterval_join_19 : decode prog_3_method_5_code 19 = .ok (.ldc2_w 26, 3) := by decide +kernel
theorem d_NInterval_join_22 : decode prog_3_method_5_code 22 = .ok (.goto 7, 3) := by decide +kernel
theorem d_NInterval_join_25 : decode prog_3_method_5_code 25 = .ok (.aload_n 1, 1) := by decide +kernel
theorem d_NInterval_join_26 : decode prog_3_method_5_code 26 = .ok (.getfield 11, 3) := by decide +kernel
theorem d_NInterval_join_29 : decode prog_3_method_5_code 29 = .ok (.putfield 11, 3) := by decide +kernel
theorem d_NInterval_join_32 : decode prog_3_method_5_code 32 = .ok (.iconst 1, 1) := by decide +kernel
theorem d_NInterval_join_33 : decode prog_3_method_5_code 33 = .ok (.istore_n 3, 1) := by decide +kernel
theorem d_NInterval_join_34 : decode prog_3_method_5_code 34 = .ok (.aload_n 1, 1) := by decide +kernel
theorem d_NInterval_join_35 : decode prog_3_method_5_code 35 = .ok (.getfield 15, 3) := by decide +kernel
theorem d_NInterval_join_38 : decode prog_3_method_5_code 38 = .ok (.aload_n 0, 1) := by decide +kernel
theorem d_NInterval_join_39 : decode prog_3_method_5_code 39 = .ok (.getfield 15, 3) := by decide +kernel
theorem d_NInterval_join_42 : decode prog_3_method_5_code 42 = .ok (.lcmp, 1) := by decide +kernel
theorem d_NInterval_join_43 : decode prog_3_method_5_code 43 = .ok (.ifCond .le 23, 3) := by decide +kernel
theorem d_NInterval_join_46 : decode prog_3_method_5_code 46 = .ok (.aload_n 0, 1) := by decide +kernel
theorem d_NInterval_join_47 : decode prog_3_method_5_code 47 = .ok (.iload_n 2, 1) := by decide +kernel
theorem d_NInterval_join_48 : decode prog_3_method_5_code 48 = .ok (.ifCond .eq 9, 3) := by decide +kernel
theorem d_NInterval_join_51 : decode prog_3_method_5_code 51 = .ok (.ldc2_w 28, 3) := by decide +kernel
theorem d_NInterval_join_54 : decode prog_3_method_5_code 54 = .ok (.goto 7, 3) := by decide +kernel
theorem d_NInterval_join_57 : decode prog_3_method_5_code 57 = .ok (.aload_n 1, 1) := by decide +kernel
theorem d_NInterval_join_58 : decode prog_3_method_5_code 58 = .ok (.getfield 15, 3) := by decide +kernel
theorem d_NInterval_join_61 : decode prog_3_method_5_code 61 = .ok (.putfield 15, 3) := by decide +kernel
theorem d_NInterval_join_64 : decode prog_3_method_5_code 64 = .ok (.iconst 1, 1) := by decide +kernel
theorem d_NInterval_join_65 : decode prog_3_method_5_code 65 = .ok (.istore_n 3, 1) := by decide +kernel
theorem d_NInterval_join_66 : decode prog_3_method_5_code 66 = .ok (.iload_n 3, 1) := by decide +kernel
theorem d_NInterval_join_67 : decode prog_3_method_5_code 67 = .ok (.ireturn, 1) := by decide +kernel
theorem d_NInterval_product_0 : decode prog_3_method_15_code 0 = .ok (.lload_n 0, 1) := by decide +kernel
theorem d_NInterval_product_1 : decode prog_3_method_15_code 1 = .ok (.lconst 0, 1) := by decide +kernel
theorem d_NInterval_product_2 : decode prog_3_method_15_code 2 = .ok (.lcmp, 1) := by decide +kernel
theorem d_NInterval_product_3 : decode prog_3_method_15_code 3 = .ok (.ifCond .eq 9, 3) := by decide +kernel
theorem d_NInterval_product_6 : decode prog_3_method_15_code 6 = .ok (.lload_n 2, 1) := by decide +kernel
theorem d_NInterval_product_7 : decode prog_3_method_15_code 7 = .ok (.lconst 0, 1) := by decide +kernel
theorem d_NInterval_product_8 : decode prog_3_method_15_code 8 = .ok (.lcmp, 1) := by decide +kernel
theorem d_NInterval_product_9 : decode prog_3_method_15_code 9 = .ok (.ifCond .ne 5, 3) := by decide +kernel
theorem d_NInterval_product_12 : decode prog_3_method_15_code 12 = .ok (.lconst 0, 1) := by decide +kernel
theorem d_NInterval_product_13 : decode prog_3_method_15_code 13 = .ok (.lreturn, 1) := by decide +kernel
theorem d_NInterval_product_14 : decode prog_3_method_15_code 14 = .ok (.lload_n 0, 1) := by decide +kernel
theorem d_NInterval_product_15 : decode prog_3_method_15_code 15 = .ok (.invokestatic 60, 3) := by decide +kernel
theorem d_NInterval_product_18 : decode prog_3_method_15_code 18 = .ok (.ldc2_w 20, 3) := by decide +kernel
theorem d_NInterval_product_21 : decode prog_3_method_15_code 21 = .ok (.lload_n 2, 1) := by decide +kernel
theorem d_NInterval_product_22 : decode prog_3_method_15_code 22 = .ok (.invokestatic 60, 3) := by decide +kernel
theorem d_NInterval_product_25 : decode prog_3_method_15_code 25 = .ok (.ldiv, 1) := by decide +kernel
theorem d_NInterval_product_26 : decode prog_3_method_15_code 26 = .ok (.lcmp, 1) := by decide +kernel
theorem d_NInterval_product_27 : decode prog_3_method_15_code 27 = .ok (.ifCond .le 38, 3) := by decide +kernel
theorem d_NInterval_product_30 : decode prog_3_method_15_code 30 = .ok (.lload_n 0, 1) := by decide +kernel
theorem d_NInterval_product_31 : decode prog_3_method_15_code 31 = .ok (.lconst 0, 1) := by decide +kernel
theorem d_NInterval_product_32 : decode prog_3_method_15_code 32 = .ok (.lcmp, 1) := by decide +kernel
theorem d_NInterval_product_33 : decode prog_3_method_15_code 33 = .ok (.ifCond .ge 7, 3) := by decide +kernel
theorem d_NInterval_product_36 : decode prog_3_method_15_code 36 = .ok (.iconst 1, 1) := by decide +kernel
theorem d_NInterval_product_37 : decode prog_3_method_15_code 37 = .ok (.goto 4, 3) := by decide +kernel
theorem d_NInterval_product_40 : decode prog_3_method_15_code 40 = .ok (.iconst 0, 1) := by decide +kernel
theorem d_NInterval_product_41 : decode prog_3_method_15_code 41 = .ok (.lload_n 2, 1) := by decide +kernel
theorem d_NInterval_product_42 : decode prog_3_method_15_code 42 = .ok (.lconst 0, 1) := by decide +kernel
theorem d_NInterval_product_43 : decode prog_3_method_15_code 43 = .ok (.lcmp, 1) := by decide +kernel
theorem d_NInterval_product_44 : decode prog_3_method_15_code 44 = .ok (.ifCond .ge 7, 3) := by decide +kernel
theorem d_NInterval_product_47 : decode prog_3_method_15_code 47 = .ok (.iconst 1, 1) := by decide +kernel
theorem d_NInterval_product_48 : decode prog_3_method_15_code 48 = .ok (.goto 4, 3) := by decide +kernel
theorem d_NInterval_product_51 : decode prog_3_method_15_code 51 = .ok (.iconst 0, 1) := by decide +kernel
theorem d_NInterval_product_52 : decode prog_3_method_15_code 52 = .ok (.if_icmp .ne 9, 3) := by decide +kernel
theorem d_NInterval_product_55 : decode prog_3_method_15_code 55 = .ok (.ldc2_w 64, 3) := by decide +kernel
theorem d_NInterval_product_58 : decode prog_3_method_15_code 58 = .ok (.goto 6, 3) := by decide +kernel
theorem d_NInterval_product_61 : decode prog_3_method_15_code 61 = .ok (.ldc2_w 66, 3) := by decide +kernel
theorem d_NInterval_product_64 : decode prog_3_method_15_code 64 = .ok (.lreturn, 1) := by decide +kernel
theorem d_NInterval_product_65 : decode prog_3_method_15_code 65 = .ok (.lload_n 0, 1) := by decide +kernel
theorem d_NInterval_product_66 : decode prog_3_method_15_code 66 = .ok (.lload_n 2, 1) := by decide +kernel
theorem d_NInterval_product_67 : decode prog_3_method_15_code 67 = .ok (.lmul, 1) := by decide +kernel
theorem d_NInterval_product_68 : decode prog_3_method_15_code 68 = .ok (.lreturn, 1) := by decide +kernel
theorem d_NInterval_set_0 : decode prog_3_method_4_code 0 = .ok (.aload_n 0, 1) := by decide +kernel
theorem d_NInterval_set_1 : decode prog_3_method_4_code 1 = .ok (.lload_n 1, 1) := by decide +kernel
theorem d_NInterval_set_2 : decode prog_3_method_4_code 2 = .ok (.invokestatic 22, 3) := by decide +kernel
theorem d_NInterval_set_5 : decode prog_3_method_4_code 5 = .ok (.ifCond .eq 9, 3) := by decide +kernel
theorem d_NInterval_set_8 : decode prog_3_method_4_code 8 = .ok (.ldc2_w 26, 3) := by decide +kernel
theorem d_NInterval_set_11 : decode prog_3_method_4_code 11 = .ok (.goto 4, 3) := by decide +kernel
theorem d_NInterval_set_14 : decode prog_3_method_4_code 14 = .ok (.lload_n 1, 1) := by decide +kernel
theorem d_NInterval_set_15 : decode prog_3_method_4_code 15 = .ok (.putfield 11, 3) := by decide +kernel
theorem d_NInterval_set_18 : decode prog_3_method_4_code 18 = .ok (.aload_n 0, 1) := by decide +kernel
theorem d_NInterval_set_19 : decode prog_3_method_4_code 19 = .ok (.lload_n 3, 1) := by decide +kernel
theorem d_NInterval_set_20 : decode prog_3_method_4_code 20 = .ok (.invokestatic 22, 3) := by decide +kernel
theorem d_NInterval_set_23 : decode prog_3_method_4_code 23 = .ok (.ifCond .eq 9, 3) := by decide +kernel
theorem d_NInterval_set_26 : decode prog_3_method_4_code 26 = .ok (.ldc2_w 28, 3) := by decide +kernel
theorem d_NInterval_set_29 : decode prog_3_method_4_code 29 = .ok (.goto 4, 3) := by decide +kernel
theorem d_NInterval_set_32 : decode prog_3_method_4_code 32 = .ok (.lload_n 3, 1) := by decide +kernel
theorem d_NInterval_set_33 : decode prog_3_method_4_code 33 = .ok (.putfield 15, 3) := by decide +kernel
theorem d_NInterval_set_36 : decode prog_3_method_4_code 36 = .ok (.return_, 1) := by decide +kernel
theorem d_NInterval_setDifference_0 : decode prog_3_method_8_code 0 = .ok (.aload_n 0, 1) := by decide +kernel
theorem d_NInterval_setDifference_1 : decode prog_3_method_8_code 1 = .ok (.aload_n 1, 1) := by decide +kernel
theorem d_NInterval_setDifference_2 : decode prog_3_method_8_code 2 = .ok (.getfield 11, 3) := by decide +kernel
theorem d_NInterval_setDifference_5 : decode prog_3_method_8_code 5 = .ok (.aload_n 2, 1) := by decide +kernel
theorem d_NInterval_setDifference_6 : decode prog_3_method_8_code 6 = .ok (.getfield 15, 3) := by decide +kernel
theorem d_NInterval_setDifference_9 : decode prog_3_method_8_code 9 = .ok (.lneg, 1) := by decide +kernel
theorem d_NInterval_setDifference_10 : decode prog_3_method_8_code 10 = .ok (.invokestatic 34, 3) := by decide +kernel
theorem d_NInterval_setDifference_13 : decode prog_3_method_8_code 13 = .ok (.aload_n 1, 1) := by decide +kernel
theorem d_NInterval_setDifference_14 : decode prog_3_method_8_code 14 = .ok (.getfield 15, 3) := by decide +kernel
theorem d_NInterval_setDifference_17 : decode prog_3_method_8_code 17 = .ok (.aload_n 2, 1) := by decide +kernel
theorem d_NInterval_setDifference_18 : decode prog_3_method_8_code 18 = .ok (.getfield 11, 3) := by decide +kernel
theorem d_NInterval_setDifference_21 : decode prog_3_method_8_code 21 = .ok (.lneg, 1) := by decide +kernel
theorem d_NInterval_setDifference_22 : decode prog_3_method_8_code 22 = .ok (.invokestatic 34, 3) := by decide +kernel
theorem d_NInterval_setDifference_25 : decode prog_3_method_8_code 25 = .ok (.invokevirtual 30, 3) := by decide +kernel
theorem d_NInterval_setDifference_28 : decode prog_3_method_8_code 28 = .ok (.return_, 1) := by decide +kernel
theorem d_NInterval_setNegation_0 : decode prog_3_method_6_code 0 = .ok (.aload_n 0, 1) := by decide +kernel
theorem d_NInterval_setNegation_1 : decode prog_3_method_6_code 1 = .ok (.aload_n 1, 1) := by decide +kernel
theorem d_NInterval_setNegation_2 : decode prog_3_method_6_code 2 = .ok (.getfield 15, 3) := by decide +kernel
theorem d_NInterval_setNegation_5 : decode prog_3_method_6_code 5 = .ok (.lneg, 1) := by decide +kernel
theorem d_NInterval_setNegation_6 : decode prog_3_method_6_code 6 = .ok (.aload_n 1, 1) := by decide +kernel
theorem d_NInterval_setNegation_7 : decode prog_3_method_6_code 7 = .ok (.getfield 11, 3) := by decide +kernel
theorem d_NInterval_setNegation_10 : decode prog_3_method_6_code 10 = .ok (.lneg, 1) := by decide +kernel
theorem d_NInterval_setNegation_11 : decode prog_3_method_6_code 11 = .ok (.invokevirtual 30, 3) := by decide +kernel
theorem d_NInterval_setNegation_14 : decode prog_3_method_6_code 14 = .ok (.return_, 1) := by decide +kernel
theorem d_NInterval_setProduct_0 : decode prog_3_method_9_code 0 = .ok (.aload_n 1, 1) := by decide +kernel
theorem d_NInterval_setProduct_1 : decode prog_3_method_9_code 1 = .ok (.invokevirtual 38, 3) := by decide +kernel
theorem d_NInterval_setProduct_4 : decode prog_3_method_9_code 4 = .ok (.ifCond .ne 10, 3) := by decide +kernel
theorem d_NInterval_setProduct_7 : decode prog_3_method_9_code 7 = .ok (.aload_n 2, 1) := by decide +kernel
theorem d_NInterval_setProduct_8 : decode prog_3_method_9_code 8 = .ok (.invokevirtual 38, 3) := by decide +kernel
theorem d_NInterval_setProduct_11 : decode prog_3_method_9_code 11 = .ok (.ifCond .eq 10, 3) := by decide +kernel
theorem d_NInterval_setProduct_14 : decode prog_3_method_9_code 14 = .ok (.aload_n 0, 1) := by decide +kernel
theorem d_NInterval_setProduct_15 : decode prog_3_method_9_code 15 = .ok (.lconst 0, 1) := by decide +kernel
theorem d_NInterval_setProduct_16 : decode prog_3_method_9_code 16 = .ok (.lconst 0, 1) := by decide +kernel
theorem d_NInterval_setProduct_17 : decode prog_3_method_9_code 17 = .ok (.invokevirtual 30, 3) := by decide +kernel
theorem d_NInterval_setProduct_20 : decode prog_3_method_9_code 20 = .ok (.return_, 1) := by decide +kernel
theorem d_NInterval_setProduct_21 : decode prog_3_method_9_code 21 = .ok (.aload_n 1, 1) := by decide +kernel
theorem d_NInterval_setProduct_22 : decode prog_3_method_9_code 22 = .ok (.invokevirtual 42, 3) := by decide +kernel
theorem d_NInterval_setProduct_25 : decode prog_3_method_9_code 25 = .ok (.ifCond .eq 10, 3) := by decide +kernel
theorem d_NInterval_setProduct_28 : decode prog_3_method_9_code 28 = .ok (.aload_n 2, 1) := by decide +kernel
theorem d_NInterval_setProduct_29 : decode prog_3_method_9_code 29 = .ok (.invokevirtual 42, 3) := by decide +kernel
theorem d_NInterval_setProduct_32 : decode prog_3_method_9_code 32 = .ok (.ifCond .ne 14, 3) := by decide +kernel
theorem d_NInterval_setProduct_35 : decode prog_3_method_9_code 35 = .ok (.aload_n 0, 1) := by decide +kernel
theorem d_NInterval_setProduct_36 : decode prog_3_method_9_code 36 = .ok (.ldc2_w 26, 3) := by decide +kernel
theorem d_NInterval_setProduct_39 : decode prog_3_method_9_code 39 = .ok (.ldc2_w 28, 3) := by decide +kernel
theorem d_NInterval_setProduct_42 : decode prog_3_method_9_code 42 = .ok (.invokevirtual 30, 3) := by decide +kernel
theorem d_NInterval_setProduct_45 : decode prog_3_method_9_code 45 = .ok (.return_, 1) := by decide +kernel
theorem d_NInterval_setProduct_46 : decode prog_3_method_9_code 46 = .ok (.aload_n 1, 1) := by decide +kernel
theorem d_NInterval_setProduct_47 : decode prog_3_method_9_code 47 = .ok (.getfield 11, 3) := by decide +kernel
theorem d_NInterval_setProduct_50 : decode prog_3_method_9_code 50 = .ok (.aload_n 2, 1) := by decide +kernel
theorem d_NInterval_setProduct_51 : decode prog_3_method_9_code 51 = .ok (.getfield 11, 3) := by decide +kernel
theorem d_NInterval_setProduct_54 : decode prog_3_method_9_code 54 = .ok (.invokestatic 45, 3) := by decide +kernel
theorem d_NInterval_setProduct_57 : decode prog_3_method_9_code 57 = .ok (.lstore_n 3, 1) := by decide +kernel
theorem d_NInterval_setProduct_58 : decode prog_3_method_9_code 58 = .ok (.aload_n 1, 1) := by decide +kernel
theorem d_NInterval_setProduct_59 : decode prog_3_method_9_code 59 = .ok (.getfield 11, 3) := by decide +kernel
theorem d_NInterval_setProduct_62 : decode prog_3_method_9_code 62 = .ok (.aload_n 2, 1) := by decide +kernel
theorem d_NInterval_setProduct_63 : decode prog_3_method_9_code 63 = .ok (.getfield 15, 3) := by decide +kernel
theorem d_NInterval_setProduct_66 : decode prog_3_method_9_code 66 = .ok (.invokestatic 45, 3) := by decide +kernel
theorem d_NInterval_setProduct_69 : decode prog_3_method_9_code 69 = .ok (.lstore 5, 2) := by decide +kernel
theorem d_NInterval_setProduct_71 : decode prog_3_method_9_code 71 = .ok (.aload_n 1, 1) := by decide +kernel
theorem d_NInterval_setProduct_72 : decode prog_3_method_9_code 72 = .ok (.getfield 15, 3) := by decide +kernel
theorem d_NInterval_setProduct_75 : decode prog_3_method_9_code 75 = .ok (.aload_n 2, 1) := by decide +kernel
theorem d_NInterval_setProduct_76 : decode prog_3_method_9_code 76 = .ok (.getfield 11, 3) := by decide +kernel
theorem d_NInterval_setProduct_79 : decode prog_3_method_9_code 79 = .ok (.invokestatic 45, 3) := by decide +kernel
theorem d_NInterval_setProduct_82 : decode prog_3_method_9_code 82 = .ok (.lstore 7, 2) := by decide +kernel
theorem d_NInterval_setProduct_84 : decode prog_3_method_9_code 84 = .ok (.aload_n 1, 1) := by decide +kernel
theorem d_NInterval_setProduct_85 : decode prog_3_method_9_code 85 = .ok (.getfield 15, 3) := by decide +kernel
theorem d_NInterval_setProduct_88 : decode prog_3_method_9_code 88 = .ok (.aload_n 2, 1) := by decide +kernel
theorem d_NInterval_setProduct_89 : decode prog_3_method_9_code 89 = .ok (.getfield 15, 3) := by decide +kernel
theorem d_NInterval_setProduct_92 : decode prog_3_method_9_code 92 = .ok (.invokestatic 45, 3) := by decide +kernel
theorem d_NInterval_setProduct_95 : decode prog_3_method_9_code 95 = .ok (.lstore 9, 2) := by decide +kernel
theorem d_NInterval_setProduct_97 : decode prog_3_method_9_code 97 = .ok (.aload_n 0, 1) := by decide +kernel
theorem d_NInterval_setProduct_98 : decode prog_3_method_9_code 98 = .ok (.lload_n 3, 1) := by decide +kernel
theorem d_NInterval_setProduct_99 : decode prog_3_method_9_code 99 = .ok (.lload 5, 2) := by decide +kernel
theorem d_NInterval_setProduct_101 : decode prog_3_method_9_code 101 = .ok (.invokestatic 48, 3) := by decide +kernel
theorem d_NInterval_setProduct_104 : decode prog_3_method_9_code 104 = .ok (.lload 7, 2) := by decide +kernel
theorem d_NInterval_setProduct_106 : decode prog_3_method_9_code 106 = .ok (.lload 9, 2) := by decide +kernel
theorem d_NInterval_setProduct_108 : decode prog_3_method_9_code 108 = .ok (.invokestatic 48, 3) := by decide +kernel
theorem d_NInterval_setProduct_111 : decode prog_3_method_9_code 111 = .ok (.invokestatic 48, 3) := by decide +kernel
theorem d_NInterval_setProduct_114 : decode prog_3_method_9_code 114 = .ok (.lload_n 3, 1) := by decide +kernel
theorem d_NInterval_setProduct_115 : decode prog_3_method_9_code 115 = .ok (.lload 5, 2) := by decide +kernel
theorem d_NInterval_setProduct_117 : decode prog_3_method_9_code 117 = .ok (.invokestatic 53, 3) := by decide +kernel
theorem d_NInterval_setProduct_120 : decode prog_3_method_9_code 120 = .ok (.lload 7, 2) := by decide +kernel
theorem d_NInterval_setProduct_122 : decode prog_3_method_9_code 122 = .ok (.lload 9, 2) := by decide +kernel
theorem d_NInterval_setProduct_124 : decode prog_3_method_9_code 124 = .ok (.invokestatic 53, 3) := by decide +kernel
theorem d_NInterval_setProduct_127 : decode prog_3_method_9_code 127 = .ok (.invokestatic 53, 3) := by decide +kernel
theorem d_NInterval_setProduct_130 : decode prog_3_method_9_code 130 = .ok (.invokevirtual 30, 3) := by decide +kernel
theorem d_NInterval_setProduct_133 : decode prog_3_method_9_code 133 = .ok (.return_, 1) := by decide +kernel
theorem d_NInterval_setQuotient_0 : decode prog_3_method_10_code 0 = .ok (.aload_n 1, 1) := by decide +kernel
theorem d_NInterval_setQuotient_1 : decode prog_3_method_10_code 1 = .ok (.invokevirtual 56, 3) := by decide +kernel
theorem d_NInterval_setQuotient_4 : decode prog_3_method_10_code 4 = .ok (.lstore_n 2, 1) := by decide +kernel
theorem d_NInterval_setQuotient_5 : decode prog_3_method_10_code 5 = .ok (.aload_n 0, 1) := by decide +kernel
theorem d_NInterval_setQuotient_6 : decode prog_3_method_10_code 6 = .ok (.lload_n 2, 1) := by decide +kernel
theorem d_NInterval_setQuotient_7 : decode prog_3_method_10_code 7 = .ok (.lneg, 1) := by decide +kernel
theorem d_NInterval_setQuotient_8 : decode prog_3_method_10_code 8 = .ok (.lload_n 2, 1) := by decide +kernel
theorem d_NInterval_setQuotient_9 : decode prog_3_method_10_code 9 = .ok (.invokevirtual 30, 3) := by decide +kernel
theorem d_NInterval_setQuotient_12 : decode prog_3_method_10_code 12 = .ok (.return_, 1) := by decide +kernel
theorem d_NInterval_setRest_0 : decode prog_3_method_11_code 0 = .ok (.aload_n 1, 1) := by decide +kernel
theorem d_NInterval_setRest_1 : decode prog_3_method_11_code 1 = .ok (.invokevirtual 56, 3) := by decide +kernel
theorem d_NInterval_setRest_4 : decode prog_3_method_11_code 4 = .ok (.lstore_n 3, 1) := by decide +kernel
theorem d_NInterval_setRest_5 : decode prog_3_method_11_code 5 = .ok (.aload_n 2, 1) := by decide +kernel
theorem d_NInterval_setRest_6 : decode prog_3_method_11_code 6 = .ok (.invokevirtual 42, 3) := by decide +kernel
theorem d_NInterval_setRest_9 : decode prog_3_method_11_code 9 = .ok (.ifCond .eq 18, 3) := by decide +kernel
theorem d_NInterval_setRest_12 : decode prog_3_method_11_code 12 = .ok (.lload_n 3, 1) := by decide +kernel
theorem d_NInterval_setRest_13 : decode prog_3_method_11_code 13 = .ok (.lconst 0, 1) := by decide +kernel
theorem d_NInterval_setRest_14 : decode prog_3_method_11_code 14 = .ok (.aload_n 2, 1) := by decide +kernel
theorem d_NInterval_setRest_15 : decode prog_3_method_11_code 15 = .ok (.invokevirtual 56, 3) := by decide +kernel
theorem d_NInterval_setRest_18 : decode prog_3_method_11_code 18 = .ok (.lconst 1, 1) := by decide +kernel
theorem d_NInterval_setRest_19 : decode prog_3_method_11_code 19 = .ok (.lsub, 1) := by decide +kernel
theorem d_NInterval_setRest_20 : decode prog_3_method_11_code 20 = .ok (.invokestatic 53, 3) := by decide +kernel
theorem d_NInterval_setRest_23 : decode prog_3_method_11_code 23 = .ok (.invokestatic 48, 3) := by decide +kernel
theorem d_NInterval_setRest_26 : decode prog_3_method_11_code 26 = .ok (.lstore_n 3, 1) := by decide +kernel
theorem d_NInterval_setRest_27 : decode prog_3_method_11_code 27 = .ok (.aload_n 0, 1) := by decide +kernel
theorem d_NInterval_setRest_28 : decode prog_3_method_11_code 28 = .ok (.aload_n 1, 1) := by decide +kernel
theorem d_NInterval_setRest_29 : decode prog_3_method_11_code 29 = .ok (.getfield 11, 3) := by decide +kernel
theorem d_NInterval_setRest_32 : decode prog_3_method_11_code 32 = .ok (.lconst 0, 1) := by decide +kernel
theorem d_NInterval_setRest_33 : decode prog_3_method_11_code 33 = .ok (.lcmp, 1) := by decide +kernel
theorem d_NInterval_setRest_34 : decode prog_3_method_11_code 34 = .ok (.ifCond .lt 7, 3) := by decide +kernel
theorem d_NInterval_setRest_37 : decode prog_3_method_11_code 37 = .ok (.lconst 0, 1) := by decide +kernel
theorem d_NInterval_setRest_38 : decode prog_3_method_11_code 38 = .ok (.goto 5, 3) := by decide +kernel
theorem d_NInterval_setRest_41 : decode prog_3_method_11_code 41 = .ok (.lload_n 3, 1) := by decide +kernel
theorem d_NInterval_setRest_42 : decode prog_3_method_11_code 42 = .ok (.lneg, 1) := by decide +kernel
theorem d_NInterval_setRest_43 : decode prog_3_method_11_code 43 = .ok (.lload_n 3, 1) := by decide +kernel
theorem d_NInterval_setRest_44 : decode prog_3_method_11_code 44 = .ok (.invokevirtual 30, 3) := by decide +kernel
theorem d_NInterval_setRest_47 : decode prog_3_method_11_code 47 = .ok (.return_, 1) := by decide +kernel
theorem d_NInterval_setSum_0 : decode prog_3_method_7_code 0 = .ok (.aload_n 0, 1) := by decide +kernel
theorem d_NInterval_setSum_1 : decode prog_3_method_7_code 1 = .ok (.aload_n 1, 1) := by decide +kernel
theorem d_NInterval_setSum_2 : decode prog_3_method_7_code 2 = .ok (.getfield 11, 3) := by decide +kernel
theorem d_NInterval_setSum_5 : decode prog_3_method_7_code 5 = .ok (.aload_n 2, 1) := by decide +kernel
theorem d_NInterval_setSum_6 : decode prog_3_method_7_code 6 = .ok (.getfield 11, 3) := by decide +kernel
theorem d_NInterval_setSum_9 : decode prog_3_method_7_code 9 = .ok (.invokestatic 34, 3) := by decide +kernel
theorem d_NInterval_setSum_12 : decode prog_3_method_7_code 12 = .ok (.aload_n 1, 1) := by decide +kernel
theorem d_NInterval_setSum_13 : decode prog_3_method_7_code 13 = .ok (.getfield 15, 3) := by decide +kernel
theorem d_NInterval_setSum_16 : decode prog_3_method_7_code 16 = .ok (.aload_n 2, 1) := by decide +kernel
theorem d_NInterval_setSum_17 : decode prog_3_method_7_code 17 = .ok (.getfield 15, 3) := by decide +kernel
theorem d_NInterval_setSum_20 : decode prog_3_method_7_code 20 = .ok (.invokestatic 34, 3) := by decide +kernel
theorem d_NInterval_setSum_23 : decode prog_3_method_7_code 23 = .ok (.invokevirtual 30, 3) := by decide +kernel
theorem d_NInterval_setSum_26 : decode prog_3_method_7_code 26 = .ok (.return_, 1) := by decide +kernel
theorem d_NInterval_sum_0 : decode prog_3_method_14_code 0 = .ok (.lload_n 0, 1) := by decide +kernel
theorem d_NInterval_sum_1 : decode prog_3_method_14_code 1 = .ok (.invokestatic 22, 3) := by decide +kernel
theorem d_NInterval_sum_4 : decode prog_3_method_14_code 4 = .ok (.ifCond .ne 10, 3) := by decide +kernel
theorem d_NInterval_sum_7 : decode prog_3_method_14_code 7 = .ok (.lload_n 2, 1) := by decide +kernel
theorem d_NInterval_sum_8 : decode prog_3_method_14_code 8 = .ok (.invokestatic 22, 3) := by decide +kernel
theorem d_NInterval_sum_11 : decode prog_3_method_14_code 11 = .ok (.ifCond .eq 9, 3) := by decide +kernel
theorem d_NInterval_sum_14 : decode prog_3_method_14_code 14 = .ok (.ldc2_w 64, 3) := by decide +kernel
theorem d_NInterval_sum_17 : decode prog_3_method_14_code 17 = .ok (.goto 6, 3) := by decide +kernel
theorem d_NInterval_sum_20 : decode prog_3_method_14_code 20 = .ok (.lload_n 0, 1) := by decide +kernel
theorem d_NInterval_sum_21 : decode prog_3_method_14_code 21 = .ok (.lload_n 2, 1) := by decide +kernel
theorem d_NInterval_sum_22 : decode prog_3_method_14_code 22 = .ok (.ladd, 1) := by decide +kernel
theorem d_NInterval_sum_23 : decode prog_3_method_14_code 23 = .ok (.lreturn, 1) := by decide +kernel

