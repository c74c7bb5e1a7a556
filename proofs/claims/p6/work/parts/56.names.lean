theorem wd_44 {U : State} (h : TB U) (args : Array Value) : (Cond.selects "BigRunnerModel" ⟨"BigRunnerModel", "put", "(II)V"⟩ ⟨"BigRunnerModel", "put", "(II)V"⟩).before args U = true := h.w 44 (by decide +kernel) rfl args
theorem wd_950 {U : State} (h : TB U) (args : Array Value) : (Cond.fieldLink "BigRunnerModel" 13 "BigRunnerModel" "draft" "[I").before args U = true := h.w 950 (by decide +kernel) rfl args
theorem wd_951 {U : State} (h : TB U) (args : Array Value) : (Cond.fieldLink "BigRunnerModel" 17 "BigRunnerModel" "draftArg" "[I").before args U = true := h.w 951 (by decide +kernel) rfl args
theorem wd_952 {U : State} (h : TB U) (args : Array Value) : (Cond.fieldLink "BigRunnerModel" 104 "BigRunnerModel" "drafts" "I").before args U = true := h.w 952 (by decide +kernel) rfl args
theorem wd_957 {U : State} (h : TB U) (args : Array Value) : (Cond.fieldLink "BigRunnerModel" 98 "BigRunnerModel" "at" "I").before args U = true := h.w 957 (by decide +kernel) rfl args
theorem wd_958 {U : State} (h : TB U) (args : Array Value) : (Cond.fieldLink "BigRunnerModel" 118 "BigRunnerModel" "depth" "I").before args U = true := h.w 958 (by decide +kernel) rfl args
theorem wd_959 {U : State} (h : TB U) (args : Array Value) : (Cond.fieldLink "BigRunnerModel" 30 "BigRunnerModel" "wait" "[C").before args U = true := h.w 959 (by decide +kernel) rfl args
theorem wd_960 {U : State} (h : TB U) (args : Array Value) : (Cond.fieldLink "BigRunnerModel" 107 "BigRunnerModel" "waits" "I").before args U = true := h.w 960 (by decide +kernel) rfl args
theorem wd_1112 {U : State} (h : TB U) (args : Array Value) : (Cond.methodLink "BigRunnerModel" 114 ⟨"BigRunnerModel", "put", "(II)V"⟩).before args U = true := h.w 1112 (by decide +kernel) rfl args
theorem wd_1114 {U : State} (h : TB U) (args : Array Value) : (Cond.instanceMethod ⟨"BigRunnerModel", "put", "(II)V"⟩).before args U = true := h.w 1114 (by decide +kernel) rfl args
theorem wd_1115 {U : State} (h : TB U) (args : Array Value) : (Cond.code ⟨"BigRunnerModel", "put", "(II)V"⟩ prog_12_method_4_code 3 none).before args U = true := h.w 1115 (by decide +kernel) rfl args
theorem d_M_digit_0 : decode prog_12_method_5_code 0 = .ok (.iload_n 0, 1) := by decide +kernel
theorem d_M_digit_1 : decode prog_12_method_5_code 1 = .ok (.bipush 48, 2) := by decide +kernel
theorem d_M_digit_3 : decode prog_12_method_5_code 3 = .ok (.if_icmp .lt 13, 3) := by decide +kernel
theorem d_M_digit_6 : decode prog_12_method_5_code 6 = .ok (.iload_n 0, 1) := by decide +kernel
theorem d_M_digit_7 : decode prog_12_method_5_code 7 = .ok (.bipush 57, 2) := by decide +kernel
theorem d_M_digit_9 : decode prog_12_method_5_code 9 = .ok (.if_icmp .gt 7, 3) := by decide +kernel
theorem d_M_digit_12 : decode prog_12_method_5_code 12 = .ok (.iconst 1, 1) := by decide +kernel
theorem d_M_digit_13 : decode prog_12_method_5_code 13 = .ok (.goto 4, 3) := by decide +kernel
theorem d_M_digit_16 : decode prog_12_method_5_code 16 = .ok (.iconst 0, 1) := by decide +kernel
theorem d_M_digit_17 : decode prog_12_method_5_code 17 = .ok (.ireturn, 1) := by decide +kernel
theorem d_M_here_0 : decode prog_12_method_3_code 0 = .ok (.aload_n 0, 1) := by decide +kernel
theorem d_M_here_1 : decode prog_12_method_3_code 1 = .ok (.getfield 98, 3) := by decide +kernel
theorem d_M_here_4 : decode prog_12_method_3_code 4 = .ok (.aload_n 0, 1) := by decide +kernel
theorem d_M_here_5 : decode prog_12_method_3_code 5 = .ok (.getfield 101, 3) := by decide +kernel
theorem d_M_here_8 : decode prog_12_method_3_code 8 = .ok (.if_icmp .ge 15, 3) := by decide +kernel
theorem d_M_here_11 : decode prog_12_method_3_code 11 = .ok (.aload_n 0, 1) := by decide +kernel
theorem d_M_here_12 : decode prog_12_method_3_code 12 = .ok (.getfield 7, 3) := by decide +kernel
theorem d_M_here_15 : decode prog_12_method_3_code 15 = .ok (.aload_n 0, 1) := by decide +kernel
theorem d_M_here_16 : decode prog_12_method_3_code 16 = .ok (.getfield 98, 3) := by decide +kernel
theorem d_M_here_19 : decode prog_12_method_3_code 19 = .ok (.caload, 1) := by decide +kernel
theorem d_M_here_20 : decode prog_12_method_3_code 20 = .ok (.goto 5, 3) := by decide +kernel
theorem d_M_here_23 : decode prog_12_method_3_code 23 = .ok (.bipush 10, 2) := by decide +kernel
theorem d_M_here_25 : decode prog_12_method_3_code 25 = .ok (.ireturn, 1) := by decide +kernel
theorem d_M_isName_0 : decode prog_12_method_6_code 0 = .ok (.iload_n 0, 1) := by decide +kernel
theorem d_M_isName_1 : decode prog_12_method_6_code 1 = .ok (.bipush 97, 2) := by decide +kernel
theorem d_M_isName_3 : decode prog_12_method_6_code 3 = .ok (.if_icmp .lt 13, 3) := by decide +kernel
theorem d_M_isName_6 : decode prog_12_method_6_code 6 = .ok (.iload_n 0, 1) := by decide +kernel
theorem d_M_isName_7 : decode prog_12_method_6_code 7 = .ok (.bipush 106, 2) := by decide +kernel
theorem d_M_isName_9 : decode prog_12_method_6_code 9 = .ok (.if_icmp .gt 7, 3) := by decide +kernel
theorem d_M_isName_12 : decode prog_12_method_6_code 12 = .ok (.iconst 1, 1) := by decide +kernel
theorem d_M_isName_13 : decode prog_12_method_6_code 13 = .ok (.goto 4, 3) := by decide +kernel
theorem d_M_isName_16 : decode prog_12_method_6_code 16 = .ok (.iconst 0, 1) := by decide +kernel
theorem d_M_isName_17 : decode prog_12_method_6_code 17 = .ok (.ireturn, 1) := by decide +kernel
theorem d_M_kindOf_0 : decode prog_12_method_7_code 0 = .ok (.iload_n 0, 1) := by decide +kernel
theorem d_M_kindOf_1 : decode prog_12_method_7_code 1 = .ok (.bipush 43, 2) := by decide +kernel
theorem d_M_kindOf_3 : decode prog_12_method_7_code 3 = .ok (.if_icmp .ne 7, 3) := by decide +kernel
theorem d_M_kindOf_6 : decode prog_12_method_7_code 6 = .ok (.iconst 2, 1) := by decide +kernel
theorem d_M_kindOf_7 : decode prog_12_method_7_code 7 = .ok (.goto 45, 3) := by decide +kernel
theorem d_M_kindOf_10 : decode prog_12_method_7_code 10 = .ok (.iload_n 0, 1) := by decide +kernel
theorem d_M_kindOf_11 : decode prog_12_method_7_code 11 = .ok (.bipush 45, 2) := by decide +kernel
theorem d_M_kindOf_13 : decode prog_12_method_7_code 13 = .ok (.if_icmp .ne 7, 3) := by decide +kernel
theorem d_M_kindOf_16 : decode prog_12_method_7_code 16 = .ok (.iconst 3, 1) := by decide +kernel
theorem d_M_kindOf_17 : decode prog_12_method_7_code 17 = .ok (.goto 35, 3) := by decide +kernel
theorem d_M_kindOf_20 : decode prog_12_method_7_code 20 = .ok (.iload_n 0, 1) := by decide +kernel
theorem d_M_kindOf_21 : decode prog_12_method_7_code 21 = .ok (.bipush 42, 2) := by decide +kernel
theorem d_M_kindOf_23 : decode prog_12_method_7_code 23 = .ok (.if_icmp .ne 7, 3) := by decide +kernel
theorem d_M_kindOf_26 : decode prog_12_method_7_code 26 = .ok (.iconst 4, 1) := by decide +kernel
theorem d_M_kindOf_27 : decode prog_12_method_7_code 27 = .ok (.goto 25, 3) := by decide +kernel
theorem d_M_kindOf_30 : decode prog_12_method_7_code 30 = .ok (.iload_n 0, 1) := by decide +kernel
theorem d_M_kindOf_31 : decode prog_12_method_7_code 31 = .ok (.bipush 47, 2) := by decide +kernel
theorem d_M_kindOf_33 : decode prog_12_method_7_code 33 = .ok (.if_icmp .ne 7, 3) := by decide +kernel
theorem d_M_kindOf_36 : decode prog_12_method_7_code 36 = .ok (.iconst 5, 1) := by decide +kernel
theorem d_M_kindOf_37 : decode prog_12_method_7_code 37 = .ok (.goto 15, 3) := by decide +kernel
theorem d_M_kindOf_40 : decode prog_12_method_7_code 40 = .ok (.iload_n 0, 1) := by decide +kernel
theorem d_M_kindOf_41 : decode prog_12_method_7_code 41 = .ok (.bipush 37, 2) := by decide +kernel
theorem d_M_kindOf_43 : decode prog_12_method_7_code 43 = .ok (.if_icmp .ne 8, 3) := by decide +kernel
theorem d_M_kindOf_46 : decode prog_12_method_7_code 46 = .ok (.bipush 6, 2) := by decide +kernel
theorem d_M_kindOf_48 : decode prog_12_method_7_code 48 = .ok (.goto 4, 3) := by decide +kernel
theorem d_M_kindOf_51 : decode prog_12_method_7_code 51 = .ok (.iconst 0, 1) := by decide +kernel
theorem d_M_kindOf_52 : decode prog_12_method_7_code 52 = .ok (.ireturn, 1) := by decide +kernel
theorem d_M_negate_0 : decode prog_12_method_9_code 0 = .ok (.aload_n 0, 1) := by decide +kernel
theorem d_M_negate_1 : decode prog_12_method_9_code 1 = .ok (.getfield 107, 3) := by decide +kernel
theorem d_M_negate_4 : decode prog_12_method_9_code 4 = .ok (.ifCond .le 49, 3) := by decide +kernel
theorem d_M_negate_7 : decode prog_12_method_9_code 7 = .ok (.aload_n 0, 1) := by decide +kernel
theorem d_M_negate_8 : decode prog_12_method_9_code 8 = .ok (.getfield 30, 3) := by decide +kernel
theorem d_M_negate_11 : decode prog_12_method_9_code 11 = .ok (.aload_n 0, 1) := by decide +kernel
theorem d_M_negate_12 : decode prog_12_method_9_code 12 = .ok (.getfield 107, 3) := by decide +kernel
theorem d_M_negate_15 : decode prog_12_method_9_code 15 = .ok (.iconst 1, 1) := by decide +kernel
theorem d_M_negate_16 : decode prog_12_method_9_code 16 = .ok (.isub, 1) := by decide +kernel
theorem d_M_negate_17 : decode prog_12_method_9_code 17 = .ok (.caload, 1) := by decide +kernel
theorem d_M_negate_18 : decode prog_12_method_9_code 18 = .ok (.bipush 117, 2) := by decide +kernel
theorem d_M_negate_20 : decode prog_12_method_9_code 20 = .ok (.if_icmp .ne 33, 3) := by decide +kernel
theorem d_M_negate_23 : decode prog_12_method_9_code 23 = .ok (.aload_n 0, 1) := by decide +kernel
theorem d_M_negate_24 : decode prog_12_method_9_code 24 = .ok (.dup, 1) := by decide +kernel
theorem d_M_negate_25 : decode prog_12_method_9_code 25 = .ok (.getfield 107, 3) := by decide +kernel
theorem d_M_negate_28 : decode prog_12_method_9_code 28 = .ok (.iconst 1, 1) := by decide +kernel
theorem d_M_negate_29 : decode prog_12_method_9_code 29 = .ok (.isub, 1) := by decide +kernel
theorem d_M_negate_30 : decode prog_12_method_9_code 30 = .ok (.putfield 107, 3) := by decide +kernel
theorem d_M_negate_33 : decode prog_12_method_9_code 33 = .ok (.aload_n 0, 1) := by decide +kernel
theorem d_M_negate_34 : decode prog_12_method_9_code 34 = .ok (.dup, 1) := by decide +kernel
theorem d_M_negate_35 : decode prog_12_method_9_code 35 = .ok (.getfield 118, 3) := by decide +kernel
theorem d_M_negate_38 : decode prog_12_method_9_code 38 = .ok (.iconst 1, 1) := by decide +kernel
theorem d_M_negate_39 : decode prog_12_method_9_code 39 = .ok (.isub, 1) := by decide +kernel
theorem d_M_negate_40 : decode prog_12_method_9_code 40 = .ok (.putfield 118, 3) := by decide +kernel
theorem d_M_negate_43 : decode prog_12_method_9_code 43 = .ok (.aload_n 0, 1) := by decide +kernel
theorem d_M_negate_44 : decode prog_12_method_9_code 44 = .ok (.bipush 7, 2) := by decide +kernel
theorem d_M_negate_46 : decode prog_12_method_9_code 46 = .ok (.iconst 0, 1) := by decide +kernel
theorem d_M_negate_47 : decode prog_12_method_9_code 47 = .ok (.invokevirtual 114, 3) := by decide +kernel
theorem d_M_negate_50 : decode prog_12_method_9_code 50 = .ok (.goto (-50), 3) := by decide +kernel
theorem d_M_negate_53 : decode prog_12_method_9_code 53 = .ok (.return_, 1) := by decide +kernel
theorem d_M_put_0 : decode prog_12_method_4_code 0 = .ok (.aload_n 0, 1) := by decide +kernel
theorem d_M_put_1 : decode prog_12_method_4_code 1 = .ok (.getfield 13, 3) := by decide +kernel
theorem d_M_put_4 : decode prog_12_method_4_code 4 = .ok (.aload_n 0, 1) := by decide +kernel
theorem d_M_put_5 : decode prog_12_method_4_code 5 = .ok (.getfield 104, 3) := by decide +kernel
theorem d_M_put_8 : decode prog_12_method_4_code 8 = .ok (.iload_n 1, 1) := by decide +kernel
theorem d_M_put_9 : decode prog_12_method_4_code 9 = .ok (.iastore, 1) := by decide +kernel
theorem d_M_put_10 : decode prog_12_method_4_code 10 = .ok (.aload_n 0, 1) := by decide +kernel
theorem d_M_put_11 : decode prog_12_method_4_code 11 = .ok (.getfield 17, 3) := by decide +kernel
theorem d_M_put_14 : decode prog_12_method_4_code 14 = .ok (.aload_n 0, 1) := by decide +kernel
theorem d_M_put_15 : decode prog_12_method_4_code 15 = .ok (.getfield 104, 3) := by decide +kernel
theorem d_M_put_18 : decode prog_12_method_4_code 18 = .ok (.iload_n 2, 1) := by decide +kernel
theorem d_M_put_19 : decode prog_12_method_4_code 19 = .ok (.iastore, 1) := by decide +kernel
theorem d_M_put_20 : decode prog_12_method_4_code 20 = .ok (.aload_n 0, 1) := by decide +kernel
theorem d_M_put_21 : decode prog_12_method_4_code 21 = .ok (.dup, 1) := by decide +kernel
theorem d_M_put_22 : decode prog_12_method_4_code 22 = .ok (.getfield 104, 3) := by decide +kernel
theorem d_M_put_25 : decode prog_12_method_4_code 25 = .ok (.iconst 1, 1) := by decide +kernel
theorem d_M_put_26 : decode prog_12_method_4_code 26 = .ok (.iadd, 1) := by decide +kernel
theorem d_M_put_27 : decode prog_12_method_4_code 27 = .ok (.putfield 104, 3) := by decide +kernel
theorem d_M_put_30 : decode prog_12_method_4_code 30 = .ok (.return_, 1) := by decide +kernel

