theorem wd_51 {U : State} (h : TB U) (args : Array Value) : (Cond.selects "BigRunnerModel" ⟨"BigRunnerModel", "round", "(I)Z"⟩ ⟨"BigRunnerModel", "round", "(I)Z"⟩).before args U = true := h.w 51 (by decide +kernel) rfl args
theorem wd_52 {U : State} (h : TB U) (args : Array Value) : (Cond.selects "BigRunnerModel" ⟨"BigRunnerModel", "spanOf", "(I)V"⟩ ⟨"BigRunnerModel", "spanOf", "(I)V"⟩).before args U = true := h.w 52 (by decide +kernel) rfl args
theorem wd_54 {U : State} (h : TB U) (args : Array Value) : (Cond.selects "BigRunnerModel" ⟨"BigRunnerModel", "spanProduct", "(I)V"⟩ ⟨"BigRunnerModel", "spanProduct", "(I)V"⟩).before args U = true := h.w 54 (by decide +kernel) rfl args
theorem wd_55 {U : State} (h : TB U) (args : Array Value) : (Cond.selects "BigRunnerModel" ⟨"BigRunnerModel", "spanQuotient", "(IZ)V"⟩ ⟨"BigRunnerModel", "spanQuotient", "(IZ)V"⟩).before args U = true := h.w 55 (by decide +kernel) rfl args
theorem wd_56 {U : State} (h : TB U) (args : Array Value) : (Cond.selects "BigRunnerModel" ⟨"BigRunnerModel", "joined", "(IZ)Z"⟩ ⟨"BigRunnerModel", "joined", "(IZ)Z"⟩).before args U = true := h.w 56 (by decide +kernel) rfl args
theorem wd_953 {U : State} (h : TB U) (args : Array Value) : (Cond.fieldLink "BigRunnerModel" 20 "BigRunnerModel" "code" "[I").before args U = true := h.w 953 (by decide +kernel) rfl args
theorem wd_954 {U : State} (h : TB U) (args : Array Value) : (Cond.fieldLink "BigRunnerModel" 23 "BigRunnerModel" "arg" "[I").before args U = true := h.w 954 (by decide +kernel) rfl args
theorem wd_955 {U : State} (h : TB U) (args : Array Value) : (Cond.fieldLink "BigRunnerModel" 26 "BigRunnerModel" "machineSign" "[Z").before args U = true := h.w 955 (by decide +kernel) rfl args
theorem wd_956 {U : State} (h : TB U) (args : Array Value) : (Cond.fieldLink "BigRunnerModel" 193 "BigRunnerModel" "size" "I").before args U = true := h.w 956 (by decide +kernel) rfl args
theorem wd_972 {U : State} (h : TB U) (args : Array Value) : (Cond.fieldLink "BigRunnerModel" 64 "BigRunnerModel" "bounded" "[Z").before args U = true := h.w 972 (by decide +kernel) rfl args
theorem wd_979 {U : State} (h : TB U) (args : Array Value) : (Cond.fieldLink "BigRunnerModel" 183 "BigRunnerModel" "top" "I").before args U = true := h.w 979 (by decide +kernel) rfl args
theorem wd_1149 {U : State} (h : TB U) (args : Array Value) : (Cond.methodLink "BigRunnerModel" 206 ⟨"BigRunnerModel", "round", "(I)Z"⟩).before args U = true := h.w 1149 (by decide +kernel) rfl args
theorem wd_1151 {U : State} (h : TB U) (args : Array Value) : (Cond.instanceMethod ⟨"BigRunnerModel", "round", "(I)Z"⟩).before args U = true := h.w 1151 (by decide +kernel) rfl args
theorem wd_1152 {U : State} (h : TB U) (args : Array Value) : (Cond.code ⟨"BigRunnerModel", "round", "(I)Z"⟩ prog_12_method_24_code 4 (some .boolean)).before args U = true := h.w 1152 (by decide +kernel) rfl args
theorem wd_1153 {U : State} (h : TB U) (args : Array Value) : (Cond.methodLink "BigRunnerModel" 195 ⟨"BigRunnerModel", "spanOf", "(I)V"⟩).before args U = true := h.w 1153 (by decide +kernel) rfl args
theorem wd_1155 {U : State} (h : TB U) (args : Array Value) : (Cond.instanceMethod ⟨"BigRunnerModel", "spanOf", "(I)V"⟩).before args U = true := h.w 1155 (by decide +kernel) rfl args
theorem wd_1156 {U : State} (h : TB U) (args : Array Value) : (Cond.code ⟨"BigRunnerModel", "spanOf", "(I)V"⟩ prog_12_method_22_code 4 none).before args U = true := h.w 1156 (by decide +kernel) rfl args
theorem wd_1163 {U : State} (h : TB U) (args : Array Value) : (Cond.methodLink "BigRunnerModel" 186 ⟨"BigRunnerModel", "spanProduct", "(I)V"⟩).before args U = true := h.w 1163 (by decide +kernel) rfl args
theorem wd_1165 {U : State} (h : TB U) (args : Array Value) : (Cond.instanceMethod ⟨"BigRunnerModel", "spanProduct", "(I)V"⟩).before args U = true := h.w 1165 (by decide +kernel) rfl args
theorem wd_1166 {U : State} (h : TB U) (args : Array Value) : (Cond.code ⟨"BigRunnerModel", "spanProduct", "(I)V"⟩ prog_12_method_20_code 12 none).before args U = true := h.w 1166 (by decide +kernel) rfl args
theorem wd_1180 {U : State} (h : TB U) (args : Array Value) : (Cond.methodLink "BigRunnerModel" 189 ⟨"BigRunnerModel", "spanQuotient", "(IZ)V"⟩).before args U = true := h.w 1180 (by decide +kernel) rfl args
theorem wd_1182 {U : State} (h : TB U) (args : Array Value) : (Cond.instanceMethod ⟨"BigRunnerModel", "spanQuotient", "(IZ)V"⟩).before args U = true := h.w 1182 (by decide +kernel) rfl args
theorem wd_1183 {U : State} (h : TB U) (args : Array Value) : (Cond.code ⟨"BigRunnerModel", "spanQuotient", "(IZ)V"⟩ prog_12_method_21_code 9 none).before args U = true := h.w 1183 (by decide +kernel) rfl args
theorem wd_1184 {U : State} (h : TB U) (args : Array Value) : (Cond.constantLong "BigRunnerModel" 198 (-1000000000)).before args U = true := h.w 1184 (by decide +kernel) rfl args
theorem wd_1185 {U : State} (h : TB U) (args : Array Value) : (Cond.constantLong "BigRunnerModel" 200 1000000000).before args U = true := h.w 1185 (by decide +kernel) rfl args
theorem wd_1186 {U : State} (h : TB U) (args : Array Value) : (Cond.methodLink "BigRunnerModel" 202 ⟨"BigRunnerModel", "joined", "(IZ)Z"⟩).before args U = true := h.w 1186 (by decide +kernel) rfl args
theorem wd_1188 {U : State} (h : TB U) (args : Array Value) : (Cond.instanceMethod ⟨"BigRunnerModel", "joined", "(IZ)Z"⟩).before args U = true := h.w 1188 (by decide +kernel) rfl args
theorem wd_1189 {U : State} (h : TB U) (args : Array Value) : (Cond.code ⟨"BigRunnerModel", "joined", "(IZ)Z"⟩ prog_12_method_23_code 5 (some .boolean)).before args U = true := h.w 1189 (by decide +kernel) rfl args
theorem d_M_round_0 : decode prog_12_method_24_code 0 = .ok (.iconst 0, 1) := by decide +kernel
theorem d_M_round_1 : decode prog_12_method_24_code 1 = .ok (.istore_n 2, 1) := by decide +kernel
theorem d_M_round_2 : decode prog_12_method_24_code 2 = .ok (.aload_n 0, 1) := by decide +kernel
theorem d_M_round_3 : decode prog_12_method_24_code 3 = .ok (.iconst 0, 1) := by decide +kernel
theorem d_M_round_4 : decode prog_12_method_24_code 4 = .ok (.putfield 183, 3) := by decide +kernel
theorem d_M_round_7 : decode prog_12_method_24_code 7 = .ok (.iconst 0, 1) := by decide +kernel
theorem d_M_round_8 : decode prog_12_method_24_code 8 = .ok (.istore_n 3, 1) := by decide +kernel
theorem d_M_round_9 : decode prog_12_method_24_code 9 = .ok (.iload_n 3, 1) := by decide +kernel
theorem d_M_round_10 : decode prog_12_method_24_code 10 = .ok (.aload_n 0, 1) := by decide +kernel
theorem d_M_round_11 : decode prog_12_method_24_code 11 = .ok (.getfield 193, 3) := by decide +kernel
theorem d_M_round_14 : decode prog_12_method_24_code 14 = .ok (.if_icmp .ge 101, 3) := by decide +kernel
theorem d_M_round_17 : decode prog_12_method_24_code 17 = .ok (.aload_n 0, 1) := by decide +kernel
theorem d_M_round_18 : decode prog_12_method_24_code 18 = .ok (.getfield 20, 3) := by decide +kernel
theorem d_M_round_21 : decode prog_12_method_24_code 21 = .ok (.iload_n 3, 1) := by decide +kernel
theorem d_M_round_22 : decode prog_12_method_24_code 22 = .ok (.iaload, 1) := by decide +kernel
theorem d_M_round_23 : decode prog_12_method_24_code 23 = .ok (.bipush 8, 2) := by decide +kernel
theorem d_M_round_25 : decode prog_12_method_24_code 25 = .ok (.if_icmp .ge 11, 3) := by decide +kernel
theorem d_M_round_28 : decode prog_12_method_24_code 28 = .ok (.aload_n 0, 1) := by decide +kernel
theorem d_M_round_29 : decode prog_12_method_24_code 29 = .ok (.iload_n 3, 1) := by decide +kernel
theorem d_M_round_30 : decode prog_12_method_24_code 30 = .ok (.invokevirtual 195, 3) := by decide +kernel
theorem d_M_round_33 : decode prog_12_method_24_code 33 = .ok (.goto 76, 3) := by decide +kernel
theorem d_M_round_36 : decode prog_12_method_24_code 36 = .ok (.aload_n 0, 1) := by decide +kernel
theorem d_M_round_37 : decode prog_12_method_24_code 37 = .ok (.getfield 20, 3) := by decide +kernel
theorem d_M_round_40 : decode prog_12_method_24_code 40 = .ok (.iload_n 3, 1) := by decide +kernel
theorem d_M_round_41 : decode prog_12_method_24_code 41 = .ok (.iaload, 1) := by decide +kernel
theorem d_M_round_42 : decode prog_12_method_24_code 42 = .ok (.bipush 9, 2) := by decide +kernel
theorem d_M_round_44 : decode prog_12_method_24_code 44 = .ok (.if_icmp .ne 16, 3) := by decide +kernel
theorem d_M_round_47 : decode prog_12_method_24_code 47 = .ok (.aload_n 0, 1) := by decide +kernel
theorem d_M_round_48 : decode prog_12_method_24_code 48 = .ok (.iconst 0, 1) := by decide +kernel
theorem d_M_round_49 : decode prog_12_method_24_code 49 = .ok (.ldc2_w 198, 3) := by decide +kernel
theorem d_M_round_52 : decode prog_12_method_24_code 52 = .ok (.ldc2_w 200, 3) := by decide +kernel
theorem d_M_round_55 : decode prog_12_method_24_code 55 = .ok (.iconst 0, 1) := by decide +kernel
theorem d_M_round_56 : decode prog_12_method_24_code 56 = .ok (.iconst 0, 1) := by decide +kernel
theorem d_M_round_57 : decode prog_12_method_24_code 57 = .ok (.invokevirtual 169, 3) := by decide +kernel
theorem d_M_round_60 : decode prog_12_method_24_code 60 = .ok (.aload_n 0, 1) := by decide +kernel
theorem d_M_round_61 : decode prog_12_method_24_code 61 = .ok (.getfield 20, 3) := by decide +kernel
theorem d_M_round_64 : decode prog_12_method_24_code 64 = .ok (.iload_n 3, 1) := by decide +kernel
theorem d_M_round_65 : decode prog_12_method_24_code 65 = .ok (.iaload, 1) := by decide +kernel
theorem d_M_round_66 : decode prog_12_method_24_code 66 = .ok (.bipush 10, 2) := by decide +kernel
theorem d_M_round_68 : decode prog_12_method_24_code 68 = .ok (.if_icmp .ge 36, 3) := by decide +kernel
theorem d_M_round_71 : decode prog_12_method_24_code 71 = .ok (.aload_n 0, 1) := by decide +kernel
theorem d_M_round_72 : decode prog_12_method_24_code 72 = .ok (.aload_n 0, 1) := by decide +kernel
theorem d_M_round_73 : decode prog_12_method_24_code 73 = .ok (.getfield 23, 3) := by decide +kernel
theorem d_M_round_76 : decode prog_12_method_24_code 76 = .ok (.iload_n 3, 1) := by decide +kernel
theorem d_M_round_77 : decode prog_12_method_24_code 77 = .ok (.iaload, 1) := by decide +kernel
theorem d_M_round_78 : decode prog_12_method_24_code 78 = .ok (.iload_n 1, 1) := by decide +kernel
theorem d_M_round_79 : decode prog_12_method_24_code 79 = .ok (.iconst 3, 1) := by decide +kernel
theorem d_M_round_80 : decode prog_12_method_24_code 80 = .ok (.if_icmp .le 7, 3) := by decide +kernel
theorem d_M_round_83 : decode prog_12_method_24_code 83 = .ok (.iconst 1, 1) := by decide +kernel
theorem d_M_round_84 : decode prog_12_method_24_code 84 = .ok (.goto 4, 3) := by decide +kernel
theorem d_M_round_87 : decode prog_12_method_24_code 87 = .ok (.iconst 0, 1) := by decide +kernel
theorem d_M_round_88 : decode prog_12_method_24_code 88 = .ok (.invokevirtual 202, 3) := by decide +kernel
theorem d_M_round_91 : decode prog_12_method_24_code 91 = .ok (.ifCond .ne 7, 3) := by decide +kernel
theorem d_M_round_94 : decode prog_12_method_24_code 94 = .ok (.iload_n 2, 1) := by decide +kernel
theorem d_M_round_95 : decode prog_12_method_24_code 95 = .ok (.ifCond .eq 7, 3) := by decide +kernel
theorem d_M_round_98 : decode prog_12_method_24_code 98 = .ok (.iconst 1, 1) := by decide +kernel
theorem d_M_round_99 : decode prog_12_method_24_code 99 = .ok (.goto 4, 3) := by decide +kernel
theorem d_M_round_102 : decode prog_12_method_24_code 102 = .ok (.iconst 0, 1) := by decide +kernel
theorem d_M_round_103 : decode prog_12_method_24_code 103 = .ok (.istore_n 2, 1) := by decide +kernel
theorem d_M_round_104 : decode prog_12_method_24_code 104 = .ok (.aload_n 0, 1) := by decide +kernel
theorem d_M_round_105 : decode prog_12_method_24_code 105 = .ok (.iconst 0, 1) := by decide +kernel
theorem d_M_round_106 : decode prog_12_method_24_code 106 = .ok (.putfield 183, 3) := by decide +kernel
theorem d_M_round_109 : decode prog_12_method_24_code 109 = .ok (.iinc 3 1, 3) := by decide +kernel
theorem d_M_round_112 : decode prog_12_method_24_code 112 = .ok (.goto (-103), 3) := by decide +kernel
theorem d_M_round_115 : decode prog_12_method_24_code 115 = .ok (.iload_n 2, 1) := by decide +kernel
theorem d_M_round_116 : decode prog_12_method_24_code 116 = .ok (.ireturn, 1) := by decide +kernel
theorem d_M_settle_0 : decode prog_12_method_25_code 0 = .ok (.iconst 0, 1) := by decide +kernel
theorem d_M_settle_1 : decode prog_12_method_25_code 1 = .ok (.istore_n 1, 1) := by decide +kernel
theorem d_M_settle_2 : decode prog_12_method_25_code 2 = .ok (.iload_n 1, 1) := by decide +kernel
theorem d_M_settle_3 : decode prog_12_method_25_code 3 = .ok (.bipush 10, 2) := by decide +kernel
theorem d_M_settle_5 : decode prog_12_method_25_code 5 = .ok (.if_icmp .ge 37, 3) := by decide +kernel
theorem d_M_settle_8 : decode prog_12_method_25_code 8 = .ok (.aload_n 0, 1) := by decide +kernel
theorem d_M_settle_9 : decode prog_12_method_25_code 9 = .ok (.getfield 39, 3) := by decide +kernel
theorem d_M_settle_12 : decode prog_12_method_25_code 12 = .ok (.iload_n 1, 1) := by decide +kernel
theorem d_M_settle_13 : decode prog_12_method_25_code 13 = .ok (.lconst 0, 1) := by decide +kernel
theorem d_M_settle_14 : decode prog_12_method_25_code 14 = .ok (.lastore, 1) := by decide +kernel
theorem d_M_settle_15 : decode prog_12_method_25_code 15 = .ok (.aload_n 0, 1) := by decide +kernel
theorem d_M_settle_16 : decode prog_12_method_25_code 16 = .ok (.getfield 43, 3) := by decide +kernel
theorem d_M_settle_19 : decode prog_12_method_25_code 19 = .ok (.iload_n 1, 1) := by decide +kernel
theorem d_M_settle_20 : decode prog_12_method_25_code 20 = .ok (.lconst 0, 1) := by decide +kernel
theorem d_M_settle_21 : decode prog_12_method_25_code 21 = .ok (.lastore, 1) := by decide +kernel
theorem d_M_settle_22 : decode prog_12_method_25_code 22 = .ok (.aload_n 0, 1) := by decide +kernel
theorem d_M_settle_23 : decode prog_12_method_25_code 23 = .ok (.getfield 46, 3) := by decide +kernel
theorem d_M_settle_26 : decode prog_12_method_25_code 26 = .ok (.iload_n 1, 1) := by decide +kernel
theorem d_M_settle_27 : decode prog_12_method_25_code 27 = .ok (.iconst 0, 1) := by decide +kernel
theorem d_M_settle_28 : decode prog_12_method_25_code 28 = .ok (.bastore, 1) := by decide +kernel
theorem d_M_settle_29 : decode prog_12_method_25_code 29 = .ok (.aload_n 0, 1) := by decide +kernel
theorem d_M_settle_30 : decode prog_12_method_25_code 30 = .ok (.getfield 49, 3) := by decide +kernel
theorem d_M_settle_33 : decode prog_12_method_25_code 33 = .ok (.iload_n 1, 1) := by decide +kernel
theorem d_M_settle_34 : decode prog_12_method_25_code 34 = .ok (.iconst 0, 1) := by decide +kernel
theorem d_M_settle_35 : decode prog_12_method_25_code 35 = .ok (.bastore, 1) := by decide +kernel
theorem d_M_settle_36 : decode prog_12_method_25_code 36 = .ok (.iinc 1 1, 3) := by decide +kernel
theorem d_M_settle_39 : decode prog_12_method_25_code 39 = .ok (.goto (-37), 3) := by decide +kernel
theorem d_M_settle_42 : decode prog_12_method_25_code 42 = .ok (.iconst 1, 1) := by decide +kernel
theorem d_M_settle_43 : decode prog_12_method_25_code 43 = .ok (.istore_n 1, 1) := by decide +kernel
theorem d_M_settle_44 : decode prog_12_method_25_code 44 = .ok (.aload_n 0, 1) := by decide +kernel
theorem d_M_settle_45 : decode prog_12_method_25_code 45 = .ok (.iload_n 1, 1) := by decide +kernel
theorem d_M_settle_46 : decode prog_12_method_25_code 46 = .ok (.invokevirtual 206, 3) := by decide +kernel
theorem d_M_settle_49 : decode prog_12_method_25_code 49 = .ok (.ifCond .eq 9, 3) := by decide +kernel
theorem d_M_settle_52 : decode prog_12_method_25_code 52 = .ok (.iinc 1 1, 3) := by decide +kernel
theorem d_M_settle_55 : decode prog_12_method_25_code 55 = .ok (.goto (-11), 3) := by decide +kernel
theorem d_M_settle_58 : decode prog_12_method_25_code 58 = .ok (.iload_n 1, 1) := by decide +kernel
theorem d_M_settle_59 : decode prog_12_method_25_code 59 = .ok (.ireturn, 1) := by decide +kernel
theorem d_M_spanOf_0 : decode prog_12_method_22_code 0 = .ok (.aload_n 0, 1) := by decide +kernel
theorem d_M_spanOf_1 : decode prog_12_method_22_code 1 = .ok (.getfield 20, 3) := by decide +kernel
theorem d_M_spanOf_4 : decode prog_12_method_22_code 4 = .ok (.iload_n 1, 1) := by decide +kernel
theorem d_M_spanOf_5 : decode prog_12_method_22_code 5 = .ok (.iaload, 1) := by decide +kernel
theorem d_M_spanOf_6 : decode prog_12_method_22_code 6 = .ok (.istore_n 2, 1) := by decide +kernel
theorem d_M_spanOf_7 : decode prog_12_method_22_code 7 = .ok (.iload_n 2, 1) := by decide +kernel
theorem d_M_spanOf_8 : decode prog_12_method_22_code 8 = .ok (.iconst 2, 1) := by decide +kernel
theorem d_M_spanOf_9 : decode prog_12_method_22_code 9 = .ok (.if_icmp .ge 112, 3) := by decide +kernel
theorem d_M_spanOf_12 : decode prog_12_method_22_code 12 = .ok (.aload_n 0, 1) := by decide +kernel
theorem d_M_spanOf_13 : decode prog_12_method_22_code 13 = .ok (.getfield 23, 3) := by decide +kernel
theorem d_M_spanOf_16 : decode prog_12_method_22_code 16 = .ok (.iload_n 1, 1) := by decide +kernel
theorem d_M_spanOf_17 : decode prog_12_method_22_code 17 = .ok (.iaload, 1) := by decide +kernel
theorem d_M_spanOf_18 : decode prog_12_method_22_code 18 = .ok (.istore_n 3, 1) := by decide +kernel
theorem d_M_spanOf_19 : decode prog_12_method_22_code 19 = .ok (.iload_n 2, 1) := by decide +kernel
theorem d_M_spanOf_20 : decode prog_12_method_22_code 20 = .ok (.ifCond .ne 20, 3) := by decide +kernel
theorem d_M_spanOf_23 : decode prog_12_method_22_code 23 = .ok (.aload_n 0, 1) := by decide +kernel
theorem d_M_spanOf_24 : decode prog_12_method_22_code 24 = .ok (.aload_n 0, 1) := by decide +kernel
theorem d_M_spanOf_25 : decode prog_12_method_22_code 25 = .ok (.getfield 183, 3) := by decide +kernel
theorem d_M_spanOf_28 : decode prog_12_method_22_code 28 = .ok (.iload_n 3, 1) := by decide +kernel
theorem d_M_spanOf_29 : decode prog_12_method_22_code 29 = .ok (.i2l, 1) := by decide +kernel
theorem d_M_spanOf_30 : decode prog_12_method_22_code 30 = .ok (.iload_n 3, 1) := by decide +kernel
theorem d_M_spanOf_31 : decode prog_12_method_22_code 31 = .ok (.i2l, 1) := by decide +kernel
theorem d_M_spanOf_32 : decode prog_12_method_22_code 32 = .ok (.iconst 0, 1) := by decide +kernel
theorem d_M_spanOf_33 : decode prog_12_method_22_code 33 = .ok (.iconst 0, 1) := by decide +kernel
theorem d_M_spanOf_34 : decode prog_12_method_22_code 34 = .ok (.invokevirtual 169, 3) := by decide +kernel
theorem d_M_spanOf_37 : decode prog_12_method_22_code 37 = .ok (.goto 35, 3) := by decide +kernel
theorem d_M_spanOf_40 : decode prog_12_method_22_code 40 = .ok (.aload_n 0, 1) := by decide +kernel
theorem d_M_spanOf_41 : decode prog_12_method_22_code 41 = .ok (.aload_n 0, 1) := by decide +kernel
theorem d_M_spanOf_42 : decode prog_12_method_22_code 42 = .ok (.getfield 183, 3) := by decide +kernel
theorem d_M_spanOf_45 : decode prog_12_method_22_code 45 = .ok (.aload_n 0, 1) := by decide +kernel
theorem d_M_spanOf_46 : decode prog_12_method_22_code 46 = .ok (.getfield 39, 3) := by decide +kernel
theorem d_M_spanOf_49 : decode prog_12_method_22_code 49 = .ok (.iload_n 3, 1) := by decide +kernel
theorem d_M_spanOf_50 : decode prog_12_method_22_code 50 = .ok (.laload, 1) := by decide +kernel
theorem d_M_spanOf_51 : decode prog_12_method_22_code 51 = .ok (.aload_n 0, 1) := by decide +kernel
theorem d_M_spanOf_52 : decode prog_12_method_22_code 52 = .ok (.getfield 43, 3) := by decide +kernel
theorem d_M_spanOf_55 : decode prog_12_method_22_code 55 = .ok (.iload_n 3, 1) := by decide +kernel
theorem d_M_spanOf_56 : decode prog_12_method_22_code 56 = .ok (.laload, 1) := by decide +kernel
theorem d_M_spanOf_57 : decode prog_12_method_22_code 57 = .ok (.aload_n 0, 1) := by decide +kernel
theorem d_M_spanOf_58 : decode prog_12_method_22_code 58 = .ok (.getfield 46, 3) := by decide +kernel
theorem d_M_spanOf_61 : decode prog_12_method_22_code 61 = .ok (.iload_n 3, 1) := by decide +kernel
theorem d_M_spanOf_62 : decode prog_12_method_22_code 62 = .ok (.baload, 1) := by decide +kernel
theorem d_M_spanOf_63 : decode prog_12_method_22_code 63 = .ok (.aload_n 0, 1) := by decide +kernel
theorem d_M_spanOf_64 : decode prog_12_method_22_code 64 = .ok (.getfield 49, 3) := by decide +kernel
theorem d_M_spanOf_67 : decode prog_12_method_22_code 67 = .ok (.iload_n 3, 1) := by decide +kernel
theorem d_M_spanOf_68 : decode prog_12_method_22_code 68 = .ok (.baload, 1) := by decide +kernel
theorem d_M_spanOf_69 : decode prog_12_method_22_code 69 = .ok (.invokevirtual 169, 3) := by decide +kernel
theorem d_M_spanOf_72 : decode prog_12_method_22_code 72 = .ok (.aload_n 0, 1) := by decide +kernel
theorem d_M_spanOf_73 : decode prog_12_method_22_code 73 = .ok (.getfield 64, 3) := by decide +kernel
theorem d_M_spanOf_76 : decode prog_12_method_22_code 76 = .ok (.aload_n 0, 1) := by decide +kernel
theorem d_M_spanOf_77 : decode prog_12_method_22_code 77 = .ok (.getfield 183, 3) := by decide +kernel
theorem d_M_spanOf_80 : decode prog_12_method_22_code 80 = .ok (.aload_n 0, 1) := by decide +kernel
theorem d_M_spanOf_81 : decode prog_12_method_22_code 81 = .ok (.getfield 58, 3) := by decide +kernel
theorem d_M_spanOf_84 : decode prog_12_method_22_code 84 = .ok (.aload_n 0, 1) := by decide +kernel
theorem d_M_spanOf_85 : decode prog_12_method_22_code 85 = .ok (.getfield 183, 3) := by decide +kernel
theorem d_M_spanOf_88 : decode prog_12_method_22_code 88 = .ok (.baload, 1) := by decide +kernel
theorem d_M_spanOf_89 : decode prog_12_method_22_code 89 = .ok (.ifCond .ne 19, 3) := by decide +kernel
theorem d_M_spanOf_92 : decode prog_12_method_22_code 92 = .ok (.aload_n 0, 1) := by decide +kernel
theorem d_M_spanOf_93 : decode prog_12_method_22_code 93 = .ok (.getfield 61, 3) := by decide +kernel
theorem d_M_spanOf_96 : decode prog_12_method_22_code 96 = .ok (.aload_n 0, 1) := by decide +kernel
theorem d_M_spanOf_97 : decode prog_12_method_22_code 97 = .ok (.getfield 183, 3) := by decide +kernel
theorem d_M_spanOf_100 : decode prog_12_method_22_code 100 = .ok (.baload, 1) := by decide +kernel
theorem d_M_spanOf_101 : decode prog_12_method_22_code 101 = .ok (.ifCond .ne 7, 3) := by decide +kernel
theorem d_M_spanOf_104 : decode prog_12_method_22_code 104 = .ok (.iconst 1, 1) := by decide +kernel
theorem d_M_spanOf_105 : decode prog_12_method_22_code 105 = .ok (.goto 4, 3) := by decide +kernel
theorem d_M_spanOf_108 : decode prog_12_method_22_code 108 = .ok (.iconst 0, 1) := by decide +kernel
theorem d_M_spanOf_109 : decode prog_12_method_22_code 109 = .ok (.bastore, 1) := by decide +kernel
theorem d_M_spanOf_110 : decode prog_12_method_22_code 110 = .ok (.aload_n 0, 1) := by decide +kernel
theorem d_M_spanOf_111 : decode prog_12_method_22_code 111 = .ok (.dup, 1) := by decide +kernel
theorem d_M_spanOf_112 : decode prog_12_method_22_code 112 = .ok (.getfield 183, 3) := by decide +kernel
theorem d_M_spanOf_115 : decode prog_12_method_22_code 115 = .ok (.iconst 1, 1) := by decide +kernel
theorem d_M_spanOf_116 : decode prog_12_method_22_code 116 = .ok (.iadd, 1) := by decide +kernel
theorem d_M_spanOf_117 : decode prog_12_method_22_code 117 = .ok (.putfield 183, 3) := by decide +kernel
theorem d_M_spanOf_120 : decode prog_12_method_22_code 120 = .ok (.return_, 1) := by decide +kernel
theorem d_M_spanOf_121 : decode prog_12_method_22_code 121 = .ok (.iload_n 2, 1) := by decide +kernel
theorem d_M_spanOf_122 : decode prog_12_method_22_code 122 = .ok (.bipush 7, 2) := by decide +kernel
theorem d_M_spanOf_124 : decode prog_12_method_22_code 124 = .ok (.if_icmp .ne 77, 3) := by decide +kernel
theorem d_M_spanOf_127 : decode prog_12_method_22_code 127 = .ok (.aload_n 0, 1) := by decide +kernel
theorem d_M_spanOf_128 : decode prog_12_method_22_code 128 = .ok (.aload_n 0, 1) := by decide +kernel
theorem d_M_spanOf_129 : decode prog_12_method_22_code 129 = .ok (.getfield 183, 3) := by decide +kernel
theorem d_M_spanOf_132 : decode prog_12_method_22_code 132 = .ok (.iconst 1, 1) := by decide +kernel
theorem d_M_spanOf_133 : decode prog_12_method_22_code 133 = .ok (.isub, 1) := by decide +kernel
theorem d_M_spanOf_134 : decode prog_12_method_22_code 134 = .ok (.aload_n 0, 1) := by decide +kernel
theorem d_M_spanOf_135 : decode prog_12_method_22_code 135 = .ok (.getfield 55, 3) := by decide +kernel
theorem d_M_spanOf_138 : decode prog_12_method_22_code 138 = .ok (.aload_n 0, 1) := by decide +kernel
theorem d_M_spanOf_139 : decode prog_12_method_22_code 139 = .ok (.getfield 183, 3) := by decide +kernel
theorem d_M_spanOf_142 : decode prog_12_method_22_code 142 = .ok (.iconst 1, 1) := by decide +kernel
theorem d_M_spanOf_143 : decode prog_12_method_22_code 143 = .ok (.isub, 1) := by decide +kernel
theorem d_M_spanOf_144 : decode prog_12_method_22_code 144 = .ok (.laload, 1) := by decide +kernel
theorem d_M_spanOf_145 : decode prog_12_method_22_code 145 = .ok (.lneg, 1) := by decide +kernel
theorem d_M_spanOf_146 : decode prog_12_method_22_code 146 = .ok (.aload_n 0, 1) := by decide +kernel
theorem d_M_spanOf_147 : decode prog_12_method_22_code 147 = .ok (.getfield 52, 3) := by decide +kernel
theorem d_M_spanOf_150 : decode prog_12_method_22_code 150 = .ok (.aload_n 0, 1) := by decide +kernel
theorem d_M_spanOf_151 : decode prog_12_method_22_code 151 = .ok (.getfield 183, 3) := by decide +kernel
theorem d_M_spanOf_154 : decode prog_12_method_22_code 154 = .ok (.iconst 1, 1) := by decide +kernel
theorem d_M_spanOf_155 : decode prog_12_method_22_code 155 = .ok (.isub, 1) := by decide +kernel
theorem d_M_spanOf_156 : decode prog_12_method_22_code 156 = .ok (.laload, 1) := by decide +kernel
theorem d_M_spanOf_157 : decode prog_12_method_22_code 157 = .ok (.lneg, 1) := by decide +kernel
theorem d_M_spanOf_158 : decode prog_12_method_22_code 158 = .ok (.aload_n 0, 1) := by decide +kernel
theorem d_M_spanOf_159 : decode prog_12_method_22_code 159 = .ok (.getfield 61, 3) := by decide +kernel
theorem d_M_spanOf_162 : decode prog_12_method_22_code 162 = .ok (.aload_n 0, 1) := by decide +kernel
theorem d_M_spanOf_163 : decode prog_12_method_22_code 163 = .ok (.getfield 183, 3) := by decide +kernel
theorem d_M_spanOf_166 : decode prog_12_method_22_code 166 = .ok (.iconst 1, 1) := by decide +kernel
theorem d_M_spanOf_167 : decode prog_12_method_22_code 167 = .ok (.isub, 1) := by decide +kernel
theorem d_M_spanOf_168 : decode prog_12_method_22_code 168 = .ok (.baload, 1) := by decide +kernel
theorem d_M_spanOf_169 : decode prog_12_method_22_code 169 = .ok (.aload_n 0, 1) := by decide +kernel
theorem d_M_spanOf_170 : decode prog_12_method_22_code 170 = .ok (.getfield 58, 3) := by decide +kernel
theorem d_M_spanOf_173 : decode prog_12_method_22_code 173 = .ok (.aload_n 0, 1) := by decide +kernel
theorem d_M_spanOf_174 : decode prog_12_method_22_code 174 = .ok (.getfield 183, 3) := by decide +kernel
theorem d_M_spanOf_177 : decode prog_12_method_22_code 177 = .ok (.iconst 1, 1) := by decide +kernel
theorem d_M_spanOf_178 : decode prog_12_method_22_code 178 = .ok (.isub, 1) := by decide +kernel
theorem d_M_spanOf_179 : decode prog_12_method_22_code 179 = .ok (.baload, 1) := by decide +kernel
theorem d_M_spanOf_180 : decode prog_12_method_22_code 180 = .ok (.invokevirtual 169, 3) := by decide +kernel
theorem d_M_spanOf_183 : decode prog_12_method_22_code 183 = .ok (.aload_n 0, 1) := by decide +kernel
theorem d_M_spanOf_184 : decode prog_12_method_22_code 184 = .ok (.getfield 26, 3) := by decide +kernel
theorem d_M_spanOf_187 : decode prog_12_method_22_code 187 = .ok (.iload_n 1, 1) := by decide +kernel
theorem d_M_spanOf_188 : decode prog_12_method_22_code 188 = .ok (.aload_n 0, 1) := by decide +kernel
theorem d_M_spanOf_189 : decode prog_12_method_22_code 189 = .ok (.getfield 64, 3) := by decide +kernel
theorem d_M_spanOf_192 : decode prog_12_method_22_code 192 = .ok (.aload_n 0, 1) := by decide +kernel
theorem d_M_spanOf_193 : decode prog_12_method_22_code 193 = .ok (.getfield 183, 3) := by decide +kernel
theorem d_M_spanOf_196 : decode prog_12_method_22_code 196 = .ok (.iconst 1, 1) := by decide +kernel
theorem d_M_spanOf_197 : decode prog_12_method_22_code 197 = .ok (.isub, 1) := by decide +kernel
theorem d_M_spanOf_198 : decode prog_12_method_22_code 198 = .ok (.baload, 1) := by decide +kernel
theorem d_M_spanOf_199 : decode prog_12_method_22_code 199 = .ok (.bastore, 1) := by decide +kernel
theorem d_M_spanOf_200 : decode prog_12_method_22_code 200 = .ok (.return_, 1) := by decide +kernel
theorem d_M_spanOf_201 : decode prog_12_method_22_code 201 = .ok (.aload_n 0, 1) := by decide +kernel
theorem d_M_spanOf_202 : decode prog_12_method_22_code 202 = .ok (.dup, 1) := by decide +kernel
theorem d_M_spanOf_203 : decode prog_12_method_22_code 203 = .ok (.getfield 183, 3) := by decide +kernel
theorem d_M_spanOf_206 : decode prog_12_method_22_code 206 = .ok (.iconst 1, 1) := by decide +kernel
theorem d_M_spanOf_207 : decode prog_12_method_22_code 207 = .ok (.isub, 1) := by decide +kernel
theorem d_M_spanOf_208 : decode prog_12_method_22_code 208 = .ok (.putfield 183, 3) := by decide +kernel
theorem d_M_spanOf_211 : decode prog_12_method_22_code 211 = .ok (.aload_n 0, 1) := by decide +kernel
theorem d_M_spanOf_212 : decode prog_12_method_22_code 212 = .ok (.getfield 183, 3) := by decide +kernel
theorem d_M_spanOf_215 : decode prog_12_method_22_code 215 = .ok (.iconst 1, 1) := by decide +kernel
theorem d_M_spanOf_216 : decode prog_12_method_22_code 216 = .ok (.isub, 1) := by decide +kernel
theorem d_M_spanOf_217 : decode prog_12_method_22_code 217 = .ok (.istore_n 3, 1) := by decide +kernel
theorem d_M_spanOf_218 : decode prog_12_method_22_code 218 = .ok (.iload_n 2, 1) := by decide +kernel
theorem d_M_spanOf_219 : decode prog_12_method_22_code 219 = .ok (.iconst 2, 1) := by decide +kernel
theorem d_M_spanOf_220 : decode prog_12_method_22_code 220 = .ok (.if_icmp .ne 95, 3) := by decide +kernel
theorem d_M_spanOf_223 : decode prog_12_method_22_code 223 = .ok (.aload_n 0, 1) := by decide +kernel
theorem d_M_spanOf_224 : decode prog_12_method_22_code 224 = .ok (.iload_n 3, 1) := by decide +kernel
theorem d_M_spanOf_225 : decode prog_12_method_22_code 225 = .ok (.aload_n 0, 1) := by decide +kernel
theorem d_M_spanOf_226 : decode prog_12_method_22_code 226 = .ok (.getfield 52, 3) := by decide +kernel
theorem d_M_spanOf_229 : decode prog_12_method_22_code 229 = .ok (.iload_n 3, 1) := by decide +kernel
theorem d_M_spanOf_230 : decode prog_12_method_22_code 230 = .ok (.laload, 1) := by decide +kernel
theorem d_M_spanOf_231 : decode prog_12_method_22_code 231 = .ok (.aload_n 0, 1) := by decide +kernel
theorem d_M_spanOf_232 : decode prog_12_method_22_code 232 = .ok (.getfield 52, 3) := by decide +kernel
theorem d_M_spanOf_235 : decode prog_12_method_22_code 235 = .ok (.aload_n 0, 1) := by decide +kernel
theorem d_M_spanOf_236 : decode prog_12_method_22_code 236 = .ok (.getfield 183, 3) := by decide +kernel
theorem d_M_spanOf_239 : decode prog_12_method_22_code 239 = .ok (.laload, 1) := by decide +kernel
theorem d_M_spanOf_240 : decode prog_12_method_22_code 240 = .ok (.ladd, 1) := by decide +kernel
theorem d_M_spanOf_241 : decode prog_12_method_22_code 241 = .ok (.aload_n 0, 1) := by decide +kernel
theorem d_M_spanOf_242 : decode prog_12_method_22_code 242 = .ok (.getfield 55, 3) := by decide +kernel
theorem d_M_spanOf_245 : decode prog_12_method_22_code 245 = .ok (.iload_n 3, 1) := by decide +kernel
theorem d_M_spanOf_246 : decode prog_12_method_22_code 246 = .ok (.laload, 1) := by decide +kernel
theorem d_M_spanOf_247 : decode prog_12_method_22_code 247 = .ok (.aload_n 0, 1) := by decide +kernel
theorem d_M_spanOf_248 : decode prog_12_method_22_code 248 = .ok (.getfield 55, 3) := by decide +kernel
theorem d_M_spanOf_251 : decode prog_12_method_22_code 251 = .ok (.aload_n 0, 1) := by decide +kernel
theorem d_M_spanOf_252 : decode prog_12_method_22_code 252 = .ok (.getfield 183, 3) := by decide +kernel
theorem d_M_spanOf_255 : decode prog_12_method_22_code 255 = .ok (.laload, 1) := by decide +kernel
theorem d_M_spanOf_256 : decode prog_12_method_22_code 256 = .ok (.ladd, 1) := by decide +kernel
theorem d_M_spanOf_257 : decode prog_12_method_22_code 257 = .ok (.aload_n 0, 1) := by decide +kernel
theorem d_M_spanOf_258 : decode prog_12_method_22_code 258 = .ok (.getfield 58, 3) := by decide +kernel
theorem d_M_spanOf_261 : decode prog_12_method_22_code 261 = .ok (.iload_n 3, 1) := by decide +kernel
theorem d_M_spanOf_262 : decode prog_12_method_22_code 262 = .ok (.baload, 1) := by decide +kernel
theorem d_M_spanOf_263 : decode prog_12_method_22_code 263 = .ok (.ifCond .ne 15, 3) := by decide +kernel
theorem d_M_spanOf_266 : decode prog_12_method_22_code 266 = .ok (.aload_n 0, 1) := by decide +kernel
theorem d_M_spanOf_267 : decode prog_12_method_22_code 267 = .ok (.getfield 58, 3) := by decide +kernel
theorem d_M_spanOf_270 : decode prog_12_method_22_code 270 = .ok (.aload_n 0, 1) := by decide +kernel
theorem d_M_spanOf_271 : decode prog_12_method_22_code 271 = .ok (.getfield 183, 3) := by decide +kernel
theorem d_M_spanOf_274 : decode prog_12_method_22_code 274 = .ok (.baload, 1) := by decide +kernel
theorem d_M_spanOf_275 : decode prog_12_method_22_code 275 = .ok (.ifCond .eq 7, 3) := by decide +kernel
theorem d_M_spanOf_278 : decode prog_12_method_22_code 278 = .ok (.iconst 1, 1) := by decide +kernel
theorem d_M_spanOf_279 : decode prog_12_method_22_code 279 = .ok (.goto 4, 3) := by decide +kernel
theorem d_M_spanOf_282 : decode prog_12_method_22_code 282 = .ok (.iconst 0, 1) := by decide +kernel
theorem d_M_spanOf_283 : decode prog_12_method_22_code 283 = .ok (.aload_n 0, 1) := by decide +kernel
theorem d_M_spanOf_284 : decode prog_12_method_22_code 284 = .ok (.getfield 61, 3) := by decide +kernel
theorem d_M_spanOf_287 : decode prog_12_method_22_code 287 = .ok (.iload_n 3, 1) := by decide +kernel
theorem d_M_spanOf_288 : decode prog_12_method_22_code 288 = .ok (.baload, 1) := by decide +kernel
theorem d_M_spanOf_289 : decode prog_12_method_22_code 289 = .ok (.ifCond .ne 15, 3) := by decide +kernel
theorem d_M_spanOf_292 : decode prog_12_method_22_code 292 = .ok (.aload_n 0, 1) := by decide +kernel
theorem d_M_spanOf_293 : decode prog_12_method_22_code 293 = .ok (.getfield 61, 3) := by decide +kernel
theorem d_M_spanOf_296 : decode prog_12_method_22_code 296 = .ok (.aload_n 0, 1) := by decide +kernel
theorem d_M_spanOf_297 : decode prog_12_method_22_code 297 = .ok (.getfield 183, 3) := by decide +kernel
theorem d_M_spanOf_300 : decode prog_12_method_22_code 300 = .ok (.baload, 1) := by decide +kernel
theorem d_M_spanOf_301 : decode prog_12_method_22_code 301 = .ok (.ifCond .eq 7, 3) := by decide +kernel
theorem d_M_spanOf_304 : decode prog_12_method_22_code 304 = .ok (.iconst 1, 1) := by decide +kernel
theorem d_M_spanOf_305 : decode prog_12_method_22_code 305 = .ok (.goto 4, 3) := by decide +kernel
theorem d_M_spanOf_308 : decode prog_12_method_22_code 308 = .ok (.iconst 0, 1) := by decide +kernel
theorem d_M_spanOf_309 : decode prog_12_method_22_code 309 = .ok (.invokevirtual 169, 3) := by decide +kernel
theorem d_M_spanOf_312 : decode prog_12_method_22_code 312 = .ok (.goto 129, 3) := by decide +kernel
theorem d_M_spanOf_315 : decode prog_12_method_22_code 315 = .ok (.iload_n 2, 1) := by decide +kernel
theorem d_M_spanOf_316 : decode prog_12_method_22_code 316 = .ok (.iconst 3, 1) := by decide +kernel
theorem d_M_spanOf_317 : decode prog_12_method_22_code 317 = .ok (.if_icmp .ne 95, 3) := by decide +kernel
theorem d_M_spanOf_320 : decode prog_12_method_22_code 320 = .ok (.aload_n 0, 1) := by decide +kernel
theorem d_M_spanOf_321 : decode prog_12_method_22_code 321 = .ok (.iload_n 3, 1) := by decide +kernel
theorem d_M_spanOf_322 : decode prog_12_method_22_code 322 = .ok (.aload_n 0, 1) := by decide +kernel
theorem d_M_spanOf_323 : decode prog_12_method_22_code 323 = .ok (.getfield 52, 3) := by decide +kernel
theorem d_M_spanOf_326 : decode prog_12_method_22_code 326 = .ok (.iload_n 3, 1) := by decide +kernel
theorem d_M_spanOf_327 : decode prog_12_method_22_code 327 = .ok (.laload, 1) := by decide +kernel
theorem d_M_spanOf_328 : decode prog_12_method_22_code 328 = .ok (.aload_n 0, 1) := by decide +kernel
theorem d_M_spanOf_329 : decode prog_12_method_22_code 329 = .ok (.getfield 55, 3) := by decide +kernel
theorem d_M_spanOf_332 : decode prog_12_method_22_code 332 = .ok (.aload_n 0, 1) := by decide +kernel
theorem d_M_spanOf_333 : decode prog_12_method_22_code 333 = .ok (.getfield 183, 3) := by decide +kernel
theorem d_M_spanOf_336 : decode prog_12_method_22_code 336 = .ok (.laload, 1) := by decide +kernel
theorem d_M_spanOf_337 : decode prog_12_method_22_code 337 = .ok (.lsub, 1) := by decide +kernel
theorem d_M_spanOf_338 : decode prog_12_method_22_code 338 = .ok (.aload_n 0, 1) := by decide +kernel
theorem d_M_spanOf_339 : decode prog_12_method_22_code 339 = .ok (.getfield 55, 3) := by decide +kernel
theorem d_M_spanOf_342 : decode prog_12_method_22_code 342 = .ok (.iload_n 3, 1) := by decide +kernel
theorem d_M_spanOf_343 : decode prog_12_method_22_code 343 = .ok (.laload, 1) := by decide +kernel
theorem d_M_spanOf_344 : decode prog_12_method_22_code 344 = .ok (.aload_n 0, 1) := by decide +kernel
theorem d_M_spanOf_345 : decode prog_12_method_22_code 345 = .ok (.getfield 52, 3) := by decide +kernel
theorem d_M_spanOf_348 : decode prog_12_method_22_code 348 = .ok (.aload_n 0, 1) := by decide +kernel
theorem d_M_spanOf_349 : decode prog_12_method_22_code 349 = .ok (.getfield 183, 3) := by decide +kernel
theorem d_M_spanOf_352 : decode prog_12_method_22_code 352 = .ok (.laload, 1) := by decide +kernel
theorem d_M_spanOf_353 : decode prog_12_method_22_code 353 = .ok (.lsub, 1) := by decide +kernel
theorem d_M_spanOf_354 : decode prog_12_method_22_code 354 = .ok (.aload_n 0, 1) := by decide +kernel
theorem d_M_spanOf_355 : decode prog_12_method_22_code 355 = .ok (.getfield 58, 3) := by decide +kernel
theorem d_M_spanOf_358 : decode prog_12_method_22_code 358 = .ok (.iload_n 3, 1) := by decide +kernel
theorem d_M_spanOf_359 : decode prog_12_method_22_code 359 = .ok (.baload, 1) := by decide +kernel
theorem d_M_spanOf_360 : decode prog_12_method_22_code 360 = .ok (.ifCond .ne 15, 3) := by decide +kernel
theorem d_M_spanOf_363 : decode prog_12_method_22_code 363 = .ok (.aload_n 0, 1) := by decide +kernel
theorem d_M_spanOf_364 : decode prog_12_method_22_code 364 = .ok (.getfield 61, 3) := by decide +kernel
theorem d_M_spanOf_367 : decode prog_12_method_22_code 367 = .ok (.aload_n 0, 1) := by decide +kernel
theorem d_M_spanOf_368 : decode prog_12_method_22_code 368 = .ok (.getfield 183, 3) := by decide +kernel
theorem d_M_spanOf_371 : decode prog_12_method_22_code 371 = .ok (.baload, 1) := by decide +kernel
theorem d_M_spanOf_372 : decode prog_12_method_22_code 372 = .ok (.ifCond .eq 7, 3) := by decide +kernel
theorem d_M_spanOf_375 : decode prog_12_method_22_code 375 = .ok (.iconst 1, 1) := by decide +kernel
theorem d_M_spanOf_376 : decode prog_12_method_22_code 376 = .ok (.goto 4, 3) := by decide +kernel
theorem d_M_spanOf_379 : decode prog_12_method_22_code 379 = .ok (.iconst 0, 1) := by decide +kernel
theorem d_M_spanOf_380 : decode prog_12_method_22_code 380 = .ok (.aload_n 0, 1) := by decide +kernel
theorem d_M_spanOf_381 : decode prog_12_method_22_code 381 = .ok (.getfield 61, 3) := by decide +kernel
theorem d_M_spanOf_384 : decode prog_12_method_22_code 384 = .ok (.iload_n 3, 1) := by decide +kernel
theorem d_M_spanOf_385 : decode prog_12_method_22_code 385 = .ok (.baload, 1) := by decide +kernel
theorem d_M_spanOf_386 : decode prog_12_method_22_code 386 = .ok (.ifCond .ne 15, 3) := by decide +kernel
theorem d_M_spanOf_389 : decode prog_12_method_22_code 389 = .ok (.aload_n 0, 1) := by decide +kernel
theorem d_M_spanOf_390 : decode prog_12_method_22_code 390 = .ok (.getfield 58, 3) := by decide +kernel
theorem d_M_spanOf_393 : decode prog_12_method_22_code 393 = .ok (.aload_n 0, 1) := by decide +kernel
theorem d_M_spanOf_394 : decode prog_12_method_22_code 394 = .ok (.getfield 183, 3) := by decide +kernel
theorem d_M_spanOf_397 : decode prog_12_method_22_code 397 = .ok (.baload, 1) := by decide +kernel
theorem d_M_spanOf_398 : decode prog_12_method_22_code 398 = .ok (.ifCond .eq 7, 3) := by decide +kernel
theorem d_M_spanOf_401 : decode prog_12_method_22_code 401 = .ok (.iconst 1, 1) := by decide +kernel
theorem d_M_spanOf_402 : decode prog_12_method_22_code 402 = .ok (.goto 4, 3) := by decide +kernel
theorem d_M_spanOf_405 : decode prog_12_method_22_code 405 = .ok (.iconst 0, 1) := by decide +kernel
theorem d_M_spanOf_406 : decode prog_12_method_22_code 406 = .ok (.invokevirtual 169, 3) := by decide +kernel
theorem d_M_spanOf_409 : decode prog_12_method_22_code 409 = .ok (.goto 32, 3) := by decide +kernel
theorem d_M_spanOf_412 : decode prog_12_method_22_code 412 = .ok (.iload_n 2, 1) := by decide +kernel
theorem d_M_spanOf_413 : decode prog_12_method_22_code 413 = .ok (.iconst 4, 1) := by decide +kernel
theorem d_M_spanOf_414 : decode prog_12_method_22_code 414 = .ok (.if_icmp .ne 11, 3) := by decide +kernel
theorem d_M_spanOf_417 : decode prog_12_method_22_code 417 = .ok (.aload_n 0, 1) := by decide +kernel
theorem d_M_spanOf_418 : decode prog_12_method_22_code 418 = .ok (.iload_n 3, 1) := by decide +kernel
theorem d_M_spanOf_419 : decode prog_12_method_22_code 419 = .ok (.invokevirtual 186, 3) := by decide +kernel
theorem d_M_spanOf_422 : decode prog_12_method_22_code 422 = .ok (.goto 19, 3) := by decide +kernel
theorem d_M_spanOf_425 : decode prog_12_method_22_code 425 = .ok (.aload_n 0, 1) := by decide +kernel
theorem d_M_spanOf_426 : decode prog_12_method_22_code 426 = .ok (.iload_n 3, 1) := by decide +kernel
theorem d_M_spanOf_427 : decode prog_12_method_22_code 427 = .ok (.iload_n 2, 1) := by decide +kernel
theorem d_M_spanOf_428 : decode prog_12_method_22_code 428 = .ok (.bipush 6, 2) := by decide +kernel
theorem d_M_spanOf_430 : decode prog_12_method_22_code 430 = .ok (.if_icmp .ne 7, 3) := by decide +kernel
theorem d_M_spanOf_433 : decode prog_12_method_22_code 433 = .ok (.iconst 1, 1) := by decide +kernel
theorem d_M_spanOf_434 : decode prog_12_method_22_code 434 = .ok (.goto 4, 3) := by decide +kernel
theorem d_M_spanOf_437 : decode prog_12_method_22_code 437 = .ok (.iconst 0, 1) := by decide +kernel
theorem d_M_spanOf_438 : decode prog_12_method_22_code 438 = .ok (.invokevirtual 189, 3) := by decide +kernel
theorem d_M_spanOf_441 : decode prog_12_method_22_code 441 = .ok (.aload_n 0, 1) := by decide +kernel
theorem d_M_spanOf_442 : decode prog_12_method_22_code 442 = .ok (.getfield 64, 3) := by decide +kernel
theorem d_M_spanOf_445 : decode prog_12_method_22_code 445 = .ok (.iload_n 3, 1) := by decide +kernel
theorem d_M_spanOf_446 : decode prog_12_method_22_code 446 = .ok (.aload_n 0, 1) := by decide +kernel
theorem d_M_spanOf_447 : decode prog_12_method_22_code 447 = .ok (.getfield 64, 3) := by decide +kernel
theorem d_M_spanOf_450 : decode prog_12_method_22_code 450 = .ok (.iload_n 3, 1) := by decide +kernel
theorem d_M_spanOf_451 : decode prog_12_method_22_code 451 = .ok (.baload, 1) := by decide +kernel
theorem d_M_spanOf_452 : decode prog_12_method_22_code 452 = .ok (.ifCond .eq 37, 3) := by decide +kernel
theorem d_M_spanOf_455 : decode prog_12_method_22_code 455 = .ok (.aload_n 0, 1) := by decide +kernel
theorem d_M_spanOf_456 : decode prog_12_method_22_code 456 = .ok (.getfield 64, 3) := by decide +kernel
theorem d_M_spanOf_459 : decode prog_12_method_22_code 459 = .ok (.aload_n 0, 1) := by decide +kernel
theorem d_M_spanOf_460 : decode prog_12_method_22_code 460 = .ok (.getfield 183, 3) := by decide +kernel
theorem d_M_spanOf_463 : decode prog_12_method_22_code 463 = .ok (.baload, 1) := by decide +kernel
theorem d_M_spanOf_464 : decode prog_12_method_22_code 464 = .ok (.ifCond .eq 25, 3) := by decide +kernel
theorem d_M_spanOf_467 : decode prog_12_method_22_code 467 = .ok (.aload_n 0, 1) := by decide +kernel
theorem d_M_spanOf_468 : decode prog_12_method_22_code 468 = .ok (.getfield 58, 3) := by decide +kernel
theorem d_M_spanOf_471 : decode prog_12_method_22_code 471 = .ok (.iload_n 3, 1) := by decide +kernel
theorem d_M_spanOf_472 : decode prog_12_method_22_code 472 = .ok (.baload, 1) := by decide +kernel
theorem d_M_spanOf_473 : decode prog_12_method_22_code 473 = .ok (.ifCond .ne 16, 3) := by decide +kernel
theorem d_M_spanOf_476 : decode prog_12_method_22_code 476 = .ok (.aload_n 0, 1) := by decide +kernel
theorem d_M_spanOf_477 : decode prog_12_method_22_code 477 = .ok (.getfield 61, 3) := by decide +kernel
theorem d_M_spanOf_480 : decode prog_12_method_22_code 480 = .ok (.iload_n 3, 1) := by decide +kernel
theorem d_M_spanOf_481 : decode prog_12_method_22_code 481 = .ok (.baload, 1) := by decide +kernel
theorem d_M_spanOf_482 : decode prog_12_method_22_code 482 = .ok (.ifCond .ne 7, 3) := by decide +kernel
theorem d_M_spanOf_485 : decode prog_12_method_22_code 485 = .ok (.iconst 1, 1) := by decide +kernel
theorem d_M_spanOf_486 : decode prog_12_method_22_code 486 = .ok (.goto 4, 3) := by decide +kernel
theorem d_M_spanOf_489 : decode prog_12_method_22_code 489 = .ok (.iconst 0, 1) := by decide +kernel
theorem d_M_spanOf_490 : decode prog_12_method_22_code 490 = .ok (.bastore, 1) := by decide +kernel
theorem d_M_spanOf_491 : decode prog_12_method_22_code 491 = .ok (.aload_n 0, 1) := by decide +kernel
theorem d_M_spanOf_492 : decode prog_12_method_22_code 492 = .ok (.getfield 26, 3) := by decide +kernel
theorem d_M_spanOf_495 : decode prog_12_method_22_code 495 = .ok (.iload_n 1, 1) := by decide +kernel
theorem d_M_spanOf_496 : decode prog_12_method_22_code 496 = .ok (.aload_n 0, 1) := by decide +kernel
theorem d_M_spanOf_497 : decode prog_12_method_22_code 497 = .ok (.getfield 64, 3) := by decide +kernel
theorem d_M_spanOf_500 : decode prog_12_method_22_code 500 = .ok (.iload_n 3, 1) := by decide +kernel
theorem d_M_spanOf_501 : decode prog_12_method_22_code 501 = .ok (.baload, 1) := by decide +kernel
theorem d_M_spanOf_502 : decode prog_12_method_22_code 502 = .ok (.bastore, 1) := by decide +kernel
theorem d_M_spanOf_503 : decode prog_12_method_22_code 503 = .ok (.return_, 1) := by decide +kernel

