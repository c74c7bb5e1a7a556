theorem wd_146 {U : State} (h : TB U) (args : Array Value) : (Cond.fieldLink "BigRunner$Reader" 127 "BigRunner$Statement" "kind" "I").before args U = true := h.w 146 (by decide +kernel) rfl args
theorem wd_150 {U : State} (h : TB U) (args : Array Value) : (Cond.fieldLink "BigRunner$Reader" 82 "BigRunner$Statement" "name" "I").before args U = true := h.w 150 (by decide +kernel) rfl args
theorem wd_161 {U : State} (h : TB U) (args : Array Value) : (Cond.fieldLink "BigRunner$Reader" 128 "BigRunner$Statement" "target" "I").before args U = true := h.w 161 (by decide +kernel) rfl args
theorem wd_244 {U : State} (h : TB U) (args : Array Value) : (Cond.fieldLink "BigRunner$Reader" 78 "BigRunner$Program" "statements" "[LBigRunner$Statement;").before args U = true := h.w 244 (by decide +kernel) rfl args
theorem wd_246 {U : State} (h : TB U) (args : Array Value) : (Cond.fieldLink "BigRunner$Reader" 35 "BigRunner$Program" "statementCount" "I").before args U = true := h.w 246 (by decide +kernel) rfl args
theorem d_NReader_addStatement_0 : decode prog_8_method_16_code 0 = .ok (.aload_n 0, 1) := by decide +kernel
theorem d_NReader_addStatement_1 : decode prog_8_method_16_code 1 = .ok (.getfield 25, 3) := by decide +kernel
theorem d_NReader_addStatement_4 : decode prog_8_method_16_code 4 = .ok (.getfield 35, 3) := by decide +kernel
theorem d_NReader_addStatement_7 : decode prog_8_method_16_code 7 = .ok (.aload_n 0, 1) := by decide +kernel
theorem d_NReader_addStatement_8 : decode prog_8_method_16_code 8 = .ok (.getfield 25, 3) := by decide +kernel
theorem d_NReader_addStatement_11 : decode prog_8_method_16_code 11 = .ok (.getfield 78, 3) := by decide +kernel
theorem d_NReader_addStatement_14 : decode prog_8_method_16_code 14 = .ok (.arraylength, 1) := by decide +kernel
theorem d_NReader_addStatement_15 : decode prog_8_method_16_code 15 = .ok (.if_icmp .lt 5, 3) := by decide +kernel
theorem d_NReader_addStatement_18 : decode prog_8_method_16_code 18 = .ok (.iconst (-1), 1) := by decide +kernel
theorem d_NReader_addStatement_19 : decode prog_8_method_16_code 19 = .ok (.ireturn, 1) := by decide +kernel
theorem d_NReader_addStatement_20 : decode prog_8_method_16_code 20 = .ok (.aload_n 0, 1) := by decide +kernel
theorem d_NReader_addStatement_21 : decode prog_8_method_16_code 21 = .ok (.getfield 25, 3) := by decide +kernel
theorem d_NReader_addStatement_24 : decode prog_8_method_16_code 24 = .ok (.getfield 78, 3) := by decide +kernel
theorem d_NReader_addStatement_27 : decode prog_8_method_16_code 27 = .ok (.aload_n 0, 1) := by decide +kernel
theorem d_NReader_addStatement_28 : decode prog_8_method_16_code 28 = .ok (.getfield 25, 3) := by decide +kernel
theorem d_NReader_addStatement_31 : decode prog_8_method_16_code 31 = .ok (.getfield 35, 3) := by decide +kernel
theorem d_NReader_addStatement_34 : decode prog_8_method_16_code 34 = .ok (.aaload, 1) := by decide +kernel
theorem d_NReader_addStatement_35 : decode prog_8_method_16_code 35 = .ok (.iload_n 1, 1) := by decide +kernel
theorem d_NReader_addStatement_36 : decode prog_8_method_16_code 36 = .ok (.putfield 127, 3) := by decide +kernel
theorem d_NReader_addStatement_39 : decode prog_8_method_16_code 39 = .ok (.aload_n 0, 1) := by decide +kernel
theorem d_NReader_addStatement_40 : decode prog_8_method_16_code 40 = .ok (.getfield 25, 3) := by decide +kernel
theorem d_NReader_addStatement_43 : decode prog_8_method_16_code 43 = .ok (.dup, 1) := by decide +kernel
theorem d_NReader_addStatement_44 : decode prog_8_method_16_code 44 = .ok (.getfield 35, 3) := by decide +kernel
theorem d_NReader_addStatement_47 : decode prog_8_method_16_code 47 = .ok (.iconst 1, 1) := by decide +kernel
theorem d_NReader_addStatement_48 : decode prog_8_method_16_code 48 = .ok (.iadd, 1) := by decide +kernel
theorem d_NReader_addStatement_49 : decode prog_8_method_16_code 49 = .ok (.putfield 35, 3) := by decide +kernel
theorem d_NReader_addStatement_52 : decode prog_8_method_16_code 52 = .ok (.aload_n 0, 1) := by decide +kernel
theorem d_NReader_addStatement_53 : decode prog_8_method_16_code 53 = .ok (.getfield 25, 3) := by decide +kernel
theorem d_NReader_addStatement_56 : decode prog_8_method_16_code 56 = .ok (.getfield 35, 3) := by decide +kernel
theorem d_NReader_addStatement_59 : decode prog_8_method_16_code 59 = .ok (.iconst 1, 1) := by decide +kernel
theorem d_NReader_addStatement_60 : decode prog_8_method_16_code 60 = .ok (.isub, 1) := by decide +kernel
theorem d_NReader_addStatement_61 : decode prog_8_method_16_code 61 = .ok (.ireturn, 1) := by decide +kernel
theorem d_NReader_aim_0 : decode prog_8_method_17_code 0 = .ok (.iload_n 1, 1) := by decide +kernel
theorem d_NReader_aim_1 : decode prog_8_method_17_code 1 = .ok (.iconst (-1), 1) := by decide +kernel
theorem d_NReader_aim_2 : decode prog_8_method_17_code 2 = .ok (.if_icmp .ne 5, 3) := by decide +kernel
theorem d_NReader_aim_7 : decode prog_8_method_17_code 7 = .ok (.aload_n 0, 1) := by decide +kernel
theorem d_NReader_aim_8 : decode prog_8_method_17_code 8 = .ok (.getfield 25, 3) := by decide +kernel
theorem d_NReader_aim_11 : decode prog_8_method_17_code 11 = .ok (.getfield 78, 3) := by decide +kernel
theorem d_NReader_aim_14 : decode prog_8_method_17_code 14 = .ok (.iload_n 1, 1) := by decide +kernel
theorem d_NReader_aim_15 : decode prog_8_method_17_code 15 = .ok (.aaload, 1) := by decide +kernel
theorem d_NReader_aim_16 : decode prog_8_method_17_code 16 = .ok (.iload_n 2, 1) := by decide +kernel
theorem d_NReader_aim_17 : decode prog_8_method_17_code 17 = .ok (.putfield 128, 3) := by decide +kernel
theorem d_NReader_aim_20 : decode prog_8_method_17_code 20 = .ok (.iconst 1, 1) := by decide +kernel
theorem d_NReader_aim_21 : decode prog_8_method_17_code 21 = .ok (.ireturn, 1) := by decide +kernel
theorem d_NReader_readName_0 : decode prog_8_method_9_code 0 = .ok (.aload_n 0, 1) := by decide +kernel
theorem d_NReader_readName_1 : decode prog_8_method_9_code 1 = .ok (.invokevirtual 45, 3) := by decide +kernel
theorem d_NReader_readName_4 : decode prog_8_method_9_code 4 = .ok (.istore_n 2, 1) := by decide +kernel
theorem d_NReader_readName_5 : decode prog_8_method_9_code 5 = .ok (.iload_n 1, 1) := by decide +kernel
theorem d_NReader_readName_6 : decode prog_8_method_9_code 6 = .ok (.iconst (-1), 1) := by decide +kernel
theorem d_NReader_readName_7 : decode prog_8_method_9_code 7 = .ok (.if_icmp .eq 15, 3) := by decide +kernel
theorem d_NReader_readName_10 : decode prog_8_method_9_code 10 = .ok (.iload_n 2, 1) := by decide +kernel
theorem d_NReader_readName_11 : decode prog_8_method_9_code 11 = .ok (.bipush 97, 2) := by decide +kernel
theorem d_NReader_readName_13 : decode prog_8_method_9_code 13 = .ok (.if_icmp .lt 9, 3) := by decide +kernel
theorem d_NReader_readName_16 : decode prog_8_method_9_code 16 = .ok (.iload_n 2, 1) := by decide +kernel
theorem d_NReader_readName_17 : decode prog_8_method_9_code 17 = .ok (.bipush 107, 2) := by decide +kernel
theorem d_NReader_readName_19 : decode prog_8_method_9_code 19 = .ok (.if_icmp .lt 5, 3) := by decide +kernel
theorem d_NReader_readName_22 : decode prog_8_method_9_code 22 = .ok (.iconst 0, 1) := by decide +kernel
theorem d_NReader_readName_23 : decode prog_8_method_9_code 23 = .ok (.ireturn, 1) := by decide +kernel
theorem d_NReader_readName_24 : decode prog_8_method_9_code 24 = .ok (.aload_n 0, 1) := by decide +kernel
theorem d_NReader_readName_25 : decode prog_8_method_9_code 25 = .ok (.dup, 1) := by decide +kernel
theorem d_NReader_readName_26 : decode prog_8_method_9_code 26 = .ok (.getfield 19, 3) := by decide +kernel
theorem d_NReader_readName_29 : decode prog_8_method_9_code 29 = .ok (.iconst 1, 1) := by decide +kernel
theorem d_NReader_readName_30 : decode prog_8_method_9_code 30 = .ok (.iadd, 1) := by decide +kernel
theorem d_NReader_readName_31 : decode prog_8_method_9_code 31 = .ok (.putfield 19, 3) := by decide +kernel
theorem d_NReader_readName_34 : decode prog_8_method_9_code 34 = .ok (.aload_n 0, 1) := by decide +kernel
theorem d_NReader_readName_35 : decode prog_8_method_9_code 35 = .ok (.getfield 25, 3) := by decide +kernel
theorem d_NReader_readName_38 : decode prog_8_method_9_code 38 = .ok (.getfield 78, 3) := by decide +kernel
theorem d_NReader_readName_41 : decode prog_8_method_9_code 41 = .ok (.iload_n 1, 1) := by decide +kernel
theorem d_NReader_readName_42 : decode prog_8_method_9_code 42 = .ok (.aaload, 1) := by decide +kernel
theorem d_NReader_readName_43 : decode prog_8_method_9_code 43 = .ok (.iload_n 2, 1) := by decide +kernel
theorem d_NReader_readName_44 : decode prog_8_method_9_code 44 = .ok (.bipush 97, 2) := by decide +kernel
theorem d_NReader_readName_46 : decode prog_8_method_9_code 46 = .ok (.isub, 1) := by decide +kernel
theorem d_NReader_readName_47 : decode prog_8_method_9_code 47 = .ok (.putfield 82, 3) := by decide +kernel
theorem d_NReader_readName_50 : decode prog_8_method_9_code 50 = .ok (.iconst 1, 1) := by decide +kernel
theorem d_NReader_readName_51 : decode prog_8_method_9_code 51 = .ok (.ireturn, 1) := by decide +kernel

