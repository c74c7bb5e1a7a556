theorem wd_4 {U : State} (h : TB U) (args : Array Value) : (Cond.selects "BigRunner$Reader" ⟨"BigRunner$Reader", "accept", "(C)Z"⟩ ⟨"BigRunner$Reader", "accept", "(C)Z"⟩).before args U = true := h.w 4 (by decide +kernel) rfl args
theorem wd_9 {U : State} (h : TB U) (args : Array Value) : (Cond.selects "BigRunner$Reader" ⟨"BigRunner$Reader", "readExpr", "(I)I"⟩ ⟨"BigRunner$Reader", "readExpr", "(I)I"⟩).before args U = true := h.w 9 (by decide +kernel) rfl args
theorem wd_10 {U : State} (h : TB U) (args : Array Value) : (Cond.selects "BigRunner$Reader" ⟨"BigRunner$Reader", "readTerm", "(I)I"⟩ ⟨"BigRunner$Reader", "readTerm", "(I)I"⟩).before args U = true := h.w 10 (by decide +kernel) rfl args
theorem wd_11 {U : State} (h : TB U) (args : Array Value) : (Cond.selects "BigRunner$Reader" ⟨"BigRunner$Reader", "readFactor", "(I)I"⟩ ⟨"BigRunner$Reader", "readFactor", "(I)I"⟩).before args U = true := h.w 11 (by decide +kernel) rfl args
theorem wd_13 {U : State} (h : TB U) (args : Array Value) : (Cond.selects "BigRunner$Reader" ⟨"BigRunner$Reader", "readNumber", "()I"⟩ ⟨"BigRunner$Reader", "readNumber", "()I"⟩).before args U = true := h.w 13 (by decide +kernel) rfl args
theorem wd_469 {U : State} (h : TB U) (args : Array Value) : (Cond.methodLink "BigRunner$Reader" 52 ⟨"BigRunner$Reader", "accept", "(C)Z"⟩).before args U = true := h.w 469 (by decide +kernel) rfl args
theorem wd_471 {U : State} (h : TB U) (args : Array Value) : (Cond.instanceMethod ⟨"BigRunner$Reader", "accept", "(C)Z"⟩).before args U = true := h.w 471 (by decide +kernel) rfl args
theorem wd_472 {U : State} (h : TB U) (args : Array Value) : (Cond.code ⟨"BigRunner$Reader", "accept", "(C)Z"⟩ prog_8_method_4_code 2 (some .boolean)).before args U = true := h.w 472 (by decide +kernel) rfl args
theorem wd_489 {U : State} (h : TB U) (args : Array Value) : (Cond.methodLink "BigRunner$Reader" 85 ⟨"BigRunner$Reader", "readExpr", "(I)I"⟩).before args U = true := h.w 489 (by decide +kernel) rfl args
theorem wd_491 {U : State} (h : TB U) (args : Array Value) : (Cond.instanceMethod ⟨"BigRunner$Reader", "readExpr", "(I)I"⟩).before args U = true := h.w 491 (by decide +kernel) rfl args
theorem wd_492 {U : State} (h : TB U) (args : Array Value) : (Cond.code ⟨"BigRunner$Reader", "readExpr", "(I)I"⟩ prog_8_method_11_code 4 (some .int)).before args U = true := h.w 492 (by decide +kernel) rfl args
theorem wd_493 {U : State} (h : TB U) (args : Array Value) : (Cond.methodLink "BigRunner$Reader" 94 ⟨"BigRunner$Reader", "readTerm", "(I)I"⟩).before args U = true := h.w 493 (by decide +kernel) rfl args
theorem wd_495 {U : State} (h : TB U) (args : Array Value) : (Cond.instanceMethod ⟨"BigRunner$Reader", "readTerm", "(I)I"⟩).before args U = true := h.w 495 (by decide +kernel) rfl args
theorem wd_496 {U : State} (h : TB U) (args : Array Value) : (Cond.code ⟨"BigRunner$Reader", "readTerm", "(I)I"⟩ prog_8_method_12_code 4 (some .int)).before args U = true := h.w 496 (by decide +kernel) rfl args
theorem wd_497 {U : State} (h : TB U) (args : Array Value) : (Cond.methodLink "BigRunner$Reader" 103 ⟨"BigRunner$Reader", "readFactor", "(I)I"⟩).before args U = true := h.w 497 (by decide +kernel) rfl args
theorem wd_499 {U : State} (h : TB U) (args : Array Value) : (Cond.instanceMethod ⟨"BigRunner$Reader", "readFactor", "(I)I"⟩).before args U = true := h.w 499 (by decide +kernel) rfl args
theorem wd_500 {U : State} (h : TB U) (args : Array Value) : (Cond.code ⟨"BigRunner$Reader", "readFactor", "(I)I"⟩ prog_8_method_13_code 3 (some .int)).before args U = true := h.w 500 (by decide +kernel) rfl args
theorem wd_505 {U : State} (h : TB U) (args : Array Value) : (Cond.methodLink "BigRunner$Reader" 106 ⟨"BigRunner$Reader", "readNumber", "()I"⟩).before args U = true := h.w 505 (by decide +kernel) rfl args
theorem wd_507 {U : State} (h : TB U) (args : Array Value) : (Cond.instanceMethod ⟨"BigRunner$Reader", "readNumber", "()I"⟩).before args U = true := h.w 507 (by decide +kernel) rfl args
theorem wd_508 {U : State} (h : TB U) (args : Array Value) : (Cond.code ⟨"BigRunner$Reader", "readNumber", "()I"⟩ prog_8_method_14_code 4 (some .int)).before args U = true := h.w 508 (by decide +kernel) rfl args
theorem d_NReader_readExpr_0 : decode prog_8_method_11_code 0 = .ok (.aload_n 0, 1) := by decide +kernel
theorem d_NReader_readExpr_1 : decode prog_8_method_11_code 1 = .ok (.iload_n 1, 1) := by decide +kernel
theorem d_NReader_readExpr_2 : decode prog_8_method_11_code 2 = .ok (.invokevirtual 94, 3) := by decide +kernel
theorem d_NReader_readExpr_5 : decode prog_8_method_11_code 5 = .ok (.istore_n 2, 1) := by decide +kernel
theorem d_NReader_readExpr_6 : decode prog_8_method_11_code 6 = .ok (.iconst 0, 1) := by decide +kernel
theorem d_NReader_readExpr_7 : decode prog_8_method_11_code 7 = .ok (.istore_n 3, 1) := by decide +kernel
theorem d_NReader_readExpr_8 : decode prog_8_method_11_code 8 = .ok (.iload_n 3, 1) := by decide +kernel
theorem d_NReader_readExpr_9 : decode prog_8_method_11_code 9 = .ok (.bipush 72, 2) := by decide +kernel
theorem d_NReader_readExpr_11 : decode prog_8_method_11_code 11 = .ok (.if_icmp .ge 64, 3) := by decide +kernel
theorem d_NReader_readExpr_14 : decode prog_8_method_11_code 14 = .ok (.iload_n 2, 1) := by decide +kernel
theorem d_NReader_readExpr_15 : decode prog_8_method_11_code 15 = .ok (.iconst (-1), 1) := by decide +kernel
theorem d_NReader_readExpr_16 : decode prog_8_method_11_code 16 = .ok (.if_icmp .eq 59, 3) := by decide +kernel
theorem d_NReader_readExpr_19 : decode prog_8_method_11_code 19 = .ok (.aload_n 0, 1) := by decide +kernel
theorem d_NReader_readExpr_20 : decode prog_8_method_11_code 20 = .ok (.bipush 43, 2) := by decide +kernel
theorem d_NReader_readExpr_22 : decode prog_8_method_11_code 22 = .ok (.invokevirtual 52, 3) := by decide +kernel
theorem d_NReader_readExpr_25 : decode prog_8_method_11_code 25 = .ok (.ifCond .eq 18, 3) := by decide +kernel
theorem d_NReader_readExpr_28 : decode prog_8_method_11_code 28 = .ok (.aload_n 0, 1) := by decide +kernel
theorem d_NReader_readExpr_29 : decode prog_8_method_11_code 29 = .ok (.iconst 3, 1) := by decide +kernel
theorem d_NReader_readExpr_30 : decode prog_8_method_11_code 30 = .ok (.iload_n 2, 1) := by decide +kernel
theorem d_NReader_readExpr_31 : decode prog_8_method_11_code 31 = .ok (.aload_n 0, 1) := by decide +kernel
theorem d_NReader_readExpr_32 : decode prog_8_method_11_code 32 = .ok (.iload_n 1, 1) := by decide +kernel
theorem d_NReader_readExpr_33 : decode prog_8_method_11_code 33 = .ok (.invokevirtual 94, 3) := by decide +kernel
theorem d_NReader_readExpr_36 : decode prog_8_method_11_code 36 = .ok (.invokevirtual 99, 3) := by decide +kernel
theorem d_NReader_readExpr_39 : decode prog_8_method_11_code 39 = .ok (.istore_n 2, 1) := by decide +kernel
theorem d_NReader_readExpr_40 : decode prog_8_method_11_code 40 = .ok (.goto 29, 3) := by decide +kernel
theorem d_NReader_readExpr_43 : decode prog_8_method_11_code 43 = .ok (.aload_n 0, 1) := by decide +kernel
theorem d_NReader_readExpr_44 : decode prog_8_method_11_code 44 = .ok (.bipush 45, 2) := by decide +kernel
theorem d_NReader_readExpr_46 : decode prog_8_method_11_code 46 = .ok (.invokevirtual 52, 3) := by decide +kernel
theorem d_NReader_readExpr_49 : decode prog_8_method_11_code 49 = .ok (.ifCond .eq 18, 3) := by decide +kernel
theorem d_NReader_readExpr_52 : decode prog_8_method_11_code 52 = .ok (.aload_n 0, 1) := by decide +kernel
theorem d_NReader_readExpr_53 : decode prog_8_method_11_code 53 = .ok (.iconst 4, 1) := by decide +kernel
theorem d_NReader_readExpr_54 : decode prog_8_method_11_code 54 = .ok (.iload_n 2, 1) := by decide +kernel
theorem d_NReader_readExpr_55 : decode prog_8_method_11_code 55 = .ok (.aload_n 0, 1) := by decide +kernel
theorem d_NReader_readExpr_56 : decode prog_8_method_11_code 56 = .ok (.iload_n 1, 1) := by decide +kernel
theorem d_NReader_readExpr_57 : decode prog_8_method_11_code 57 = .ok (.invokevirtual 94, 3) := by decide +kernel
theorem d_NReader_readExpr_60 : decode prog_8_method_11_code 60 = .ok (.invokevirtual 99, 3) := by decide +kernel
theorem d_NReader_readExpr_63 : decode prog_8_method_11_code 63 = .ok (.istore_n 2, 1) := by decide +kernel
theorem d_NReader_readExpr_64 : decode prog_8_method_11_code 64 = .ok (.goto 5, 3) := by decide +kernel
theorem d_NReader_readExpr_67 : decode prog_8_method_11_code 67 = .ok (.iload_n 2, 1) := by decide +kernel
theorem d_NReader_readExpr_68 : decode prog_8_method_11_code 68 = .ok (.ireturn, 1) := by decide +kernel
theorem d_NReader_readExpr_69 : decode prog_8_method_11_code 69 = .ok (.iinc 3 1, 3) := by decide +kernel
theorem d_NReader_readExpr_72 : decode prog_8_method_11_code 72 = .ok (.goto (-64), 3) := by decide +kernel
theorem d_NReader_readExpr_75 : decode prog_8_method_11_code 75 = .ok (.iload_n 2, 1) := by decide +kernel
theorem d_NReader_readExpr_76 : decode prog_8_method_11_code 76 = .ok (.ireturn, 1) := by decide +kernel
theorem d_NReader_readFactor_0 : decode prog_8_method_13_code 0 = .ok (.iload_n 1, 1) := by decide +kernel
theorem d_NReader_readFactor_1 : decode prog_8_method_13_code 1 = .ok (.bipush 10, 2) := by decide +kernel
theorem d_NReader_readFactor_3 : decode prog_8_method_13_code 3 = .ok (.if_icmp .le 5, 3) := by decide +kernel
theorem d_NReader_readFactor_6 : decode prog_8_method_13_code 6 = .ok (.iconst (-1), 1) := by decide +kernel
theorem d_NReader_readFactor_7 : decode prog_8_method_13_code 7 = .ok (.ireturn, 1) := by decide +kernel
theorem d_NReader_readFactor_8 : decode prog_8_method_13_code 8 = .ok (.aload_n 0, 1) := by decide +kernel
theorem d_NReader_readFactor_9 : decode prog_8_method_13_code 9 = .ok (.bipush 45, 2) := by decide +kernel
theorem d_NReader_readFactor_11 : decode prog_8_method_13_code 11 = .ok (.invokevirtual 52, 3) := by decide +kernel
theorem d_NReader_readFactor_14 : decode prog_8_method_13_code 14 = .ok (.ifCond .eq 19, 3) := by decide +kernel
theorem d_NReader_readFactor_17 : decode prog_8_method_13_code 17 = .ok (.aload_n 0, 1) := by decide +kernel
theorem d_NReader_readFactor_18 : decode prog_8_method_13_code 18 = .ok (.iload_n 1, 1) := by decide +kernel
theorem d_NReader_readFactor_19 : decode prog_8_method_13_code 19 = .ok (.iconst 1, 1) := by decide +kernel
theorem d_NReader_readFactor_20 : decode prog_8_method_13_code 20 = .ok (.iadd, 1) := by decide +kernel
theorem d_NReader_readFactor_21 : decode prog_8_method_13_code 21 = .ok (.invokevirtual 103, 3) := by decide +kernel
theorem d_NReader_readFactor_24 : decode prog_8_method_13_code 24 = .ok (.istore_n 2, 1) := by decide +kernel
theorem d_NReader_readFactor_25 : decode prog_8_method_13_code 25 = .ok (.aload_n 0, 1) := by decide +kernel
theorem d_NReader_readFactor_26 : decode prog_8_method_13_code 26 = .ok (.iconst 2, 1) := by decide +kernel
theorem d_NReader_readFactor_27 : decode prog_8_method_13_code 27 = .ok (.iload_n 2, 1) := by decide +kernel
theorem d_NReader_readFactor_28 : decode prog_8_method_13_code 28 = .ok (.iload_n 2, 1) := by decide +kernel
theorem d_NReader_readFactor_29 : decode prog_8_method_13_code 29 = .ok (.invokevirtual 99, 3) := by decide +kernel
theorem d_NReader_readFactor_32 : decode prog_8_method_13_code 32 = .ok (.ireturn, 1) := by decide +kernel
theorem d_NReader_readFactor_33 : decode prog_8_method_13_code 33 = .ok (.aload_n 0, 1) := by decide +kernel
theorem d_NReader_readFactor_34 : decode prog_8_method_13_code 34 = .ok (.bipush 40, 2) := by decide +kernel
theorem d_NReader_readFactor_36 : decode prog_8_method_13_code 36 = .ok (.invokevirtual 52, 3) := by decide +kernel
theorem d_NReader_readFactor_39 : decode prog_8_method_13_code 39 = .ok (.ifCond .eq 26, 3) := by decide +kernel
theorem d_NReader_readFactor_42 : decode prog_8_method_13_code 42 = .ok (.aload_n 0, 1) := by decide +kernel
theorem d_NReader_readFactor_43 : decode prog_8_method_13_code 43 = .ok (.iload_n 1, 1) := by decide +kernel
theorem d_NReader_readFactor_44 : decode prog_8_method_13_code 44 = .ok (.iconst 1, 1) := by decide +kernel
theorem d_NReader_readFactor_45 : decode prog_8_method_13_code 45 = .ok (.iadd, 1) := by decide +kernel
theorem d_NReader_readFactor_46 : decode prog_8_method_13_code 46 = .ok (.invokevirtual 85, 3) := by decide +kernel
theorem d_NReader_readFactor_49 : decode prog_8_method_13_code 49 = .ok (.istore_n 2, 1) := by decide +kernel
theorem d_NReader_readFactor_50 : decode prog_8_method_13_code 50 = .ok (.aload_n 0, 1) := by decide +kernel
theorem d_NReader_readFactor_51 : decode prog_8_method_13_code 51 = .ok (.bipush 41, 2) := by decide +kernel
theorem d_NReader_readFactor_53 : decode prog_8_method_13_code 53 = .ok (.invokevirtual 52, 3) := by decide +kernel
theorem d_NReader_readFactor_56 : decode prog_8_method_13_code 56 = .ok (.ifCond .eq 7, 3) := by decide +kernel
theorem d_NReader_readFactor_59 : decode prog_8_method_13_code 59 = .ok (.iload_n 2, 1) := by decide +kernel
theorem d_NReader_readFactor_60 : decode prog_8_method_13_code 60 = .ok (.goto 4, 3) := by decide +kernel
theorem d_NReader_readFactor_63 : decode prog_8_method_13_code 63 = .ok (.iconst (-1), 1) := by decide +kernel
theorem d_NReader_readFactor_64 : decode prog_8_method_13_code 64 = .ok (.ireturn, 1) := by decide +kernel
theorem d_NReader_readFactor_65 : decode prog_8_method_13_code 65 = .ok (.aload_n 0, 1) := by decide +kernel
theorem d_NReader_readFactor_66 : decode prog_8_method_13_code 66 = .ok (.invokevirtual 45, 3) := by decide +kernel
theorem d_NReader_readFactor_69 : decode prog_8_method_13_code 69 = .ok (.istore_n 2, 1) := by decide +kernel
theorem d_NReader_readFactor_70 : decode prog_8_method_13_code 70 = .ok (.iload_n 2, 1) := by decide +kernel
theorem d_NReader_readFactor_71 : decode prog_8_method_13_code 71 = .ok (.bipush 97, 2) := by decide +kernel
theorem d_NReader_readFactor_73 : decode prog_8_method_13_code 73 = .ok (.if_icmp .lt 30, 3) := by decide +kernel
theorem d_NReader_readFactor_76 : decode prog_8_method_13_code 76 = .ok (.iload_n 2, 1) := by decide +kernel
theorem d_NReader_readFactor_77 : decode prog_8_method_13_code 77 = .ok (.bipush 107, 2) := by decide +kernel
theorem d_NReader_readFactor_79 : decode prog_8_method_13_code 79 = .ok (.if_icmp .ge 24, 3) := by decide +kernel
theorem d_NReader_readFactor_82 : decode prog_8_method_13_code 82 = .ok (.aload_n 0, 1) := by decide +kernel
theorem d_NReader_readFactor_83 : decode prog_8_method_13_code 83 = .ok (.dup, 1) := by decide +kernel
theorem d_NReader_readFactor_84 : decode prog_8_method_13_code 84 = .ok (.getfield 19, 3) := by decide +kernel
theorem d_NReader_readFactor_87 : decode prog_8_method_13_code 87 = .ok (.iconst 1, 1) := by decide +kernel
theorem d_NReader_readFactor_88 : decode prog_8_method_13_code 88 = .ok (.iadd, 1) := by decide +kernel
theorem d_NReader_readFactor_89 : decode prog_8_method_13_code 89 = .ok (.putfield 19, 3) := by decide +kernel
theorem d_NReader_readFactor_92 : decode prog_8_method_13_code 92 = .ok (.aload_n 0, 1) := by decide +kernel
theorem d_NReader_readFactor_93 : decode prog_8_method_13_code 93 = .ok (.iconst 1, 1) := by decide +kernel
theorem d_NReader_readFactor_94 : decode prog_8_method_13_code 94 = .ok (.iload_n 2, 1) := by decide +kernel
theorem d_NReader_readFactor_95 : decode prog_8_method_13_code 95 = .ok (.bipush 97, 2) := by decide +kernel
theorem d_NReader_readFactor_97 : decode prog_8_method_13_code 97 = .ok (.isub, 1) := by decide +kernel
theorem d_NReader_readFactor_98 : decode prog_8_method_13_code 98 = .ok (.iconst 0, 1) := by decide +kernel
theorem d_NReader_readFactor_99 : decode prog_8_method_13_code 99 = .ok (.invokevirtual 99, 3) := by decide +kernel
theorem d_NReader_readFactor_102 : decode prog_8_method_13_code 102 = .ok (.ireturn, 1) := by decide +kernel
theorem d_NReader_readFactor_103 : decode prog_8_method_13_code 103 = .ok (.aload_n 0, 1) := by decide +kernel
theorem d_NReader_readFactor_104 : decode prog_8_method_13_code 104 = .ok (.invokevirtual 106, 3) := by decide +kernel
theorem d_NReader_readFactor_107 : decode prog_8_method_13_code 107 = .ok (.ireturn, 1) := by decide +kernel
theorem d_NReader_readTerm_0 : decode prog_8_method_12_code 0 = .ok (.aload_n 0, 1) := by decide +kernel
theorem d_NReader_readTerm_1 : decode prog_8_method_12_code 1 = .ok (.iload_n 1, 1) := by decide +kernel
theorem d_NReader_readTerm_2 : decode prog_8_method_12_code 2 = .ok (.invokevirtual 103, 3) := by decide +kernel
theorem d_NReader_readTerm_5 : decode prog_8_method_12_code 5 = .ok (.istore_n 2, 1) := by decide +kernel
theorem d_NReader_readTerm_6 : decode prog_8_method_12_code 6 = .ok (.iconst 0, 1) := by decide +kernel
theorem d_NReader_readTerm_7 : decode prog_8_method_12_code 7 = .ok (.istore_n 3, 1) := by decide +kernel
theorem d_NReader_readTerm_8 : decode prog_8_method_12_code 8 = .ok (.iload_n 3, 1) := by decide +kernel
theorem d_NReader_readTerm_9 : decode prog_8_method_12_code 9 = .ok (.bipush 72, 2) := by decide +kernel
theorem d_NReader_readTerm_11 : decode prog_8_method_12_code 11 = .ok (.if_icmp .ge 90, 3) := by decide +kernel
theorem d_NReader_readTerm_14 : decode prog_8_method_12_code 14 = .ok (.iload_n 2, 1) := by decide +kernel
theorem d_NReader_readTerm_15 : decode prog_8_method_12_code 15 = .ok (.iconst (-1), 1) := by decide +kernel
theorem d_NReader_readTerm_16 : decode prog_8_method_12_code 16 = .ok (.if_icmp .eq 85, 3) := by decide +kernel
theorem d_NReader_readTerm_19 : decode prog_8_method_12_code 19 = .ok (.aload_n 0, 1) := by decide +kernel
theorem d_NReader_readTerm_20 : decode prog_8_method_12_code 20 = .ok (.bipush 42, 2) := by decide +kernel
theorem d_NReader_readTerm_22 : decode prog_8_method_12_code 22 = .ok (.invokevirtual 52, 3) := by decide +kernel
theorem d_NReader_readTerm_25 : decode prog_8_method_12_code 25 = .ok (.ifCond .eq 18, 3) := by decide +kernel
theorem d_NReader_readTerm_28 : decode prog_8_method_12_code 28 = .ok (.aload_n 0, 1) := by decide +kernel
theorem d_NReader_readTerm_29 : decode prog_8_method_12_code 29 = .ok (.iconst 5, 1) := by decide +kernel
theorem d_NReader_readTerm_30 : decode prog_8_method_12_code 30 = .ok (.iload_n 2, 1) := by decide +kernel
theorem d_NReader_readTerm_31 : decode prog_8_method_12_code 31 = .ok (.aload_n 0, 1) := by decide +kernel
theorem d_NReader_readTerm_32 : decode prog_8_method_12_code 32 = .ok (.iload_n 1, 1) := by decide +kernel
theorem d_NReader_readTerm_33 : decode prog_8_method_12_code 33 = .ok (.invokevirtual 103, 3) := by decide +kernel
theorem d_NReader_readTerm_36 : decode prog_8_method_12_code 36 = .ok (.invokevirtual 99, 3) := by decide +kernel
theorem d_NReader_readTerm_39 : decode prog_8_method_12_code 39 = .ok (.istore_n 2, 1) := by decide +kernel
theorem d_NReader_readTerm_40 : decode prog_8_method_12_code 40 = .ok (.goto 55, 3) := by decide +kernel
theorem d_NReader_readTerm_43 : decode prog_8_method_12_code 43 = .ok (.aload_n 0, 1) := by decide +kernel
theorem d_NReader_readTerm_44 : decode prog_8_method_12_code 44 = .ok (.bipush 47, 2) := by decide +kernel
theorem d_NReader_readTerm_46 : decode prog_8_method_12_code 46 = .ok (.invokevirtual 52, 3) := by decide +kernel
theorem d_NReader_readTerm_49 : decode prog_8_method_12_code 49 = .ok (.ifCond .eq 19, 3) := by decide +kernel
theorem d_NReader_readTerm_52 : decode prog_8_method_12_code 52 = .ok (.aload_n 0, 1) := by decide +kernel
theorem d_NReader_readTerm_53 : decode prog_8_method_12_code 53 = .ok (.bipush 6, 2) := by decide +kernel
theorem d_NReader_readTerm_55 : decode prog_8_method_12_code 55 = .ok (.iload_n 2, 1) := by decide +kernel
theorem d_NReader_readTerm_56 : decode prog_8_method_12_code 56 = .ok (.aload_n 0, 1) := by decide +kernel
theorem d_NReader_readTerm_57 : decode prog_8_method_12_code 57 = .ok (.iload_n 1, 1) := by decide +kernel
theorem d_NReader_readTerm_58 : decode prog_8_method_12_code 58 = .ok (.invokevirtual 103, 3) := by decide +kernel
theorem d_NReader_readTerm_61 : decode prog_8_method_12_code 61 = .ok (.invokevirtual 99, 3) := by decide +kernel
theorem d_NReader_readTerm_64 : decode prog_8_method_12_code 64 = .ok (.istore_n 2, 1) := by decide +kernel
theorem d_NReader_readTerm_65 : decode prog_8_method_12_code 65 = .ok (.goto 30, 3) := by decide +kernel
theorem d_NReader_readTerm_68 : decode prog_8_method_12_code 68 = .ok (.aload_n 0, 1) := by decide +kernel
theorem d_NReader_readTerm_69 : decode prog_8_method_12_code 69 = .ok (.bipush 37, 2) := by decide +kernel
theorem d_NReader_readTerm_71 : decode prog_8_method_12_code 71 = .ok (.invokevirtual 52, 3) := by decide +kernel
theorem d_NReader_readTerm_74 : decode prog_8_method_12_code 74 = .ok (.ifCond .eq 19, 3) := by decide +kernel
theorem d_NReader_readTerm_77 : decode prog_8_method_12_code 77 = .ok (.aload_n 0, 1) := by decide +kernel
theorem d_NReader_readTerm_78 : decode prog_8_method_12_code 78 = .ok (.bipush 7, 2) := by decide +kernel
theorem d_NReader_readTerm_80 : decode prog_8_method_12_code 80 = .ok (.iload_n 2, 1) := by decide +kernel
theorem d_NReader_readTerm_81 : decode prog_8_method_12_code 81 = .ok (.aload_n 0, 1) := by decide +kernel
theorem d_NReader_readTerm_82 : decode prog_8_method_12_code 82 = .ok (.iload_n 1, 1) := by decide +kernel
theorem d_NReader_readTerm_83 : decode prog_8_method_12_code 83 = .ok (.invokevirtual 103, 3) := by decide +kernel
theorem d_NReader_readTerm_86 : decode prog_8_method_12_code 86 = .ok (.invokevirtual 99, 3) := by decide +kernel
theorem d_NReader_readTerm_89 : decode prog_8_method_12_code 89 = .ok (.istore_n 2, 1) := by decide +kernel
theorem d_NReader_readTerm_90 : decode prog_8_method_12_code 90 = .ok (.goto 5, 3) := by decide +kernel
theorem d_NReader_readTerm_93 : decode prog_8_method_12_code 93 = .ok (.iload_n 2, 1) := by decide +kernel
theorem d_NReader_readTerm_94 : decode prog_8_method_12_code 94 = .ok (.ireturn, 1) := by decide +kernel
theorem d_NReader_readTerm_95 : decode prog_8_method_12_code 95 = .ok (.iinc 3 1, 3) := by decide +kernel
theorem d_NReader_readTerm_98 : decode prog_8_method_12_code 98 = .ok (.goto (-90), 3) := by decide +kernel
theorem d_NReader_readTerm_101 : decode prog_8_method_12_code 101 = .ok (.iload_n 2, 1) := by decide +kernel
theorem d_NReader_readTerm_102 : decode prog_8_method_12_code 102 = .ok (.ireturn, 1) := by decide +kernel

