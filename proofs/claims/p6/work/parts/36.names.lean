theorem wd_2 {U : State} (h : TB U) (args : Array Value) : (Cond.selects "BigRunner$Reader" ⟨"BigRunner$Reader", "readProgram", "(I)Z"⟩ ⟨"BigRunner$Reader", "readProgram", "(I)Z"⟩).before args U = true := h.w 2 (by decide +kernel) rfl args
theorem wd_6 {U : State} (h : TB U) (args : Array Value) : (Cond.selects "BigRunner$Reader" ⟨"BigRunner$Reader", "addStatement", "(I)I"⟩ ⟨"BigRunner$Reader", "addStatement", "(I)I"⟩).before args U = true := h.w 6 (by decide +kernel) rfl args
theorem wd_8 {U : State} (h : TB U) (args : Array Value) : (Cond.selects "BigRunner$Reader" ⟨"BigRunner$Reader", "readExprOf", "(II)Z"⟩ ⟨"BigRunner$Reader", "readExprOf", "(II)Z"⟩).before args U = true := h.w 8 (by decide +kernel) rfl args
theorem wd_15 {U : State} (h : TB U) (args : Array Value) : (Cond.selects "BigRunner$Reader" ⟨"BigRunner$Reader", "aim", "(II)Z"⟩ ⟨"BigRunner$Reader", "aim", "(II)Z"⟩).before args U = true := h.w 15 (by decide +kernel) rfl args
theorem wd_153 {U : State} (h : TB U) (args : Array Value) : (Cond.fieldLink "BigRunner$Reader" 88 "BigRunner$Statement" "firstNode" "I").before args U = true := h.w 153 (by decide +kernel) rfl args
theorem wd_158 {U : State} (h : TB U) (args : Array Value) : (Cond.fieldLink "BigRunner$Reader" 91 "BigRunner$Statement" "lastNode" "I").before args U = true := h.w 158 (by decide +kernel) rfl args
theorem wd_461 {U : State} (h : TB U) (args : Array Value) : (Cond.methodLink "BigRunner$Reader" 41 ⟨"BigRunner$Reader", "readProgram", "(I)Z"⟩).before args U = true := h.w 461 (by decide +kernel) rfl args
theorem wd_463 {U : State} (h : TB U) (args : Array Value) : (Cond.instanceMethod ⟨"BigRunner$Reader", "readProgram", "(I)Z"⟩).before args U = true := h.w 463 (by decide +kernel) rfl args
theorem wd_464 {U : State} (h : TB U) (args : Array Value) : (Cond.code ⟨"BigRunner$Reader", "readProgram", "(I)Z"⟩ prog_8_method_5_code 3 (some .boolean)).before args U = true := h.w 464 (by decide +kernel) rfl args
theorem wd_477 {U : State} (h : TB U) (args : Array Value) : (Cond.methodLink "BigRunner$Reader" 58 ⟨"BigRunner$Reader", "addStatement", "(I)I"⟩).before args U = true := h.w 477 (by decide +kernel) rfl args
theorem wd_479 {U : State} (h : TB U) (args : Array Value) : (Cond.instanceMethod ⟨"BigRunner$Reader", "addStatement", "(I)I"⟩).before args U = true := h.w 479 (by decide +kernel) rfl args
theorem wd_480 {U : State} (h : TB U) (args : Array Value) : (Cond.code ⟨"BigRunner$Reader", "addStatement", "(I)I"⟩ prog_8_method_16_code 2 (some .int)).before args U = true := h.w 480 (by decide +kernel) rfl args
theorem wd_485 {U : State} (h : TB U) (args : Array Value) : (Cond.methodLink "BigRunner$Reader" 65 ⟨"BigRunner$Reader", "readExprOf", "(II)Z"⟩).before args U = true := h.w 485 (by decide +kernel) rfl args
theorem wd_487 {U : State} (h : TB U) (args : Array Value) : (Cond.instanceMethod ⟨"BigRunner$Reader", "readExprOf", "(II)Z"⟩).before args U = true := h.w 487 (by decide +kernel) rfl args
theorem wd_488 {U : State} (h : TB U) (args : Array Value) : (Cond.code ⟨"BigRunner$Reader", "readExprOf", "(II)Z"⟩ prog_8_method_10_code 5 (some .boolean)).before args U = true := h.w 488 (by decide +kernel) rfl args
theorem wd_513 {U : State} (h : TB U) (args : Array Value) : (Cond.methodLink "BigRunner$Reader" 75 ⟨"BigRunner$Reader", "aim", "(II)Z"⟩).before args U = true := h.w 513 (by decide +kernel) rfl args
theorem wd_515 {U : State} (h : TB U) (args : Array Value) : (Cond.instanceMethod ⟨"BigRunner$Reader", "aim", "(II)Z"⟩).before args U = true := h.w 515 (by decide +kernel) rfl args
theorem wd_516 {U : State} (h : TB U) (args : Array Value) : (Cond.code ⟨"BigRunner$Reader", "aim", "(II)Z"⟩ prog_8_method_17_code 3 (some .boolean)).before args U = true := h.w 516 (by decide +kernel) rfl args
theorem d_NReader_readChoice_0 : decode prog_8_method_8_code 0 = .ok (.aload_n 0, 1) := by decide +kernel
theorem d_NReader_readChoice_1 : decode prog_8_method_8_code 1 = .ok (.iconst 4, 1) := by decide +kernel
theorem d_NReader_readChoice_2 : decode prog_8_method_8_code 2 = .ok (.invokevirtual 58, 3) := by decide +kernel
theorem d_NReader_readChoice_5 : decode prog_8_method_8_code 5 = .ok (.istore_n 2, 1) := by decide +kernel
theorem d_NReader_readChoice_6 : decode prog_8_method_8_code 6 = .ok (.aload_n 0, 1) := by decide +kernel
theorem d_NReader_readChoice_7 : decode prog_8_method_8_code 7 = .ok (.iload_n 2, 1) := by decide +kernel
theorem d_NReader_readChoice_8 : decode prog_8_method_8_code 8 = .ok (.iload_n 1, 1) := by decide +kernel
theorem d_NReader_readChoice_9 : decode prog_8_method_8_code 9 = .ok (.invokevirtual 65, 3) := by decide +kernel
theorem d_NReader_readChoice_12 : decode prog_8_method_8_code 12 = .ok (.ifCond .eq 31, 3) := by decide +kernel
theorem d_NReader_readChoice_15 : decode prog_8_method_8_code 15 = .ok (.aload_n 0, 1) := by decide +kernel
theorem d_NReader_readChoice_16 : decode prog_8_method_8_code 16 = .ok (.bipush 58, 2) := by decide +kernel
theorem d_NReader_readChoice_18 : decode prog_8_method_8_code 18 = .ok (.invokevirtual 52, 3) := by decide +kernel
theorem d_NReader_readChoice_21 : decode prog_8_method_8_code 21 = .ok (.ifCond .eq 22, 3) := by decide +kernel
theorem d_NReader_readChoice_24 : decode prog_8_method_8_code 24 = .ok (.aload_n 0, 1) := by decide +kernel
theorem d_NReader_readChoice_25 : decode prog_8_method_8_code 25 = .ok (.iload_n 1, 1) := by decide +kernel
theorem d_NReader_readChoice_26 : decode prog_8_method_8_code 26 = .ok (.iconst 1, 1) := by decide +kernel
theorem d_NReader_readChoice_27 : decode prog_8_method_8_code 27 = .ok (.iadd, 1) := by decide +kernel
theorem d_NReader_readChoice_28 : decode prog_8_method_8_code 28 = .ok (.invokevirtual 41, 3) := by decide +kernel
theorem d_NReader_readChoice_31 : decode prog_8_method_8_code 31 = .ok (.ifCond .eq 12, 3) := by decide +kernel
theorem d_NReader_readChoice_34 : decode prog_8_method_8_code 34 = .ok (.aload_n 0, 1) := by decide +kernel
theorem d_NReader_readChoice_35 : decode prog_8_method_8_code 35 = .ok (.bipush 124, 2) := by decide +kernel
theorem d_NReader_readChoice_37 : decode prog_8_method_8_code 37 = .ok (.invokevirtual 52, 3) := by decide +kernel
theorem d_NReader_readChoice_40 : decode prog_8_method_8_code 40 = .ok (.ifCond .ne 5, 3) := by decide +kernel
theorem d_NReader_readChoice_43 : decode prog_8_method_8_code 43 = .ok (.iconst 0, 1) := by decide +kernel
theorem d_NReader_readChoice_44 : decode prog_8_method_8_code 44 = .ok (.ireturn, 1) := by decide +kernel
theorem d_NReader_readChoice_45 : decode prog_8_method_8_code 45 = .ok (.aload_n 0, 1) := by decide +kernel
theorem d_NReader_readChoice_46 : decode prog_8_method_8_code 46 = .ok (.iconst 5, 1) := by decide +kernel
theorem d_NReader_readChoice_47 : decode prog_8_method_8_code 47 = .ok (.invokevirtual 58, 3) := by decide +kernel
theorem d_NReader_readChoice_50 : decode prog_8_method_8_code 50 = .ok (.istore_n 3, 1) := by decide +kernel
theorem d_NReader_readChoice_51 : decode prog_8_method_8_code 51 = .ok (.aload_n 0, 1) := by decide +kernel
theorem d_NReader_readChoice_52 : decode prog_8_method_8_code 52 = .ok (.iload_n 2, 1) := by decide +kernel
theorem d_NReader_readChoice_53 : decode prog_8_method_8_code 53 = .ok (.aload_n 0, 1) := by decide +kernel
theorem d_NReader_readChoice_54 : decode prog_8_method_8_code 54 = .ok (.getfield 25, 3) := by decide +kernel
theorem d_NReader_readChoice_57 : decode prog_8_method_8_code 57 = .ok (.getfield 35, 3) := by decide +kernel
theorem d_NReader_readChoice_60 : decode prog_8_method_8_code 60 = .ok (.invokevirtual 75, 3) := by decide +kernel
theorem d_NReader_readChoice_63 : decode prog_8_method_8_code 63 = .ok (.ifCond .eq 41, 3) := by decide +kernel
theorem d_NReader_readChoice_66 : decode prog_8_method_8_code 66 = .ok (.aload_n 0, 1) := by decide +kernel
theorem d_NReader_readChoice_67 : decode prog_8_method_8_code 67 = .ok (.iload_n 1, 1) := by decide +kernel
theorem d_NReader_readChoice_68 : decode prog_8_method_8_code 68 = .ok (.iconst 1, 1) := by decide +kernel
theorem d_NReader_readChoice_69 : decode prog_8_method_8_code 69 = .ok (.iadd, 1) := by decide +kernel
theorem d_NReader_readChoice_70 : decode prog_8_method_8_code 70 = .ok (.invokevirtual 41, 3) := by decide +kernel
theorem d_NReader_readChoice_73 : decode prog_8_method_8_code 73 = .ok (.ifCond .eq 31, 3) := by decide +kernel
theorem d_NReader_readChoice_76 : decode prog_8_method_8_code 76 = .ok (.aload_n 0, 1) := by decide +kernel
theorem d_NReader_readChoice_77 : decode prog_8_method_8_code 77 = .ok (.bipush 125, 2) := by decide +kernel
theorem d_NReader_readChoice_79 : decode prog_8_method_8_code 79 = .ok (.invokevirtual 52, 3) := by decide +kernel
theorem d_NReader_readChoice_82 : decode prog_8_method_8_code 82 = .ok (.ifCond .eq 22, 3) := by decide +kernel
theorem d_NReader_readChoice_85 : decode prog_8_method_8_code 85 = .ok (.aload_n 0, 1) := by decide +kernel
theorem d_NReader_readChoice_86 : decode prog_8_method_8_code 86 = .ok (.iload_n 3, 1) := by decide +kernel
theorem d_NReader_readChoice_87 : decode prog_8_method_8_code 87 = .ok (.aload_n 0, 1) := by decide +kernel
theorem d_NReader_readChoice_88 : decode prog_8_method_8_code 88 = .ok (.getfield 25, 3) := by decide +kernel
theorem d_NReader_readChoice_91 : decode prog_8_method_8_code 91 = .ok (.getfield 35, 3) := by decide +kernel
theorem d_NReader_readChoice_94 : decode prog_8_method_8_code 94 = .ok (.invokevirtual 75, 3) := by decide +kernel
theorem d_NReader_readChoice_97 : decode prog_8_method_8_code 97 = .ok (.ifCond .eq 7, 3) := by decide +kernel
theorem d_NReader_readChoice_100 : decode prog_8_method_8_code 100 = .ok (.iconst 1, 1) := by decide +kernel
theorem d_NReader_readChoice_101 : decode prog_8_method_8_code 101 = .ok (.goto 4, 3) := by decide +kernel
theorem d_NReader_readChoice_104 : decode prog_8_method_8_code 104 = .ok (.iconst 0, 1) := by decide +kernel
theorem d_NReader_readChoice_105 : decode prog_8_method_8_code 105 = .ok (.ireturn, 1) := by decide +kernel
theorem d_NReader_readExprOf_0 : decode prog_8_method_10_code 0 = .ok (.iload_n 1, 1) := by decide +kernel
theorem d_NReader_readExprOf_1 : decode prog_8_method_10_code 1 = .ok (.iconst (-1), 1) := by decide +kernel
theorem d_NReader_readExprOf_2 : decode prog_8_method_10_code 2 = .ok (.if_icmp .ne 5, 3) := by decide +kernel
theorem d_NReader_readExprOf_7 : decode prog_8_method_10_code 7 = .ok (.aload_n 0, 1) := by decide +kernel
theorem d_NReader_readExprOf_8 : decode prog_8_method_10_code 8 = .ok (.getfield 25, 3) := by decide +kernel
theorem d_NReader_readExprOf_11 : decode prog_8_method_10_code 11 = .ok (.getfield 38, 3) := by decide +kernel
theorem d_NReader_readExprOf_14 : decode prog_8_method_10_code 14 = .ok (.istore_n 3, 1) := by decide +kernel
theorem d_NReader_readExprOf_15 : decode prog_8_method_10_code 15 = .ok (.aload_n 0, 1) := by decide +kernel
theorem d_NReader_readExprOf_16 : decode prog_8_method_10_code 16 = .ok (.iload_n 2, 1) := by decide +kernel
theorem d_NReader_readExprOf_17 : decode prog_8_method_10_code 17 = .ok (.invokevirtual 85, 3) := by decide +kernel
theorem d_NReader_readExprOf_20 : decode prog_8_method_10_code 20 = .ok (.istore 4, 2) := by decide +kernel
theorem d_NReader_readExprOf_22 : decode prog_8_method_10_code 22 = .ok (.aload_n 0, 1) := by decide +kernel
theorem d_NReader_readExprOf_23 : decode prog_8_method_10_code 23 = .ok (.getfield 25, 3) := by decide +kernel
theorem d_NReader_readExprOf_26 : decode prog_8_method_10_code 26 = .ok (.getfield 78, 3) := by decide +kernel
theorem d_NReader_readExprOf_29 : decode prog_8_method_10_code 29 = .ok (.iload_n 1, 1) := by decide +kernel
theorem d_NReader_readExprOf_30 : decode prog_8_method_10_code 30 = .ok (.aaload, 1) := by decide +kernel
theorem d_NReader_readExprOf_31 : decode prog_8_method_10_code 31 = .ok (.iload_n 3, 1) := by decide +kernel
theorem d_NReader_readExprOf_32 : decode prog_8_method_10_code 32 = .ok (.putfield 88, 3) := by decide +kernel
theorem d_NReader_readExprOf_35 : decode prog_8_method_10_code 35 = .ok (.aload_n 0, 1) := by decide +kernel
theorem d_NReader_readExprOf_36 : decode prog_8_method_10_code 36 = .ok (.getfield 25, 3) := by decide +kernel
theorem d_NReader_readExprOf_39 : decode prog_8_method_10_code 39 = .ok (.getfield 78, 3) := by decide +kernel
theorem d_NReader_readExprOf_42 : decode prog_8_method_10_code 42 = .ok (.iload_n 1, 1) := by decide +kernel
theorem d_NReader_readExprOf_43 : decode prog_8_method_10_code 43 = .ok (.aaload, 1) := by decide +kernel
theorem d_NReader_readExprOf_44 : decode prog_8_method_10_code 44 = .ok (.iload 4, 2) := by decide +kernel
theorem d_NReader_readExprOf_46 : decode prog_8_method_10_code 46 = .ok (.putfield 91, 3) := by decide +kernel
theorem d_NReader_readExprOf_49 : decode prog_8_method_10_code 49 = .ok (.iload 4, 2) := by decide +kernel
theorem d_NReader_readExprOf_51 : decode prog_8_method_10_code 51 = .ok (.iconst (-1), 1) := by decide +kernel
theorem d_NReader_readExprOf_52 : decode prog_8_method_10_code 52 = .ok (.if_icmp .eq 7, 3) := by decide +kernel
theorem d_NReader_readExprOf_55 : decode prog_8_method_10_code 55 = .ok (.iconst 1, 1) := by decide +kernel
theorem d_NReader_readExprOf_56 : decode prog_8_method_10_code 56 = .ok (.goto 4, 3) := by decide +kernel
theorem d_NReader_readExprOf_59 : decode prog_8_method_10_code 59 = .ok (.iconst 0, 1) := by decide +kernel
theorem d_NReader_readExprOf_60 : decode prog_8_method_10_code 60 = .ok (.ireturn, 1) := by decide +kernel
theorem d_NReader_readLoop_0 : decode prog_8_method_7_code 0 = .ok (.aload_n 0, 1) := by decide +kernel
theorem d_NReader_readLoop_1 : decode prog_8_method_7_code 1 = .ok (.iconst 3, 1) := by decide +kernel
theorem d_NReader_readLoop_2 : decode prog_8_method_7_code 2 = .ok (.invokevirtual 58, 3) := by decide +kernel
theorem d_NReader_readLoop_5 : decode prog_8_method_7_code 5 = .ok (.istore_n 2, 1) := by decide +kernel
theorem d_NReader_readLoop_6 : decode prog_8_method_7_code 6 = .ok (.aload_n 0, 1) := by decide +kernel
theorem d_NReader_readLoop_7 : decode prog_8_method_7_code 7 = .ok (.iload_n 2, 1) := by decide +kernel
theorem d_NReader_readLoop_8 : decode prog_8_method_7_code 8 = .ok (.iload_n 1, 1) := by decide +kernel
theorem d_NReader_readLoop_9 : decode prog_8_method_7_code 9 = .ok (.invokevirtual 65, 3) := by decide +kernel
theorem d_NReader_readLoop_12 : decode prog_8_method_7_code 12 = .ok (.ifCond .eq 31, 3) := by decide +kernel
theorem d_NReader_readLoop_15 : decode prog_8_method_7_code 15 = .ok (.aload_n 0, 1) := by decide +kernel
theorem d_NReader_readLoop_16 : decode prog_8_method_7_code 16 = .ok (.bipush 58, 2) := by decide +kernel
theorem d_NReader_readLoop_18 : decode prog_8_method_7_code 18 = .ok (.invokevirtual 52, 3) := by decide +kernel
theorem d_NReader_readLoop_21 : decode prog_8_method_7_code 21 = .ok (.ifCond .eq 22, 3) := by decide +kernel
theorem d_NReader_readLoop_24 : decode prog_8_method_7_code 24 = .ok (.aload_n 0, 1) := by decide +kernel
theorem d_NReader_readLoop_25 : decode prog_8_method_7_code 25 = .ok (.iload_n 1, 1) := by decide +kernel
theorem d_NReader_readLoop_26 : decode prog_8_method_7_code 26 = .ok (.iconst 1, 1) := by decide +kernel
theorem d_NReader_readLoop_27 : decode prog_8_method_7_code 27 = .ok (.iadd, 1) := by decide +kernel
theorem d_NReader_readLoop_28 : decode prog_8_method_7_code 28 = .ok (.invokevirtual 41, 3) := by decide +kernel
theorem d_NReader_readLoop_31 : decode prog_8_method_7_code 31 = .ok (.ifCond .eq 12, 3) := by decide +kernel
theorem d_NReader_readLoop_34 : decode prog_8_method_7_code 34 = .ok (.aload_n 0, 1) := by decide +kernel
theorem d_NReader_readLoop_35 : decode prog_8_method_7_code 35 = .ok (.bipush 93, 2) := by decide +kernel
theorem d_NReader_readLoop_37 : decode prog_8_method_7_code 37 = .ok (.invokevirtual 52, 3) := by decide +kernel
theorem d_NReader_readLoop_40 : decode prog_8_method_7_code 40 = .ok (.ifCond .ne 5, 3) := by decide +kernel
theorem d_NReader_readLoop_43 : decode prog_8_method_7_code 43 = .ok (.iconst 0, 1) := by decide +kernel
theorem d_NReader_readLoop_44 : decode prog_8_method_7_code 44 = .ok (.ireturn, 1) := by decide +kernel
theorem d_NReader_readLoop_45 : decode prog_8_method_7_code 45 = .ok (.aload_n 0, 1) := by decide +kernel
theorem d_NReader_readLoop_46 : decode prog_8_method_7_code 46 = .ok (.aload_n 0, 1) := by decide +kernel
theorem d_NReader_readLoop_47 : decode prog_8_method_7_code 47 = .ok (.iconst 5, 1) := by decide +kernel
theorem d_NReader_readLoop_48 : decode prog_8_method_7_code 48 = .ok (.invokevirtual 58, 3) := by decide +kernel
theorem d_NReader_readLoop_51 : decode prog_8_method_7_code 51 = .ok (.iload_n 2, 1) := by decide +kernel
theorem d_NReader_readLoop_52 : decode prog_8_method_7_code 52 = .ok (.invokevirtual 75, 3) := by decide +kernel
theorem d_NReader_readLoop_55 : decode prog_8_method_7_code 55 = .ok (.ifCond .eq 22, 3) := by decide +kernel
theorem d_NReader_readLoop_58 : decode prog_8_method_7_code 58 = .ok (.aload_n 0, 1) := by decide +kernel
theorem d_NReader_readLoop_59 : decode prog_8_method_7_code 59 = .ok (.iload_n 2, 1) := by decide +kernel
theorem d_NReader_readLoop_60 : decode prog_8_method_7_code 60 = .ok (.aload_n 0, 1) := by decide +kernel
theorem d_NReader_readLoop_61 : decode prog_8_method_7_code 61 = .ok (.getfield 25, 3) := by decide +kernel
theorem d_NReader_readLoop_64 : decode prog_8_method_7_code 64 = .ok (.getfield 35, 3) := by decide +kernel
theorem d_NReader_readLoop_67 : decode prog_8_method_7_code 67 = .ok (.invokevirtual 75, 3) := by decide +kernel
theorem d_NReader_readLoop_70 : decode prog_8_method_7_code 70 = .ok (.ifCond .eq 7, 3) := by decide +kernel
theorem d_NReader_readLoop_73 : decode prog_8_method_7_code 73 = .ok (.iconst 1, 1) := by decide +kernel
theorem d_NReader_readLoop_74 : decode prog_8_method_7_code 74 = .ok (.goto 4, 3) := by decide +kernel
theorem d_NReader_readLoop_78 : decode prog_8_method_7_code 78 = .ok (.ireturn, 1) := by decide +kernel

