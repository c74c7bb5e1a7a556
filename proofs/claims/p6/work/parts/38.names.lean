theorem wd_3 {U : State} (h : TB U) (args : Array Value) : (Cond.selects "BigRunner$Reader" ⟨"BigRunner$Reader", "readStatement", "(I)Z"⟩ ⟨"BigRunner$Reader", "readStatement", "(I)Z"⟩).before args U = true := h.w 3 (by decide +kernel) rfl args
theorem wd_7 {U : State} (h : TB U) (args : Array Value) : (Cond.selects "BigRunner$Reader" ⟨"BigRunner$Reader", "readName", "(I)Z"⟩ ⟨"BigRunner$Reader", "readName", "(I)Z"⟩).before args U = true := h.w 7 (by decide +kernel) rfl args
theorem wd_14 {U : State} (h : TB U) (args : Array Value) : (Cond.selects "BigRunner$Reader" ⟨"BigRunner$Reader", "readLoop", "(I)Z"⟩ ⟨"BigRunner$Reader", "readLoop", "(I)Z"⟩).before args U = true := h.w 14 (by decide +kernel) rfl args
theorem wd_16 {U : State} (h : TB U) (args : Array Value) : (Cond.selects "BigRunner$Reader" ⟨"BigRunner$Reader", "readChoice", "(I)Z"⟩ ⟨"BigRunner$Reader", "readChoice", "(I)Z"⟩).before args U = true := h.w 16 (by decide +kernel) rfl args
theorem wd_458 {U : State} (h : TB U) (args : Array Value) : (Cond.methodLink "BigRunner$Reader" 29 ⟨"java/lang/Math", "min", "(II)I"⟩).before args U = true := h.w 458 (by decide +kernel) rfl args
theorem wd_465 {U : State} (h : TB U) (args : Array Value) : (Cond.methodLink "BigRunner$Reader" 49 ⟨"BigRunner$Reader", "readStatement", "(I)Z"⟩).before args U = true := h.w 465 (by decide +kernel) rfl args
theorem wd_467 {U : State} (h : TB U) (args : Array Value) : (Cond.instanceMethod ⟨"BigRunner$Reader", "readStatement", "(I)Z"⟩).before args U = true := h.w 467 (by decide +kernel) rfl args
theorem wd_468 {U : State} (h : TB U) (args : Array Value) : (Cond.code ⟨"BigRunner$Reader", "readStatement", "(I)Z"⟩ prog_8_method_6_code 3 (some .boolean)).before args U = true := h.w 468 (by decide +kernel) rfl args
theorem wd_481 {U : State} (h : TB U) (args : Array Value) : (Cond.methodLink "BigRunner$Reader" 62 ⟨"BigRunner$Reader", "readName", "(I)Z"⟩).before args U = true := h.w 481 (by decide +kernel) rfl args
theorem wd_483 {U : State} (h : TB U) (args : Array Value) : (Cond.instanceMethod ⟨"BigRunner$Reader", "readName", "(I)Z"⟩).before args U = true := h.w 483 (by decide +kernel) rfl args
theorem wd_484 {U : State} (h : TB U) (args : Array Value) : (Cond.code ⟨"BigRunner$Reader", "readName", "(I)Z"⟩ prog_8_method_9_code 3 (some .boolean)).before args U = true := h.w 484 (by decide +kernel) rfl args
theorem wd_509 {U : State} (h : TB U) (args : Array Value) : (Cond.methodLink "BigRunner$Reader" 69 ⟨"BigRunner$Reader", "readLoop", "(I)Z"⟩).before args U = true := h.w 509 (by decide +kernel) rfl args
theorem wd_511 {U : State} (h : TB U) (args : Array Value) : (Cond.instanceMethod ⟨"BigRunner$Reader", "readLoop", "(I)Z"⟩).before args U = true := h.w 511 (by decide +kernel) rfl args
theorem wd_512 {U : State} (h : TB U) (args : Array Value) : (Cond.code ⟨"BigRunner$Reader", "readLoop", "(I)Z"⟩ prog_8_method_7_code 3 (some .boolean)).before args U = true := h.w 512 (by decide +kernel) rfl args
theorem wd_517 {U : State} (h : TB U) (args : Array Value) : (Cond.methodLink "BigRunner$Reader" 72 ⟨"BigRunner$Reader", "readChoice", "(I)Z"⟩).before args U = true := h.w 517 (by decide +kernel) rfl args
theorem wd_519 {U : State} (h : TB U) (args : Array Value) : (Cond.instanceMethod ⟨"BigRunner$Reader", "readChoice", "(I)Z"⟩).before args U = true := h.w 519 (by decide +kernel) rfl args
theorem wd_520 {U : State} (h : TB U) (args : Array Value) : (Cond.code ⟨"BigRunner$Reader", "readChoice", "(I)Z"⟩ prog_8_method_8_code 4 (some .boolean)).before args U = true := h.w 520 (by decide +kernel) rfl args
theorem d_NReader_readProgram_0 : decode prog_8_method_5_code 0 = .ok (.iload_n 1, 1) := by decide +kernel
theorem d_NReader_readProgram_1 : decode prog_8_method_5_code 1 = .ok (.bipush 10, 2) := by decide +kernel
theorem d_NReader_readProgram_3 : decode prog_8_method_5_code 3 = .ok (.if_icmp .le 5, 3) := by decide +kernel
theorem d_NReader_readProgram_6 : decode prog_8_method_5_code 6 = .ok (.iconst 0, 1) := by decide +kernel
theorem d_NReader_readProgram_7 : decode prog_8_method_5_code 7 = .ok (.ireturn, 1) := by decide +kernel
theorem d_NReader_readProgram_8 : decode prog_8_method_5_code 8 = .ok (.iconst 0, 1) := by decide +kernel
theorem d_NReader_readProgram_9 : decode prog_8_method_5_code 9 = .ok (.istore_n 2, 1) := by decide +kernel
theorem d_NReader_readProgram_10 : decode prog_8_method_5_code 10 = .ok (.iload_n 2, 1) := by decide +kernel
theorem d_NReader_readProgram_11 : decode prog_8_method_5_code 11 = .ok (.bipush 72, 2) := by decide +kernel
theorem d_NReader_readProgram_13 : decode prog_8_method_5_code 13 = .ok (.if_icmp .ge 30, 3) := by decide +kernel
theorem d_NReader_readProgram_16 : decode prog_8_method_5_code 16 = .ok (.aload_n 0, 1) := by decide +kernel
theorem d_NReader_readProgram_17 : decode prog_8_method_5_code 17 = .ok (.iload_n 1, 1) := by decide +kernel
theorem d_NReader_readProgram_18 : decode prog_8_method_5_code 18 = .ok (.invokevirtual 49, 3) := by decide +kernel
theorem d_NReader_readProgram_21 : decode prog_8_method_5_code 21 = .ok (.ifCond .ne 5, 3) := by decide +kernel
theorem d_NReader_readProgram_24 : decode prog_8_method_5_code 24 = .ok (.iconst 0, 1) := by decide +kernel
theorem d_NReader_readProgram_25 : decode prog_8_method_5_code 25 = .ok (.ireturn, 1) := by decide +kernel
theorem d_NReader_readProgram_26 : decode prog_8_method_5_code 26 = .ok (.aload_n 0, 1) := by decide +kernel
theorem d_NReader_readProgram_27 : decode prog_8_method_5_code 27 = .ok (.bipush 59, 2) := by decide +kernel
theorem d_NReader_readProgram_29 : decode prog_8_method_5_code 29 = .ok (.invokevirtual 52, 3) := by decide +kernel
theorem d_NReader_readProgram_32 : decode prog_8_method_5_code 32 = .ok (.ifCond .ne 5, 3) := by decide +kernel
theorem d_NReader_readProgram_35 : decode prog_8_method_5_code 35 = .ok (.iconst 1, 1) := by decide +kernel
theorem d_NReader_readProgram_36 : decode prog_8_method_5_code 36 = .ok (.ireturn, 1) := by decide +kernel
theorem d_NReader_readProgram_37 : decode prog_8_method_5_code 37 = .ok (.iinc 2 1, 3) := by decide +kernel
theorem d_NReader_readProgram_40 : decode prog_8_method_5_code 40 = .ok (.goto (-30), 3) := by decide +kernel
theorem d_NReader_readStatement_0 : decode prog_8_method_6_code 0 = .ok (.aload_n 0, 1) := by decide +kernel
theorem d_NReader_readStatement_1 : decode prog_8_method_6_code 1 = .ok (.bipush 63, 2) := by decide +kernel
theorem d_NReader_readStatement_3 : decode prog_8_method_6_code 3 = .ok (.invokevirtual 52, 3) := by decide +kernel
theorem d_NReader_readStatement_6 : decode prog_8_method_6_code 6 = .ok (.ifCond .eq 13, 3) := by decide +kernel
theorem d_NReader_readStatement_9 : decode prog_8_method_6_code 9 = .ok (.aload_n 0, 1) := by decide +kernel
theorem d_NReader_readStatement_10 : decode prog_8_method_6_code 10 = .ok (.aload_n 0, 1) := by decide +kernel
theorem d_NReader_readStatement_11 : decode prog_8_method_6_code 11 = .ok (.iconst 1, 1) := by decide +kernel
theorem d_NReader_readStatement_12 : decode prog_8_method_6_code 12 = .ok (.invokevirtual 58, 3) := by decide +kernel
theorem d_NReader_readStatement_15 : decode prog_8_method_6_code 15 = .ok (.invokevirtual 62, 3) := by decide +kernel
theorem d_NReader_readStatement_18 : decode prog_8_method_6_code 18 = .ok (.ireturn, 1) := by decide +kernel
theorem d_NReader_readStatement_19 : decode prog_8_method_6_code 19 = .ok (.aload_n 0, 1) := by decide +kernel
theorem d_NReader_readStatement_20 : decode prog_8_method_6_code 20 = .ok (.bipush 33, 2) := by decide +kernel
theorem d_NReader_readStatement_22 : decode prog_8_method_6_code 22 = .ok (.invokevirtual 52, 3) := by decide +kernel
theorem d_NReader_readStatement_25 : decode prog_8_method_6_code 25 = .ok (.ifCond .eq 14, 3) := by decide +kernel
theorem d_NReader_readStatement_28 : decode prog_8_method_6_code 28 = .ok (.aload_n 0, 1) := by decide +kernel
theorem d_NReader_readStatement_29 : decode prog_8_method_6_code 29 = .ok (.aload_n 0, 1) := by decide +kernel
theorem d_NReader_readStatement_30 : decode prog_8_method_6_code 30 = .ok (.iconst 2, 1) := by decide +kernel
theorem d_NReader_readStatement_31 : decode prog_8_method_6_code 31 = .ok (.invokevirtual 58, 3) := by decide +kernel
theorem d_NReader_readStatement_34 : decode prog_8_method_6_code 34 = .ok (.iload_n 1, 1) := by decide +kernel
theorem d_NReader_readStatement_35 : decode prog_8_method_6_code 35 = .ok (.invokevirtual 65, 3) := by decide +kernel
theorem d_NReader_readStatement_38 : decode prog_8_method_6_code 38 = .ok (.ireturn, 1) := by decide +kernel
theorem d_NReader_readStatement_39 : decode prog_8_method_6_code 39 = .ok (.aload_n 0, 1) := by decide +kernel
theorem d_NReader_readStatement_40 : decode prog_8_method_6_code 40 = .ok (.bipush 91, 2) := by decide +kernel
theorem d_NReader_readStatement_42 : decode prog_8_method_6_code 42 = .ok (.invokevirtual 52, 3) := by decide +kernel
theorem d_NReader_readStatement_45 : decode prog_8_method_6_code 45 = .ok (.ifCond .eq 9, 3) := by decide +kernel
theorem d_NReader_readStatement_48 : decode prog_8_method_6_code 48 = .ok (.aload_n 0, 1) := by decide +kernel
theorem d_NReader_readStatement_49 : decode prog_8_method_6_code 49 = .ok (.iload_n 1, 1) := by decide +kernel
theorem d_NReader_readStatement_50 : decode prog_8_method_6_code 50 = .ok (.invokevirtual 69, 3) := by decide +kernel
theorem d_NReader_readStatement_53 : decode prog_8_method_6_code 53 = .ok (.ireturn, 1) := by decide +kernel
theorem d_NReader_readStatement_54 : decode prog_8_method_6_code 54 = .ok (.aload_n 0, 1) := by decide +kernel
theorem d_NReader_readStatement_55 : decode prog_8_method_6_code 55 = .ok (.bipush 123, 2) := by decide +kernel
theorem d_NReader_readStatement_57 : decode prog_8_method_6_code 57 = .ok (.invokevirtual 52, 3) := by decide +kernel
theorem d_NReader_readStatement_60 : decode prog_8_method_6_code 60 = .ok (.ifCond .eq 9, 3) := by decide +kernel
theorem d_NReader_readStatement_63 : decode prog_8_method_6_code 63 = .ok (.aload_n 0, 1) := by decide +kernel
theorem d_NReader_readStatement_64 : decode prog_8_method_6_code 64 = .ok (.iload_n 1, 1) := by decide +kernel
theorem d_NReader_readStatement_65 : decode prog_8_method_6_code 65 = .ok (.invokevirtual 72, 3) := by decide +kernel
theorem d_NReader_readStatement_68 : decode prog_8_method_6_code 68 = .ok (.ireturn, 1) := by decide +kernel
theorem d_NReader_readStatement_69 : decode prog_8_method_6_code 69 = .ok (.aload_n 0, 1) := by decide +kernel
theorem d_NReader_readStatement_70 : decode prog_8_method_6_code 70 = .ok (.iconst 0, 1) := by decide +kernel
theorem d_NReader_readStatement_71 : decode prog_8_method_6_code 71 = .ok (.invokevirtual 58, 3) := by decide +kernel
theorem d_NReader_readStatement_74 : decode prog_8_method_6_code 74 = .ok (.istore_n 2, 1) := by decide +kernel
theorem d_NReader_readStatement_75 : decode prog_8_method_6_code 75 = .ok (.aload_n 0, 1) := by decide +kernel
theorem d_NReader_readStatement_76 : decode prog_8_method_6_code 76 = .ok (.iload_n 2, 1) := by decide +kernel
theorem d_NReader_readStatement_77 : decode prog_8_method_6_code 77 = .ok (.invokevirtual 62, 3) := by decide +kernel
theorem d_NReader_readStatement_80 : decode prog_8_method_6_code 80 = .ok (.ifCond .eq 25, 3) := by decide +kernel
theorem d_NReader_readStatement_83 : decode prog_8_method_6_code 83 = .ok (.aload_n 0, 1) := by decide +kernel
theorem d_NReader_readStatement_84 : decode prog_8_method_6_code 84 = .ok (.bipush 61, 2) := by decide +kernel
theorem d_NReader_readStatement_86 : decode prog_8_method_6_code 86 = .ok (.invokevirtual 52, 3) := by decide +kernel
theorem d_NReader_readStatement_89 : decode prog_8_method_6_code 89 = .ok (.ifCond .eq 16, 3) := by decide +kernel
theorem d_NReader_readStatement_92 : decode prog_8_method_6_code 92 = .ok (.aload_n 0, 1) := by decide +kernel
theorem d_NReader_readStatement_93 : decode prog_8_method_6_code 93 = .ok (.iload_n 2, 1) := by decide +kernel
theorem d_NReader_readStatement_94 : decode prog_8_method_6_code 94 = .ok (.iload_n 1, 1) := by decide +kernel
theorem d_NReader_readStatement_95 : decode prog_8_method_6_code 95 = .ok (.invokevirtual 65, 3) := by decide +kernel
theorem d_NReader_readStatement_98 : decode prog_8_method_6_code 98 = .ok (.ifCond .eq 7, 3) := by decide +kernel
theorem d_NReader_readStatement_101 : decode prog_8_method_6_code 101 = .ok (.iconst 1, 1) := by decide +kernel
theorem d_NReader_readStatement_102 : decode prog_8_method_6_code 102 = .ok (.goto 4, 3) := by decide +kernel
theorem d_NReader_readStatement_105 : decode prog_8_method_6_code 105 = .ok (.iconst 0, 1) := by decide +kernel
theorem d_NReader_readStatement_106 : decode prog_8_method_6_code 106 = .ok (.ireturn, 1) := by decide +kernel
theorem d_NReader_reads_0 : decode prog_8_method_2_code 0 = .ok (.aload_n 0, 1) := by decide +kernel
theorem d_NReader_reads_1 : decode prog_8_method_2_code 1 = .ok (.aload_n 1, 1) := by decide +kernel
theorem d_NReader_reads_2 : decode prog_8_method_2_code 2 = .ok (.putfield 9, 3) := by decide +kernel
theorem d_NReader_reads_5 : decode prog_8_method_2_code 5 = .ok (.aload_n 0, 1) := by decide +kernel
theorem d_NReader_reads_6 : decode prog_8_method_2_code 6 = .ok (.iload_n 2, 1) := by decide +kernel
theorem d_NReader_reads_7 : decode prog_8_method_2_code 7 = .ok (.aload_n 1, 1) := by decide +kernel
theorem d_NReader_reads_8 : decode prog_8_method_2_code 8 = .ok (.arraylength, 1) := by decide +kernel
theorem d_NReader_reads_9 : decode prog_8_method_2_code 9 = .ok (.invokestatic 29, 3) := by decide +kernel
theorem d_NReader_reads_12 : decode prog_8_method_2_code 12 = .ok (.putfield 15, 3) := by decide +kernel
theorem d_NReader_reads_15 : decode prog_8_method_2_code 15 = .ok (.aload_n 0, 1) := by decide +kernel
theorem d_NReader_reads_16 : decode prog_8_method_2_code 16 = .ok (.iconst 0, 1) := by decide +kernel
theorem d_NReader_reads_17 : decode prog_8_method_2_code 17 = .ok (.putfield 19, 3) := by decide +kernel
theorem d_NReader_reads_20 : decode prog_8_method_2_code 20 = .ok (.aload_n 0, 1) := by decide +kernel
theorem d_NReader_reads_21 : decode prog_8_method_2_code 21 = .ok (.getfield 25, 3) := by decide +kernel
theorem d_NReader_reads_24 : decode prog_8_method_2_code 24 = .ok (.iconst 0, 1) := by decide +kernel
theorem d_NReader_reads_25 : decode prog_8_method_2_code 25 = .ok (.putfield 35, 3) := by decide +kernel
theorem d_NReader_reads_28 : decode prog_8_method_2_code 28 = .ok (.aload_n 0, 1) := by decide +kernel
theorem d_NReader_reads_29 : decode prog_8_method_2_code 29 = .ok (.getfield 25, 3) := by decide +kernel
theorem d_NReader_reads_32 : decode prog_8_method_2_code 32 = .ok (.iconst 0, 1) := by decide +kernel
theorem d_NReader_reads_33 : decode prog_8_method_2_code 33 = .ok (.putfield 38, 3) := by decide +kernel
theorem d_NReader_reads_36 : decode prog_8_method_2_code 36 = .ok (.aload_n 0, 1) := by decide +kernel
theorem d_NReader_reads_37 : decode prog_8_method_2_code 37 = .ok (.iconst 1, 1) := by decide +kernel
theorem d_NReader_reads_38 : decode prog_8_method_2_code 38 = .ok (.invokevirtual 41, 3) := by decide +kernel
theorem d_NReader_reads_41 : decode prog_8_method_2_code 41 = .ok (.ifCond .eq 18, 3) := by decide +kernel
theorem d_NReader_reads_44 : decode prog_8_method_2_code 44 = .ok (.aload_n 0, 1) := by decide +kernel
theorem d_NReader_reads_45 : decode prog_8_method_2_code 45 = .ok (.getfield 19, 3) := by decide +kernel
theorem d_NReader_reads_48 : decode prog_8_method_2_code 48 = .ok (.aload_n 0, 1) := by decide +kernel
theorem d_NReader_reads_49 : decode prog_8_method_2_code 49 = .ok (.getfield 15, 3) := by decide +kernel
theorem d_NReader_reads_52 : decode prog_8_method_2_code 52 = .ok (.if_icmp .ne 7, 3) := by decide +kernel
theorem d_NReader_reads_55 : decode prog_8_method_2_code 55 = .ok (.iconst 1, 1) := by decide +kernel
theorem d_NReader_reads_56 : decode prog_8_method_2_code 56 = .ok (.goto 4, 3) := by decide +kernel
theorem d_NReader_reads_59 : decode prog_8_method_2_code 59 = .ok (.iconst 0, 1) := by decide +kernel
theorem d_NReader_reads_60 : decode prog_8_method_2_code 60 = .ok (.ireturn, 1) := by decide +kernel

