theorem wd_5 {U : State} (h : TB U) (args : Array Value) : (Cond.selects "BigRunner$Reader" ⟨"BigRunner$Reader", "next", "()C"⟩ ⟨"BigRunner$Reader", "next", "()C"⟩).before args U = true := h.w 5 (by decide +kernel) rfl args
theorem wd_12 {U : State} (h : TB U) (args : Array Value) : (Cond.selects "BigRunner$Reader" ⟨"BigRunner$Reader", "addOperation", "(III)I"⟩ ⟨"BigRunner$Reader", "addOperation", "(III)I"⟩).before args U = true := h.w 12 (by decide +kernel) rfl args
theorem wd_73 {U : State} (h : TB U) (args : Array Value) : (Cond.initialized "BigRunner$Reader").before args U = true := h.w 73 (by decide +kernel) rfl args
theorem wd_205 {U : State} (h : TB U) (args : Array Value) : (Cond.fieldLink "BigRunner$Reader" 118 "BigRunner$Node" "kind" "I").before args U = true := h.w 205 (by decide +kernel) rfl args
theorem wd_209 {U : State} (h : TB U) (args : Array Value) : (Cond.fieldLink "BigRunner$Reader" 121 "BigRunner$Node" "left" "I").before args U = true := h.w 209 (by decide +kernel) rfl args
theorem wd_213 {U : State} (h : TB U) (args : Array Value) : (Cond.fieldLink "BigRunner$Reader" 124 "BigRunner$Node" "right" "I").before args U = true := h.w 213 (by decide +kernel) rfl args
theorem wd_222 {U : State} (h : TB U) (args : Array Value) : (Cond.fieldLink "BigRunner$Reader" 114 "BigRunner$Node" "machine" "J").before args U = true := h.w 222 (by decide +kernel) rfl args
theorem wd_250 {U : State} (h : TB U) (args : Array Value) : (Cond.fieldLink "BigRunner$Reader" 110 "BigRunner$Program" "nodes" "[LBigRunner$Node;").before args U = true := h.w 250 (by decide +kernel) rfl args
theorem wd_252 {U : State} (h : TB U) (args : Array Value) : (Cond.fieldLink "BigRunner$Reader" 38 "BigRunner$Program" "nodeCount" "I").before args U = true := h.w 252 (by decide +kernel) rfl args
theorem wd_270 {U : State} (h : TB U) (args : Array Value) : (Cond.fieldLink "BigRunner$Reader" 9 "BigRunner$Reader" "text" "[C").before args U = true := h.w 270 (by decide +kernel) rfl args
theorem wd_271 {U : State} (h : TB U) (args : Array Value) : (Cond.fieldLink "BigRunner$Reader" 15 "BigRunner$Reader" "length" "I").before args U = true := h.w 271 (by decide +kernel) rfl args
theorem wd_272 {U : State} (h : TB U) (args : Array Value) : (Cond.fieldLink "BigRunner$Reader" 19 "BigRunner$Reader" "at" "I").before args U = true := h.w 272 (by decide +kernel) rfl args
theorem wd_273 {U : State} (h : TB U) (args : Array Value) : (Cond.fieldLink "BigRunner$Reader" 25 "BigRunner$Reader" "program" "LBigRunner$Program;").before args U = true := h.w 273 (by decide +kernel) rfl args
theorem wd_473 {U : State} (h : TB U) (args : Array Value) : (Cond.methodLink "BigRunner$Reader" 45 ⟨"BigRunner$Reader", "next", "()C"⟩).before args U = true := h.w 473 (by decide +kernel) rfl args
theorem wd_475 {U : State} (h : TB U) (args : Array Value) : (Cond.instanceMethod ⟨"BigRunner$Reader", "next", "()C"⟩).before args U = true := h.w 475 (by decide +kernel) rfl args
theorem wd_476 {U : State} (h : TB U) (args : Array Value) : (Cond.code ⟨"BigRunner$Reader", "next", "()C"⟩ prog_8_method_3_code 1 (some .char)).before args U = true := h.w 476 (by decide +kernel) rfl args
theorem wd_501 {U : State} (h : TB U) (args : Array Value) : (Cond.methodLink "BigRunner$Reader" 99 ⟨"BigRunner$Reader", "addOperation", "(III)I"⟩).before args U = true := h.w 501 (by decide +kernel) rfl args
theorem wd_503 {U : State} (h : TB U) (args : Array Value) : (Cond.instanceMethod ⟨"BigRunner$Reader", "addOperation", "(III)I"⟩).before args U = true := h.w 503 (by decide +kernel) rfl args
theorem wd_504 {U : State} (h : TB U) (args : Array Value) : (Cond.code ⟨"BigRunner$Reader", "addOperation", "(III)I"⟩ prog_8_method_15_code 5 (some .int)).before args U = true := h.w 504 (by decide +kernel) rfl args
theorem d_NReader_accept_0 : decode prog_8_method_4_code 0 = .ok (.aload_n 0, 1) := by decide +kernel
theorem d_NReader_accept_1 : decode prog_8_method_4_code 1 = .ok (.invokevirtual 45, 3) := by decide +kernel
theorem d_NReader_accept_4 : decode prog_8_method_4_code 4 = .ok (.iload_n 1, 1) := by decide +kernel
theorem d_NReader_accept_5 : decode prog_8_method_4_code 5 = .ok (.if_icmp .eq 5, 3) := by decide +kernel
theorem d_NReader_accept_8 : decode prog_8_method_4_code 8 = .ok (.iconst 0, 1) := by decide +kernel
theorem d_NReader_accept_9 : decode prog_8_method_4_code 9 = .ok (.ireturn, 1) := by decide +kernel
theorem d_NReader_accept_10 : decode prog_8_method_4_code 10 = .ok (.aload_n 0, 1) := by decide +kernel
theorem d_NReader_accept_11 : decode prog_8_method_4_code 11 = .ok (.dup, 1) := by decide +kernel
theorem d_NReader_accept_12 : decode prog_8_method_4_code 12 = .ok (.getfield 19, 3) := by decide +kernel
theorem d_NReader_accept_15 : decode prog_8_method_4_code 15 = .ok (.iconst 1, 1) := by decide +kernel
theorem d_NReader_accept_16 : decode prog_8_method_4_code 16 = .ok (.iadd, 1) := by decide +kernel
theorem d_NReader_accept_17 : decode prog_8_method_4_code 17 = .ok (.putfield 19, 3) := by decide +kernel
theorem d_NReader_accept_20 : decode prog_8_method_4_code 20 = .ok (.iconst 1, 1) := by decide +kernel
theorem d_NReader_accept_21 : decode prog_8_method_4_code 21 = .ok (.ireturn, 1) := by decide +kernel
theorem d_NReader_addOperation_0 : decode prog_8_method_15_code 0 = .ok (.iload_n 2, 1) := by decide +kernel
theorem d_NReader_addOperation_1 : decode prog_8_method_15_code 1 = .ok (.iconst (-1), 1) := by decide +kernel
theorem d_NReader_addOperation_2 : decode prog_8_method_15_code 2 = .ok (.if_icmp .eq 26, 3) := by decide +kernel
theorem d_NReader_addOperation_5 : decode prog_8_method_15_code 5 = .ok (.iload_n 3, 1) := by decide +kernel
theorem d_NReader_addOperation_6 : decode prog_8_method_15_code 6 = .ok (.iconst (-1), 1) := by decide +kernel
theorem d_NReader_addOperation_7 : decode prog_8_method_15_code 7 = .ok (.if_icmp .eq 21, 3) := by decide +kernel
theorem d_NReader_addOperation_10 : decode prog_8_method_15_code 10 = .ok (.aload_n 0, 1) := by decide +kernel
theorem d_NReader_addOperation_11 : decode prog_8_method_15_code 11 = .ok (.getfield 25, 3) := by decide +kernel
theorem d_NReader_addOperation_14 : decode prog_8_method_15_code 14 = .ok (.getfield 38, 3) := by decide +kernel
theorem d_NReader_addOperation_17 : decode prog_8_method_15_code 17 = .ok (.aload_n 0, 1) := by decide +kernel
theorem d_NReader_addOperation_18 : decode prog_8_method_15_code 18 = .ok (.getfield 25, 3) := by decide +kernel
theorem d_NReader_addOperation_21 : decode prog_8_method_15_code 21 = .ok (.getfield 110, 3) := by decide +kernel
theorem d_NReader_addOperation_24 : decode prog_8_method_15_code 24 = .ok (.arraylength, 1) := by decide +kernel
theorem d_NReader_addOperation_25 : decode prog_8_method_15_code 25 = .ok (.if_icmp .lt 5, 3) := by decide +kernel
theorem d_NReader_addOperation_28 : decode prog_8_method_15_code 28 = .ok (.iconst (-1), 1) := by decide +kernel
theorem d_NReader_addOperation_29 : decode prog_8_method_15_code 29 = .ok (.ireturn, 1) := by decide +kernel
theorem d_NReader_addOperation_30 : decode prog_8_method_15_code 30 = .ok (.aload_n 0, 1) := by decide +kernel
theorem d_NReader_addOperation_31 : decode prog_8_method_15_code 31 = .ok (.getfield 25, 3) := by decide +kernel
theorem d_NReader_addOperation_34 : decode prog_8_method_15_code 34 = .ok (.getfield 110, 3) := by decide +kernel
theorem d_NReader_addOperation_37 : decode prog_8_method_15_code 37 = .ok (.aload_n 0, 1) := by decide +kernel
theorem d_NReader_addOperation_38 : decode prog_8_method_15_code 38 = .ok (.getfield 25, 3) := by decide +kernel
theorem d_NReader_addOperation_41 : decode prog_8_method_15_code 41 = .ok (.getfield 38, 3) := by decide +kernel
theorem d_NReader_addOperation_44 : decode prog_8_method_15_code 44 = .ok (.aaload, 1) := by decide +kernel
theorem d_NReader_addOperation_45 : decode prog_8_method_15_code 45 = .ok (.astore 4, 2) := by decide +kernel
theorem d_NReader_addOperation_47 : decode prog_8_method_15_code 47 = .ok (.aload 4, 2) := by decide +kernel
theorem d_NReader_addOperation_49 : decode prog_8_method_15_code 49 = .ok (.iload_n 1, 1) := by decide +kernel
theorem d_NReader_addOperation_50 : decode prog_8_method_15_code 50 = .ok (.putfield 118, 3) := by decide +kernel
theorem d_NReader_addOperation_53 : decode prog_8_method_15_code 53 = .ok (.aload 4, 2) := by decide +kernel
theorem d_NReader_addOperation_55 : decode prog_8_method_15_code 55 = .ok (.iload_n 2, 1) := by decide +kernel
theorem d_NReader_addOperation_56 : decode prog_8_method_15_code 56 = .ok (.putfield 121, 3) := by decide +kernel
theorem d_NReader_addOperation_59 : decode prog_8_method_15_code 59 = .ok (.aload 4, 2) := by decide +kernel
theorem d_NReader_addOperation_61 : decode prog_8_method_15_code 61 = .ok (.iload_n 3, 1) := by decide +kernel
theorem d_NReader_addOperation_62 : decode prog_8_method_15_code 62 = .ok (.putfield 124, 3) := by decide +kernel
theorem d_NReader_addOperation_65 : decode prog_8_method_15_code 65 = .ok (.aload_n 0, 1) := by decide +kernel
theorem d_NReader_addOperation_66 : decode prog_8_method_15_code 66 = .ok (.getfield 25, 3) := by decide +kernel
theorem d_NReader_addOperation_69 : decode prog_8_method_15_code 69 = .ok (.dup, 1) := by decide +kernel
theorem d_NReader_addOperation_70 : decode prog_8_method_15_code 70 = .ok (.getfield 38, 3) := by decide +kernel
theorem d_NReader_addOperation_73 : decode prog_8_method_15_code 73 = .ok (.iconst 1, 1) := by decide +kernel
theorem d_NReader_addOperation_74 : decode prog_8_method_15_code 74 = .ok (.iadd, 1) := by decide +kernel
theorem d_NReader_addOperation_75 : decode prog_8_method_15_code 75 = .ok (.putfield 38, 3) := by decide +kernel
theorem d_NReader_addOperation_78 : decode prog_8_method_15_code 78 = .ok (.aload_n 0, 1) := by decide +kernel
theorem d_NReader_addOperation_79 : decode prog_8_method_15_code 79 = .ok (.getfield 25, 3) := by decide +kernel
theorem d_NReader_addOperation_82 : decode prog_8_method_15_code 82 = .ok (.getfield 38, 3) := by decide +kernel
theorem d_NReader_addOperation_85 : decode prog_8_method_15_code 85 = .ok (.iconst 1, 1) := by decide +kernel
theorem d_NReader_addOperation_86 : decode prog_8_method_15_code 86 = .ok (.isub, 1) := by decide +kernel
theorem d_NReader_addOperation_87 : decode prog_8_method_15_code 87 = .ok (.ireturn, 1) := by decide +kernel
theorem d_NReader_next_0 : decode prog_8_method_3_code 0 = .ok (.aload_n 0, 1) := by decide +kernel
theorem d_NReader_next_1 : decode prog_8_method_3_code 1 = .ok (.getfield 19, 3) := by decide +kernel
theorem d_NReader_next_4 : decode prog_8_method_3_code 4 = .ok (.aload_n 0, 1) := by decide +kernel
theorem d_NReader_next_5 : decode prog_8_method_3_code 5 = .ok (.getfield 15, 3) := by decide +kernel
theorem d_NReader_next_8 : decode prog_8_method_3_code 8 = .ok (.if_icmp .ge 15, 3) := by decide +kernel
theorem d_NReader_next_11 : decode prog_8_method_3_code 11 = .ok (.aload_n 0, 1) := by decide +kernel
theorem d_NReader_next_12 : decode prog_8_method_3_code 12 = .ok (.getfield 9, 3) := by decide +kernel
theorem d_NReader_next_15 : decode prog_8_method_3_code 15 = .ok (.aload_n 0, 1) := by decide +kernel
theorem d_NReader_next_16 : decode prog_8_method_3_code 16 = .ok (.getfield 19, 3) := by decide +kernel
theorem d_NReader_next_19 : decode prog_8_method_3_code 19 = .ok (.caload, 1) := by decide +kernel
theorem d_NReader_next_20 : decode prog_8_method_3_code 20 = .ok (.goto 5, 3) := by decide +kernel
theorem d_NReader_next_23 : decode prog_8_method_3_code 23 = .ok (.bipush 32, 2) := by decide +kernel
theorem d_NReader_next_25 : decode prog_8_method_3_code 25 = .ok (.ireturn, 1) := by decide +kernel
theorem d_NReader_readNumber_0 : decode prog_8_method_14_code 0 = .ok (.iconst 0, 1) := by decide +kernel
theorem d_NReader_readNumber_1 : decode prog_8_method_14_code 1 = .ok (.istore_n 1, 1) := by decide +kernel
theorem d_NReader_readNumber_2 : decode prog_8_method_14_code 2 = .ok (.iconst 0, 1) := by decide +kernel
theorem d_NReader_readNumber_3 : decode prog_8_method_14_code 3 = .ok (.istore_n 2, 1) := by decide +kernel
theorem d_NReader_readNumber_4 : decode prog_8_method_14_code 4 = .ok (.iload_n 2, 1) := by decide +kernel
theorem d_NReader_readNumber_5 : decode prog_8_method_14_code 5 = .ok (.bipush 9, 2) := by decide +kernel
theorem d_NReader_readNumber_7 : decode prog_8_method_14_code 7 = .ok (.if_icmp .ge 50, 3) := by decide +kernel
theorem d_NReader_readNumber_10 : decode prog_8_method_14_code 10 = .ok (.aload_n 0, 1) := by decide +kernel
theorem d_NReader_readNumber_11 : decode prog_8_method_14_code 11 = .ok (.invokevirtual 45, 3) := by decide +kernel
theorem d_NReader_readNumber_14 : decode prog_8_method_14_code 14 = .ok (.bipush 48, 2) := by decide +kernel
theorem d_NReader_readNumber_16 : decode prog_8_method_14_code 16 = .ok (.if_icmp .lt 41, 3) := by decide +kernel
theorem d_NReader_readNumber_19 : decode prog_8_method_14_code 19 = .ok (.aload_n 0, 1) := by decide +kernel
theorem d_NReader_readNumber_20 : decode prog_8_method_14_code 20 = .ok (.invokevirtual 45, 3) := by decide +kernel
theorem d_NReader_readNumber_23 : decode prog_8_method_14_code 23 = .ok (.bipush 57, 2) := by decide +kernel
theorem d_NReader_readNumber_25 : decode prog_8_method_14_code 25 = .ok (.if_icmp .gt 32, 3) := by decide +kernel
theorem d_NReader_readNumber_28 : decode prog_8_method_14_code 28 = .ok (.bipush 10, 2) := by decide +kernel
theorem d_NReader_readNumber_30 : decode prog_8_method_14_code 30 = .ok (.iload_n 1, 1) := by decide +kernel
theorem d_NReader_readNumber_31 : decode prog_8_method_14_code 31 = .ok (.imul, 1) := by decide +kernel
theorem d_NReader_readNumber_32 : decode prog_8_method_14_code 32 = .ok (.aload_n 0, 1) := by decide +kernel
theorem d_NReader_readNumber_33 : decode prog_8_method_14_code 33 = .ok (.invokevirtual 45, 3) := by decide +kernel
theorem d_NReader_readNumber_36 : decode prog_8_method_14_code 36 = .ok (.bipush 48, 2) := by decide +kernel
theorem d_NReader_readNumber_38 : decode prog_8_method_14_code 38 = .ok (.isub, 1) := by decide +kernel
theorem d_NReader_readNumber_39 : decode prog_8_method_14_code 39 = .ok (.iadd, 1) := by decide +kernel
theorem d_NReader_readNumber_40 : decode prog_8_method_14_code 40 = .ok (.istore_n 1, 1) := by decide +kernel
theorem d_NReader_readNumber_41 : decode prog_8_method_14_code 41 = .ok (.aload_n 0, 1) := by decide +kernel
theorem d_NReader_readNumber_42 : decode prog_8_method_14_code 42 = .ok (.dup, 1) := by decide +kernel
theorem d_NReader_readNumber_43 : decode prog_8_method_14_code 43 = .ok (.getfield 19, 3) := by decide +kernel
theorem d_NReader_readNumber_46 : decode prog_8_method_14_code 46 = .ok (.iconst 1, 1) := by decide +kernel
theorem d_NReader_readNumber_47 : decode prog_8_method_14_code 47 = .ok (.iadd, 1) := by decide +kernel
theorem d_NReader_readNumber_48 : decode prog_8_method_14_code 48 = .ok (.putfield 19, 3) := by decide +kernel
theorem d_NReader_readNumber_51 : decode prog_8_method_14_code 51 = .ok (.iinc 2 1, 3) := by decide +kernel
theorem d_NReader_readNumber_54 : decode prog_8_method_14_code 54 = .ok (.goto (-50), 3) := by decide +kernel
theorem d_NReader_readNumber_57 : decode prog_8_method_14_code 57 = .ok (.iload_n 2, 1) := by decide +kernel
theorem d_NReader_readNumber_58 : decode prog_8_method_14_code 58 = .ok (.ifCond .ne 7, 3) := by decide +kernel
theorem d_NReader_readNumber_61 : decode prog_8_method_14_code 61 = .ok (.iconst (-1), 1) := by decide +kernel
theorem d_NReader_readNumber_62 : decode prog_8_method_14_code 62 = .ok (.goto 10, 3) := by decide +kernel
theorem d_NReader_readNumber_65 : decode prog_8_method_14_code 65 = .ok (.aload_n 0, 1) := by decide +kernel
theorem d_NReader_readNumber_66 : decode prog_8_method_14_code 66 = .ok (.iconst 0, 1) := by decide +kernel
theorem d_NReader_readNumber_67 : decode prog_8_method_14_code 67 = .ok (.iconst 0, 1) := by decide +kernel
theorem d_NReader_readNumber_68 : decode prog_8_method_14_code 68 = .ok (.iconst 0, 1) := by decide +kernel
theorem d_NReader_readNumber_69 : decode prog_8_method_14_code 69 = .ok (.invokevirtual 99, 3) := by decide +kernel
theorem d_NReader_readNumber_72 : decode prog_8_method_14_code 72 = .ok (.istore_n 3, 1) := by decide +kernel
theorem d_NReader_readNumber_73 : decode prog_8_method_14_code 73 = .ok (.iload_n 3, 1) := by decide +kernel
theorem d_NReader_readNumber_74 : decode prog_8_method_14_code 74 = .ok (.iconst (-1), 1) := by decide +kernel
theorem d_NReader_readNumber_75 : decode prog_8_method_14_code 75 = .ok (.if_icmp .eq 17, 3) := by decide +kernel
theorem d_NReader_readNumber_78 : decode prog_8_method_14_code 78 = .ok (.aload_n 0, 1) := by decide +kernel
theorem d_NReader_readNumber_79 : decode prog_8_method_14_code 79 = .ok (.getfield 25, 3) := by decide +kernel
theorem d_NReader_readNumber_82 : decode prog_8_method_14_code 82 = .ok (.getfield 110, 3) := by decide +kernel
theorem d_NReader_readNumber_85 : decode prog_8_method_14_code 85 = .ok (.iload_n 3, 1) := by decide +kernel
theorem d_NReader_readNumber_86 : decode prog_8_method_14_code 86 = .ok (.aaload, 1) := by decide +kernel
theorem d_NReader_readNumber_87 : decode prog_8_method_14_code 87 = .ok (.iload_n 1, 1) := by decide +kernel
theorem d_NReader_readNumber_88 : decode prog_8_method_14_code 88 = .ok (.i2l, 1) := by decide +kernel
theorem d_NReader_readNumber_89 : decode prog_8_method_14_code 89 = .ok (.putfield 114, 3) := by decide +kernel
theorem d_NReader_readNumber_92 : decode prog_8_method_14_code 92 = .ok (.iload_n 3, 1) := by decide +kernel
theorem d_NReader_readNumber_93 : decode prog_8_method_14_code 93 = .ok (.ireturn, 1) := by decide +kernel

