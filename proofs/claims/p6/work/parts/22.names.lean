theorem wd_18 {U : State} (h : TB U) (args : Array Value) : (Cond.selects "BigRunner$Program" ⟨"BigRunner$Program", "makeRound", "(Z)Z"⟩ ⟨"BigRunner$Program", "makeRound", "(Z)Z"⟩).before args U = true := h.w 18 (by decide +kernel) rfl args
theorem wd_19 {U : State} (h : TB U) (args : Array Value) : (Cond.selects "BigRunner$Program" ⟨"BigRunner$Program", "intervalOfExpr", "(LBigRunner$Statement;)LBigRunner$Interval;"⟩ ⟨"BigRunner$Program", "intervalOfExpr", "(LBigRunner$Statement;)LBigRunner$Interval;"⟩).before args U = true := h.w 19 (by decide +kernel) rfl args
theorem wd_20 {U : State} (h : TB U) (args : Array Value) : (Cond.selects "BigRunner$Program" ⟨"BigRunner$Program", "findInterval", "(LBigRunner$Node;)V"⟩ ⟨"BigRunner$Program", "findInterval", "(LBigRunner$Node;)V"⟩).before args U = true := h.w 20 (by decide +kernel) rfl args
theorem wd_23 {U : State} (h : TB U) (args : Array Value) : (Cond.selects "BigRunner$Program" ⟨"BigRunner$Program", "judge", "(LBigRunner$Node;)V"⟩ ⟨"BigRunner$Program", "judge", "(LBigRunner$Node;)V"⟩).before args U = true := h.w 23 (by decide +kernel) rfl args
theorem wd_74 {U : State} (h : TB U) (args : Array Value) : (Cond.initialized "BigRunner$Program").before args U = true := h.w 74 (by decide +kernel) rfl args
theorem wd_127 {U : State} (h : TB U) (args : Array Value) : (Cond.fieldLink "BigRunner$Program" 47 "BigRunner$Interval" "least" "J").before args U = true := h.w 127 (by decide +kernel) rfl args
theorem wd_130 {U : State} (h : TB U) (args : Array Value) : (Cond.fieldLink "BigRunner$Program" 53 "BigRunner$Interval" "greatest" "J").before args U = true := h.w 130 (by decide +kernel) rfl args
theorem wd_144 {U : State} (h : TB U) (args : Array Value) : (Cond.fieldLink "BigRunner$Program" 71 "BigRunner$Statement" "kind" "I").before args U = true := h.w 144 (by decide +kernel) rfl args
theorem wd_148 {U : State} (h : TB U) (args : Array Value) : (Cond.fieldLink "BigRunner$Program" 74 "BigRunner$Statement" "name" "I").before args U = true := h.w 148 (by decide +kernel) rfl args
theorem wd_152 {U : State} (h : TB U) (args : Array Value) : (Cond.fieldLink "BigRunner$Program" 85 "BigRunner$Statement" "firstNode" "I").before args U = true := h.w 152 (by decide +kernel) rfl args
theorem wd_156 {U : State} (h : TB U) (args : Array Value) : (Cond.fieldLink "BigRunner$Program" 88 "BigRunner$Statement" "lastNode" "I").before args U = true := h.w 156 (by decide +kernel) rfl args
theorem wd_203 {U : State} (h : TB U) (args : Array Value) : (Cond.fieldLink "BigRunner$Program" 94 "BigRunner$Node" "kind" "I").before args U = true := h.w 203 (by decide +kernel) rfl args
theorem wd_207 {U : State} (h : TB U) (args : Array Value) : (Cond.fieldLink "BigRunner$Program" 98 "BigRunner$Node" "left" "I").before args U = true := h.w 207 (by decide +kernel) rfl args
theorem wd_211 {U : State} (h : TB U) (args : Array Value) : (Cond.fieldLink "BigRunner$Program" 105 "BigRunner$Node" "right" "I").before args U = true := h.w 211 (by decide +kernel) rfl args
theorem wd_215 {U : State} (h : TB U) (args : Array Value) : (Cond.fieldLink "BigRunner$Program" 91 "BigRunner$Node" "interval" "LBigRunner$Interval;").before args U = true := h.w 215 (by decide +kernel) rfl args
theorem wd_217 {U : State} (h : TB U) (args : Array Value) : (Cond.fieldLink "BigRunner$Program" 124 "BigRunner$Node" "isSmall" "Z").before args U = true := h.w 217 (by decide +kernel) rfl args
theorem wd_220 {U : State} (h : TB U) (args : Array Value) : (Cond.fieldLink "BigRunner$Program" 95 "BigRunner$Node" "machine" "J").before args U = true := h.w 220 (by decide +kernel) rfl args
theorem wd_242 {U : State} (h : TB U) (args : Array Value) : (Cond.fieldLink "BigRunner$Program" 13 "BigRunner$Program" "statements" "[LBigRunner$Statement;").before args U = true := h.w 242 (by decide +kernel) rfl args
theorem wd_245 {U : State} (h : TB U) (args : Array Value) : (Cond.fieldLink "BigRunner$Program" 17 "BigRunner$Program" "statementCount" "I").before args U = true := h.w 245 (by decide +kernel) rfl args
theorem wd_248 {U : State} (h : TB U) (args : Array Value) : (Cond.fieldLink "BigRunner$Program" 23 "BigRunner$Program" "nodes" "[LBigRunner$Node;").before args U = true := h.w 248 (by decide +kernel) rfl args
theorem wd_251 {U : State} (h : TB U) (args : Array Value) : (Cond.fieldLink "BigRunner$Program" 27 "BigRunner$Program" "nodeCount" "I").before args U = true := h.w 251 (by decide +kernel) rfl args
theorem wd_253 {U : State} (h : TB U) (args : Array Value) : (Cond.fieldLink "BigRunner$Program" 32 "BigRunner$Program" "variables" "[LBigRunner$Interval;").before args U = true := h.w 253 (by decide +kernel) rfl args
theorem wd_256 {U : State} (h : TB U) (args : Array Value) : (Cond.fieldLink "BigRunner$Program" 37 "BigRunner$Program" "ofInput" "LBigRunner$Interval;").before args U = true := h.w 256 (by decide +kernel) rfl args
theorem wd_595 {U : State} (h : TB U) (args : Array Value) : (Cond.methodLink "BigRunner$Program" 56 ⟨"BigRunner$Interval", "set", "(JJ)V"⟩).before args U = true := h.w 595 (by decide +kernel) rfl args
theorem wd_601 {U : State} (h : TB U) (args : Array Value) : (Cond.methodLink "BigRunner$Program" 60 ⟨"BigRunner$Program", "makeRound", "(Z)Z"⟩).before args U = true := h.w 601 (by decide +kernel) rfl args
theorem wd_603 {U : State} (h : TB U) (args : Array Value) : (Cond.instanceMethod ⟨"BigRunner$Program", "makeRound", "(Z)Z"⟩).before args U = true := h.w 603 (by decide +kernel) rfl args
theorem wd_604 {U : State} (h : TB U) (args : Array Value) : (Cond.code ⟨"BigRunner$Program", "makeRound", "(Z)Z"⟩ prog_7_method_3_code 5 (some .boolean)).before args U = true := h.w 604 (by decide +kernel) rfl args
theorem wd_605 {U : State} (h : TB U) (args : Array Value) : (Cond.methodLink "BigRunner$Program" 77 ⟨"BigRunner$Interval", "join", "(LBigRunner$Interval;Z)Z"⟩).before args U = true := h.w 605 (by decide +kernel) rfl args
theorem wd_606 {U : State} (h : TB U) (args : Array Value) : (Cond.instanceMethod ⟨"BigRunner$Interval", "join", "(LBigRunner$Interval;Z)Z"⟩).before args U = true := h.w 606 (by decide +kernel) rfl args
theorem wd_607 {U : State} (h : TB U) (args : Array Value) : (Cond.selects "BigRunner$Interval" ⟨"BigRunner$Interval", "join", "(LBigRunner$Interval;Z)Z"⟩ ⟨"BigRunner$Interval", "join", "(LBigRunner$Interval;Z)Z"⟩).before args U = true := h.w 607 (by decide +kernel) rfl args
theorem wd_608 {U : State} (h : TB U) (args : Array Value) : (Cond.code ⟨"BigRunner$Interval", "join", "(LBigRunner$Interval;Z)Z"⟩ prog_3_method_5_code 4 (some .boolean)).before args U = true := h.w 608 (by decide +kernel) rfl args
theorem wd_609 {U : State} (h : TB U) (args : Array Value) : (Cond.methodLink "BigRunner$Program" 81 ⟨"BigRunner$Program", "intervalOfExpr", "(LBigRunner$Statement;)LBigRunner$Interval;"⟩).before args U = true := h.w 609 (by decide +kernel) rfl args
theorem wd_611 {U : State} (h : TB U) (args : Array Value) : (Cond.instanceMethod ⟨"BigRunner$Program", "intervalOfExpr", "(LBigRunner$Statement;)LBigRunner$Interval;"⟩).before args U = true := h.w 611 (by decide +kernel) rfl args
theorem wd_612 {U : State} (h : TB U) (args : Array Value) : (Cond.code ⟨"BigRunner$Program", "intervalOfExpr", "(LBigRunner$Statement;)LBigRunner$Interval;"⟩ prog_7_method_4_code 3 (some (.object "BigRunner$Interval"))).before args U = true := h.w 612 (by decide +kernel) rfl args
theorem wd_613 {U : State} (h : TB U) (args : Array Value) : (Cond.methodLink "BigRunner$Program" 64 ⟨"BigRunner$Program", "findInterval", "(LBigRunner$Node;)V"⟩).before args U = true := h.w 613 (by decide +kernel) rfl args
theorem wd_615 {U : State} (h : TB U) (args : Array Value) : (Cond.instanceMethod ⟨"BigRunner$Program", "findInterval", "(LBigRunner$Node;)V"⟩).before args U = true := h.w 615 (by decide +kernel) rfl args
theorem wd_616 {U : State} (h : TB U) (args : Array Value) : (Cond.code ⟨"BigRunner$Program", "findInterval", "(LBigRunner$Node;)V"⟩ prog_7_method_5_code 3 none).before args U = true := h.w 616 (by decide +kernel) rfl args
theorem wd_617 {U : State} (h : TB U) (args : Array Value) : (Cond.methodLink "BigRunner$Program" 101 ⟨"BigRunner$Interval", "setNegation", "(LBigRunner$Interval;)V"⟩).before args U = true := h.w 617 (by decide +kernel) rfl args
theorem wd_618 {U : State} (h : TB U) (args : Array Value) : (Cond.instanceMethod ⟨"BigRunner$Interval", "setNegation", "(LBigRunner$Interval;)V"⟩).before args U = true := h.w 618 (by decide +kernel) rfl args
theorem wd_619 {U : State} (h : TB U) (args : Array Value) : (Cond.selects "BigRunner$Interval" ⟨"BigRunner$Interval", "setNegation", "(LBigRunner$Interval;)V"⟩ ⟨"BigRunner$Interval", "setNegation", "(LBigRunner$Interval;)V"⟩).before args U = true := h.w 619 (by decide +kernel) rfl args
theorem wd_620 {U : State} (h : TB U) (args : Array Value) : (Cond.code ⟨"BigRunner$Interval", "setNegation", "(LBigRunner$Interval;)V"⟩ prog_3_method_6_code 2 none).before args U = true := h.w 620 (by decide +kernel) rfl args
theorem wd_622 {U : State} (h : TB U) (args : Array Value) : (Cond.methodLink "BigRunner$Program" 108 ⟨"BigRunner$Interval", "setSum", "(LBigRunner$Interval;LBigRunner$Interval;)V"⟩).before args U = true := h.w 622 (by decide +kernel) rfl args
theorem wd_623 {U : State} (h : TB U) (args : Array Value) : (Cond.instanceMethod ⟨"BigRunner$Interval", "setSum", "(LBigRunner$Interval;LBigRunner$Interval;)V"⟩).before args U = true := h.w 623 (by decide +kernel) rfl args
theorem wd_624 {U : State} (h : TB U) (args : Array Value) : (Cond.selects "BigRunner$Interval" ⟨"BigRunner$Interval", "setSum", "(LBigRunner$Interval;LBigRunner$Interval;)V"⟩ ⟨"BigRunner$Interval", "setSum", "(LBigRunner$Interval;LBigRunner$Interval;)V"⟩).before args U = true := h.w 624 (by decide +kernel) rfl args
theorem wd_625 {U : State} (h : TB U) (args : Array Value) : (Cond.code ⟨"BigRunner$Interval", "setSum", "(LBigRunner$Interval;LBigRunner$Interval;)V"⟩ prog_3_method_7_code 3 none).before args U = true := h.w 625 (by decide +kernel) rfl args
theorem wd_630 {U : State} (h : TB U) (args : Array Value) : (Cond.methodLink "BigRunner$Program" 112 ⟨"BigRunner$Interval", "setDifference", "(LBigRunner$Interval;LBigRunner$Interval;)V"⟩).before args U = true := h.w 630 (by decide +kernel) rfl args
theorem wd_631 {U : State} (h : TB U) (args : Array Value) : (Cond.instanceMethod ⟨"BigRunner$Interval", "setDifference", "(LBigRunner$Interval;LBigRunner$Interval;)V"⟩).before args U = true := h.w 631 (by decide +kernel) rfl args
theorem wd_632 {U : State} (h : TB U) (args : Array Value) : (Cond.selects "BigRunner$Interval" ⟨"BigRunner$Interval", "setDifference", "(LBigRunner$Interval;LBigRunner$Interval;)V"⟩ ⟨"BigRunner$Interval", "setDifference", "(LBigRunner$Interval;LBigRunner$Interval;)V"⟩).before args U = true := h.w 632 (by decide +kernel) rfl args
theorem wd_633 {U : State} (h : TB U) (args : Array Value) : (Cond.code ⟨"BigRunner$Interval", "setDifference", "(LBigRunner$Interval;LBigRunner$Interval;)V"⟩ prog_3_method_8_code 3 none).before args U = true := h.w 633 (by decide +kernel) rfl args
theorem wd_634 {U : State} (h : TB U) (args : Array Value) : (Cond.methodLink "BigRunner$Program" 115 ⟨"BigRunner$Interval", "setProduct", "(LBigRunner$Interval;LBigRunner$Interval;)V"⟩).before args U = true := h.w 634 (by decide +kernel) rfl args
theorem wd_635 {U : State} (h : TB U) (args : Array Value) : (Cond.instanceMethod ⟨"BigRunner$Interval", "setProduct", "(LBigRunner$Interval;LBigRunner$Interval;)V"⟩).before args U = true := h.w 635 (by decide +kernel) rfl args
theorem wd_636 {U : State} (h : TB U) (args : Array Value) : (Cond.selects "BigRunner$Interval" ⟨"BigRunner$Interval", "setProduct", "(LBigRunner$Interval;LBigRunner$Interval;)V"⟩ ⟨"BigRunner$Interval", "setProduct", "(LBigRunner$Interval;LBigRunner$Interval;)V"⟩).before args U = true := h.w 636 (by decide +kernel) rfl args
theorem wd_637 {U : State} (h : TB U) (args : Array Value) : (Cond.code ⟨"BigRunner$Interval", "setProduct", "(LBigRunner$Interval;LBigRunner$Interval;)V"⟩ prog_3_method_9_code 11 none).before args U = true := h.w 637 (by decide +kernel) rfl args
theorem wd_656 {U : State} (h : TB U) (args : Array Value) : (Cond.methodLink "BigRunner$Program" 118 ⟨"BigRunner$Interval", "setQuotient", "(LBigRunner$Interval;)V"⟩).before args U = true := h.w 656 (by decide +kernel) rfl args
theorem wd_657 {U : State} (h : TB U) (args : Array Value) : (Cond.instanceMethod ⟨"BigRunner$Interval", "setQuotient", "(LBigRunner$Interval;)V"⟩).before args U = true := h.w 657 (by decide +kernel) rfl args
theorem wd_658 {U : State} (h : TB U) (args : Array Value) : (Cond.selects "BigRunner$Interval" ⟨"BigRunner$Interval", "setQuotient", "(LBigRunner$Interval;)V"⟩ ⟨"BigRunner$Interval", "setQuotient", "(LBigRunner$Interval;)V"⟩).before args U = true := h.w 658 (by decide +kernel) rfl args
theorem wd_659 {U : State} (h : TB U) (args : Array Value) : (Cond.code ⟨"BigRunner$Interval", "setQuotient", "(LBigRunner$Interval;)V"⟩ prog_3_method_10_code 4 none).before args U = true := h.w 659 (by decide +kernel) rfl args
theorem wd_664 {U : State} (h : TB U) (args : Array Value) : (Cond.methodLink "BigRunner$Program" 121 ⟨"BigRunner$Interval", "setRest", "(LBigRunner$Interval;LBigRunner$Interval;)V"⟩).before args U = true := h.w 664 (by decide +kernel) rfl args
theorem wd_665 {U : State} (h : TB U) (args : Array Value) : (Cond.instanceMethod ⟨"BigRunner$Interval", "setRest", "(LBigRunner$Interval;LBigRunner$Interval;)V"⟩).before args U = true := h.w 665 (by decide +kernel) rfl args
theorem wd_666 {U : State} (h : TB U) (args : Array Value) : (Cond.selects "BigRunner$Interval" ⟨"BigRunner$Interval", "setRest", "(LBigRunner$Interval;LBigRunner$Interval;)V"⟩ ⟨"BigRunner$Interval", "setRest", "(LBigRunner$Interval;LBigRunner$Interval;)V"⟩).before args U = true := h.w 666 (by decide +kernel) rfl args
theorem wd_667 {U : State} (h : TB U) (args : Array Value) : (Cond.code ⟨"BigRunner$Interval", "setRest", "(LBigRunner$Interval;LBigRunner$Interval;)V"⟩ prog_3_method_11_code 5 none).before args U = true := h.w 667 (by decide +kernel) rfl args
theorem wd_668 {U : State} (h : TB U) (args : Array Value) : (Cond.methodLink "BigRunner$Program" 68 ⟨"BigRunner$Program", "judge", "(LBigRunner$Node;)V"⟩).before args U = true := h.w 668 (by decide +kernel) rfl args
theorem wd_670 {U : State} (h : TB U) (args : Array Value) : (Cond.instanceMethod ⟨"BigRunner$Program", "judge", "(LBigRunner$Node;)V"⟩).before args U = true := h.w 670 (by decide +kernel) rfl args
theorem wd_671 {U : State} (h : TB U) (args : Array Value) : (Cond.code ⟨"BigRunner$Program", "judge", "(LBigRunner$Node;)V"⟩ prog_7_method_6_code 3 none).before args U = true := h.w 671 (by decide +kernel) rfl args
theorem wd_672 {U : State} (h : TB U) (args : Array Value) : (Cond.methodLink "BigRunner$Program" 128 ⟨"BigRunner$Interval", "isBounded", "()Z"⟩).before args U = true := h.w 672 (by decide +kernel) rfl args
theorem d_NProgram_findInterval_0 : decode prog_7_method_5_code 0 = .ok (.aload_n 1, 1) := by decide +kernel
theorem d_NProgram_findInterval_1 : decode prog_7_method_5_code 1 = .ok (.getfield 91, 3) := by decide +kernel
theorem d_NProgram_findInterval_4 : decode prog_7_method_5_code 4 = .ok (.astore_n 2, 1) := by decide +kernel
theorem d_NProgram_findInterval_5 : decode prog_7_method_5_code 5 = .ok (.aload_n 1, 1) := by decide +kernel
theorem d_NProgram_findInterval_6 : decode prog_7_method_5_code 6 = .ok (.getfield 94, 3) := by decide +kernel
theorem d_NProgram_findInterval_9 : decode prog_7_method_5_code 9 = .ok (.tableswitch 220 0 6 #[43, 58, 89, 108, 139, 170, 201], 43) := by decide +kernel
theorem d_NProgram_findInterval_52 : decode prog_7_method_5_code 52 = .ok (.aload_n 2, 1) := by decide +kernel
theorem d_NProgram_findInterval_53 : decode prog_7_method_5_code 53 = .ok (.aload_n 1, 1) := by decide +kernel
theorem d_NProgram_findInterval_54 : decode prog_7_method_5_code 54 = .ok (.getfield 95, 3) := by decide +kernel
theorem d_NProgram_findInterval_57 : decode prog_7_method_5_code 57 = .ok (.aload_n 1, 1) := by decide +kernel
theorem d_NProgram_findInterval_58 : decode prog_7_method_5_code 58 = .ok (.getfield 95, 3) := by decide +kernel
theorem d_NProgram_findInterval_61 : decode prog_7_method_5_code 61 = .ok (.invokevirtual 56, 3) := by decide +kernel
theorem d_NProgram_findInterval_64 : decode prog_7_method_5_code 64 = .ok (.goto 193, 3) := by decide +kernel
theorem d_NProgram_findInterval_67 : decode prog_7_method_5_code 67 = .ok (.aload_n 2, 1) := by decide +kernel
theorem d_NProgram_findInterval_68 : decode prog_7_method_5_code 68 = .ok (.aload_n 0, 1) := by decide +kernel
theorem d_NProgram_findInterval_69 : decode prog_7_method_5_code 69 = .ok (.getfield 32, 3) := by decide +kernel
theorem d_NProgram_findInterval_72 : decode prog_7_method_5_code 72 = .ok (.aload_n 1, 1) := by decide +kernel
theorem d_NProgram_findInterval_73 : decode prog_7_method_5_code 73 = .ok (.getfield 98, 3) := by decide +kernel
theorem d_NProgram_findInterval_76 : decode prog_7_method_5_code 76 = .ok (.aaload, 1) := by decide +kernel
theorem d_NProgram_findInterval_77 : decode prog_7_method_5_code 77 = .ok (.getfield 47, 3) := by decide +kernel
theorem d_NProgram_findInterval_80 : decode prog_7_method_5_code 80 = .ok (.aload_n 0, 1) := by decide +kernel
theorem d_NProgram_findInterval_81 : decode prog_7_method_5_code 81 = .ok (.getfield 32, 3) := by decide +kernel
theorem d_NProgram_findInterval_84 : decode prog_7_method_5_code 84 = .ok (.aload_n 1, 1) := by decide +kernel
theorem d_NProgram_findInterval_85 : decode prog_7_method_5_code 85 = .ok (.getfield 98, 3) := by decide +kernel
theorem d_NProgram_findInterval_88 : decode prog_7_method_5_code 88 = .ok (.aaload, 1) := by decide +kernel
theorem d_NProgram_findInterval_89 : decode prog_7_method_5_code 89 = .ok (.getfield 53, 3) := by decide +kernel
theorem d_NProgram_findInterval_92 : decode prog_7_method_5_code 92 = .ok (.invokevirtual 56, 3) := by decide +kernel
theorem d_NProgram_findInterval_95 : decode prog_7_method_5_code 95 = .ok (.goto 162, 3) := by decide +kernel
theorem d_NProgram_findInterval_98 : decode prog_7_method_5_code 98 = .ok (.aload_n 2, 1) := by decide +kernel
theorem d_NProgram_findInterval_99 : decode prog_7_method_5_code 99 = .ok (.aload_n 0, 1) := by decide +kernel
theorem d_NProgram_findInterval_100 : decode prog_7_method_5_code 100 = .ok (.getfield 23, 3) := by decide +kernel
theorem d_NProgram_findInterval_103 : decode prog_7_method_5_code 103 = .ok (.aload_n 1, 1) := by decide +kernel
theorem d_NProgram_findInterval_104 : decode prog_7_method_5_code 104 = .ok (.getfield 98, 3) := by decide +kernel
theorem d_NProgram_findInterval_107 : decode prog_7_method_5_code 107 = .ok (.aaload, 1) := by decide +kernel
theorem d_NProgram_findInterval_108 : decode prog_7_method_5_code 108 = .ok (.getfield 91, 3) := by decide +kernel
theorem d_NProgram_findInterval_111 : decode prog_7_method_5_code 111 = .ok (.invokevirtual 101, 3) := by decide +kernel
theorem d_NProgram_findInterval_114 : decode prog_7_method_5_code 114 = .ok (.goto 143, 3) := by decide +kernel
theorem d_NProgram_findInterval_117 : decode prog_7_method_5_code 117 = .ok (.aload_n 2, 1) := by decide +kernel
theorem d_NProgram_findInterval_118 : decode prog_7_method_5_code 118 = .ok (.aload_n 0, 1) := by decide +kernel
theorem d_NProgram_findInterval_119 : decode prog_7_method_5_code 119 = .ok (.getfield 23, 3) := by decide +kernel
theorem d_NProgram_findInterval_122 : decode prog_7_method_5_code 122 = .ok (.aload_n 1, 1) := by decide +kernel
theorem d_NProgram_findInterval_123 : decode prog_7_method_5_code 123 = .ok (.getfield 98, 3) := by decide +kernel
theorem d_NProgram_findInterval_126 : decode prog_7_method_5_code 126 = .ok (.aaload, 1) := by decide +kernel
theorem d_NProgram_findInterval_127 : decode prog_7_method_5_code 127 = .ok (.getfield 91, 3) := by decide +kernel
theorem d_NProgram_findInterval_130 : decode prog_7_method_5_code 130 = .ok (.aload_n 0, 1) := by decide +kernel
theorem d_NProgram_findInterval_131 : decode prog_7_method_5_code 131 = .ok (.getfield 23, 3) := by decide +kernel
theorem d_NProgram_findInterval_134 : decode prog_7_method_5_code 134 = .ok (.aload_n 1, 1) := by decide +kernel
theorem d_NProgram_findInterval_135 : decode prog_7_method_5_code 135 = .ok (.getfield 105, 3) := by decide +kernel
theorem d_NProgram_findInterval_138 : decode prog_7_method_5_code 138 = .ok (.aaload, 1) := by decide +kernel
theorem d_NProgram_findInterval_139 : decode prog_7_method_5_code 139 = .ok (.getfield 91, 3) := by decide +kernel
theorem d_NProgram_findInterval_142 : decode prog_7_method_5_code 142 = .ok (.invokevirtual 108, 3) := by decide +kernel
theorem d_NProgram_findInterval_145 : decode prog_7_method_5_code 145 = .ok (.goto 112, 3) := by decide +kernel
theorem d_NProgram_findInterval_148 : decode prog_7_method_5_code 148 = .ok (.aload_n 2, 1) := by decide +kernel
theorem d_NProgram_findInterval_149 : decode prog_7_method_5_code 149 = .ok (.aload_n 0, 1) := by decide +kernel
theorem d_NProgram_findInterval_150 : decode prog_7_method_5_code 150 = .ok (.getfield 23, 3) := by decide +kernel
theorem d_NProgram_findInterval_153 : decode prog_7_method_5_code 153 = .ok (.aload_n 1, 1) := by decide +kernel
theorem d_NProgram_findInterval_154 : decode prog_7_method_5_code 154 = .ok (.getfield 98, 3) := by decide +kernel
theorem d_NProgram_findInterval_157 : decode prog_7_method_5_code 157 = .ok (.aaload, 1) := by decide +kernel
theorem d_NProgram_findInterval_158 : decode prog_7_method_5_code 158 = .ok (.getfield 91, 3) := by decide +kernel
theorem d_NProgram_findInterval_161 : decode prog_7_method_5_code 161 = .ok (.aload_n 0, 1) := by decide +kernel
theorem d_NProgram_findInterval_162 : decode prog_7_method_5_code 162 = .ok (.getfield 23, 3) := by decide +kernel
theorem d_NProgram_findInterval_165 : decode prog_7_method_5_code 165 = .ok (.aload_n 1, 1) := by decide +kernel
theorem d_NProgram_findInterval_166 : decode prog_7_method_5_code 166 = .ok (.getfield 105, 3) := by decide +kernel
theorem d_NProgram_findInterval_169 : decode prog_7_method_5_code 169 = .ok (.aaload, 1) := by decide +kernel
theorem d_NProgram_findInterval_170 : decode prog_7_method_5_code 170 = .ok (.getfield 91, 3) := by decide +kernel
theorem d_NProgram_findInterval_173 : decode prog_7_method_5_code 173 = .ok (.invokevirtual 112, 3) := by decide +kernel
theorem d_NProgram_findInterval_176 : decode prog_7_method_5_code 176 = .ok (.goto 81, 3) := by decide +kernel
theorem d_NProgram_findInterval_179 : decode prog_7_method_5_code 179 = .ok (.aload_n 2, 1) := by decide +kernel
theorem d_NProgram_findInterval_180 : decode prog_7_method_5_code 180 = .ok (.aload_n 0, 1) := by decide +kernel
theorem d_NProgram_findInterval_181 : decode prog_7_method_5_code 181 = .ok (.getfield 23, 3) := by decide +kernel
theorem d_NProgram_findInterval_184 : decode prog_7_method_5_code 184 = .ok (.aload_n 1, 1) := by decide +kernel
theorem d_NProgram_findInterval_185 : decode prog_7_method_5_code 185 = .ok (.getfield 98, 3) := by decide +kernel
theorem d_NProgram_findInterval_188 : decode prog_7_method_5_code 188 = .ok (.aaload, 1) := by decide +kernel
theorem d_NProgram_findInterval_189 : decode prog_7_method_5_code 189 = .ok (.getfield 91, 3) := by decide +kernel
theorem d_NProgram_findInterval_192 : decode prog_7_method_5_code 192 = .ok (.aload_n 0, 1) := by decide +kernel
theorem d_NProgram_findInterval_193 : decode prog_7_method_5_code 193 = .ok (.getfield 23, 3) := by decide +kernel
theorem d_NProgram_findInterval_196 : decode prog_7_method_5_code 196 = .ok (.aload_n 1, 1) := by decide +kernel
theorem d_NProgram_findInterval_197 : decode prog_7_method_5_code 197 = .ok (.getfield 105, 3) := by decide +kernel
theorem d_NProgram_findInterval_200 : decode prog_7_method_5_code 200 = .ok (.aaload, 1) := by decide +kernel
theorem d_NProgram_findInterval_201 : decode prog_7_method_5_code 201 = .ok (.getfield 91, 3) := by decide +kernel
theorem d_NProgram_findInterval_204 : decode prog_7_method_5_code 204 = .ok (.invokevirtual 115, 3) := by decide +kernel
theorem d_NProgram_findInterval_207 : decode prog_7_method_5_code 207 = .ok (.goto 50, 3) := by decide +kernel
theorem d_NProgram_findInterval_210 : decode prog_7_method_5_code 210 = .ok (.aload_n 2, 1) := by decide +kernel
theorem d_NProgram_findInterval_211 : decode prog_7_method_5_code 211 = .ok (.aload_n 0, 1) := by decide +kernel
theorem d_NProgram_findInterval_212 : decode prog_7_method_5_code 212 = .ok (.getfield 23, 3) := by decide +kernel
theorem d_NProgram_findInterval_215 : decode prog_7_method_5_code 215 = .ok (.aload_n 1, 1) := by decide +kernel
theorem d_NProgram_findInterval_216 : decode prog_7_method_5_code 216 = .ok (.getfield 98, 3) := by decide +kernel
theorem d_NProgram_findInterval_219 : decode prog_7_method_5_code 219 = .ok (.aaload, 1) := by decide +kernel
theorem d_NProgram_findInterval_220 : decode prog_7_method_5_code 220 = .ok (.getfield 91, 3) := by decide +kernel
theorem d_NProgram_findInterval_223 : decode prog_7_method_5_code 223 = .ok (.invokevirtual 118, 3) := by decide +kernel
theorem d_NProgram_findInterval_226 : decode prog_7_method_5_code 226 = .ok (.goto 31, 3) := by decide +kernel
theorem d_NProgram_findInterval_229 : decode prog_7_method_5_code 229 = .ok (.aload_n 2, 1) := by decide +kernel
theorem d_NProgram_findInterval_230 : decode prog_7_method_5_code 230 = .ok (.aload_n 0, 1) := by decide +kernel
theorem d_NProgram_findInterval_231 : decode prog_7_method_5_code 231 = .ok (.getfield 23, 3) := by decide +kernel
theorem d_NProgram_findInterval_234 : decode prog_7_method_5_code 234 = .ok (.aload_n 1, 1) := by decide +kernel
theorem d_NProgram_findInterval_235 : decode prog_7_method_5_code 235 = .ok (.getfield 98, 3) := by decide +kernel
theorem d_NProgram_findInterval_238 : decode prog_7_method_5_code 238 = .ok (.aaload, 1) := by decide +kernel
theorem d_NProgram_findInterval_239 : decode prog_7_method_5_code 239 = .ok (.getfield 91, 3) := by decide +kernel
theorem d_NProgram_findInterval_242 : decode prog_7_method_5_code 242 = .ok (.aload_n 0, 1) := by decide +kernel
theorem d_NProgram_findInterval_243 : decode prog_7_method_5_code 243 = .ok (.getfield 23, 3) := by decide +kernel
theorem d_NProgram_findInterval_246 : decode prog_7_method_5_code 246 = .ok (.aload_n 1, 1) := by decide +kernel
theorem d_NProgram_findInterval_247 : decode prog_7_method_5_code 247 = .ok (.getfield 105, 3) := by decide +kernel
theorem d_NProgram_findInterval_250 : decode prog_7_method_5_code 250 = .ok (.aaload, 1) := by decide +kernel
theorem d_NProgram_findInterval_251 : decode prog_7_method_5_code 251 = .ok (.getfield 91, 3) := by decide +kernel
theorem d_NProgram_findInterval_254 : decode prog_7_method_5_code 254 = .ok (.invokevirtual 121, 3) := by decide +kernel
theorem d_NProgram_findInterval_257 : decode prog_7_method_5_code 257 = .ok (.return_, 1) := by decide +kernel
theorem d_NProgram_findIntervals_0 : decode prog_7_method_2_code 0 = .ok (.iconst 0, 1) := by decide +kernel
theorem d_NProgram_findIntervals_1 : decode prog_7_method_2_code 1 = .ok (.istore_n 1, 1) := by decide +kernel
theorem d_NProgram_findIntervals_2 : decode prog_7_method_2_code 2 = .ok (.iload_n 1, 1) := by decide +kernel
theorem d_NProgram_findIntervals_3 : decode prog_7_method_2_code 3 = .ok (.bipush 10, 2) := by decide +kernel
theorem d_NProgram_findIntervals_5 : decode prog_7_method_2_code 5 = .ok (.if_icmp .ge 20, 3) := by decide +kernel
theorem d_NProgram_findIntervals_8 : decode prog_7_method_2_code 8 = .ok (.aload_n 0, 1) := by decide +kernel
theorem d_NProgram_findIntervals_9 : decode prog_7_method_2_code 9 = .ok (.getfield 32, 3) := by decide +kernel
theorem d_NProgram_findIntervals_12 : decode prog_7_method_2_code 12 = .ok (.iload_n 1, 1) := by decide +kernel
theorem d_NProgram_findIntervals_13 : decode prog_7_method_2_code 13 = .ok (.aaload, 1) := by decide +kernel
theorem d_NProgram_findIntervals_14 : decode prog_7_method_2_code 14 = .ok (.lconst 0, 1) := by decide +kernel
theorem d_NProgram_findIntervals_15 : decode prog_7_method_2_code 15 = .ok (.lconst 0, 1) := by decide +kernel
theorem d_NProgram_findIntervals_16 : decode prog_7_method_2_code 16 = .ok (.invokevirtual 56, 3) := by decide +kernel
theorem d_NProgram_findIntervals_19 : decode prog_7_method_2_code 19 = .ok (.iinc 1 1, 3) := by decide +kernel
theorem d_NProgram_findIntervals_22 : decode prog_7_method_2_code 22 = .ok (.goto (-20), 3) := by decide +kernel
theorem d_NProgram_findIntervals_25 : decode prog_7_method_2_code 25 = .ok (.iconst 1, 1) := by decide +kernel
theorem d_NProgram_findIntervals_26 : decode prog_7_method_2_code 26 = .ok (.istore_n 1, 1) := by decide +kernel
theorem d_NProgram_findIntervals_27 : decode prog_7_method_2_code 27 = .ok (.iload_n 1, 1) := by decide +kernel
theorem d_NProgram_findIntervals_28 : decode prog_7_method_2_code 28 = .ok (.bipush 24, 2) := by decide +kernel
theorem d_NProgram_findIntervals_30 : decode prog_7_method_2_code 30 = .ok (.if_icmp .ge 26, 3) := by decide +kernel
theorem d_NProgram_findIntervals_33 : decode prog_7_method_2_code 33 = .ok (.aload_n 0, 1) := by decide +kernel
theorem d_NProgram_findIntervals_34 : decode prog_7_method_2_code 34 = .ok (.iload_n 1, 1) := by decide +kernel
theorem d_NProgram_findIntervals_35 : decode prog_7_method_2_code 35 = .ok (.iconst 4, 1) := by decide +kernel
theorem d_NProgram_findIntervals_36 : decode prog_7_method_2_code 36 = .ok (.if_icmp .lt 7, 3) := by decide +kernel
theorem d_NProgram_findIntervals_39 : decode prog_7_method_2_code 39 = .ok (.iconst 1, 1) := by decide +kernel
theorem d_NProgram_findIntervals_40 : decode prog_7_method_2_code 40 = .ok (.goto 4, 3) := by decide +kernel
theorem d_NProgram_findIntervals_43 : decode prog_7_method_2_code 43 = .ok (.iconst 0, 1) := by decide +kernel
theorem d_NProgram_findIntervals_44 : decode prog_7_method_2_code 44 = .ok (.invokevirtual 60, 3) := by decide +kernel
theorem d_NProgram_findIntervals_47 : decode prog_7_method_2_code 47 = .ok (.ifCond .eq 9, 3) := by decide +kernel
theorem d_NProgram_findIntervals_50 : decode prog_7_method_2_code 50 = .ok (.iinc 1 1, 3) := by decide +kernel
theorem d_NProgram_findIntervals_53 : decode prog_7_method_2_code 53 = .ok (.goto (-26), 3) := by decide +kernel
theorem d_NProgram_findIntervals_56 : decode prog_7_method_2_code 56 = .ok (.iconst 0, 1) := by decide +kernel
theorem d_NProgram_findIntervals_57 : decode prog_7_method_2_code 57 = .ok (.istore_n 2, 1) := by decide +kernel
theorem d_NProgram_findIntervals_58 : decode prog_7_method_2_code 58 = .ok (.iload_n 2, 1) := by decide +kernel
theorem d_NProgram_findIntervals_59 : decode prog_7_method_2_code 59 = .ok (.aload_n 0, 1) := by decide +kernel
theorem d_NProgram_findIntervals_60 : decode prog_7_method_2_code 60 = .ok (.getfield 27, 3) := by decide +kernel
theorem d_NProgram_findIntervals_63 : decode prog_7_method_2_code 63 = .ok (.if_icmp .ge 29, 3) := by decide +kernel
theorem d_NProgram_findIntervals_66 : decode prog_7_method_2_code 66 = .ok (.aload_n 0, 1) := by decide +kernel
theorem d_NProgram_findIntervals_67 : decode prog_7_method_2_code 67 = .ok (.aload_n 0, 1) := by decide +kernel
theorem d_NProgram_findIntervals_68 : decode prog_7_method_2_code 68 = .ok (.getfield 23, 3) := by decide +kernel
theorem d_NProgram_findIntervals_71 : decode prog_7_method_2_code 71 = .ok (.iload_n 2, 1) := by decide +kernel
theorem d_NProgram_findIntervals_72 : decode prog_7_method_2_code 72 = .ok (.aaload, 1) := by decide +kernel
theorem d_NProgram_findIntervals_73 : decode prog_7_method_2_code 73 = .ok (.invokevirtual 64, 3) := by decide +kernel
theorem d_NProgram_findIntervals_76 : decode prog_7_method_2_code 76 = .ok (.aload_n 0, 1) := by decide +kernel
theorem d_NProgram_findIntervals_77 : decode prog_7_method_2_code 77 = .ok (.aload_n 0, 1) := by decide +kernel
theorem d_NProgram_findIntervals_78 : decode prog_7_method_2_code 78 = .ok (.getfield 23, 3) := by decide +kernel
theorem d_NProgram_findIntervals_81 : decode prog_7_method_2_code 81 = .ok (.iload_n 2, 1) := by decide +kernel
theorem d_NProgram_findIntervals_82 : decode prog_7_method_2_code 82 = .ok (.aaload, 1) := by decide +kernel
theorem d_NProgram_findIntervals_83 : decode prog_7_method_2_code 83 = .ok (.invokevirtual 68, 3) := by decide +kernel
theorem d_NProgram_findIntervals_86 : decode prog_7_method_2_code 86 = .ok (.iinc 2 1, 3) := by decide +kernel
theorem d_NProgram_findIntervals_89 : decode prog_7_method_2_code 89 = .ok (.goto (-31), 3) := by decide +kernel
theorem d_NProgram_findIntervals_92 : decode prog_7_method_2_code 92 = .ok (.iload_n 1, 1) := by decide +kernel
theorem d_NProgram_findIntervals_93 : decode prog_7_method_2_code 93 = .ok (.ireturn, 1) := by decide +kernel
theorem d_NProgram_intervalOfExpr_0 : decode prog_7_method_4_code 0 = .ok (.aload_n 1, 1) := by decide +kernel
theorem d_NProgram_intervalOfExpr_1 : decode prog_7_method_4_code 1 = .ok (.getfield 85, 3) := by decide +kernel
theorem d_NProgram_intervalOfExpr_4 : decode prog_7_method_4_code 4 = .ok (.istore_n 2, 1) := by decide +kernel
theorem d_NProgram_intervalOfExpr_5 : decode prog_7_method_4_code 5 = .ok (.iload_n 2, 1) := by decide +kernel
theorem d_NProgram_intervalOfExpr_6 : decode prog_7_method_4_code 6 = .ok (.aload_n 1, 1) := by decide +kernel
theorem d_NProgram_intervalOfExpr_7 : decode prog_7_method_4_code 7 = .ok (.getfield 88, 3) := by decide +kernel
theorem d_NProgram_intervalOfExpr_10 : decode prog_7_method_4_code 10 = .ok (.if_icmp .gt 19, 3) := by decide +kernel
theorem d_NProgram_intervalOfExpr_13 : decode prog_7_method_4_code 13 = .ok (.aload_n 0, 1) := by decide +kernel
theorem d_NProgram_intervalOfExpr_14 : decode prog_7_method_4_code 14 = .ok (.aload_n 0, 1) := by decide +kernel
theorem d_NProgram_intervalOfExpr_15 : decode prog_7_method_4_code 15 = .ok (.getfield 23, 3) := by decide +kernel
theorem d_NProgram_intervalOfExpr_18 : decode prog_7_method_4_code 18 = .ok (.iload_n 2, 1) := by decide +kernel
theorem d_NProgram_intervalOfExpr_19 : decode prog_7_method_4_code 19 = .ok (.aaload, 1) := by decide +kernel
theorem d_NProgram_intervalOfExpr_20 : decode prog_7_method_4_code 20 = .ok (.invokevirtual 64, 3) := by decide +kernel
theorem d_NProgram_intervalOfExpr_23 : decode prog_7_method_4_code 23 = .ok (.iinc 2 1, 3) := by decide +kernel
theorem d_NProgram_intervalOfExpr_26 : decode prog_7_method_4_code 26 = .ok (.goto (-21), 3) := by decide +kernel
theorem d_NProgram_intervalOfExpr_29 : decode prog_7_method_4_code 29 = .ok (.aload_n 0, 1) := by decide +kernel
theorem d_NProgram_intervalOfExpr_30 : decode prog_7_method_4_code 30 = .ok (.getfield 23, 3) := by decide +kernel
theorem d_NProgram_intervalOfExpr_33 : decode prog_7_method_4_code 33 = .ok (.aload_n 1, 1) := by decide +kernel
theorem d_NProgram_intervalOfExpr_34 : decode prog_7_method_4_code 34 = .ok (.getfield 88, 3) := by decide +kernel
theorem d_NProgram_intervalOfExpr_37 : decode prog_7_method_4_code 37 = .ok (.aaload, 1) := by decide +kernel
theorem d_NProgram_intervalOfExpr_38 : decode prog_7_method_4_code 38 = .ok (.getfield 91, 3) := by decide +kernel
theorem d_NProgram_intervalOfExpr_41 : decode prog_7_method_4_code 41 = .ok (.areturn, 1) := by decide +kernel
theorem d_NProgram_judge_0 : decode prog_7_method_6_code 0 = .ok (.iconst 1, 1) := by decide +kernel
theorem d_NProgram_judge_1 : decode prog_7_method_6_code 1 = .ok (.istore_n 2, 1) := by decide +kernel
theorem d_NProgram_judge_2 : decode prog_7_method_6_code 2 = .ok (.aload_n 1, 1) := by decide +kernel
theorem d_NProgram_judge_3 : decode prog_7_method_6_code 3 = .ok (.getfield 94, 3) := by decide +kernel
theorem d_NProgram_judge_6 : decode prog_7_method_6_code 6 = .ok (.iconst 2, 1) := by decide +kernel
theorem d_NProgram_judge_7 : decode prog_7_method_6_code 7 = .ok (.if_icmp .lt 39, 3) := by decide +kernel
theorem d_NProgram_judge_10 : decode prog_7_method_6_code 10 = .ok (.aload_n 0, 1) := by decide +kernel
theorem d_NProgram_judge_11 : decode prog_7_method_6_code 11 = .ok (.getfield 23, 3) := by decide +kernel
theorem d_NProgram_judge_14 : decode prog_7_method_6_code 14 = .ok (.aload_n 1, 1) := by decide +kernel
theorem d_NProgram_judge_15 : decode prog_7_method_6_code 15 = .ok (.getfield 98, 3) := by decide +kernel
theorem d_NProgram_judge_18 : decode prog_7_method_6_code 18 = .ok (.aaload, 1) := by decide +kernel
theorem d_NProgram_judge_19 : decode prog_7_method_6_code 19 = .ok (.getfield 124, 3) := by decide +kernel
theorem d_NProgram_judge_22 : decode prog_7_method_6_code 22 = .ok (.ifCond .eq 22, 3) := by decide +kernel
theorem d_NProgram_judge_25 : decode prog_7_method_6_code 25 = .ok (.aload_n 0, 1) := by decide +kernel
theorem d_NProgram_judge_26 : decode prog_7_method_6_code 26 = .ok (.getfield 23, 3) := by decide +kernel
theorem d_NProgram_judge_29 : decode prog_7_method_6_code 29 = .ok (.aload_n 1, 1) := by decide +kernel
theorem d_NProgram_judge_30 : decode prog_7_method_6_code 30 = .ok (.getfield 105, 3) := by decide +kernel
theorem d_NProgram_judge_33 : decode prog_7_method_6_code 33 = .ok (.aaload, 1) := by decide +kernel
theorem d_NProgram_judge_34 : decode prog_7_method_6_code 34 = .ok (.getfield 124, 3) := by decide +kernel
theorem d_NProgram_judge_37 : decode prog_7_method_6_code 37 = .ok (.ifCond .eq 7, 3) := by decide +kernel
theorem d_NProgram_judge_40 : decode prog_7_method_6_code 40 = .ok (.iconst 1, 1) := by decide +kernel
theorem d_NProgram_judge_41 : decode prog_7_method_6_code 41 = .ok (.goto 4, 3) := by decide +kernel
theorem d_NProgram_judge_44 : decode prog_7_method_6_code 44 = .ok (.iconst 0, 1) := by decide +kernel
theorem d_NProgram_judge_45 : decode prog_7_method_6_code 45 = .ok (.istore_n 2, 1) := by decide +kernel
theorem d_NProgram_judge_46 : decode prog_7_method_6_code 46 = .ok (.aload_n 1, 1) := by decide +kernel
theorem d_NProgram_judge_47 : decode prog_7_method_6_code 47 = .ok (.iload_n 2, 1) := by decide +kernel
theorem d_NProgram_judge_48 : decode prog_7_method_6_code 48 = .ok (.ifCond .eq 17, 3) := by decide +kernel
theorem d_NProgram_judge_51 : decode prog_7_method_6_code 51 = .ok (.aload_n 1, 1) := by decide +kernel
theorem d_NProgram_judge_52 : decode prog_7_method_6_code 52 = .ok (.getfield 91, 3) := by decide +kernel
theorem d_NProgram_judge_55 : decode prog_7_method_6_code 55 = .ok (.invokevirtual 128, 3) := by decide +kernel
theorem d_NProgram_judge_58 : decode prog_7_method_6_code 58 = .ok (.ifCond .eq 7, 3) := by decide +kernel
theorem d_NProgram_judge_61 : decode prog_7_method_6_code 61 = .ok (.iconst 1, 1) := by decide +kernel
theorem d_NProgram_judge_62 : decode prog_7_method_6_code 62 = .ok (.goto 4, 3) := by decide +kernel
theorem d_NProgram_judge_65 : decode prog_7_method_6_code 65 = .ok (.iconst 0, 1) := by decide +kernel
theorem d_NProgram_judge_66 : decode prog_7_method_6_code 66 = .ok (.putfield 124, 3) := by decide +kernel
theorem d_NProgram_judge_69 : decode prog_7_method_6_code 69 = .ok (.return_, 1) := by decide +kernel
theorem d_NProgram_makeRound_0 : decode prog_7_method_3_code 0 = .ok (.iconst 0, 1) := by decide +kernel
theorem d_NProgram_makeRound_1 : decode prog_7_method_3_code 1 = .ok (.istore_n 2, 1) := by decide +kernel
theorem d_NProgram_makeRound_2 : decode prog_7_method_3_code 2 = .ok (.iconst 0, 1) := by decide +kernel
theorem d_NProgram_makeRound_3 : decode prog_7_method_3_code 3 = .ok (.istore_n 3, 1) := by decide +kernel
theorem d_NProgram_makeRound_4 : decode prog_7_method_3_code 4 = .ok (.iload_n 3, 1) := by decide +kernel
theorem d_NProgram_makeRound_5 : decode prog_7_method_3_code 5 = .ok (.aload_n 0, 1) := by decide +kernel
theorem d_NProgram_makeRound_6 : decode prog_7_method_3_code 6 = .ok (.getfield 17, 3) := by decide +kernel
theorem d_NProgram_makeRound_9 : decode prog_7_method_3_code 9 = .ok (.if_icmp .ge 81, 3) := by decide +kernel
theorem d_NProgram_makeRound_12 : decode prog_7_method_3_code 12 = .ok (.aload_n 0, 1) := by decide +kernel
theorem d_NProgram_makeRound_13 : decode prog_7_method_3_code 13 = .ok (.getfield 13, 3) := by decide +kernel
theorem d_NProgram_makeRound_16 : decode prog_7_method_3_code 16 = .ok (.iload_n 3, 1) := by decide +kernel
theorem d_NProgram_makeRound_17 : decode prog_7_method_3_code 17 = .ok (.aaload, 1) := by decide +kernel
theorem d_NProgram_makeRound_18 : decode prog_7_method_3_code 18 = .ok (.astore 4, 2) := by decide +kernel
theorem d_NProgram_makeRound_20 : decode prog_7_method_3_code 20 = .ok (.aload 4, 2) := by decide +kernel
theorem d_NProgram_makeRound_22 : decode prog_7_method_3_code 22 = .ok (.getfield 71, 3) := by decide +kernel
theorem d_NProgram_makeRound_25 : decode prog_7_method_3_code 25 = .ok (.iconst 1, 1) := by decide +kernel
theorem d_NProgram_makeRound_26 : decode prog_7_method_3_code 26 = .ok (.if_icmp .ne 27, 3) := by decide +kernel
theorem d_NProgram_makeRound_29 : decode prog_7_method_3_code 29 = .ok (.iload_n 2, 1) := by decide +kernel
theorem d_NProgram_makeRound_30 : decode prog_7_method_3_code 30 = .ok (.aload_n 0, 1) := by decide +kernel
theorem d_NProgram_makeRound_31 : decode prog_7_method_3_code 31 = .ok (.getfield 32, 3) := by decide +kernel
theorem d_NProgram_makeRound_34 : decode prog_7_method_3_code 34 = .ok (.aload 4, 2) := by decide +kernel
theorem d_NProgram_makeRound_36 : decode prog_7_method_3_code 36 = .ok (.getfield 74, 3) := by decide +kernel
theorem d_NProgram_makeRound_39 : decode prog_7_method_3_code 39 = .ok (.aaload, 1) := by decide +kernel
theorem d_NProgram_makeRound_40 : decode prog_7_method_3_code 40 = .ok (.aload_n 0, 1) := by decide +kernel
theorem d_NProgram_makeRound_41 : decode prog_7_method_3_code 41 = .ok (.getfield 37, 3) := by decide +kernel
theorem d_NProgram_makeRound_44 : decode prog_7_method_3_code 44 = .ok (.iload_n 1, 1) := by decide +kernel
theorem d_NProgram_makeRound_45 : decode prog_7_method_3_code 45 = .ok (.invokevirtual 77, 3) := by decide +kernel
theorem d_NProgram_makeRound_48 : decode prog_7_method_3_code 48 = .ok (.ior, 1) := by decide +kernel
theorem d_NProgram_makeRound_49 : decode prog_7_method_3_code 49 = .ok (.istore_n 2, 1) := by decide +kernel
theorem d_NProgram_makeRound_50 : decode prog_7_method_3_code 50 = .ok (.goto 34, 3) := by decide +kernel
theorem d_NProgram_makeRound_53 : decode prog_7_method_3_code 53 = .ok (.aload 4, 2) := by decide +kernel
theorem d_NProgram_makeRound_55 : decode prog_7_method_3_code 55 = .ok (.getfield 71, 3) := by decide +kernel
theorem d_NProgram_makeRound_58 : decode prog_7_method_3_code 58 = .ok (.ifCond .ne 26, 3) := by decide +kernel
theorem d_NProgram_makeRound_61 : decode prog_7_method_3_code 61 = .ok (.iload_n 2, 1) := by decide +kernel
theorem d_NProgram_makeRound_62 : decode prog_7_method_3_code 62 = .ok (.aload_n 0, 1) := by decide +kernel
theorem d_NProgram_makeRound_63 : decode prog_7_method_3_code 63 = .ok (.getfield 32, 3) := by decide +kernel
theorem d_NProgram_makeRound_66 : decode prog_7_method_3_code 66 = .ok (.aload 4, 2) := by decide +kernel
theorem d_NProgram_makeRound_68 : decode prog_7_method_3_code 68 = .ok (.getfield 74, 3) := by decide +kernel
theorem d_NProgram_makeRound_71 : decode prog_7_method_3_code 71 = .ok (.aaload, 1) := by decide +kernel
theorem d_NProgram_makeRound_72 : decode prog_7_method_3_code 72 = .ok (.aload_n 0, 1) := by decide +kernel
theorem d_NProgram_makeRound_73 : decode prog_7_method_3_code 73 = .ok (.aload 4, 2) := by decide +kernel
theorem d_NProgram_makeRound_75 : decode prog_7_method_3_code 75 = .ok (.invokevirtual 81, 3) := by decide +kernel
theorem d_NProgram_makeRound_78 : decode prog_7_method_3_code 78 = .ok (.iload_n 1, 1) := by decide +kernel
theorem d_NProgram_makeRound_79 : decode prog_7_method_3_code 79 = .ok (.invokevirtual 77, 3) := by decide +kernel
theorem d_NProgram_makeRound_82 : decode prog_7_method_3_code 82 = .ok (.ior, 1) := by decide +kernel
theorem d_NProgram_makeRound_83 : decode prog_7_method_3_code 83 = .ok (.istore_n 2, 1) := by decide +kernel
theorem d_NProgram_makeRound_84 : decode prog_7_method_3_code 84 = .ok (.iinc 3 1, 3) := by decide +kernel
theorem d_NProgram_makeRound_87 : decode prog_7_method_3_code 87 = .ok (.goto (-83), 3) := by decide +kernel
theorem d_NProgram_makeRound_90 : decode prog_7_method_3_code 90 = .ok (.iload_n 2, 1) := by decide +kernel
theorem d_NProgram_makeRound_91 : decode prog_7_method_3_code 91 = .ok (.ireturn, 1) := by decide +kernel

