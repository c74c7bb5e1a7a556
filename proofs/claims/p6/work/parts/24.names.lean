theorem wd_24 {U : State} (h : TB U) (args : Array Value) : (Cond.selects "BigRunner$Runner" ⟨"BigRunner$Runner", "store", "(IJ)V"⟩ ⟨"BigRunner$Runner", "store", "(IJ)V"⟩).before args U = true := h.w 24 (by decide +kernel) rfl args
theorem wd_27 {U : State} (h : TB U) (args : Array Value) : (Cond.selects "BigRunner$Runner" ⟨"BigRunner$Runner", "fetch", "(LBigRunner$Node;)V"⟩ ⟨"BigRunner$Runner", "fetch", "(LBigRunner$Node;)V"⟩).before args U = true := h.w 27 (by decide +kernel) rfl args
theorem wd_28 {U : State} (h : TB U) (args : Array Value) : (Cond.selects "BigRunner$Runner" ⟨"BigRunner$Runner", "operate", "(LBigRunner$Node;)I"⟩ ⟨"BigRunner$Runner", "operate", "(LBigRunner$Node;)I"⟩).before args U = true := h.w 28 (by decide +kernel) rfl args
theorem wd_29 {U : State} (h : TB U) (args : Array Value) : (Cond.selects "BigRunner$Runner" ⟨"BigRunner$Runner", "operateLong", "(LBigRunner$Node;)I"⟩ ⟨"BigRunner$Runner", "operateLong", "(LBigRunner$Node;)I"⟩).before args U = true := h.w 29 (by decide +kernel) rfl args
theorem wd_77 {U : State} (h : TB U) (args : Array Value) : (Cond.initialized "BigRunner$Node").before args U = true := h.w 77 (by decide +kernel) rfl args
theorem wd_79 {U : State} (h : TB U) (args : Array Value) : (Cond.initialized "BigRunner$Runner").before args U = true := h.w 79 (by decide +kernel) rfl args
theorem wd_145 {U : State} (h : TB U) (args : Array Value) : (Cond.fieldLink "BigRunner$Runner" 84 "BigRunner$Statement" "kind" "I").before args U = true := h.w 145 (by decide +kernel) rfl args
theorem wd_154 {U : State} (h : TB U) (args : Array Value) : (Cond.fieldLink "BigRunner$Runner" 175 "BigRunner$Statement" "firstNode" "I").before args U = true := h.w 154 (by decide +kernel) rfl args
theorem wd_157 {U : State} (h : TB U) (args : Array Value) : (Cond.fieldLink "BigRunner$Runner" 133 "BigRunner$Statement" "lastNode" "I").before args U = true := h.w 157 (by decide +kernel) rfl args
theorem wd_189 {U : State} (h : TB U) (args : Array Value) : (Cond.fieldLink "BigRunner$Runner" 165 "BigRunner$LongNumber" "sign" "I").before args U = true := h.w 189 (by decide +kernel) rfl args
theorem wd_204 {U : State} (h : TB U) (args : Array Value) : (Cond.fieldLink "BigRunner$Runner" 178 "BigRunner$Node" "kind" "I").before args U = true := h.w 204 (by decide +kernel) rfl args
theorem wd_208 {U : State} (h : TB U) (args : Array Value) : (Cond.fieldLink "BigRunner$Runner" 189 "BigRunner$Node" "left" "I").before args U = true := h.w 208 (by decide +kernel) rfl args
theorem wd_212 {U : State} (h : TB U) (args : Array Value) : (Cond.fieldLink "BigRunner$Runner" 192 "BigRunner$Node" "right" "I").before args U = true := h.w 212 (by decide +kernel) rfl args
theorem wd_218 {U : State} (h : TB U) (args : Array Value) : (Cond.fieldLink "BigRunner$Runner" 152 "BigRunner$Node" "isSmall" "Z").before args U = true := h.w 218 (by decide +kernel) rfl args
theorem wd_221 {U : State} (h : TB U) (args : Array Value) : (Cond.fieldLink "BigRunner$Runner" 156 "BigRunner$Node" "machine" "J").before args U = true := h.w 221 (by decide +kernel) rfl args
theorem wd_224 {U : State} (h : TB U) (args : Array Value) : (Cond.fieldLink "BigRunner$Runner" 159 "BigRunner$Node" "wide" "LBigRunner$LongNumber;").before args U = true := h.w 224 (by decide +kernel) rfl args
theorem wd_243 {U : State} (h : TB U) (args : Array Value) : (Cond.fieldLink "BigRunner$Runner" 80 "BigRunner$Program" "statements" "[LBigRunner$Statement;").before args U = true := h.w 243 (by decide +kernel) rfl args
theorem wd_247 {U : State} (h : TB U) (args : Array Value) : (Cond.fieldLink "BigRunner$Runner" 73 "BigRunner$Program" "statementCount" "I").before args U = true := h.w 247 (by decide +kernel) rfl args
theorem wd_249 {U : State} (h : TB U) (args : Array Value) : (Cond.fieldLink "BigRunner$Runner" 129 "BigRunner$Program" "nodes" "[LBigRunner$Node;").before args U = true := h.w 249 (by decide +kernel) rfl args
theorem wd_254 {U : State} (h : TB U) (args : Array Value) : (Cond.fieldLink "BigRunner$Runner" 98 "BigRunner$Program" "variables" "[LBigRunner$Interval;").before args U = true := h.w 254 (by decide +kernel) rfl args
theorem wd_301 {U : State} (h : TB U) (args : Array Value) : (Cond.fieldLink "BigRunner$Runner" 89 "BigRunner$Inputs" "waiting" "I").before args U = true := h.w 301 (by decide +kernel) rfl args
theorem wd_330 {U : State} (h : TB U) (args : Array Value) : (Cond.fieldLink "BigRunner$Runner" 12 "BigRunner$Runner" "program" "LBigRunner$Program;").before args U = true := h.w 330 (by decide +kernel) rfl args
theorem wd_332 {U : State} (h : TB U) (args : Array Value) : (Cond.fieldLink "BigRunner$Runner" 21 "BigRunner$Runner" "inputs" "LBigRunner$Inputs;").before args U = true := h.w 332 (by decide +kernel) rfl args
theorem wd_334 {U : State} (h : TB U) (args : Array Value) : (Cond.fieldLink "BigRunner$Runner" 25 "BigRunner$Runner" "at" "I").before args U = true := h.w 334 (by decide +kernel) rfl args
theorem wd_335 {U : State} (h : TB U) (args : Array Value) : (Cond.fieldLink "BigRunner$Runner" 29 "BigRunner$Runner" "machine" "[J").before args U = true := h.w 335 (by decide +kernel) rfl args
theorem wd_336 {U : State} (h : TB U) (args : Array Value) : (Cond.fieldLink "BigRunner$Runner" 35 "BigRunner$Runner" "wide" "[LBigRunner$LongNumber;").before args U = true := h.w 336 (by decide +kernel) rfl args
theorem wd_337 {U : State} (h : TB U) (args : Array Value) : (Cond.fieldLink "BigRunner$Runner" 40 "BigRunner$Runner" "shown" "LBigRunner$LongNumber;").before args U = true := h.w 337 (by decide +kernel) rfl args
theorem wd_338 {U : State} (h : TB U) (args : Array Value) : (Cond.fieldLink "BigRunner$Runner" 47 "BigRunner$Runner" "division" "LBigRunner$LongDivision;").before args U = true := h.w 338 (by decide +kernel) rfl args
theorem wd_339 {U : State} (h : TB U) (args : Array Value) : (Cond.fieldLink "BigRunner$Runner" 51 "BigRunner$Runner" "kept" "[LBigRunner$LongNumber;").before args U = true := h.w 339 (by decide +kernel) rfl args
theorem wd_341 {U : State} (h : TB U) (args : Array Value) : (Cond.fieldLink "BigRunner$Runner" 54 "BigRunner$Runner" "outputs" "I").before args U = true := h.w 341 (by decide +kernel) rfl args
theorem wd_343 {U : State} (h : TB U) (args : Array Value) : (Cond.fieldLink "BigRunner$Runner" 57 "BigRunner$Runner" "steps" "I").before args U = true := h.w 343 (by decide +kernel) rfl args
theorem wd_345 {U : State} (h : TB U) (args : Array Value) : (Cond.fieldLink "BigRunner$Runner" 60 "BigRunner$Runner" "machineOperations" "I").before args U = true := h.w 345 (by decide +kernel) rfl args
theorem wd_347 {U : State} (h : TB U) (args : Array Value) : (Cond.fieldLink "BigRunner$Runner" 63 "BigRunner$Runner" "longOperations" "I").before args U = true := h.w 347 (by decide +kernel) rfl args
theorem wd_349 {U : State} (h : TB U) (args : Array Value) : (Cond.fieldLink "BigRunner$Runner" 66 "BigRunner$Runner" "trap" "I").before args U = true := h.w 349 (by decide +kernel) rfl args
theorem wd_421 {U : State} (h : TB U) (args : Array Value) : (Cond.instanceMethod ⟨"BigRunner$Runner", "hasEnded", "()Z"⟩).before args U = true := h.w 421 (by decide +kernel) rfl args
theorem wd_422 {U : State} (h : TB U) (args : Array Value) : (Cond.selects "BigRunner$Runner" ⟨"BigRunner$Runner", "hasEnded", "()Z"⟩ ⟨"BigRunner$Runner", "hasEnded", "()Z"⟩).before args U = true := h.w 422 (by decide +kernel) rfl args
theorem wd_423 {U : State} (h : TB U) (args : Array Value) : (Cond.code ⟨"BigRunner$Runner", "hasEnded", "()Z"⟩ prog_9_method_3_code 1 (some .boolean)).before args U = true := h.w 423 (by decide +kernel) rfl args
theorem wd_425 {U : State} (h : TB U) (args : Array Value) : (Cond.instanceMethod ⟨"BigRunner$Runner", "lacksInput", "()Z"⟩).before args U = true := h.w 425 (by decide +kernel) rfl args
theorem wd_426 {U : State} (h : TB U) (args : Array Value) : (Cond.selects "BigRunner$Runner" ⟨"BigRunner$Runner", "lacksInput", "()Z"⟩ ⟨"BigRunner$Runner", "lacksInput", "()Z"⟩).before args U = true := h.w 426 (by decide +kernel) rfl args
theorem wd_427 {U : State} (h : TB U) (args : Array Value) : (Cond.code ⟨"BigRunner$Runner", "lacksInput", "()Z"⟩ prog_9_method_4_code 1 (some .boolean)).before args U = true := h.w 427 (by decide +kernel) rfl args
theorem wd_428 {U : State} (h : TB U) (args : Array Value) : (Cond.methodLink "BigRunner$Runner" 76 ⟨"BigRunner$Runner", "hasEnded", "()Z"⟩).before args U = true := h.w 428 (by decide +kernel) rfl args
theorem wd_677 {U : State} (h : TB U) (args : Array Value) : (Cond.methodLink "BigRunner$Runner" 69 ⟨"BigRunner$LongNumber", "setTo", "(J)V"⟩).before args U = true := h.w 677 (by decide +kernel) rfl args
theorem wd_717 {U : State} (h : TB U) (args : Array Value) : (Cond.methodLink "BigRunner$Runner" 107 ⟨"BigRunner$Runner", "lacksInput", "()Z"⟩).before args U = true := h.w 717 (by decide +kernel) rfl args
theorem wd_726 {U : State} (h : TB U) (args : Array Value) : (Cond.methodLink "BigRunner$Runner" 117 ⟨"BigRunner$Runner", "store", "(IJ)V"⟩).before args U = true := h.w 726 (by decide +kernel) rfl args
theorem wd_728 {U : State} (h : TB U) (args : Array Value) : (Cond.instanceMethod ⟨"BigRunner$Runner", "store", "(IJ)V"⟩).before args U = true := h.w 728 (by decide +kernel) rfl args
theorem wd_729 {U : State} (h : TB U) (args : Array Value) : (Cond.code ⟨"BigRunner$Runner", "store", "(IJ)V"⟩ prog_9_method_10_code 4 none).before args U = true := h.w 729 (by decide +kernel) rfl args
theorem wd_730 {U : State} (h : TB U) (args : Array Value) : (Cond.methodLink "BigRunner$Runner" 102 ⟨"BigRunner$Interval", "isBounded", "()Z"⟩).before args U = true := h.w 730 (by decide +kernel) rfl args
theorem wd_739 {U : State} (h : TB U) (args : Array Value) : (Cond.methodLink "BigRunner$Runner" 179 ⟨"BigRunner$Runner", "fetch", "(LBigRunner$Node;)V"⟩).before args U = true := h.w 739 (by decide +kernel) rfl args
theorem wd_741 {U : State} (h : TB U) (args : Array Value) : (Cond.instanceMethod ⟨"BigRunner$Runner", "fetch", "(LBigRunner$Node;)V"⟩).before args U = true := h.w 741 (by decide +kernel) rfl args
theorem wd_742 {U : State} (h : TB U) (args : Array Value) : (Cond.code ⟨"BigRunner$Runner", "fetch", "(LBigRunner$Node;)V"⟩ prog_9_method_14_code 2 none).before args U = true := h.w 742 (by decide +kernel) rfl args
theorem wd_743 {U : State} (h : TB U) (args : Array Value) : (Cond.methodLink "BigRunner$Runner" 167 ⟨"BigRunner$LongNumber", "copy", "(LBigRunner$LongNumber;I)V"⟩).before args U = true := h.w 743 (by decide +kernel) rfl args
theorem wd_750 {U : State} (h : TB U) (args : Array Value) : (Cond.methodLink "BigRunner$Runner" 182 ⟨"BigRunner$Runner", "operate", "(LBigRunner$Node;)I"⟩).before args U = true := h.w 750 (by decide +kernel) rfl args
theorem wd_752 {U : State} (h : TB U) (args : Array Value) : (Cond.instanceMethod ⟨"BigRunner$Runner", "operate", "(LBigRunner$Node;)I"⟩).before args U = true := h.w 752 (by decide +kernel) rfl args
theorem wd_753 {U : State} (h : TB U) (args : Array Value) : (Cond.code ⟨"BigRunner$Runner", "operate", "(LBigRunner$Node;)I"⟩ prog_9_method_15_code 6 (some .int)).before args U = true := h.w 753 (by decide +kernel) rfl args
theorem wd_754 {U : State} (h : TB U) (args : Array Value) : (Cond.methodLink "BigRunner$Runner" 186 ⟨"BigRunner$Runner", "operateLong", "(LBigRunner$Node;)I"⟩).before args U = true := h.w 754 (by decide +kernel) rfl args
theorem wd_756 {U : State} (h : TB U) (args : Array Value) : (Cond.instanceMethod ⟨"BigRunner$Runner", "operateLong", "(LBigRunner$Node;)I"⟩).before args U = true := h.w 756 (by decide +kernel) rfl args
theorem wd_757 {U : State} (h : TB U) (args : Array Value) : (Cond.code ⟨"BigRunner$Runner", "operateLong", "(LBigRunner$Node;)I"⟩ prog_9_method_16_code 5 (some .int)).before args U = true := h.w 757 (by decide +kernel) rfl args
theorem wd_758 {U : State} (h : TB U) (args : Array Value) : (Cond.methodLink "BigRunner$Runner" 171 ⟨"BigRunner$Node", "widened", "()LBigRunner$LongNumber;"⟩).before args U = true := h.w 758 (by decide +kernel) rfl args
theorem wd_759 {U : State} (h : TB U) (args : Array Value) : (Cond.instanceMethod ⟨"BigRunner$Node", "widened", "()LBigRunner$LongNumber;"⟩).before args U = true := h.w 759 (by decide +kernel) rfl args
theorem wd_760 {U : State} (h : TB U) (args : Array Value) : (Cond.selects "BigRunner$Node" ⟨"BigRunner$Node", "widened", "()LBigRunner$LongNumber;"⟩ ⟨"BigRunner$Node", "widened", "()LBigRunner$LongNumber;"⟩).before args U = true := h.w 760 (by decide +kernel) rfl args
theorem wd_761 {U : State} (h : TB U) (args : Array Value) : (Cond.code ⟨"BigRunner$Node", "widened", "()LBigRunner$LongNumber;"⟩ prog_6_method_2_code 1 (some (.object "BigRunner$LongNumber"))).before args U = true := h.w 761 (by decide +kernel) rfl args
theorem wd_763 {U : State} (h : TB U) (args : Array Value) : (Cond.methodLink "BigRunner$Runner" 195 ⟨"BigRunner$LongNumber", "setSum", "(LBigRunner$LongNumber;LBigRunner$LongNumber;I)Z"⟩).before args U = true := h.w 763 (by decide +kernel) rfl args
theorem wd_764 {U : State} (h : TB U) (args : Array Value) : (Cond.instanceMethod ⟨"BigRunner$LongNumber", "setSum", "(LBigRunner$LongNumber;LBigRunner$LongNumber;I)Z"⟩).before args U = true := h.w 764 (by decide +kernel) rfl args
theorem wd_765 {U : State} (h : TB U) (args : Array Value) : (Cond.selects "BigRunner$LongNumber" ⟨"BigRunner$LongNumber", "setSum", "(LBigRunner$LongNumber;LBigRunner$LongNumber;I)Z"⟩ ⟨"BigRunner$LongNumber", "setSum", "(LBigRunner$LongNumber;LBigRunner$LongNumber;I)Z"⟩).before args U = true := h.w 765 (by decide +kernel) rfl args
theorem wd_766 {U : State} (h : TB U) (args : Array Value) : (Cond.code ⟨"BigRunner$LongNumber", "setSum", "(LBigRunner$LongNumber;LBigRunner$LongNumber;I)Z"⟩ prog_5_method_9_code 4 (some .boolean)).before args U = true := h.w 766 (by decide +kernel) rfl args
theorem wd_796 {U : State} (h : TB U) (args : Array Value) : (Cond.methodLink "BigRunner$Runner" 199 ⟨"BigRunner$LongNumber", "setProduct", "(LBigRunner$LongNumber;LBigRunner$LongNumber;)Z"⟩).before args U = true := h.w 796 (by decide +kernel) rfl args
theorem wd_797 {U : State} (h : TB U) (args : Array Value) : (Cond.instanceMethod ⟨"BigRunner$LongNumber", "setProduct", "(LBigRunner$LongNumber;LBigRunner$LongNumber;)Z"⟩).before args U = true := h.w 797 (by decide +kernel) rfl args
theorem wd_798 {U : State} (h : TB U) (args : Array Value) : (Cond.selects "BigRunner$LongNumber" ⟨"BigRunner$LongNumber", "setProduct", "(LBigRunner$LongNumber;LBigRunner$LongNumber;)Z"⟩ ⟨"BigRunner$LongNumber", "setProduct", "(LBigRunner$LongNumber;LBigRunner$LongNumber;)Z"⟩).before args U = true := h.w 798 (by decide +kernel) rfl args
theorem wd_799 {U : State} (h : TB U) (args : Array Value) : (Cond.code ⟨"BigRunner$LongNumber", "setProduct", "(LBigRunner$LongNumber;LBigRunner$LongNumber;)Z"⟩ prog_5_method_10_code 10 (some .boolean)).before args U = true := h.w 799 (by decide +kernel) rfl args
theorem wd_803 {U : State} (h : TB U) (args : Array Value) : (Cond.methodLink "BigRunner$Runner" 203 ⟨"BigRunner$LongDivision", "divide", "(LBigRunner$LongNumber;LBigRunner$LongNumber;LBigRunner$LongNumber;Z)V"⟩).before args U = true := h.w 803 (by decide +kernel) rfl args
theorem wd_804 {U : State} (h : TB U) (args : Array Value) : (Cond.instanceMethod ⟨"BigRunner$LongDivision", "divide", "(LBigRunner$LongNumber;LBigRunner$LongNumber;LBigRunner$LongNumber;Z)V"⟩).before args U = true := h.w 804 (by decide +kernel) rfl args
theorem wd_805 {U : State} (h : TB U) (args : Array Value) : (Cond.selects "BigRunner$LongDivision" ⟨"BigRunner$LongDivision", "divide", "(LBigRunner$LongNumber;LBigRunner$LongNumber;LBigRunner$LongNumber;Z)V"⟩ ⟨"BigRunner$LongDivision", "divide", "(LBigRunner$LongNumber;LBigRunner$LongNumber;LBigRunner$LongNumber;Z)V"⟩).before args U = true := h.w 805 (by decide +kernel) rfl args
theorem wd_806 {U : State} (h : TB U) (args : Array Value) : (Cond.code ⟨"BigRunner$LongDivision", "divide", "(LBigRunner$LongNumber;LBigRunner$LongNumber;LBigRunner$LongNumber;Z)V"⟩ prog_4_method_2_code 8 none).before args U = true := h.w 806 (by decide +kernel) rfl args
theorem wd_835 {U : State} (h : TB U) (args : Array Value) : (Cond.methodLink "BigRunner$Runner" 161 ⟨"BigRunner$LongNumber", "toMachine", "()J"⟩).before args U = true := h.w 835 (by decide +kernel) rfl args
theorem wd_836 {U : State} (h : TB U) (args : Array Value) : (Cond.instanceMethod ⟨"BigRunner$LongNumber", "toMachine", "()J"⟩).before args U = true := h.w 836 (by decide +kernel) rfl args
theorem wd_837 {U : State} (h : TB U) (args : Array Value) : (Cond.selects "BigRunner$LongNumber" ⟨"BigRunner$LongNumber", "toMachine", "()J"⟩ ⟨"BigRunner$LongNumber", "toMachine", "()J"⟩).before args U = true := h.w 837 (by decide +kernel) rfl args
theorem wd_838 {U : State} (h : TB U) (args : Array Value) : (Cond.code ⟨"BigRunner$LongNumber", "toMachine", "()J"⟩ prog_5_method_4_code 4 (some .long)).before args U = true := h.w 838 (by decide +kernel) rfl args
theorem wd_939 {U : State} (h : TB U) (args : Array Value) : (Cond.methodLink "BigRunner$Runner" 92 ⟨"java/lang/Math", "min", "(II)I"⟩).before args U = true := h.w 939 (by decide +kernel) rfl args
theorem d_NRunner_assign_0 : decode prog_9_method_11_code 0 = .ok (.aload_n 2, 1) := by decide +kernel
theorem d_NRunner_assign_1 : decode prog_9_method_11_code 1 = .ok (.getfield 152, 3) := by decide +kernel
theorem d_NRunner_assign_4 : decode prog_9_method_11_code 4 = .ok (.ifCond .eq 15, 3) := by decide +kernel
theorem d_NRunner_assign_7 : decode prog_9_method_11_code 7 = .ok (.aload_n 0, 1) := by decide +kernel
theorem d_NRunner_assign_8 : decode prog_9_method_11_code 8 = .ok (.iload_n 1, 1) := by decide +kernel
theorem d_NRunner_assign_9 : decode prog_9_method_11_code 9 = .ok (.aload_n 2, 1) := by decide +kernel
theorem d_NRunner_assign_10 : decode prog_9_method_11_code 10 = .ok (.getfield 156, 3) := by decide +kernel
theorem d_NRunner_assign_13 : decode prog_9_method_11_code 13 = .ok (.invokevirtual 117, 3) := by decide +kernel
theorem d_NRunner_assign_16 : decode prog_9_method_11_code 16 = .ok (.goto 54, 3) := by decide +kernel
theorem d_NRunner_assign_19 : decode prog_9_method_11_code 19 = .ok (.aload_n 0, 1) := by decide +kernel
theorem d_NRunner_assign_20 : decode prog_9_method_11_code 20 = .ok (.getfield 12, 3) := by decide +kernel
theorem d_NRunner_assign_23 : decode prog_9_method_11_code 23 = .ok (.getfield 98, 3) := by decide +kernel
theorem d_NRunner_assign_26 : decode prog_9_method_11_code 26 = .ok (.iload_n 1, 1) := by decide +kernel
theorem d_NRunner_assign_27 : decode prog_9_method_11_code 27 = .ok (.aaload, 1) := by decide +kernel
theorem d_NRunner_assign_28 : decode prog_9_method_11_code 28 = .ok (.invokevirtual 102, 3) := by decide +kernel
theorem d_NRunner_assign_31 : decode prog_9_method_11_code 31 = .ok (.ifCond .eq 19, 3) := by decide +kernel
theorem d_NRunner_assign_34 : decode prog_9_method_11_code 34 = .ok (.aload_n 0, 1) := by decide +kernel
theorem d_NRunner_assign_35 : decode prog_9_method_11_code 35 = .ok (.getfield 29, 3) := by decide +kernel
theorem d_NRunner_assign_38 : decode prog_9_method_11_code 38 = .ok (.iload_n 1, 1) := by decide +kernel
theorem d_NRunner_assign_39 : decode prog_9_method_11_code 39 = .ok (.aload_n 2, 1) := by decide +kernel
theorem d_NRunner_assign_40 : decode prog_9_method_11_code 40 = .ok (.getfield 159, 3) := by decide +kernel
theorem d_NRunner_assign_43 : decode prog_9_method_11_code 43 = .ok (.invokevirtual 161, 3) := by decide +kernel
theorem d_NRunner_assign_46 : decode prog_9_method_11_code 46 = .ok (.lastore, 1) := by decide +kernel
theorem d_NRunner_assign_47 : decode prog_9_method_11_code 47 = .ok (.goto 23, 3) := by decide +kernel
theorem d_NRunner_assign_50 : decode prog_9_method_11_code 50 = .ok (.aload_n 0, 1) := by decide +kernel
theorem d_NRunner_assign_51 : decode prog_9_method_11_code 51 = .ok (.getfield 35, 3) := by decide +kernel
theorem d_NRunner_assign_54 : decode prog_9_method_11_code 54 = .ok (.iload_n 1, 1) := by decide +kernel
theorem d_NRunner_assign_55 : decode prog_9_method_11_code 55 = .ok (.aaload, 1) := by decide +kernel
theorem d_NRunner_assign_56 : decode prog_9_method_11_code 56 = .ok (.aload_n 2, 1) := by decide +kernel
theorem d_NRunner_assign_57 : decode prog_9_method_11_code 57 = .ok (.getfield 159, 3) := by decide +kernel
theorem d_NRunner_assign_60 : decode prog_9_method_11_code 60 = .ok (.aload_n 2, 1) := by decide +kernel
theorem d_NRunner_assign_61 : decode prog_9_method_11_code 61 = .ok (.getfield 159, 3) := by decide +kernel
theorem d_NRunner_assign_64 : decode prog_9_method_11_code 64 = .ok (.getfield 165, 3) := by decide +kernel
theorem d_NRunner_assign_67 : decode prog_9_method_11_code 67 = .ok (.invokevirtual 167, 3) := by decide +kernel
theorem d_NRunner_assign_70 : decode prog_9_method_11_code 70 = .ok (.return_, 1) := by decide +kernel
theorem d_NRunner_fetch_0 : decode prog_9_method_14_code 0 = .ok (.aload_n 1, 1) := by decide +kernel
theorem d_NRunner_fetch_1 : decode prog_9_method_14_code 1 = .ok (.getfield 152, 3) := by decide +kernel
theorem d_NRunner_fetch_4 : decode prog_9_method_14_code 4 = .ok (.ifCond .eq 19, 3) := by decide +kernel
theorem d_NRunner_fetch_7 : decode prog_9_method_14_code 7 = .ok (.aload_n 1, 1) := by decide +kernel
theorem d_NRunner_fetch_8 : decode prog_9_method_14_code 8 = .ok (.aload_n 0, 1) := by decide +kernel
theorem d_NRunner_fetch_9 : decode prog_9_method_14_code 9 = .ok (.getfield 29, 3) := by decide +kernel
theorem d_NRunner_fetch_12 : decode prog_9_method_14_code 12 = .ok (.aload_n 1, 1) := by decide +kernel
theorem d_NRunner_fetch_13 : decode prog_9_method_14_code 13 = .ok (.getfield 189, 3) := by decide +kernel
theorem d_NRunner_fetch_16 : decode prog_9_method_14_code 16 = .ok (.laload, 1) := by decide +kernel
theorem d_NRunner_fetch_17 : decode prog_9_method_14_code 17 = .ok (.putfield 156, 3) := by decide +kernel
theorem d_NRunner_fetch_20 : decode prog_9_method_14_code 20 = .ok (.goto 31, 3) := by decide +kernel
theorem d_NRunner_fetch_23 : decode prog_9_method_14_code 23 = .ok (.aload_n 1, 1) := by decide +kernel
theorem d_NRunner_fetch_24 : decode prog_9_method_14_code 24 = .ok (.getfield 159, 3) := by decide +kernel
theorem d_NRunner_fetch_27 : decode prog_9_method_14_code 27 = .ok (.aload_n 0, 1) := by decide +kernel
theorem d_NRunner_fetch_28 : decode prog_9_method_14_code 28 = .ok (.getfield 35, 3) := by decide +kernel
theorem d_NRunner_fetch_31 : decode prog_9_method_14_code 31 = .ok (.aload_n 1, 1) := by decide +kernel
theorem d_NRunner_fetch_32 : decode prog_9_method_14_code 32 = .ok (.getfield 189, 3) := by decide +kernel
theorem d_NRunner_fetch_35 : decode prog_9_method_14_code 35 = .ok (.aaload, 1) := by decide +kernel
theorem d_NRunner_fetch_36 : decode prog_9_method_14_code 36 = .ok (.aload_n 0, 1) := by decide +kernel
theorem d_NRunner_fetch_37 : decode prog_9_method_14_code 37 = .ok (.getfield 35, 3) := by decide +kernel
theorem d_NRunner_fetch_40 : decode prog_9_method_14_code 40 = .ok (.aload_n 1, 1) := by decide +kernel
theorem d_NRunner_fetch_41 : decode prog_9_method_14_code 41 = .ok (.getfield 189, 3) := by decide +kernel
theorem d_NRunner_fetch_44 : decode prog_9_method_14_code 44 = .ok (.aaload, 1) := by decide +kernel
theorem d_NRunner_fetch_45 : decode prog_9_method_14_code 45 = .ok (.getfield 165, 3) := by decide +kernel
theorem d_NRunner_fetch_48 : decode prog_9_method_14_code 48 = .ok (.invokevirtual 167, 3) := by decide +kernel
theorem d_NRunner_fetch_51 : decode prog_9_method_14_code 51 = .ok (.return_, 1) := by decide +kernel
theorem d_NRunner_goesOn_0 : decode prog_9_method_7_code 0 = .ok (.aload_n 0, 1) := by decide +kernel
theorem d_NRunner_goesOn_1 : decode prog_9_method_7_code 1 = .ok (.getfield 66, 3) := by decide +kernel
theorem d_NRunner_goesOn_4 : decode prog_9_method_7_code 4 = .ok (.ifCond .ne 31, 3) := by decide +kernel
theorem d_NRunner_goesOn_7 : decode prog_9_method_7_code 7 = .ok (.aload_n 0, 1) := by decide +kernel
theorem d_NRunner_goesOn_8 : decode prog_9_method_7_code 8 = .ok (.invokevirtual 76, 3) := by decide +kernel
theorem d_NRunner_goesOn_11 : decode prog_9_method_7_code 11 = .ok (.ifCond .ne 24, 3) := by decide +kernel
theorem d_NRunner_goesOn_14 : decode prog_9_method_7_code 14 = .ok (.aload_n 0, 1) := by decide +kernel
theorem d_NRunner_goesOn_15 : decode prog_9_method_7_code 15 = .ok (.getfield 57, 3) := by decide +kernel
theorem d_NRunner_goesOn_18 : decode prog_9_method_7_code 18 = .ok (.sipush 3000, 3) := by decide +kernel
theorem d_NRunner_goesOn_21 : decode prog_9_method_7_code 21 = .ok (.if_icmp .ge 10, 3) := by decide +kernel
theorem d_NRunner_goesOn_24 : decode prog_9_method_7_code 24 = .ok (.aload_n 0, 1) := by decide +kernel
theorem d_NRunner_goesOn_25 : decode prog_9_method_7_code 25 = .ok (.invokevirtual 107, 3) := by decide +kernel
theorem d_NRunner_goesOn_28 : decode prog_9_method_7_code 28 = .ok (.ifCond .ne 7, 3) := by decide +kernel
theorem d_NRunner_goesOn_31 : decode prog_9_method_7_code 31 = .ok (.iconst 1, 1) := by decide +kernel
theorem d_NRunner_goesOn_32 : decode prog_9_method_7_code 32 = .ok (.goto 4, 3) := by decide +kernel
theorem d_NRunner_goesOn_35 : decode prog_9_method_7_code 35 = .ok (.iconst 0, 1) := by decide +kernel
theorem d_NRunner_goesOn_36 : decode prog_9_method_7_code 36 = .ok (.ireturn, 1) := by decide +kernel
theorem d_NRunner_hasEnded_0 : decode prog_9_method_3_code 0 = .ok (.aload_n 0, 1) := by decide +kernel
theorem d_NRunner_hasEnded_1 : decode prog_9_method_3_code 1 = .ok (.getfield 25, 3) := by decide +kernel
theorem d_NRunner_hasEnded_4 : decode prog_9_method_3_code 4 = .ok (.aload_n 0, 1) := by decide +kernel
theorem d_NRunner_hasEnded_5 : decode prog_9_method_3_code 5 = .ok (.getfield 12, 3) := by decide +kernel
theorem d_NRunner_hasEnded_8 : decode prog_9_method_3_code 8 = .ok (.getfield 73, 3) := by decide +kernel
theorem d_NRunner_hasEnded_11 : decode prog_9_method_3_code 11 = .ok (.if_icmp .lt 7, 3) := by decide +kernel
theorem d_NRunner_hasEnded_14 : decode prog_9_method_3_code 14 = .ok (.iconst 1, 1) := by decide +kernel
theorem d_NRunner_hasEnded_15 : decode prog_9_method_3_code 15 = .ok (.goto 4, 3) := by decide +kernel
theorem d_NRunner_hasEnded_18 : decode prog_9_method_3_code 18 = .ok (.iconst 0, 1) := by decide +kernel
theorem d_NRunner_hasEnded_19 : decode prog_9_method_3_code 19 = .ok (.ireturn, 1) := by decide +kernel
theorem d_NRunner_keep_0 : decode prog_9_method_12_code 0 = .ok (.aload_n 0, 1) := by decide +kernel
theorem d_NRunner_keep_1 : decode prog_9_method_12_code 1 = .ok (.getfield 54, 3) := by decide +kernel
theorem d_NRunner_keep_4 : decode prog_9_method_12_code 4 = .ok (.bipush 12, 2) := by decide +kernel
theorem d_NRunner_keep_6 : decode prog_9_method_12_code 6 = .ok (.if_icmp .ge 25, 3) := by decide +kernel
theorem d_NRunner_keep_9 : decode prog_9_method_12_code 9 = .ok (.aload_n 1, 1) := by decide +kernel
theorem d_NRunner_keep_10 : decode prog_9_method_12_code 10 = .ok (.invokevirtual 171, 3) := by decide +kernel
theorem d_NRunner_keep_13 : decode prog_9_method_12_code 13 = .ok (.astore_n 2, 1) := by decide +kernel
theorem d_NRunner_keep_14 : decode prog_9_method_12_code 14 = .ok (.aload_n 0, 1) := by decide +kernel
theorem d_NRunner_keep_15 : decode prog_9_method_12_code 15 = .ok (.getfield 51, 3) := by decide +kernel
theorem d_NRunner_keep_18 : decode prog_9_method_12_code 18 = .ok (.aload_n 0, 1) := by decide +kernel
theorem d_NRunner_keep_19 : decode prog_9_method_12_code 19 = .ok (.getfield 54, 3) := by decide +kernel
theorem d_NRunner_keep_22 : decode prog_9_method_12_code 22 = .ok (.aaload, 1) := by decide +kernel
theorem d_NRunner_keep_23 : decode prog_9_method_12_code 23 = .ok (.aload_n 2, 1) := by decide +kernel
theorem d_NRunner_keep_24 : decode prog_9_method_12_code 24 = .ok (.aload_n 2, 1) := by decide +kernel
theorem d_NRunner_keep_25 : decode prog_9_method_12_code 25 = .ok (.getfield 165, 3) := by decide +kernel
theorem d_NRunner_keep_28 : decode prog_9_method_12_code 28 = .ok (.invokevirtual 167, 3) := by decide +kernel
theorem d_NRunner_keep_31 : decode prog_9_method_12_code 31 = .ok (.aload_n 0, 1) := by decide +kernel
theorem d_NRunner_keep_32 : decode prog_9_method_12_code 32 = .ok (.dup, 1) := by decide +kernel
theorem d_NRunner_keep_33 : decode prog_9_method_12_code 33 = .ok (.getfield 54, 3) := by decide +kernel
theorem d_NRunner_keep_36 : decode prog_9_method_12_code 36 = .ok (.iconst 1, 1) := by decide +kernel
theorem d_NRunner_keep_37 : decode prog_9_method_12_code 37 = .ok (.iadd, 1) := by decide +kernel
theorem d_NRunner_keep_38 : decode prog_9_method_12_code 38 = .ok (.putfield 54, 3) := by decide +kernel
theorem d_NRunner_keep_41 : decode prog_9_method_12_code 41 = .ok (.return_, 1) := by decide +kernel
theorem d_NRunner_keptOutputs_0 : decode prog_9_method_5_code 0 = .ok (.aload_n 0, 1) := by decide +kernel
theorem d_NRunner_keptOutputs_1 : decode prog_9_method_5_code 1 = .ok (.getfield 54, 3) := by decide +kernel
theorem d_NRunner_keptOutputs_4 : decode prog_9_method_5_code 4 = .ok (.bipush 12, 2) := by decide +kernel
theorem d_NRunner_keptOutputs_6 : decode prog_9_method_5_code 6 = .ok (.invokestatic 92, 3) := by decide +kernel
theorem d_NRunner_keptOutputs_9 : decode prog_9_method_5_code 9 = .ok (.ireturn, 1) := by decide +kernel
theorem d_NRunner_lacksInput_0 : decode prog_9_method_4_code 0 = .ok (.aload_n 0, 1) := by decide +kernel
theorem d_NRunner_lacksInput_1 : decode prog_9_method_4_code 1 = .ok (.invokevirtual 76, 3) := by decide +kernel
theorem d_NRunner_lacksInput_4 : decode prog_9_method_4_code 4 = .ok (.ifCond .ne 36, 3) := by decide +kernel
theorem d_NRunner_lacksInput_7 : decode prog_9_method_4_code 7 = .ok (.aload_n 0, 1) := by decide +kernel
theorem d_NRunner_lacksInput_8 : decode prog_9_method_4_code 8 = .ok (.getfield 12, 3) := by decide +kernel
theorem d_NRunner_lacksInput_11 : decode prog_9_method_4_code 11 = .ok (.getfield 80, 3) := by decide +kernel
theorem d_NRunner_lacksInput_14 : decode prog_9_method_4_code 14 = .ok (.aload_n 0, 1) := by decide +kernel
theorem d_NRunner_lacksInput_15 : decode prog_9_method_4_code 15 = .ok (.getfield 25, 3) := by decide +kernel
theorem d_NRunner_lacksInput_18 : decode prog_9_method_4_code 18 = .ok (.aaload, 1) := by decide +kernel
theorem d_NRunner_lacksInput_19 : decode prog_9_method_4_code 19 = .ok (.getfield 84, 3) := by decide +kernel
theorem d_NRunner_lacksInput_22 : decode prog_9_method_4_code 22 = .ok (.iconst 1, 1) := by decide +kernel
theorem d_NRunner_lacksInput_23 : decode prog_9_method_4_code 23 = .ok (.if_icmp .ne 17, 3) := by decide +kernel
theorem d_NRunner_lacksInput_26 : decode prog_9_method_4_code 26 = .ok (.aload_n 0, 1) := by decide +kernel
theorem d_NRunner_lacksInput_27 : decode prog_9_method_4_code 27 = .ok (.getfield 21, 3) := by decide +kernel
theorem d_NRunner_lacksInput_30 : decode prog_9_method_4_code 30 = .ok (.getfield 89, 3) := by decide +kernel
theorem d_NRunner_lacksInput_33 : decode prog_9_method_4_code 33 = .ok (.ifCond .ne 7, 3) := by decide +kernel
theorem d_NRunner_lacksInput_36 : decode prog_9_method_4_code 36 = .ok (.iconst 1, 1) := by decide +kernel
theorem d_NRunner_lacksInput_37 : decode prog_9_method_4_code 37 = .ok (.goto 4, 3) := by decide +kernel
theorem d_NRunner_lacksInput_40 : decode prog_9_method_4_code 40 = .ok (.iconst 0, 1) := by decide +kernel
theorem d_NRunner_lacksInput_41 : decode prog_9_method_4_code 41 = .ok (.ireturn, 1) := by decide +kernel
theorem d_NRunner_operate_0 : decode prog_9_method_15_code 0 = .ok (.aload_n 0, 1) := by decide +kernel
theorem d_NRunner_operate_1 : decode prog_9_method_15_code 1 = .ok (.dup, 1) := by decide +kernel
theorem d_NRunner_operate_2 : decode prog_9_method_15_code 2 = .ok (.getfield 60, 3) := by decide +kernel
theorem d_NRunner_operate_5 : decode prog_9_method_15_code 5 = .ok (.iconst 1, 1) := by decide +kernel
theorem d_NRunner_operate_6 : decode prog_9_method_15_code 6 = .ok (.iadd, 1) := by decide +kernel
theorem d_NRunner_operate_7 : decode prog_9_method_15_code 7 = .ok (.putfield 60, 3) := by decide +kernel
theorem d_NRunner_operate_10 : decode prog_9_method_15_code 10 = .ok (.aload_n 0, 1) := by decide +kernel
theorem d_NRunner_operate_11 : decode prog_9_method_15_code 11 = .ok (.getfield 12, 3) := by decide +kernel
theorem d_NRunner_operate_14 : decode prog_9_method_15_code 14 = .ok (.getfield 129, 3) := by decide +kernel
theorem d_NRunner_operate_17 : decode prog_9_method_15_code 17 = .ok (.aload_n 1, 1) := by decide +kernel
theorem d_NRunner_operate_18 : decode prog_9_method_15_code 18 = .ok (.getfield 189, 3) := by decide +kernel
theorem d_NRunner_operate_21 : decode prog_9_method_15_code 21 = .ok (.aaload, 1) := by decide +kernel
theorem d_NRunner_operate_22 : decode prog_9_method_15_code 22 = .ok (.getfield 156, 3) := by decide +kernel
theorem d_NRunner_operate_25 : decode prog_9_method_15_code 25 = .ok (.lstore_n 2, 1) := by decide +kernel
theorem d_NRunner_operate_26 : decode prog_9_method_15_code 26 = .ok (.aload_n 0, 1) := by decide +kernel
theorem d_NRunner_operate_27 : decode prog_9_method_15_code 27 = .ok (.getfield 12, 3) := by decide +kernel
theorem d_NRunner_operate_30 : decode prog_9_method_15_code 30 = .ok (.getfield 129, 3) := by decide +kernel
theorem d_NRunner_operate_33 : decode prog_9_method_15_code 33 = .ok (.aload_n 1, 1) := by decide +kernel
theorem d_NRunner_operate_34 : decode prog_9_method_15_code 34 = .ok (.getfield 192, 3) := by decide +kernel
theorem d_NRunner_operate_37 : decode prog_9_method_15_code 37 = .ok (.aaload, 1) := by decide +kernel
theorem d_NRunner_operate_38 : decode prog_9_method_15_code 38 = .ok (.getfield 156, 3) := by decide +kernel
theorem d_NRunner_operate_41 : decode prog_9_method_15_code 41 = .ok (.lstore 4, 2) := by decide +kernel
theorem d_NRunner_operate_43 : decode prog_9_method_15_code 43 = .ok (.aload_n 1, 1) := by decide +kernel
theorem d_NRunner_operate_44 : decode prog_9_method_15_code 44 = .ok (.getfield 178, 3) := by decide +kernel
theorem d_NRunner_operate_47 : decode prog_9_method_15_code 47 = .ok (.tableswitch 67 2 5 #[29, 37, 47, 57], 29) := by decide +kernel
theorem d_NRunner_operate_76 : decode prog_9_method_15_code 76 = .ok (.aload_n 1, 1) := by decide +kernel
theorem d_NRunner_operate_77 : decode prog_9_method_15_code 77 = .ok (.lload_n 2, 1) := by decide +kernel
theorem d_NRunner_operate_78 : decode prog_9_method_15_code 78 = .ok (.lneg, 1) := by decide +kernel
theorem d_NRunner_operate_79 : decode prog_9_method_15_code 79 = .ok (.putfield 156, 3) := by decide +kernel
theorem d_NRunner_operate_82 : decode prog_9_method_15_code 82 = .ok (.iconst 0, 1) := by decide +kernel
theorem d_NRunner_operate_83 : decode prog_9_method_15_code 83 = .ok (.ireturn, 1) := by decide +kernel
theorem d_NRunner_operate_84 : decode prog_9_method_15_code 84 = .ok (.aload_n 1, 1) := by decide +kernel
theorem d_NRunner_operate_85 : decode prog_9_method_15_code 85 = .ok (.lload_n 2, 1) := by decide +kernel
theorem d_NRunner_operate_86 : decode prog_9_method_15_code 86 = .ok (.lload 4, 2) := by decide +kernel
theorem d_NRunner_operate_88 : decode prog_9_method_15_code 88 = .ok (.ladd, 1) := by decide +kernel
theorem d_NRunner_operate_89 : decode prog_9_method_15_code 89 = .ok (.putfield 156, 3) := by decide +kernel
theorem d_NRunner_operate_92 : decode prog_9_method_15_code 92 = .ok (.iconst 0, 1) := by decide +kernel
theorem d_NRunner_operate_93 : decode prog_9_method_15_code 93 = .ok (.ireturn, 1) := by decide +kernel
theorem d_NRunner_operate_94 : decode prog_9_method_15_code 94 = .ok (.aload_n 1, 1) := by decide +kernel
theorem d_NRunner_operate_95 : decode prog_9_method_15_code 95 = .ok (.lload_n 2, 1) := by decide +kernel
theorem d_NRunner_operate_96 : decode prog_9_method_15_code 96 = .ok (.lload 4, 2) := by decide +kernel
theorem d_NRunner_operate_98 : decode prog_9_method_15_code 98 = .ok (.lsub, 1) := by decide +kernel
theorem d_NRunner_operate_99 : decode prog_9_method_15_code 99 = .ok (.putfield 156, 3) := by decide +kernel
theorem d_NRunner_operate_102 : decode prog_9_method_15_code 102 = .ok (.iconst 0, 1) := by decide +kernel
theorem d_NRunner_operate_103 : decode prog_9_method_15_code 103 = .ok (.ireturn, 1) := by decide +kernel
theorem d_NRunner_operate_104 : decode prog_9_method_15_code 104 = .ok (.aload_n 1, 1) := by decide +kernel
theorem d_NRunner_operate_105 : decode prog_9_method_15_code 105 = .ok (.lload_n 2, 1) := by decide +kernel
theorem d_NRunner_operate_106 : decode prog_9_method_15_code 106 = .ok (.lload 4, 2) := by decide +kernel
theorem d_NRunner_operate_108 : decode prog_9_method_15_code 108 = .ok (.lmul, 1) := by decide +kernel
theorem d_NRunner_operate_109 : decode prog_9_method_15_code 109 = .ok (.putfield 156, 3) := by decide +kernel
theorem d_NRunner_operate_112 : decode prog_9_method_15_code 112 = .ok (.iconst 0, 1) := by decide +kernel
theorem d_NRunner_operate_113 : decode prog_9_method_15_code 113 = .ok (.ireturn, 1) := by decide +kernel
theorem d_NRunner_operate_114 : decode prog_9_method_15_code 114 = .ok (.lload 4, 2) := by decide +kernel
theorem d_NRunner_operate_116 : decode prog_9_method_15_code 116 = .ok (.lconst 0, 1) := by decide +kernel
theorem d_NRunner_operate_117 : decode prog_9_method_15_code 117 = .ok (.lcmp, 1) := by decide +kernel
theorem d_NRunner_operate_118 : decode prog_9_method_15_code 118 = .ok (.ifCond .ne 5, 3) := by decide +kernel
theorem d_NRunner_operate_121 : decode prog_9_method_15_code 121 = .ok (.iconst 1, 1) := by decide +kernel
theorem d_NRunner_operate_122 : decode prog_9_method_15_code 122 = .ok (.ireturn, 1) := by decide +kernel
theorem d_NRunner_operate_123 : decode prog_9_method_15_code 123 = .ok (.aload_n 1, 1) := by decide +kernel
theorem d_NRunner_operate_124 : decode prog_9_method_15_code 124 = .ok (.aload_n 1, 1) := by decide +kernel
theorem d_NRunner_operate_125 : decode prog_9_method_15_code 125 = .ok (.getfield 178, 3) := by decide +kernel
theorem d_NRunner_operate_128 : decode prog_9_method_15_code 128 = .ok (.bipush 6, 2) := by decide +kernel
theorem d_NRunner_operate_130 : decode prog_9_method_15_code 130 = .ok (.if_icmp .ne 10, 3) := by decide +kernel
theorem d_NRunner_operate_133 : decode prog_9_method_15_code 133 = .ok (.lload_n 2, 1) := by decide +kernel
theorem d_NRunner_operate_134 : decode prog_9_method_15_code 134 = .ok (.lload 4, 2) := by decide +kernel
theorem d_NRunner_operate_136 : decode prog_9_method_15_code 136 = .ok (.ldiv, 1) := by decide +kernel
theorem d_NRunner_operate_137 : decode prog_9_method_15_code 137 = .ok (.goto 7, 3) := by decide +kernel
theorem d_NRunner_operate_140 : decode prog_9_method_15_code 140 = .ok (.lload_n 2, 1) := by decide +kernel
theorem d_NRunner_operate_141 : decode prog_9_method_15_code 141 = .ok (.lload 4, 2) := by decide +kernel
theorem d_NRunner_operate_143 : decode prog_9_method_15_code 143 = .ok (.lrem, 1) := by decide +kernel
theorem d_NRunner_operate_144 : decode prog_9_method_15_code 144 = .ok (.putfield 156, 3) := by decide +kernel
theorem d_NRunner_operate_147 : decode prog_9_method_15_code 147 = .ok (.iconst 0, 1) := by decide +kernel
theorem d_NRunner_operate_148 : decode prog_9_method_15_code 148 = .ok (.ireturn, 1) := by decide +kernel
theorem d_NRunner_operateLong_0 : decode prog_9_method_16_code 0 = .ok (.aload_n 0, 1) := by decide +kernel
theorem d_NRunner_operateLong_1 : decode prog_9_method_16_code 1 = .ok (.dup, 1) := by decide +kernel
theorem d_NRunner_operateLong_2 : decode prog_9_method_16_code 2 = .ok (.getfield 63, 3) := by decide +kernel
theorem d_NRunner_operateLong_5 : decode prog_9_method_16_code 5 = .ok (.iconst 1, 1) := by decide +kernel
theorem d_NRunner_operateLong_6 : decode prog_9_method_16_code 6 = .ok (.iadd, 1) := by decide +kernel
theorem d_NRunner_operateLong_7 : decode prog_9_method_16_code 7 = .ok (.putfield 63, 3) := by decide +kernel
theorem d_NRunner_operateLong_10 : decode prog_9_method_16_code 10 = .ok (.aload_n 0, 1) := by decide +kernel
theorem d_NRunner_operateLong_11 : decode prog_9_method_16_code 11 = .ok (.getfield 12, 3) := by decide +kernel
theorem d_NRunner_operateLong_14 : decode prog_9_method_16_code 14 = .ok (.getfield 129, 3) := by decide +kernel
theorem d_NRunner_operateLong_17 : decode prog_9_method_16_code 17 = .ok (.aload_n 1, 1) := by decide +kernel
theorem d_NRunner_operateLong_18 : decode prog_9_method_16_code 18 = .ok (.getfield 189, 3) := by decide +kernel
theorem d_NRunner_operateLong_21 : decode prog_9_method_16_code 21 = .ok (.aaload, 1) := by decide +kernel
theorem d_NRunner_operateLong_22 : decode prog_9_method_16_code 22 = .ok (.invokevirtual 171, 3) := by decide +kernel
theorem d_NRunner_operateLong_25 : decode prog_9_method_16_code 25 = .ok (.astore_n 2, 1) := by decide +kernel
theorem d_NRunner_operateLong_26 : decode prog_9_method_16_code 26 = .ok (.aload_n 0, 1) := by decide +kernel
theorem d_NRunner_operateLong_27 : decode prog_9_method_16_code 27 = .ok (.getfield 12, 3) := by decide +kernel
theorem d_NRunner_operateLong_30 : decode prog_9_method_16_code 30 = .ok (.getfield 129, 3) := by decide +kernel
theorem d_NRunner_operateLong_33 : decode prog_9_method_16_code 33 = .ok (.aload_n 1, 1) := by decide +kernel
theorem d_NRunner_operateLong_34 : decode prog_9_method_16_code 34 = .ok (.getfield 192, 3) := by decide +kernel
theorem d_NRunner_operateLong_37 : decode prog_9_method_16_code 37 = .ok (.aaload, 1) := by decide +kernel
theorem d_NRunner_operateLong_38 : decode prog_9_method_16_code 38 = .ok (.invokevirtual 171, 3) := by decide +kernel
theorem d_NRunner_operateLong_41 : decode prog_9_method_16_code 41 = .ok (.astore_n 3, 1) := by decide +kernel
theorem d_NRunner_operateLong_42 : decode prog_9_method_16_code 42 = .ok (.iconst 1, 1) := by decide +kernel
theorem d_NRunner_operateLong_43 : decode prog_9_method_16_code 43 = .ok (.istore 4, 2) := by decide +kernel
theorem d_NRunner_operateLong_45 : decode prog_9_method_16_code 45 = .ok (.aload_n 1, 1) := by decide +kernel
theorem d_NRunner_operateLong_46 : decode prog_9_method_16_code 46 = .ok (.getfield 178, 3) := by decide +kernel
theorem d_NRunner_operateLong_49 : decode prog_9_method_16_code 49 = .ok (.tableswitch 98 2 5 #[31, 47, 65, 84], 31) := by decide +kernel
theorem d_NRunner_operateLong_80 : decode prog_9_method_16_code 80 = .ok (.aload_n 1, 1) := by decide +kernel
theorem d_NRunner_operateLong_81 : decode prog_9_method_16_code 81 = .ok (.getfield 159, 3) := by decide +kernel
theorem d_NRunner_operateLong_84 : decode prog_9_method_16_code 84 = .ok (.aload_n 2, 1) := by decide +kernel
theorem d_NRunner_operateLong_85 : decode prog_9_method_16_code 85 = .ok (.aload_n 2, 1) := by decide +kernel
theorem d_NRunner_operateLong_86 : decode prog_9_method_16_code 86 = .ok (.getfield 165, 3) := by decide +kernel
theorem d_NRunner_operateLong_89 : decode prog_9_method_16_code 89 = .ok (.ineg, 1) := by decide +kernel
theorem d_NRunner_operateLong_90 : decode prog_9_method_16_code 90 = .ok (.invokevirtual 167, 3) := by decide +kernel
theorem d_NRunner_operateLong_93 : decode prog_9_method_16_code 93 = .ok (.goto 90, 3) := by decide +kernel
theorem d_NRunner_operateLong_96 : decode prog_9_method_16_code 96 = .ok (.aload_n 1, 1) := by decide +kernel
theorem d_NRunner_operateLong_97 : decode prog_9_method_16_code 97 = .ok (.getfield 159, 3) := by decide +kernel
theorem d_NRunner_operateLong_100 : decode prog_9_method_16_code 100 = .ok (.aload_n 2, 1) := by decide +kernel
theorem d_NRunner_operateLong_101 : decode prog_9_method_16_code 101 = .ok (.aload_n 3, 1) := by decide +kernel
theorem d_NRunner_operateLong_102 : decode prog_9_method_16_code 102 = .ok (.aload_n 3, 1) := by decide +kernel
theorem d_NRunner_operateLong_103 : decode prog_9_method_16_code 103 = .ok (.getfield 165, 3) := by decide +kernel
theorem d_NRunner_operateLong_106 : decode prog_9_method_16_code 106 = .ok (.invokevirtual 195, 3) := by decide +kernel
theorem d_NRunner_operateLong_109 : decode prog_9_method_16_code 109 = .ok (.istore 4, 2) := by decide +kernel
theorem d_NRunner_operateLong_111 : decode prog_9_method_16_code 111 = .ok (.goto 72, 3) := by decide +kernel
theorem d_NRunner_operateLong_114 : decode prog_9_method_16_code 114 = .ok (.aload_n 1, 1) := by decide +kernel
theorem d_NRunner_operateLong_115 : decode prog_9_method_16_code 115 = .ok (.getfield 159, 3) := by decide +kernel
theorem d_NRunner_operateLong_118 : decode prog_9_method_16_code 118 = .ok (.aload_n 2, 1) := by decide +kernel
theorem d_NRunner_operateLong_119 : decode prog_9_method_16_code 119 = .ok (.aload_n 3, 1) := by decide +kernel
theorem d_NRunner_operateLong_120 : decode prog_9_method_16_code 120 = .ok (.aload_n 3, 1) := by decide +kernel
theorem d_NRunner_operateLong_121 : decode prog_9_method_16_code 121 = .ok (.getfield 165, 3) := by decide +kernel
theorem d_NRunner_operateLong_124 : decode prog_9_method_16_code 124 = .ok (.ineg, 1) := by decide +kernel
theorem d_NRunner_operateLong_125 : decode prog_9_method_16_code 125 = .ok (.invokevirtual 195, 3) := by decide +kernel
theorem d_NRunner_operateLong_128 : decode prog_9_method_16_code 128 = .ok (.istore 4, 2) := by decide +kernel
theorem d_NRunner_operateLong_130 : decode prog_9_method_16_code 130 = .ok (.goto 53, 3) := by decide +kernel
theorem d_NRunner_operateLong_133 : decode prog_9_method_16_code 133 = .ok (.aload_n 1, 1) := by decide +kernel
theorem d_NRunner_operateLong_134 : decode prog_9_method_16_code 134 = .ok (.getfield 159, 3) := by decide +kernel
theorem d_NRunner_operateLong_137 : decode prog_9_method_16_code 137 = .ok (.aload_n 2, 1) := by decide +kernel
theorem d_NRunner_operateLong_138 : decode prog_9_method_16_code 138 = .ok (.aload_n 3, 1) := by decide +kernel
theorem d_NRunner_operateLong_139 : decode prog_9_method_16_code 139 = .ok (.invokevirtual 199, 3) := by decide +kernel
theorem d_NRunner_operateLong_142 : decode prog_9_method_16_code 142 = .ok (.istore 4, 2) := by decide +kernel
theorem d_NRunner_operateLong_144 : decode prog_9_method_16_code 144 = .ok (.goto 39, 3) := by decide +kernel
theorem d_NRunner_operateLong_147 : decode prog_9_method_16_code 147 = .ok (.aload_n 3, 1) := by decide +kernel
theorem d_NRunner_operateLong_148 : decode prog_9_method_16_code 148 = .ok (.getfield 165, 3) := by decide +kernel
theorem d_NRunner_operateLong_151 : decode prog_9_method_16_code 151 = .ok (.ifCond .ne 5, 3) := by decide +kernel
theorem d_NRunner_operateLong_154 : decode prog_9_method_16_code 154 = .ok (.iconst 1, 1) := by decide +kernel
theorem d_NRunner_operateLong_155 : decode prog_9_method_16_code 155 = .ok (.ireturn, 1) := by decide +kernel
theorem d_NRunner_operateLong_156 : decode prog_9_method_16_code 156 = .ok (.aload_n 0, 1) := by decide +kernel
theorem d_NRunner_operateLong_157 : decode prog_9_method_16_code 157 = .ok (.getfield 47, 3) := by decide +kernel
theorem d_NRunner_operateLong_160 : decode prog_9_method_16_code 160 = .ok (.aload_n 2, 1) := by decide +kernel
theorem d_NRunner_operateLong_161 : decode prog_9_method_16_code 161 = .ok (.aload_n 3, 1) := by decide +kernel
theorem d_NRunner_operateLong_162 : decode prog_9_method_16_code 162 = .ok (.aload_n 1, 1) := by decide +kernel
theorem d_NRunner_operateLong_163 : decode prog_9_method_16_code 163 = .ok (.getfield 159, 3) := by decide +kernel
theorem d_NRunner_operateLong_166 : decode prog_9_method_16_code 166 = .ok (.aload_n 1, 1) := by decide +kernel
theorem d_NRunner_operateLong_167 : decode prog_9_method_16_code 167 = .ok (.getfield 178, 3) := by decide +kernel
theorem d_NRunner_operateLong_170 : decode prog_9_method_16_code 170 = .ok (.bipush 7, 2) := by decide +kernel
theorem d_NRunner_operateLong_172 : decode prog_9_method_16_code 172 = .ok (.if_icmp .ne 7, 3) := by decide +kernel
theorem d_NRunner_operateLong_175 : decode prog_9_method_16_code 175 = .ok (.iconst 1, 1) := by decide +kernel
theorem d_NRunner_operateLong_176 : decode prog_9_method_16_code 176 = .ok (.goto 4, 3) := by decide +kernel
theorem d_NRunner_operateLong_179 : decode prog_9_method_16_code 179 = .ok (.iconst 0, 1) := by decide +kernel
theorem d_NRunner_operateLong_180 : decode prog_9_method_16_code 180 = .ok (.invokevirtual 203, 3) := by decide +kernel
theorem d_NRunner_operateLong_183 : decode prog_9_method_16_code 183 = .ok (.iload 4, 2) := by decide +kernel
theorem d_NRunner_operateLong_185 : decode prog_9_method_16_code 185 = .ok (.ifCond .eq 7, 3) := by decide +kernel
theorem d_NRunner_operateLong_188 : decode prog_9_method_16_code 188 = .ok (.iconst 0, 1) := by decide +kernel
theorem d_NRunner_operateLong_189 : decode prog_9_method_16_code 189 = .ok (.goto 4, 3) := by decide +kernel
theorem d_NRunner_operateLong_192 : decode prog_9_method_16_code 192 = .ok (.iconst 2, 1) := by decide +kernel
theorem d_NRunner_operateLong_193 : decode prog_9_method_16_code 193 = .ok (.ireturn, 1) := by decide +kernel
theorem d_NRunner_store_0 : decode prog_9_method_10_code 0 = .ok (.aload_n 0, 1) := by decide +kernel
theorem d_NRunner_store_1 : decode prog_9_method_10_code 1 = .ok (.getfield 12, 3) := by decide +kernel
theorem d_NRunner_store_4 : decode prog_9_method_10_code 4 = .ok (.getfield 98, 3) := by decide +kernel
theorem d_NRunner_store_7 : decode prog_9_method_10_code 7 = .ok (.iload_n 1, 1) := by decide +kernel
theorem d_NRunner_store_8 : decode prog_9_method_10_code 8 = .ok (.aaload, 1) := by decide +kernel
theorem d_NRunner_store_9 : decode prog_9_method_10_code 9 = .ok (.invokevirtual 102, 3) := by decide +kernel
theorem d_NRunner_store_12 : decode prog_9_method_10_code 12 = .ok (.ifCond .eq 13, 3) := by decide +kernel
theorem d_NRunner_store_15 : decode prog_9_method_10_code 15 = .ok (.aload_n 0, 1) := by decide +kernel
theorem d_NRunner_store_16 : decode prog_9_method_10_code 16 = .ok (.getfield 29, 3) := by decide +kernel
theorem d_NRunner_store_19 : decode prog_9_method_10_code 19 = .ok (.iload_n 1, 1) := by decide +kernel
theorem d_NRunner_store_20 : decode prog_9_method_10_code 20 = .ok (.lload_n 2, 1) := by decide +kernel
theorem d_NRunner_store_21 : decode prog_9_method_10_code 21 = .ok (.lastore, 1) := by decide +kernel
theorem d_NRunner_store_22 : decode prog_9_method_10_code 22 = .ok (.goto 13, 3) := by decide +kernel
theorem d_NRunner_store_25 : decode prog_9_method_10_code 25 = .ok (.aload_n 0, 1) := by decide +kernel
theorem d_NRunner_store_26 : decode prog_9_method_10_code 26 = .ok (.getfield 35, 3) := by decide +kernel
theorem d_NRunner_store_29 : decode prog_9_method_10_code 29 = .ok (.iload_n 1, 1) := by decide +kernel
theorem d_NRunner_store_30 : decode prog_9_method_10_code 30 = .ok (.aaload, 1) := by decide +kernel
theorem d_NRunner_store_31 : decode prog_9_method_10_code 31 = .ok (.lload_n 2, 1) := by decide +kernel
theorem d_NRunner_store_32 : decode prog_9_method_10_code 32 = .ok (.invokevirtual 69, 3) := by decide +kernel
theorem d_NRunner_store_35 : decode prog_9_method_10_code 35 = .ok (.return_, 1) := by decide +kernel
theorem d_NRunner_valueOf_0 : decode prog_9_method_6_code 0 = .ok (.aload_n 0, 1) := by decide +kernel
theorem d_NRunner_valueOf_1 : decode prog_9_method_6_code 1 = .ok (.getfield 12, 3) := by decide +kernel
theorem d_NRunner_valueOf_4 : decode prog_9_method_6_code 4 = .ok (.getfield 98, 3) := by decide +kernel
theorem d_NRunner_valueOf_7 : decode prog_9_method_6_code 7 = .ok (.iload_n 1, 1) := by decide +kernel
theorem d_NRunner_valueOf_8 : decode prog_9_method_6_code 8 = .ok (.aaload, 1) := by decide +kernel
theorem d_NRunner_valueOf_9 : decode prog_9_method_6_code 9 = .ok (.invokevirtual 102, 3) := by decide +kernel
theorem d_NRunner_valueOf_12 : decode prog_9_method_6_code 12 = .ok (.ifCond .ne 10, 3) := by decide +kernel
theorem d_NRunner_valueOf_15 : decode prog_9_method_6_code 15 = .ok (.aload_n 0, 1) := by decide +kernel
theorem d_NRunner_valueOf_16 : decode prog_9_method_6_code 16 = .ok (.getfield 35, 3) := by decide +kernel
theorem d_NRunner_valueOf_19 : decode prog_9_method_6_code 19 = .ok (.iload_n 1, 1) := by decide +kernel
theorem d_NRunner_valueOf_20 : decode prog_9_method_6_code 20 = .ok (.aaload, 1) := by decide +kernel
theorem d_NRunner_valueOf_21 : decode prog_9_method_6_code 21 = .ok (.areturn, 1) := by decide +kernel
theorem d_NRunner_valueOf_22 : decode prog_9_method_6_code 22 = .ok (.aload_n 0, 1) := by decide +kernel
theorem d_NRunner_valueOf_23 : decode prog_9_method_6_code 23 = .ok (.getfield 40, 3) := by decide +kernel
theorem d_NRunner_valueOf_26 : decode prog_9_method_6_code 26 = .ok (.aload_n 0, 1) := by decide +kernel
theorem d_NRunner_valueOf_27 : decode prog_9_method_6_code 27 = .ok (.getfield 29, 3) := by decide +kernel
theorem d_NRunner_valueOf_30 : decode prog_9_method_6_code 30 = .ok (.iload_n 1, 1) := by decide +kernel
theorem d_NRunner_valueOf_31 : decode prog_9_method_6_code 31 = .ok (.laload, 1) := by decide +kernel
theorem d_NRunner_valueOf_32 : decode prog_9_method_6_code 32 = .ok (.invokevirtual 69, 3) := by decide +kernel
theorem d_NRunner_valueOf_35 : decode prog_9_method_6_code 35 = .ok (.aload_n 0, 1) := by decide +kernel
theorem d_NRunner_valueOf_36 : decode prog_9_method_6_code 36 = .ok (.getfield 40, 3) := by decide +kernel
theorem d_NRunner_valueOf_39 : decode prog_9_method_6_code 39 = .ok (.areturn, 1) := by decide +kernel
theorem d_NRunner_workOut_0 : decode prog_9_method_13_code 0 = .ok (.aload_n 1, 1) := by decide +kernel
theorem d_NRunner_workOut_1 : decode prog_9_method_13_code 1 = .ok (.getfield 175, 3) := by decide +kernel
theorem d_NRunner_workOut_4 : decode prog_9_method_13_code 4 = .ok (.istore_n 2, 1) := by decide +kernel
theorem d_NRunner_workOut_5 : decode prog_9_method_13_code 5 = .ok (.iload_n 2, 1) := by decide +kernel
theorem d_NRunner_workOut_6 : decode prog_9_method_13_code 6 = .ok (.aload_n 1, 1) := by decide +kernel
theorem d_NRunner_workOut_7 : decode prog_9_method_13_code 7 = .ok (.getfield 133, 3) := by decide +kernel
theorem d_NRunner_workOut_10 : decode prog_9_method_13_code 10 = .ok (.if_icmp .gt 75, 3) := by decide +kernel
theorem d_NRunner_workOut_13 : decode prog_9_method_13_code 13 = .ok (.aload_n 0, 1) := by decide +kernel
theorem d_NRunner_workOut_14 : decode prog_9_method_13_code 14 = .ok (.getfield 12, 3) := by decide +kernel
theorem d_NRunner_workOut_17 : decode prog_9_method_13_code 17 = .ok (.getfield 129, 3) := by decide +kernel
theorem d_NRunner_workOut_20 : decode prog_9_method_13_code 20 = .ok (.iload_n 2, 1) := by decide +kernel
theorem d_NRunner_workOut_21 : decode prog_9_method_13_code 21 = .ok (.aaload, 1) := by decide +kernel
theorem d_NRunner_workOut_22 : decode prog_9_method_13_code 22 = .ok (.astore_n 3, 1) := by decide +kernel
theorem d_NRunner_workOut_23 : decode prog_9_method_13_code 23 = .ok (.iconst 0, 1) := by decide +kernel
theorem d_NRunner_workOut_24 : decode prog_9_method_13_code 24 = .ok (.istore 4, 2) := by decide +kernel
theorem d_NRunner_workOut_26 : decode prog_9_method_13_code 26 = .ok (.aload_n 3, 1) := by decide +kernel
theorem d_NRunner_workOut_27 : decode prog_9_method_13_code 27 = .ok (.getfield 178, 3) := by decide +kernel
theorem d_NRunner_workOut_30 : decode prog_9_method_13_code 30 = .ok (.iconst 1, 1) := by decide +kernel
theorem d_NRunner_workOut_31 : decode prog_9_method_13_code 31 = .ok (.if_icmp .ne 11, 3) := by decide +kernel
theorem d_NRunner_workOut_34 : decode prog_9_method_13_code 34 = .ok (.aload_n 0, 1) := by decide +kernel
theorem d_NRunner_workOut_35 : decode prog_9_method_13_code 35 = .ok (.aload_n 3, 1) := by decide +kernel
theorem d_NRunner_workOut_36 : decode prog_9_method_13_code 36 = .ok (.invokevirtual 179, 3) := by decide +kernel
theorem d_NRunner_workOut_39 : decode prog_9_method_13_code 39 = .ok (.goto 32, 3) := by decide +kernel
theorem d_NRunner_workOut_42 : decode prog_9_method_13_code 42 = .ok (.aload_n 3, 1) := by decide +kernel
theorem d_NRunner_workOut_43 : decode prog_9_method_13_code 43 = .ok (.getfield 178, 3) := by decide +kernel
theorem d_NRunner_workOut_46 : decode prog_9_method_13_code 46 = .ok (.ifCond .eq 25, 3) := by decide +kernel
theorem d_NRunner_workOut_49 : decode prog_9_method_13_code 49 = .ok (.aload_n 3, 1) := by decide +kernel
theorem d_NRunner_workOut_50 : decode prog_9_method_13_code 50 = .ok (.getfield 152, 3) := by decide +kernel
theorem d_NRunner_workOut_53 : decode prog_9_method_13_code 53 = .ok (.ifCond .eq 11, 3) := by decide +kernel
theorem d_NRunner_workOut_56 : decode prog_9_method_13_code 56 = .ok (.aload_n 0, 1) := by decide +kernel
theorem d_NRunner_workOut_57 : decode prog_9_method_13_code 57 = .ok (.aload_n 3, 1) := by decide +kernel
theorem d_NRunner_workOut_58 : decode prog_9_method_13_code 58 = .ok (.invokevirtual 182, 3) := by decide +kernel
theorem d_NRunner_workOut_61 : decode prog_9_method_13_code 61 = .ok (.goto 8, 3) := by decide +kernel
theorem d_NRunner_workOut_64 : decode prog_9_method_13_code 64 = .ok (.aload_n 0, 1) := by decide +kernel
theorem d_NRunner_workOut_65 : decode prog_9_method_13_code 65 = .ok (.aload_n 3, 1) := by decide +kernel
theorem d_NRunner_workOut_66 : decode prog_9_method_13_code 66 = .ok (.invokevirtual 186, 3) := by decide +kernel
theorem d_NRunner_workOut_69 : decode prog_9_method_13_code 69 = .ok (.istore 4, 2) := by decide +kernel
theorem d_NRunner_workOut_71 : decode prog_9_method_13_code 71 = .ok (.iload 4, 2) := by decide +kernel
theorem d_NRunner_workOut_73 : decode prog_9_method_13_code 73 = .ok (.ifCond .eq 6, 3) := by decide +kernel
theorem d_NRunner_workOut_76 : decode prog_9_method_13_code 76 = .ok (.iload 4, 2) := by decide +kernel
theorem d_NRunner_workOut_78 : decode prog_9_method_13_code 78 = .ok (.ireturn, 1) := by decide +kernel
theorem d_NRunner_workOut_79 : decode prog_9_method_13_code 79 = .ok (.iinc 2 1, 3) := by decide +kernel
theorem d_NRunner_workOut_82 : decode prog_9_method_13_code 82 = .ok (.goto (-77), 3) := by decide +kernel
theorem d_NRunner_workOut_85 : decode prog_9_method_13_code 85 = .ok (.iconst 0, 1) := by decide +kernel
theorem d_NRunner_workOut_86 : decode prog_9_method_13_code 86 = .ok (.ireturn, 1) := by decide +kernel

