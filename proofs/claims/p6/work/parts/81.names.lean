theorem wd_101 {U : State} (h : TB U) (args : Array Value) : (Cond.instanceMethod ⟨"java/lang/Object", "<init>", "()V"⟩).before args U = true := h.w 101 (by decide +kernel) rfl args
theorem wd_102 {U : State} (h : TB U) (args : Array Value) : (Cond.code ⟨"java/lang/Object", "<init>", "()V"⟩ ⟨#[0xb1]⟩ 1 none).before args U = true := h.w 102 (by decide +kernel) rfl args
theorem wd_121 {U : State} (h : TB U) (args : Array Value) : (Cond.instantiable "BigRunner$Interval" 2).before args U = true := h.w 121 (by decide +kernel) rfl args
theorem wd_123 {U : State} (h : TB U) (args : Array Value) : (Cond.instanceMethod ⟨"BigRunner$Interval", "<init>", "()V"⟩).before args U = true := h.w 123 (by decide +kernel) rfl args
theorem wd_124 {U : State} (h : TB U) (args : Array Value) : (Cond.code ⟨"BigRunner$Interval", "<init>", "()V"⟩ prog_3_method_1_code 1 none).before args U = true := h.w 124 (by decide +kernel) rfl args
theorem wd_125 {U : State} (h : TB U) (args : Array Value) : (Cond.methodLink "BigRunner$Interval" 5 ⟨"java/lang/Object", "<init>", "()V"⟩).before args U = true := h.w 125 (by decide +kernel) rfl args
theorem wd_142 {U : State} (h : TB U) (args : Array Value) : (Cond.methodLink "BigRunner$Statement" 1 ⟨"java/lang/Object", "<init>", "()V"⟩).before args U = true := h.w 142 (by decide +kernel) rfl args
theorem wd_143 {U : State} (h : TB U) (args : Array Value) : (Cond.fieldLink "BigRunner$Statement" 9 "BigRunner$Statement" "kind" "I").before args U = true := h.w 143 (by decide +kernel) rfl args
theorem wd_147 {U : State} (h : TB U) (args : Array Value) : (Cond.fieldLink "BigRunner$Statement" 13 "BigRunner$Statement" "name" "I").before args U = true := h.w 147 (by decide +kernel) rfl args
theorem wd_151 {U : State} (h : TB U) (args : Array Value) : (Cond.fieldLink "BigRunner$Statement" 16 "BigRunner$Statement" "firstNode" "I").before args U = true := h.w 151 (by decide +kernel) rfl args
theorem wd_155 {U : State} (h : TB U) (args : Array Value) : (Cond.fieldLink "BigRunner$Statement" 19 "BigRunner$Statement" "lastNode" "I").before args U = true := h.w 155 (by decide +kernel) rfl args
theorem wd_159 {U : State} (h : TB U) (args : Array Value) : (Cond.fieldLink "BigRunner$Statement" 22 "BigRunner$Statement" "target" "I").before args U = true := h.w 159 (by decide +kernel) rfl args
theorem wd_177 {U : State} (h : TB U) (args : Array Value) : (Cond.methodLink "BigRunner$Node" 1 ⟨"java/lang/Object", "<init>", "()V"⟩).before args U = true := h.w 177 (by decide +kernel) rfl args
theorem wd_178 {U : State} (h : TB U) (args : Array Value) : (Cond.classLink "BigRunner$Node" 19 "BigRunner$Interval").before args U = true := h.w 178 (by decide +kernel) rfl args
theorem wd_179 {U : State} (h : TB U) (args : Array Value) : (Cond.methodLinkNest "BigRunner$Node" 21 ⟨"BigRunner$Interval", "<init>", "()V"⟩ "BigRunner").before args U = true := h.w 179 (by decide +kernel) rfl args
theorem wd_180 {U : State} (h : TB U) (args : Array Value) : (Cond.classLink "BigRunner$Node" 34 "BigRunner$LongNumber").before args U = true := h.w 180 (by decide +kernel) rfl args
theorem wd_181 {U : State} (h : TB U) (args : Array Value) : (Cond.instantiable "BigRunner$LongNumber" 3).before args U = true := h.w 181 (by decide +kernel) rfl args
theorem wd_182 {U : State} (h : TB U) (args : Array Value) : (Cond.methodLinkNest "BigRunner$Node" 36 ⟨"BigRunner$LongNumber", "<init>", "()V"⟩ "BigRunner").before args U = true := h.w 182 (by decide +kernel) rfl args
theorem wd_183 {U : State} (h : TB U) (args : Array Value) : (Cond.instanceMethod ⟨"BigRunner$LongNumber", "<init>", "()V"⟩).before args U = true := h.w 183 (by decide +kernel) rfl args
theorem wd_184 {U : State} (h : TB U) (args : Array Value) : (Cond.code ⟨"BigRunner$LongNumber", "<init>", "()V"⟩ prog_5_method_1_code 1 none).before args U = true := h.w 184 (by decide +kernel) rfl args
theorem wd_185 {U : State} (h : TB U) (args : Array Value) : (Cond.methodLink "BigRunner$LongNumber" 1 ⟨"java/lang/Object", "<init>", "()V"⟩).before args U = true := h.w 185 (by decide +kernel) rfl args
theorem wd_201 {U : State} (h : TB U) (args : Array Value) : (Cond.arrayClass .int).before args U = true := h.w 201 (by decide +kernel) rfl args
theorem wd_202 {U : State} (h : TB U) (args : Array Value) : (Cond.fieldLink "BigRunner$Node" 9 "BigRunner$Node" "kind" "I").before args U = true := h.w 202 (by decide +kernel) rfl args
theorem wd_206 {U : State} (h : TB U) (args : Array Value) : (Cond.fieldLink "BigRunner$Node" 13 "BigRunner$Node" "left" "I").before args U = true := h.w 206 (by decide +kernel) rfl args
theorem wd_210 {U : State} (h : TB U) (args : Array Value) : (Cond.fieldLink "BigRunner$Node" 16 "BigRunner$Node" "right" "I").before args U = true := h.w 210 (by decide +kernel) rfl args
theorem wd_214 {U : State} (h : TB U) (args : Array Value) : (Cond.fieldLink "BigRunner$Node" 22 "BigRunner$Node" "interval" "LBigRunner$Interval;").before args U = true := h.w 214 (by decide +kernel) rfl args
theorem wd_297 {U : State} (h : TB U) (args : Array Value) : (Cond.methodLink "BigRunner$Inputs" 1 ⟨"java/lang/Object", "<init>", "()V"⟩).before args U = true := h.w 297 (by decide +kernel) rfl args
theorem wd_318 {U : State} (h : TB U) (args : Array Value) : (Cond.methodLink "BigRunner$LongDivision" 3 ⟨"java/lang/Object", "<init>", "()V"⟩).before args U = true := h.w 318 (by decide +kernel) rfl args
theorem d_NInputs_init_0 : decode prog_2_method_1_code 0 = .ok (.aload_n 0, 1) := by decide +kernel
theorem d_NInputs_init_1 : decode prog_2_method_1_code 1 = .ok (.invokespecial 1, 3) := by decide +kernel
theorem d_NInputs_init_4 : decode prog_2_method_1_code 4 = .ok (.aload_n 0, 1) := by decide +kernel
theorem d_NInputs_init_5 : decode prog_2_method_1_code 5 = .ok (.bipush 20, 2) := by decide +kernel
theorem d_NInputs_init_7 : decode prog_2_method_1_code 7 = .ok (.newarray .int, 2) := by decide +kernel
theorem d_NInputs_init_9 : decode prog_2_method_1_code 9 = .ok (.putfield 9, 3) := by decide +kernel
theorem d_NInputs_init_12 : decode prog_2_method_1_code 12 = .ok (.aload_n 0, 1) := by decide +kernel
theorem d_NInputs_init_13 : decode prog_2_method_1_code 13 = .ok (.iconst 0, 1) := by decide +kernel
theorem d_NInputs_init_14 : decode prog_2_method_1_code 14 = .ok (.putfield 13, 3) := by decide +kernel
theorem d_NInputs_init_17 : decode prog_2_method_1_code 17 = .ok (.aload_n 0, 1) := by decide +kernel
theorem d_NInputs_init_18 : decode prog_2_method_1_code 18 = .ok (.iconst 0, 1) := by decide +kernel
theorem d_NInputs_init_19 : decode prog_2_method_1_code 19 = .ok (.putfield 17, 3) := by decide +kernel
theorem d_NInputs_init_22 : decode prog_2_method_1_code 22 = .ok (.return_, 1) := by decide +kernel
theorem d_NInterval_init_0 : decode prog_3_method_1_code 0 = .ok (.aload_n 0, 1) := by decide +kernel
theorem d_NInterval_init_1 : decode prog_3_method_1_code 1 = .ok (.invokespecial 5, 3) := by decide +kernel
theorem d_NInterval_init_4 : decode prog_3_method_1_code 4 = .ok (.aload_n 0, 1) := by decide +kernel
theorem d_NInterval_init_5 : decode prog_3_method_1_code 5 = .ok (.lconst 0, 1) := by decide +kernel
theorem d_NInterval_init_6 : decode prog_3_method_1_code 6 = .ok (.putfield 11, 3) := by decide +kernel
theorem d_NInterval_init_9 : decode prog_3_method_1_code 9 = .ok (.aload_n 0, 1) := by decide +kernel
theorem d_NInterval_init_10 : decode prog_3_method_1_code 10 = .ok (.lconst 0, 1) := by decide +kernel
theorem d_NInterval_init_11 : decode prog_3_method_1_code 11 = .ok (.putfield 15, 3) := by decide +kernel
theorem d_NInterval_init_14 : decode prog_3_method_1_code 14 = .ok (.return_, 1) := by decide +kernel
theorem d_NLongDivision_init_0 : decode prog_4_method_1_code 0 = .ok (.aload_n 0, 1) := by decide +kernel
theorem d_NLongDivision_init_1 : decode prog_4_method_1_code 1 = .ok (.invokespecial 3, 3) := by decide +kernel
theorem d_NLongDivision_init_4 : decode prog_4_method_1_code 4 = .ok (.aload_n 0, 1) := by decide +kernel
theorem d_NLongDivision_init_5 : decode prog_4_method_1_code 5 = .ok (.bipush 16, 2) := by decide +kernel
theorem d_NLongDivision_init_7 : decode prog_4_method_1_code 7 = .ok (.newarray .int, 2) := by decide +kernel
theorem d_NLongDivision_init_9 : decode prog_4_method_1_code 9 = .ok (.putfield 9, 3) := by decide +kernel
theorem d_NLongDivision_init_12 : decode prog_4_method_1_code 12 = .ok (.aload_n 0, 1) := by decide +kernel
theorem d_NLongDivision_init_13 : decode prog_4_method_1_code 13 = .ok (.bipush 16, 2) := by decide +kernel
theorem d_NLongDivision_init_15 : decode prog_4_method_1_code 15 = .ok (.newarray .int, 2) := by decide +kernel
theorem d_NLongDivision_init_17 : decode prog_4_method_1_code 17 = .ok (.putfield 15, 3) := by decide +kernel
theorem d_NLongDivision_init_20 : decode prog_4_method_1_code 20 = .ok (.aload_n 0, 1) := by decide +kernel
theorem d_NLongDivision_init_21 : decode prog_4_method_1_code 21 = .ok (.iconst 0, 1) := by decide +kernel
theorem d_NLongDivision_init_22 : decode prog_4_method_1_code 22 = .ok (.putfield 18, 3) := by decide +kernel
theorem d_NLongDivision_init_25 : decode prog_4_method_1_code 25 = .ok (.return_, 1) := by decide +kernel
theorem d_NLongNumber_init_0 : decode prog_5_method_1_code 0 = .ok (.aload_n 0, 1) := by decide +kernel
theorem d_NLongNumber_init_1 : decode prog_5_method_1_code 1 = .ok (.invokespecial 1, 3) := by decide +kernel
theorem d_NLongNumber_init_4 : decode prog_5_method_1_code 4 = .ok (.aload_n 0, 1) := by decide +kernel
theorem d_NLongNumber_init_5 : decode prog_5_method_1_code 5 = .ok (.iconst 0, 1) := by decide +kernel
theorem d_NLongNumber_init_6 : decode prog_5_method_1_code 6 = .ok (.putfield 7, 3) := by decide +kernel
theorem d_NLongNumber_init_9 : decode prog_5_method_1_code 9 = .ok (.aload_n 0, 1) := by decide +kernel
theorem d_NLongNumber_init_10 : decode prog_5_method_1_code 10 = .ok (.iconst 0, 1) := by decide +kernel
theorem d_NLongNumber_init_11 : decode prog_5_method_1_code 11 = .ok (.putfield 13, 3) := by decide +kernel
theorem d_NLongNumber_init_14 : decode prog_5_method_1_code 14 = .ok (.aload_n 0, 1) := by decide +kernel
theorem d_NLongNumber_init_15 : decode prog_5_method_1_code 15 = .ok (.bipush 15, 2) := by decide +kernel
theorem d_NLongNumber_init_17 : decode prog_5_method_1_code 17 = .ok (.newarray .int, 2) := by decide +kernel
theorem d_NLongNumber_init_19 : decode prog_5_method_1_code 19 = .ok (.putfield 16, 3) := by decide +kernel
theorem d_NLongNumber_init_22 : decode prog_5_method_1_code 22 = .ok (.return_, 1) := by decide +kernel
theorem d_NNode_init_0 : decode prog_6_method_1_code 0 = .ok (.aload_n 0, 1) := by decide +kernel
theorem d_NNode_init_1 : decode prog_6_method_1_code 1 = .ok (.invokespecial 1, 3) := by decide +kernel
theorem d_NNode_init_4 : decode prog_6_method_1_code 4 = .ok (.aload_n 0, 1) := by decide +kernel
theorem d_NNode_init_5 : decode prog_6_method_1_code 5 = .ok (.iconst 0, 1) := by decide +kernel
theorem d_NNode_init_6 : decode prog_6_method_1_code 6 = .ok (.putfield 9, 3) := by decide +kernel
theorem d_NNode_init_9 : decode prog_6_method_1_code 9 = .ok (.aload_n 0, 1) := by decide +kernel
theorem d_NNode_init_10 : decode prog_6_method_1_code 10 = .ok (.iconst 0, 1) := by decide +kernel
theorem d_NNode_init_11 : decode prog_6_method_1_code 11 = .ok (.putfield 13, 3) := by decide +kernel
theorem d_NNode_init_14 : decode prog_6_method_1_code 14 = .ok (.aload_n 0, 1) := by decide +kernel
theorem d_NNode_init_15 : decode prog_6_method_1_code 15 = .ok (.iconst 0, 1) := by decide +kernel
theorem d_NNode_init_16 : decode prog_6_method_1_code 16 = .ok (.putfield 16, 3) := by decide +kernel
theorem d_NNode_init_19 : decode prog_6_method_1_code 19 = .ok (.aload_n 0, 1) := by decide +kernel
theorem d_NNode_init_20 : decode prog_6_method_1_code 20 = .ok (.new 19, 3) := by decide +kernel
theorem d_NNode_init_23 : decode prog_6_method_1_code 23 = .ok (.dup, 1) := by decide +kernel
theorem d_NNode_init_24 : decode prog_6_method_1_code 24 = .ok (.invokespecial 21, 3) := by decide +kernel
theorem d_NNode_init_27 : decode prog_6_method_1_code 27 = .ok (.putfield 22, 3) := by decide +kernel
theorem d_NNode_init_30 : decode prog_6_method_1_code 30 = .ok (.aload_n 0, 1) := by decide +kernel
theorem d_NNode_init_31 : decode prog_6_method_1_code 31 = .ok (.iconst 1, 1) := by decide +kernel
theorem d_NNode_init_32 : decode prog_6_method_1_code 32 = .ok (.putfield 26, 3) := by decide +kernel
theorem d_NNode_init_35 : decode prog_6_method_1_code 35 = .ok (.aload_n 0, 1) := by decide +kernel
theorem d_NNode_init_36 : decode prog_6_method_1_code 36 = .ok (.lconst 0, 1) := by decide +kernel
theorem d_NNode_init_37 : decode prog_6_method_1_code 37 = .ok (.putfield 30, 3) := by decide +kernel
theorem d_NNode_init_40 : decode prog_6_method_1_code 40 = .ok (.aload_n 0, 1) := by decide +kernel
theorem d_NNode_init_41 : decode prog_6_method_1_code 41 = .ok (.new 34, 3) := by decide +kernel
theorem d_NNode_init_44 : decode prog_6_method_1_code 44 = .ok (.dup, 1) := by decide +kernel
theorem d_NNode_init_45 : decode prog_6_method_1_code 45 = .ok (.invokespecial 36, 3) := by decide +kernel
theorem d_NNode_init_48 : decode prog_6_method_1_code 48 = .ok (.putfield 37, 3) := by decide +kernel
theorem d_NNode_init_51 : decode prog_6_method_1_code 51 = .ok (.return_, 1) := by decide +kernel
theorem d_NStatement_init_0 : decode prog_10_method_1_code 0 = .ok (.aload_n 0, 1) := by decide +kernel
theorem d_NStatement_init_1 : decode prog_10_method_1_code 1 = .ok (.invokespecial 1, 3) := by decide +kernel
theorem d_NStatement_init_4 : decode prog_10_method_1_code 4 = .ok (.aload_n 0, 1) := by decide +kernel
theorem d_NStatement_init_5 : decode prog_10_method_1_code 5 = .ok (.iconst 5, 1) := by decide +kernel
theorem d_NStatement_init_6 : decode prog_10_method_1_code 6 = .ok (.putfield 9, 3) := by decide +kernel
theorem d_NStatement_init_9 : decode prog_10_method_1_code 9 = .ok (.aload_n 0, 1) := by decide +kernel
theorem d_NStatement_init_10 : decode prog_10_method_1_code 10 = .ok (.iconst 0, 1) := by decide +kernel
theorem d_NStatement_init_11 : decode prog_10_method_1_code 11 = .ok (.putfield 13, 3) := by decide +kernel
theorem d_NStatement_init_14 : decode prog_10_method_1_code 14 = .ok (.aload_n 0, 1) := by decide +kernel
theorem d_NStatement_init_15 : decode prog_10_method_1_code 15 = .ok (.iconst 0, 1) := by decide +kernel
theorem d_NStatement_init_16 : decode prog_10_method_1_code 16 = .ok (.putfield 16, 3) := by decide +kernel
theorem d_NStatement_init_19 : decode prog_10_method_1_code 19 = .ok (.aload_n 0, 1) := by decide +kernel
theorem d_NStatement_init_20 : decode prog_10_method_1_code 20 = .ok (.iconst (-1), 1) := by decide +kernel
theorem d_NStatement_init_21 : decode prog_10_method_1_code 21 = .ok (.putfield 19, 3) := by decide +kernel
theorem d_NStatement_init_24 : decode prog_10_method_1_code 24 = .ok (.aload_n 0, 1) := by decide +kernel
theorem d_NStatement_init_25 : decode prog_10_method_1_code 25 = .ok (.iconst 0, 1) := by decide +kernel
theorem d_NStatement_init_26 : decode prog_10_method_1_code 26 = .ok (.putfield 22, 3) := by decide +kernel
theorem d_NStatement_init_29 : decode prog_10_method_1_code 29 = .ok (.return_, 1) := by decide +kernel

