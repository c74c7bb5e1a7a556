theorem wd_25 {U : State} (h : TB U) (args : Array Value) : (Cond.selects "BigRunner$Runner" ⟨"BigRunner$Runner", "proceed", "(I)V"⟩ ⟨"BigRunner$Runner", "proceed", "(I)V"⟩).before args U = true := h.w 25 (by decide +kernel) rfl args
theorem wd_26 {U : State} (h : TB U) (args : Array Value) : (Cond.selects "BigRunner$Runner" ⟨"BigRunner$Runner", "workOut", "(LBigRunner$Statement;)I"⟩ ⟨"BigRunner$Runner", "workOut", "(LBigRunner$Statement;)I"⟩).before args U = true := h.w 26 (by decide +kernel) rfl args
theorem wd_38 {U : State} (h : TB U) (args : Array Value) : (Cond.selects "BigRunner$Runner" ⟨"BigRunner$Runner", "assign", "(ILBigRunner$Node;)V"⟩ ⟨"BigRunner$Runner", "assign", "(ILBigRunner$Node;)V"⟩).before args U = true := h.w 38 (by decide +kernel) rfl args
theorem wd_39 {U : State} (h : TB U) (args : Array Value) : (Cond.selects "BigRunner$Runner" ⟨"BigRunner$Runner", "keep", "(LBigRunner$Node;)V"⟩ ⟨"BigRunner$Runner", "keep", "(LBigRunner$Node;)V"⟩).before args U = true := h.w 39 (by decide +kernel) rfl args
theorem wd_80 {U : State} (h : TB U) (args : Array Value) : (Cond.initialized "BigRunner$Inputs").before args U = true := h.w 80 (by decide +kernel) rfl args
theorem wd_149 {U : State} (h : TB U) (args : Array Value) : (Cond.fieldLink "BigRunner$Runner" 110 "BigRunner$Statement" "name" "I").before args U = true := h.w 149 (by decide +kernel) rfl args
theorem wd_160 {U : State} (h : TB U) (args : Array Value) : (Cond.fieldLink "BigRunner$Runner" 149 "BigRunner$Statement" "target" "I").before args U = true := h.w 160 (by decide +kernel) rfl args
theorem wd_722 {U : State} (h : TB U) (args : Array Value) : (Cond.methodLink "BigRunner$Runner" 113 ⟨"BigRunner$Inputs", "take", "()I"⟩).before args U = true := h.w 722 (by decide +kernel) rfl args
theorem wd_723 {U : State} (h : TB U) (args : Array Value) : (Cond.instanceMethod ⟨"BigRunner$Inputs", "take", "()I"⟩).before args U = true := h.w 723 (by decide +kernel) rfl args
theorem wd_724 {U : State} (h : TB U) (args : Array Value) : (Cond.selects "BigRunner$Inputs" ⟨"BigRunner$Inputs", "take", "()I"⟩ ⟨"BigRunner$Inputs", "take", "()I"⟩).before args U = true := h.w 724 (by decide +kernel) rfl args
theorem wd_725 {U : State} (h : TB U) (args : Array Value) : (Cond.code ⟨"BigRunner$Inputs", "take", "()I"⟩ prog_2_method_3_code 2 (some .int)).before args U = true := h.w 725 (by decide +kernel) rfl args
theorem wd_731 {U : State} (h : TB U) (args : Array Value) : (Cond.methodLink "BigRunner$Runner" 121 ⟨"BigRunner$Runner", "proceed", "(I)V"⟩).before args U = true := h.w 731 (by decide +kernel) rfl args
theorem wd_733 {U : State} (h : TB U) (args : Array Value) : (Cond.instanceMethod ⟨"BigRunner$Runner", "proceed", "(I)V"⟩).before args U = true := h.w 733 (by decide +kernel) rfl args
theorem wd_734 {U : State} (h : TB U) (args : Array Value) : (Cond.code ⟨"BigRunner$Runner", "proceed", "(I)V"⟩ prog_9_method_9_code 3 none).before args U = true := h.w 734 (by decide +kernel) rfl args
theorem wd_735 {U : State} (h : TB U) (args : Array Value) : (Cond.methodLink "BigRunner$Runner" 125 ⟨"BigRunner$Runner", "workOut", "(LBigRunner$Statement;)I"⟩).before args U = true := h.w 735 (by decide +kernel) rfl args
theorem wd_737 {U : State} (h : TB U) (args : Array Value) : (Cond.instanceMethod ⟨"BigRunner$Runner", "workOut", "(LBigRunner$Statement;)I"⟩).before args U = true := h.w 737 (by decide +kernel) rfl args
theorem wd_738 {U : State} (h : TB U) (args : Array Value) : (Cond.code ⟨"BigRunner$Runner", "workOut", "(LBigRunner$Statement;)I"⟩ prog_9_method_13_code 5 (some .int)).before args U = true := h.w 738 (by decide +kernel) rfl args
theorem wd_831 {U : State} (h : TB U) (args : Array Value) : (Cond.methodLink "BigRunner$Runner" 136 ⟨"BigRunner$Runner", "assign", "(ILBigRunner$Node;)V"⟩).before args U = true := h.w 831 (by decide +kernel) rfl args
theorem wd_833 {U : State} (h : TB U) (args : Array Value) : (Cond.instanceMethod ⟨"BigRunner$Runner", "assign", "(ILBigRunner$Node;)V"⟩).before args U = true := h.w 833 (by decide +kernel) rfl args
theorem wd_834 {U : State} (h : TB U) (args : Array Value) : (Cond.code ⟨"BigRunner$Runner", "assign", "(ILBigRunner$Node;)V"⟩ prog_9_method_11_code 3 none).before args U = true := h.w 834 (by decide +kernel) rfl args
theorem wd_839 {U : State} (h : TB U) (args : Array Value) : (Cond.methodLink "BigRunner$Runner" 140 ⟨"BigRunner$Runner", "keep", "(LBigRunner$Node;)V"⟩).before args U = true := h.w 839 (by decide +kernel) rfl args
theorem wd_841 {U : State} (h : TB U) (args : Array Value) : (Cond.instanceMethod ⟨"BigRunner$Runner", "keep", "(LBigRunner$Node;)V"⟩).before args U = true := h.w 841 (by decide +kernel) rfl args
theorem wd_842 {U : State} (h : TB U) (args : Array Value) : (Cond.code ⟨"BigRunner$Runner", "keep", "(LBigRunner$Node;)V"⟩ prog_9_method_12_code 3 none).before args U = true := h.w 842 (by decide +kernel) rfl args
theorem wd_843 {U : State} (h : TB U) (args : Array Value) : (Cond.methodLink "BigRunner$Runner" 144 ⟨"BigRunner$Node", "sign", "()I"⟩).before args U = true := h.w 843 (by decide +kernel) rfl args
theorem wd_844 {U : State} (h : TB U) (args : Array Value) : (Cond.instanceMethod ⟨"BigRunner$Node", "sign", "()I"⟩).before args U = true := h.w 844 (by decide +kernel) rfl args
theorem wd_845 {U : State} (h : TB U) (args : Array Value) : (Cond.selects "BigRunner$Node" ⟨"BigRunner$Node", "sign", "()I"⟩ ⟨"BigRunner$Node", "sign", "()I"⟩).before args U = true := h.w 845 (by decide +kernel) rfl args
theorem wd_846 {U : State} (h : TB U) (args : Array Value) : (Cond.code ⟨"BigRunner$Node", "sign", "()I"⟩ prog_6_method_3_code 1 (some .int)).before args U = true := h.w 846 (by decide +kernel) rfl args
theorem d_NRunner_begin_0 : decode prog_9_method_2_code 0 = .ok (.aload_n 0, 1) := by decide +kernel
theorem d_NRunner_begin_1 : decode prog_9_method_2_code 1 = .ok (.aload_n 1, 1) := by decide +kernel
theorem d_NRunner_begin_2 : decode prog_9_method_2_code 2 = .ok (.putfield 12, 3) := by decide +kernel
theorem d_NRunner_begin_5 : decode prog_9_method_2_code 5 = .ok (.aload_n 0, 1) := by decide +kernel
theorem d_NRunner_begin_6 : decode prog_9_method_2_code 6 = .ok (.iconst 0, 1) := by decide +kernel
theorem d_NRunner_begin_7 : decode prog_9_method_2_code 7 = .ok (.putfield 25, 3) := by decide +kernel
theorem d_NRunner_begin_10 : decode prog_9_method_2_code 10 = .ok (.iconst 0, 1) := by decide +kernel
theorem d_NRunner_begin_11 : decode prog_9_method_2_code 11 = .ok (.istore_n 2, 1) := by decide +kernel
theorem d_NRunner_begin_12 : decode prog_9_method_2_code 12 = .ok (.iload_n 2, 1) := by decide +kernel
theorem d_NRunner_begin_13 : decode prog_9_method_2_code 13 = .ok (.bipush 10, 2) := by decide +kernel
theorem d_NRunner_begin_15 : decode prog_9_method_2_code 15 = .ok (.if_icmp .ge 26, 3) := by decide +kernel
theorem d_NRunner_begin_18 : decode prog_9_method_2_code 18 = .ok (.aload_n 0, 1) := by decide +kernel
theorem d_NRunner_begin_19 : decode prog_9_method_2_code 19 = .ok (.getfield 29, 3) := by decide +kernel
theorem d_NRunner_begin_22 : decode prog_9_method_2_code 22 = .ok (.iload_n 2, 1) := by decide +kernel
theorem d_NRunner_begin_23 : decode prog_9_method_2_code 23 = .ok (.lconst 0, 1) := by decide +kernel
theorem d_NRunner_begin_24 : decode prog_9_method_2_code 24 = .ok (.lastore, 1) := by decide +kernel
theorem d_NRunner_begin_25 : decode prog_9_method_2_code 25 = .ok (.aload_n 0, 1) := by decide +kernel
theorem d_NRunner_begin_26 : decode prog_9_method_2_code 26 = .ok (.getfield 35, 3) := by decide +kernel
theorem d_NRunner_begin_29 : decode prog_9_method_2_code 29 = .ok (.iload_n 2, 1) := by decide +kernel
theorem d_NRunner_begin_30 : decode prog_9_method_2_code 30 = .ok (.aaload, 1) := by decide +kernel
theorem d_NRunner_begin_31 : decode prog_9_method_2_code 31 = .ok (.lconst 0, 1) := by decide +kernel
theorem d_NRunner_begin_32 : decode prog_9_method_2_code 32 = .ok (.invokevirtual 69, 3) := by decide +kernel
theorem d_NRunner_begin_35 : decode prog_9_method_2_code 35 = .ok (.iinc 2 1, 3) := by decide +kernel
theorem d_NRunner_begin_38 : decode prog_9_method_2_code 38 = .ok (.goto (-26), 3) := by decide +kernel
theorem d_NRunner_begin_41 : decode prog_9_method_2_code 41 = .ok (.aload_n 0, 1) := by decide +kernel
theorem d_NRunner_begin_42 : decode prog_9_method_2_code 42 = .ok (.iconst 0, 1) := by decide +kernel
theorem d_NRunner_begin_43 : decode prog_9_method_2_code 43 = .ok (.putfield 54, 3) := by decide +kernel
theorem d_NRunner_begin_46 : decode prog_9_method_2_code 46 = .ok (.aload_n 0, 1) := by decide +kernel
theorem d_NRunner_begin_47 : decode prog_9_method_2_code 47 = .ok (.iconst 0, 1) := by decide +kernel
theorem d_NRunner_begin_48 : decode prog_9_method_2_code 48 = .ok (.putfield 57, 3) := by decide +kernel
theorem d_NRunner_begin_51 : decode prog_9_method_2_code 51 = .ok (.aload_n 0, 1) := by decide +kernel
theorem d_NRunner_begin_52 : decode prog_9_method_2_code 52 = .ok (.iconst 0, 1) := by decide +kernel
theorem d_NRunner_begin_53 : decode prog_9_method_2_code 53 = .ok (.putfield 60, 3) := by decide +kernel
theorem d_NRunner_begin_56 : decode prog_9_method_2_code 56 = .ok (.aload_n 0, 1) := by decide +kernel
theorem d_NRunner_begin_57 : decode prog_9_method_2_code 57 = .ok (.iconst 0, 1) := by decide +kernel
theorem d_NRunner_begin_58 : decode prog_9_method_2_code 58 = .ok (.putfield 63, 3) := by decide +kernel
theorem d_NRunner_begin_61 : decode prog_9_method_2_code 61 = .ok (.aload_n 0, 1) := by decide +kernel
theorem d_NRunner_begin_62 : decode prog_9_method_2_code 62 = .ok (.iconst 0, 1) := by decide +kernel
theorem d_NRunner_begin_63 : decode prog_9_method_2_code 63 = .ok (.putfield 66, 3) := by decide +kernel
theorem d_NRunner_begin_66 : decode prog_9_method_2_code 66 = .ok (.return_, 1) := by decide +kernel
theorem d_NRunner_makeStep_0 : decode prog_9_method_8_code 0 = .ok (.aload_n 0, 1) := by decide +kernel
theorem d_NRunner_makeStep_1 : decode prog_9_method_8_code 1 = .ok (.getfield 57, 3) := by decide +kernel
theorem d_NRunner_makeStep_4 : decode prog_9_method_8_code 4 = .ok (.sipush 3000, 3) := by decide +kernel
theorem d_NRunner_makeStep_7 : decode prog_9_method_8_code 7 = .ok (.if_icmp .lt 9, 3) := by decide +kernel
theorem d_NRunner_makeStep_10 : decode prog_9_method_8_code 10 = .ok (.aload_n 0, 1) := by decide +kernel
theorem d_NRunner_makeStep_11 : decode prog_9_method_8_code 11 = .ok (.iconst 3, 1) := by decide +kernel
theorem d_NRunner_makeStep_12 : decode prog_9_method_8_code 12 = .ok (.putfield 66, 3) := by decide +kernel
theorem d_NRunner_makeStep_15 : decode prog_9_method_8_code 15 = .ok (.return_, 1) := by decide +kernel
theorem d_NRunner_makeStep_16 : decode prog_9_method_8_code 16 = .ok (.aload_n 0, 1) := by decide +kernel
theorem d_NRunner_makeStep_17 : decode prog_9_method_8_code 17 = .ok (.dup, 1) := by decide +kernel
theorem d_NRunner_makeStep_18 : decode prog_9_method_8_code 18 = .ok (.getfield 57, 3) := by decide +kernel
theorem d_NRunner_makeStep_21 : decode prog_9_method_8_code 21 = .ok (.iconst 1, 1) := by decide +kernel
theorem d_NRunner_makeStep_22 : decode prog_9_method_8_code 22 = .ok (.iadd, 1) := by decide +kernel
theorem d_NRunner_makeStep_23 : decode prog_9_method_8_code 23 = .ok (.putfield 57, 3) := by decide +kernel
theorem d_NRunner_makeStep_26 : decode prog_9_method_8_code 26 = .ok (.aload_n 0, 1) := by decide +kernel
theorem d_NRunner_makeStep_27 : decode prog_9_method_8_code 27 = .ok (.getfield 12, 3) := by decide +kernel
theorem d_NRunner_makeStep_30 : decode prog_9_method_8_code 30 = .ok (.getfield 80, 3) := by decide +kernel
theorem d_NRunner_makeStep_33 : decode prog_9_method_8_code 33 = .ok (.aload_n 0, 1) := by decide +kernel
theorem d_NRunner_makeStep_34 : decode prog_9_method_8_code 34 = .ok (.getfield 25, 3) := by decide +kernel
theorem d_NRunner_makeStep_37 : decode prog_9_method_8_code 37 = .ok (.aaload, 1) := by decide +kernel
theorem d_NRunner_makeStep_38 : decode prog_9_method_8_code 38 = .ok (.astore_n 1, 1) := by decide +kernel
theorem d_NRunner_makeStep_39 : decode prog_9_method_8_code 39 = .ok (.aload_n 1, 1) := by decide +kernel
theorem d_NRunner_makeStep_40 : decode prog_9_method_8_code 40 = .ok (.getfield 84, 3) := by decide +kernel
theorem d_NRunner_makeStep_43 : decode prog_9_method_8_code 43 = .ok (.iconst 1, 1) := by decide +kernel
theorem d_NRunner_makeStep_44 : decode prog_9_method_8_code 44 = .ok (.if_icmp .ne 30, 3) := by decide +kernel
theorem d_NRunner_makeStep_47 : decode prog_9_method_8_code 47 = .ok (.aload_n 0, 1) := by decide +kernel
theorem d_NRunner_makeStep_48 : decode prog_9_method_8_code 48 = .ok (.aload_n 1, 1) := by decide +kernel
theorem d_NRunner_makeStep_49 : decode prog_9_method_8_code 49 = .ok (.getfield 110, 3) := by decide +kernel
theorem d_NRunner_makeStep_52 : decode prog_9_method_8_code 52 = .ok (.aload_n 0, 1) := by decide +kernel
theorem d_NRunner_makeStep_53 : decode prog_9_method_8_code 53 = .ok (.getfield 21, 3) := by decide +kernel
theorem d_NRunner_makeStep_56 : decode prog_9_method_8_code 56 = .ok (.invokevirtual 113, 3) := by decide +kernel
theorem d_NRunner_makeStep_59 : decode prog_9_method_8_code 59 = .ok (.i2l, 1) := by decide +kernel
theorem d_NRunner_makeStep_60 : decode prog_9_method_8_code 60 = .ok (.invokevirtual 117, 3) := by decide +kernel
theorem d_NRunner_makeStep_63 : decode prog_9_method_8_code 63 = .ok (.aload_n 0, 1) := by decide +kernel
theorem d_NRunner_makeStep_64 : decode prog_9_method_8_code 64 = .ok (.aload_n 0, 1) := by decide +kernel
theorem d_NRunner_makeStep_65 : decode prog_9_method_8_code 65 = .ok (.getfield 25, 3) := by decide +kernel
theorem d_NRunner_makeStep_68 : decode prog_9_method_8_code 68 = .ok (.iconst 1, 1) := by decide +kernel
theorem d_NRunner_makeStep_69 : decode prog_9_method_8_code 69 = .ok (.iadd, 1) := by decide +kernel
theorem d_NRunner_makeStep_70 : decode prog_9_method_8_code 70 = .ok (.invokevirtual 121, 3) := by decide +kernel
theorem d_NRunner_makeStep_73 : decode prog_9_method_8_code 73 = .ok (.return_, 1) := by decide +kernel
theorem d_NRunner_makeStep_74 : decode prog_9_method_8_code 74 = .ok (.aload_n 0, 1) := by decide +kernel
theorem d_NRunner_makeStep_75 : decode prog_9_method_8_code 75 = .ok (.aload_n 0, 1) := by decide +kernel
theorem d_NRunner_makeStep_76 : decode prog_9_method_8_code 76 = .ok (.aload_n 1, 1) := by decide +kernel
theorem d_NRunner_makeStep_77 : decode prog_9_method_8_code 77 = .ok (.invokevirtual 125, 3) := by decide +kernel
theorem d_NRunner_makeStep_80 : decode prog_9_method_8_code 80 = .ok (.putfield 66, 3) := by decide +kernel
theorem d_NRunner_makeStep_83 : decode prog_9_method_8_code 83 = .ok (.aload_n 0, 1) := by decide +kernel
theorem d_NRunner_makeStep_84 : decode prog_9_method_8_code 84 = .ok (.getfield 66, 3) := by decide +kernel
theorem d_NRunner_makeStep_87 : decode prog_9_method_8_code 87 = .ok (.ifCond .eq 4, 3) := by decide +kernel
theorem d_NRunner_makeStep_90 : decode prog_9_method_8_code 90 = .ok (.return_, 1) := by decide +kernel
theorem d_NRunner_makeStep_91 : decode prog_9_method_8_code 91 = .ok (.aload_n 0, 1) := by decide +kernel
theorem d_NRunner_makeStep_92 : decode prog_9_method_8_code 92 = .ok (.getfield 12, 3) := by decide +kernel
theorem d_NRunner_makeStep_95 : decode prog_9_method_8_code 95 = .ok (.getfield 129, 3) := by decide +kernel
theorem d_NRunner_makeStep_98 : decode prog_9_method_8_code 98 = .ok (.aload_n 1, 1) := by decide +kernel
theorem d_NRunner_makeStep_99 : decode prog_9_method_8_code 99 = .ok (.getfield 133, 3) := by decide +kernel
theorem d_NRunner_makeStep_102 : decode prog_9_method_8_code 102 = .ok (.aaload, 1) := by decide +kernel
theorem d_NRunner_makeStep_103 : decode prog_9_method_8_code 103 = .ok (.astore_n 2, 1) := by decide +kernel
theorem d_NRunner_makeStep_104 : decode prog_9_method_8_code 104 = .ok (.aload_n 1, 1) := by decide +kernel
theorem d_NRunner_makeStep_105 : decode prog_9_method_8_code 105 = .ok (.getfield 84, 3) := by decide +kernel
theorem d_NRunner_makeStep_108 : decode prog_9_method_8_code 108 = .ok (.ifCond .ne 15, 3) := by decide +kernel
theorem d_NRunner_makeStep_111 : decode prog_9_method_8_code 111 = .ok (.aload_n 0, 1) := by decide +kernel
theorem d_NRunner_makeStep_112 : decode prog_9_method_8_code 112 = .ok (.aload_n 1, 1) := by decide +kernel
theorem d_NRunner_makeStep_113 : decode prog_9_method_8_code 113 = .ok (.getfield 110, 3) := by decide +kernel
theorem d_NRunner_makeStep_116 : decode prog_9_method_8_code 116 = .ok (.aload_n 2, 1) := by decide +kernel
theorem d_NRunner_makeStep_117 : decode prog_9_method_8_code 117 = .ok (.invokevirtual 136, 3) := by decide +kernel
theorem d_NRunner_makeStep_120 : decode prog_9_method_8_code 120 = .ok (.goto 35, 3) := by decide +kernel
theorem d_NRunner_makeStep_123 : decode prog_9_method_8_code 123 = .ok (.aload_n 1, 1) := by decide +kernel
theorem d_NRunner_makeStep_124 : decode prog_9_method_8_code 124 = .ok (.getfield 84, 3) := by decide +kernel
theorem d_NRunner_makeStep_127 : decode prog_9_method_8_code 127 = .ok (.iconst 2, 1) := by decide +kernel
theorem d_NRunner_makeStep_128 : decode prog_9_method_8_code 128 = .ok (.if_icmp .ne 11, 3) := by decide +kernel
theorem d_NRunner_makeStep_131 : decode prog_9_method_8_code 131 = .ok (.aload_n 0, 1) := by decide +kernel
theorem d_NRunner_makeStep_132 : decode prog_9_method_8_code 132 = .ok (.aload_n 2, 1) := by decide +kernel
theorem d_NRunner_makeStep_133 : decode prog_9_method_8_code 133 = .ok (.invokevirtual 140, 3) := by decide +kernel
theorem d_NRunner_makeStep_136 : decode prog_9_method_8_code 136 = .ok (.goto 19, 3) := by decide +kernel
theorem d_NRunner_makeStep_139 : decode prog_9_method_8_code 139 = .ok (.aload_n 2, 1) := by decide +kernel
theorem d_NRunner_makeStep_140 : decode prog_9_method_8_code 140 = .ok (.invokevirtual 144, 3) := by decide +kernel
theorem d_NRunner_makeStep_143 : decode prog_9_method_8_code 143 = .ok (.ifCond .gt 12, 3) := by decide +kernel
theorem d_NRunner_makeStep_146 : decode prog_9_method_8_code 146 = .ok (.aload_n 0, 1) := by decide +kernel
theorem d_NRunner_makeStep_147 : decode prog_9_method_8_code 147 = .ok (.aload_n 1, 1) := by decide +kernel
theorem d_NRunner_makeStep_148 : decode prog_9_method_8_code 148 = .ok (.getfield 149, 3) := by decide +kernel
theorem d_NRunner_makeStep_151 : decode prog_9_method_8_code 151 = .ok (.invokevirtual 121, 3) := by decide +kernel
theorem d_NRunner_makeStep_154 : decode prog_9_method_8_code 154 = .ok (.return_, 1) := by decide +kernel
theorem d_NRunner_makeStep_155 : decode prog_9_method_8_code 155 = .ok (.aload_n 0, 1) := by decide +kernel
theorem d_NRunner_makeStep_156 : decode prog_9_method_8_code 156 = .ok (.aload_n 0, 1) := by decide +kernel
theorem d_NRunner_makeStep_157 : decode prog_9_method_8_code 157 = .ok (.getfield 25, 3) := by decide +kernel
theorem d_NRunner_makeStep_160 : decode prog_9_method_8_code 160 = .ok (.iconst 1, 1) := by decide +kernel
theorem d_NRunner_makeStep_161 : decode prog_9_method_8_code 161 = .ok (.iadd, 1) := by decide +kernel
theorem d_NRunner_makeStep_162 : decode prog_9_method_8_code 162 = .ok (.invokevirtual 121, 3) := by decide +kernel
theorem d_NRunner_makeStep_165 : decode prog_9_method_8_code 165 = .ok (.return_, 1) := by decide +kernel
theorem d_NRunner_proceed_0 : decode prog_9_method_9_code 0 = .ok (.aload_n 0, 1) := by decide +kernel
theorem d_NRunner_proceed_1 : decode prog_9_method_9_code 1 = .ok (.iload_n 1, 1) := by decide +kernel
theorem d_NRunner_proceed_2 : decode prog_9_method_9_code 2 = .ok (.putfield 25, 3) := by decide +kernel
theorem d_NRunner_proceed_5 : decode prog_9_method_9_code 5 = .ok (.iconst 0, 1) := by decide +kernel
theorem d_NRunner_proceed_6 : decode prog_9_method_9_code 6 = .ok (.istore_n 2, 1) := by decide +kernel
theorem d_NRunner_proceed_7 : decode prog_9_method_9_code 7 = .ok (.iload_n 2, 1) := by decide +kernel
theorem d_NRunner_proceed_8 : decode prog_9_method_9_code 8 = .ok (.bipush 36, 2) := by decide +kernel
theorem d_NRunner_proceed_10 : decode prog_9_method_9_code 10 = .ok (.if_icmp .ge 55, 3) := by decide +kernel
theorem d_NRunner_proceed_13 : decode prog_9_method_9_code 13 = .ok (.aload_n 0, 1) := by decide +kernel
theorem d_NRunner_proceed_14 : decode prog_9_method_9_code 14 = .ok (.invokevirtual 76, 3) := by decide +kernel
theorem d_NRunner_proceed_17 : decode prog_9_method_9_code 17 = .ok (.ifCond .ne 48, 3) := by decide +kernel
theorem d_NRunner_proceed_20 : decode prog_9_method_9_code 20 = .ok (.aload_n 0, 1) := by decide +kernel
theorem d_NRunner_proceed_21 : decode prog_9_method_9_code 21 = .ok (.getfield 12, 3) := by decide +kernel
theorem d_NRunner_proceed_24 : decode prog_9_method_9_code 24 = .ok (.getfield 80, 3) := by decide +kernel
theorem d_NRunner_proceed_27 : decode prog_9_method_9_code 27 = .ok (.aload_n 0, 1) := by decide +kernel
theorem d_NRunner_proceed_28 : decode prog_9_method_9_code 28 = .ok (.getfield 25, 3) := by decide +kernel
theorem d_NRunner_proceed_31 : decode prog_9_method_9_code 31 = .ok (.aaload, 1) := by decide +kernel
theorem d_NRunner_proceed_32 : decode prog_9_method_9_code 32 = .ok (.getfield 84, 3) := by decide +kernel
theorem d_NRunner_proceed_35 : decode prog_9_method_9_code 35 = .ok (.iconst 5, 1) := by decide +kernel
theorem d_NRunner_proceed_36 : decode prog_9_method_9_code 36 = .ok (.if_icmp .eq 4, 3) := by decide +kernel
theorem d_NRunner_proceed_39 : decode prog_9_method_9_code 39 = .ok (.return_, 1) := by decide +kernel
theorem d_NRunner_proceed_40 : decode prog_9_method_9_code 40 = .ok (.aload_n 0, 1) := by decide +kernel
theorem d_NRunner_proceed_41 : decode prog_9_method_9_code 41 = .ok (.aload_n 0, 1) := by decide +kernel
theorem d_NRunner_proceed_42 : decode prog_9_method_9_code 42 = .ok (.getfield 12, 3) := by decide +kernel
theorem d_NRunner_proceed_45 : decode prog_9_method_9_code 45 = .ok (.getfield 80, 3) := by decide +kernel
theorem d_NRunner_proceed_48 : decode prog_9_method_9_code 48 = .ok (.aload_n 0, 1) := by decide +kernel
theorem d_NRunner_proceed_49 : decode prog_9_method_9_code 49 = .ok (.getfield 25, 3) := by decide +kernel
theorem d_NRunner_proceed_52 : decode prog_9_method_9_code 52 = .ok (.aaload, 1) := by decide +kernel
theorem d_NRunner_proceed_53 : decode prog_9_method_9_code 53 = .ok (.getfield 149, 3) := by decide +kernel
theorem d_NRunner_proceed_56 : decode prog_9_method_9_code 56 = .ok (.putfield 25, 3) := by decide +kernel
theorem d_NRunner_proceed_59 : decode prog_9_method_9_code 59 = .ok (.iinc 2 1, 3) := by decide +kernel
theorem d_NRunner_proceed_62 : decode prog_9_method_9_code 62 = .ok (.goto (-55), 3) := by decide +kernel
theorem d_NRunner_proceed_65 : decode prog_9_method_9_code 65 = .ok (.return_, 1) := by decide +kernel

