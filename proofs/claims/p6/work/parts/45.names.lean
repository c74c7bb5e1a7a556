theorem wd_53 {U : State} (h : TB U) (args : Array Value) : (Cond.selects "BigRunnerModel" ⟨"BigRunnerModel", "interval", "(IJJZZ)V"⟩ ⟨"BigRunnerModel", "interval", "(IJJZZ)V"⟩).before args U = true := h.w 53 (by decide +kernel) rfl args
theorem wd_964 {U : State} (h : TB U) (args : Array Value) : (Cond.fieldLink "BigRunnerModel" 39 "BigRunnerModel" "low" "[J").before args U = true := h.w 964 (by decide +kernel) rfl args
theorem wd_965 {U : State} (h : TB U) (args : Array Value) : (Cond.fieldLink "BigRunnerModel" 43 "BigRunnerModel" "high" "[J").before args U = true := h.w 965 (by decide +kernel) rfl args
theorem wd_966 {U : State} (h : TB U) (args : Array Value) : (Cond.fieldLink "BigRunnerModel" 46 "BigRunnerModel" "under" "[Z").before args U = true := h.w 966 (by decide +kernel) rfl args
theorem wd_967 {U : State} (h : TB U) (args : Array Value) : (Cond.fieldLink "BigRunnerModel" 49 "BigRunnerModel" "over" "[Z").before args U = true := h.w 967 (by decide +kernel) rfl args
theorem wd_968 {U : State} (h : TB U) (args : Array Value) : (Cond.fieldLink "BigRunnerModel" 52 "BigRunnerModel" "a" "[J").before args U = true := h.w 968 (by decide +kernel) rfl args
theorem wd_969 {U : State} (h : TB U) (args : Array Value) : (Cond.fieldLink "BigRunnerModel" 55 "BigRunnerModel" "b" "[J").before args U = true := h.w 969 (by decide +kernel) rfl args
theorem wd_970 {U : State} (h : TB U) (args : Array Value) : (Cond.fieldLink "BigRunnerModel" 58 "BigRunnerModel" "ua" "[Z").before args U = true := h.w 970 (by decide +kernel) rfl args
theorem wd_971 {U : State} (h : TB U) (args : Array Value) : (Cond.fieldLink "BigRunnerModel" 61 "BigRunnerModel" "ub" "[Z").before args U = true := h.w 971 (by decide +kernel) rfl args
theorem wd_1157 {U : State} (h : TB U) (args : Array Value) : (Cond.methodLink "BigRunnerModel" 169 ⟨"BigRunnerModel", "interval", "(IJJZZ)V"⟩).before args U = true := h.w 1157 (by decide +kernel) rfl args
theorem wd_1159 {U : State} (h : TB U) (args : Array Value) : (Cond.instanceMethod ⟨"BigRunnerModel", "interval", "(IJJZZ)V"⟩).before args U = true := h.w 1159 (by decide +kernel) rfl args
theorem wd_1160 {U : State} (h : TB U) (args : Array Value) : (Cond.code ⟨"BigRunnerModel", "interval", "(IJJZZ)V"⟩ prog_12_method_15_code 8 none).before args U = true := h.w 1160 (by decide +kernel) rfl args
theorem wd_1161 {U : State} (h : TB U) (args : Array Value) : (Cond.constantLong "BigRunnerModel" 159 (-1152921504606846976)).before args U = true := h.w 1161 (by decide +kernel) rfl args
theorem wd_1162 {U : State} (h : TB U) (args : Array Value) : (Cond.constantLong "BigRunnerModel" 161 1152921504606846976).before args U = true := h.w 1162 (by decide +kernel) rfl args
theorem wd_1167 {U : State} (h : TB U) (args : Array Value) : (Cond.methodLink "BigRunnerModel" 173 ⟨"BigRunnerModel", "times", "(JJ)J"⟩).before args U = true := h.w 1167 (by decide +kernel) rfl args
theorem wd_1168 {U : State} (h : TB U) (args : Array Value) : (Cond.static ⟨"BigRunnerModel", "times", "(JJ)J"⟩).before args U = true := h.w 1168 (by decide +kernel) rfl args
theorem wd_1169 {U : State} (h : TB U) (args : Array Value) : (Cond.code ⟨"BigRunnerModel", "times", "(JJ)J"⟩ prog_12_method_19_code 6 (some .long)).before args U = true := h.w 1169 (by decide +kernel) rfl args
theorem wd_1170 {U : State} (h : TB U) (args : Array Value) : (Cond.methodLink "BigRunnerModel" 163 ⟨"BigRunnerModel", "size", "(J)J"⟩).before args U = true := h.w 1170 (by decide +kernel) rfl args
theorem wd_1171 {U : State} (h : TB U) (args : Array Value) : (Cond.static ⟨"BigRunnerModel", "size", "(J)J"⟩).before args U = true := h.w 1171 (by decide +kernel) rfl args
theorem wd_1172 {U : State} (h : TB U) (args : Array Value) : (Cond.code ⟨"BigRunnerModel", "size", "(J)J"⟩ prog_12_method_18_code 2 (some .long)).before args U = true := h.w 1172 (by decide +kernel) rfl args
theorem wd_1173 {U : State} (h : TB U) (args : Array Value) : (Cond.constantLong "BigRunnerModel" 167 1152921504606846977).before args U = true := h.w 1173 (by decide +kernel) rfl args
theorem wd_1174 {U : State} (h : TB U) (args : Array Value) : (Cond.methodLink "BigRunnerModel" 177 ⟨"BigRunnerModel", "less", "(JJ)J"⟩).before args U = true := h.w 1174 (by decide +kernel) rfl args
theorem wd_1175 {U : State} (h : TB U) (args : Array Value) : (Cond.static ⟨"BigRunnerModel", "less", "(JJ)J"⟩).before args U = true := h.w 1175 (by decide +kernel) rfl args
theorem wd_1176 {U : State} (h : TB U) (args : Array Value) : (Cond.code ⟨"BigRunnerModel", "less", "(JJ)J"⟩ prog_12_method_16_code 4 (some .long)).before args U = true := h.w 1176 (by decide +kernel) rfl args
theorem wd_1177 {U : State} (h : TB U) (args : Array Value) : (Cond.methodLink "BigRunnerModel" 180 ⟨"BigRunnerModel", "more", "(JJ)J"⟩).before args U = true := h.w 1177 (by decide +kernel) rfl args
theorem wd_1178 {U : State} (h : TB U) (args : Array Value) : (Cond.static ⟨"BigRunnerModel", "more", "(JJ)J"⟩).before args U = true := h.w 1178 (by decide +kernel) rfl args
theorem wd_1179 {U : State} (h : TB U) (args : Array Value) : (Cond.code ⟨"BigRunnerModel", "more", "(JJ)J"⟩ prog_12_method_17_code 4 (some .long)).before args U = true := h.w 1179 (by decide +kernel) rfl args
theorem d_M_interval_0 : decode prog_12_method_15_code 0 = .ok (.aload_n 0, 1) := by decide +kernel
theorem d_M_interval_1 : decode prog_12_method_15_code 1 = .ok (.getfield 58, 3) := by decide +kernel
theorem d_M_interval_4 : decode prog_12_method_15_code 4 = .ok (.iload_n 1, 1) := by decide +kernel
theorem d_M_interval_5 : decode prog_12_method_15_code 5 = .ok (.iload 6, 2) := by decide +kernel
theorem d_M_interval_7 : decode prog_12_method_15_code 7 = .ok (.ifCond .ne 19, 3) := by decide +kernel
theorem d_M_interval_10 : decode prog_12_method_15_code 10 = .ok (.lload_n 2, 1) := by decide +kernel
theorem d_M_interval_11 : decode prog_12_method_15_code 11 = .ok (.ldc2_w 159, 3) := by decide +kernel
theorem d_M_interval_14 : decode prog_12_method_15_code 14 = .ok (.lcmp, 1) := by decide +kernel
theorem d_M_interval_15 : decode prog_12_method_15_code 15 = .ok (.ifCond .lt 11, 3) := by decide +kernel
theorem d_M_interval_18 : decode prog_12_method_15_code 18 = .ok (.lload_n 2, 1) := by decide +kernel
theorem d_M_interval_19 : decode prog_12_method_15_code 19 = .ok (.ldc2_w 161, 3) := by decide +kernel
theorem d_M_interval_22 : decode prog_12_method_15_code 22 = .ok (.lcmp, 1) := by decide +kernel
theorem d_M_interval_23 : decode prog_12_method_15_code 23 = .ok (.ifCond .le 7, 3) := by decide +kernel
theorem d_M_interval_26 : decode prog_12_method_15_code 26 = .ok (.iconst 1, 1) := by decide +kernel
theorem d_M_interval_27 : decode prog_12_method_15_code 27 = .ok (.goto 4, 3) := by decide +kernel
theorem d_M_interval_30 : decode prog_12_method_15_code 30 = .ok (.iconst 0, 1) := by decide +kernel
theorem d_M_interval_31 : decode prog_12_method_15_code 31 = .ok (.bastore, 1) := by decide +kernel
theorem d_M_interval_32 : decode prog_12_method_15_code 32 = .ok (.aload_n 0, 1) := by decide +kernel
theorem d_M_interval_33 : decode prog_12_method_15_code 33 = .ok (.getfield 61, 3) := by decide +kernel
theorem d_M_interval_36 : decode prog_12_method_15_code 36 = .ok (.iload_n 1, 1) := by decide +kernel
theorem d_M_interval_37 : decode prog_12_method_15_code 37 = .ok (.iload 7, 2) := by decide +kernel
theorem d_M_interval_39 : decode prog_12_method_15_code 39 = .ok (.ifCond .ne 21, 3) := by decide +kernel
theorem d_M_interval_42 : decode prog_12_method_15_code 42 = .ok (.lload 4, 2) := by decide +kernel
theorem d_M_interval_44 : decode prog_12_method_15_code 44 = .ok (.ldc2_w 159, 3) := by decide +kernel
theorem d_M_interval_47 : decode prog_12_method_15_code 47 = .ok (.lcmp, 1) := by decide +kernel
theorem d_M_interval_48 : decode prog_12_method_15_code 48 = .ok (.ifCond .lt 12, 3) := by decide +kernel
theorem d_M_interval_51 : decode prog_12_method_15_code 51 = .ok (.lload 4, 2) := by decide +kernel
theorem d_M_interval_53 : decode prog_12_method_15_code 53 = .ok (.ldc2_w 161, 3) := by decide +kernel
theorem d_M_interval_56 : decode prog_12_method_15_code 56 = .ok (.lcmp, 1) := by decide +kernel
theorem d_M_interval_57 : decode prog_12_method_15_code 57 = .ok (.ifCond .le 7, 3) := by decide +kernel
theorem d_M_interval_60 : decode prog_12_method_15_code 60 = .ok (.iconst 1, 1) := by decide +kernel
theorem d_M_interval_61 : decode prog_12_method_15_code 61 = .ok (.goto 4, 3) := by decide +kernel
theorem d_M_interval_64 : decode prog_12_method_15_code 64 = .ok (.iconst 0, 1) := by decide +kernel
theorem d_M_interval_65 : decode prog_12_method_15_code 65 = .ok (.bastore, 1) := by decide +kernel
theorem d_M_interval_66 : decode prog_12_method_15_code 66 = .ok (.aload_n 0, 1) := by decide +kernel
theorem d_M_interval_67 : decode prog_12_method_15_code 67 = .ok (.getfield 52, 3) := by decide +kernel
theorem d_M_interval_70 : decode prog_12_method_15_code 70 = .ok (.iload_n 1, 1) := by decide +kernel
theorem d_M_interval_71 : decode prog_12_method_15_code 71 = .ok (.aload_n 0, 1) := by decide +kernel
theorem d_M_interval_72 : decode prog_12_method_15_code 72 = .ok (.getfield 58, 3) := by decide +kernel
theorem d_M_interval_75 : decode prog_12_method_15_code 75 = .ok (.iload_n 1, 1) := by decide +kernel
theorem d_M_interval_76 : decode prog_12_method_15_code 76 = .ok (.baload, 1) := by decide +kernel
theorem d_M_interval_77 : decode prog_12_method_15_code 77 = .ok (.ifCond .eq 7, 3) := by decide +kernel
theorem d_M_interval_80 : decode prog_12_method_15_code 80 = .ok (.lconst 0, 1) := by decide +kernel
theorem d_M_interval_81 : decode prog_12_method_15_code 81 = .ok (.goto 4, 3) := by decide +kernel
theorem d_M_interval_84 : decode prog_12_method_15_code 84 = .ok (.lload_n 2, 1) := by decide +kernel
theorem d_M_interval_85 : decode prog_12_method_15_code 85 = .ok (.lastore, 1) := by decide +kernel
theorem d_M_interval_86 : decode prog_12_method_15_code 86 = .ok (.aload_n 0, 1) := by decide +kernel
theorem d_M_interval_87 : decode prog_12_method_15_code 87 = .ok (.getfield 55, 3) := by decide +kernel
theorem d_M_interval_90 : decode prog_12_method_15_code 90 = .ok (.iload_n 1, 1) := by decide +kernel
theorem d_M_interval_91 : decode prog_12_method_15_code 91 = .ok (.aload_n 0, 1) := by decide +kernel
theorem d_M_interval_92 : decode prog_12_method_15_code 92 = .ok (.getfield 61, 3) := by decide +kernel
theorem d_M_interval_95 : decode prog_12_method_15_code 95 = .ok (.iload_n 1, 1) := by decide +kernel
theorem d_M_interval_96 : decode prog_12_method_15_code 96 = .ok (.baload, 1) := by decide +kernel
theorem d_M_interval_97 : decode prog_12_method_15_code 97 = .ok (.ifCond .eq 7, 3) := by decide +kernel
theorem d_M_interval_100 : decode prog_12_method_15_code 100 = .ok (.lconst 0, 1) := by decide +kernel
theorem d_M_interval_101 : decode prog_12_method_15_code 101 = .ok (.goto 5, 3) := by decide +kernel
theorem d_M_interval_104 : decode prog_12_method_15_code 104 = .ok (.lload 4, 2) := by decide +kernel
theorem d_M_interval_106 : decode prog_12_method_15_code 106 = .ok (.lastore, 1) := by decide +kernel
theorem d_M_interval_107 : decode prog_12_method_15_code 107 = .ok (.return_, 1) := by decide +kernel
theorem d_M_joined_0 : decode prog_12_method_23_code 0 = .ok (.aload_n 0, 1) := by decide +kernel
theorem d_M_joined_1 : decode prog_12_method_23_code 1 = .ok (.getfield 46, 3) := by decide +kernel
theorem d_M_joined_4 : decode prog_12_method_23_code 4 = .ok (.iload_n 1, 1) := by decide +kernel
theorem d_M_joined_5 : decode prog_12_method_23_code 5 = .ok (.baload, 1) := by decide +kernel
theorem d_M_joined_6 : decode prog_12_method_23_code 6 = .ok (.ifCond .ne 32, 3) := by decide +kernel
theorem d_M_joined_9 : decode prog_12_method_23_code 9 = .ok (.aload_n 0, 1) := by decide +kernel
theorem d_M_joined_10 : decode prog_12_method_23_code 10 = .ok (.getfield 58, 3) := by decide +kernel
theorem d_M_joined_13 : decode prog_12_method_23_code 13 = .ok (.iconst 0, 1) := by decide +kernel
theorem d_M_joined_14 : decode prog_12_method_23_code 14 = .ok (.baload, 1) := by decide +kernel
theorem d_M_joined_15 : decode prog_12_method_23_code 15 = .ok (.ifCond .ne 19, 3) := by decide +kernel
theorem d_M_joined_18 : decode prog_12_method_23_code 18 = .ok (.aload_n 0, 1) := by decide +kernel
theorem d_M_joined_19 : decode prog_12_method_23_code 19 = .ok (.getfield 52, 3) := by decide +kernel
theorem d_M_joined_22 : decode prog_12_method_23_code 22 = .ok (.iconst 0, 1) := by decide +kernel
theorem d_M_joined_23 : decode prog_12_method_23_code 23 = .ok (.laload, 1) := by decide +kernel
theorem d_M_joined_24 : decode prog_12_method_23_code 24 = .ok (.aload_n 0, 1) := by decide +kernel
theorem d_M_joined_25 : decode prog_12_method_23_code 25 = .ok (.getfield 39, 3) := by decide +kernel
theorem d_M_joined_28 : decode prog_12_method_23_code 28 = .ok (.iload_n 1, 1) := by decide +kernel
theorem d_M_joined_29 : decode prog_12_method_23_code 29 = .ok (.laload, 1) := by decide +kernel
theorem d_M_joined_30 : decode prog_12_method_23_code 30 = .ok (.lcmp, 1) := by decide +kernel
theorem d_M_joined_31 : decode prog_12_method_23_code 31 = .ok (.ifCond .ge 7, 3) := by decide +kernel
theorem d_M_joined_34 : decode prog_12_method_23_code 34 = .ok (.iconst 1, 1) := by decide +kernel
theorem d_M_joined_35 : decode prog_12_method_23_code 35 = .ok (.goto 4, 3) := by decide +kernel
theorem d_M_joined_38 : decode prog_12_method_23_code 38 = .ok (.iconst 0, 1) := by decide +kernel
theorem d_M_joined_39 : decode prog_12_method_23_code 39 = .ok (.istore_n 3, 1) := by decide +kernel
theorem d_M_joined_40 : decode prog_12_method_23_code 40 = .ok (.aload_n 0, 1) := by decide +kernel
theorem d_M_joined_41 : decode prog_12_method_23_code 41 = .ok (.getfield 49, 3) := by decide +kernel
theorem d_M_joined_44 : decode prog_12_method_23_code 44 = .ok (.iload_n 1, 1) := by decide +kernel
theorem d_M_joined_45 : decode prog_12_method_23_code 45 = .ok (.baload, 1) := by decide +kernel
theorem d_M_joined_46 : decode prog_12_method_23_code 46 = .ok (.ifCond .ne 32, 3) := by decide +kernel
theorem d_M_joined_49 : decode prog_12_method_23_code 49 = .ok (.aload_n 0, 1) := by decide +kernel
theorem d_M_joined_50 : decode prog_12_method_23_code 50 = .ok (.getfield 61, 3) := by decide +kernel
theorem d_M_joined_53 : decode prog_12_method_23_code 53 = .ok (.iconst 0, 1) := by decide +kernel
theorem d_M_joined_54 : decode prog_12_method_23_code 54 = .ok (.baload, 1) := by decide +kernel
theorem d_M_joined_55 : decode prog_12_method_23_code 55 = .ok (.ifCond .ne 19, 3) := by decide +kernel
theorem d_M_joined_58 : decode prog_12_method_23_code 58 = .ok (.aload_n 0, 1) := by decide +kernel
theorem d_M_joined_59 : decode prog_12_method_23_code 59 = .ok (.getfield 55, 3) := by decide +kernel
theorem d_M_joined_62 : decode prog_12_method_23_code 62 = .ok (.iconst 0, 1) := by decide +kernel
theorem d_M_joined_63 : decode prog_12_method_23_code 63 = .ok (.laload, 1) := by decide +kernel
theorem d_M_joined_64 : decode prog_12_method_23_code 64 = .ok (.aload_n 0, 1) := by decide +kernel
theorem d_M_joined_65 : decode prog_12_method_23_code 65 = .ok (.getfield 43, 3) := by decide +kernel
theorem d_M_joined_68 : decode prog_12_method_23_code 68 = .ok (.iload_n 1, 1) := by decide +kernel
theorem d_M_joined_69 : decode prog_12_method_23_code 69 = .ok (.laload, 1) := by decide +kernel
theorem d_M_joined_70 : decode prog_12_method_23_code 70 = .ok (.lcmp, 1) := by decide +kernel
theorem d_M_joined_71 : decode prog_12_method_23_code 71 = .ok (.ifCond .le 7, 3) := by decide +kernel
theorem d_M_joined_74 : decode prog_12_method_23_code 74 = .ok (.iconst 1, 1) := by decide +kernel
theorem d_M_joined_75 : decode prog_12_method_23_code 75 = .ok (.goto 4, 3) := by decide +kernel
theorem d_M_joined_78 : decode prog_12_method_23_code 78 = .ok (.iconst 0, 1) := by decide +kernel
theorem d_M_joined_79 : decode prog_12_method_23_code 79 = .ok (.istore 4, 2) := by decide +kernel
theorem d_M_joined_81 : decode prog_12_method_23_code 81 = .ok (.iload_n 3, 1) := by decide +kernel
theorem d_M_joined_82 : decode prog_12_method_23_code 82 = .ok (.ifCond .eq 39, 3) := by decide +kernel
theorem d_M_joined_85 : decode prog_12_method_23_code 85 = .ok (.aload_n 0, 1) := by decide +kernel
theorem d_M_joined_86 : decode prog_12_method_23_code 86 = .ok (.getfield 39, 3) := by decide +kernel
theorem d_M_joined_89 : decode prog_12_method_23_code 89 = .ok (.iload_n 1, 1) := by decide +kernel
theorem d_M_joined_90 : decode prog_12_method_23_code 90 = .ok (.aload_n 0, 1) := by decide +kernel
theorem d_M_joined_91 : decode prog_12_method_23_code 91 = .ok (.getfield 52, 3) := by decide +kernel
theorem d_M_joined_94 : decode prog_12_method_23_code 94 = .ok (.iconst 0, 1) := by decide +kernel
theorem d_M_joined_95 : decode prog_12_method_23_code 95 = .ok (.laload, 1) := by decide +kernel
theorem d_M_joined_96 : decode prog_12_method_23_code 96 = .ok (.lastore, 1) := by decide +kernel
theorem d_M_joined_97 : decode prog_12_method_23_code 97 = .ok (.aload_n 0, 1) := by decide +kernel
theorem d_M_joined_98 : decode prog_12_method_23_code 98 = .ok (.getfield 46, 3) := by decide +kernel
theorem d_M_joined_101 : decode prog_12_method_23_code 101 = .ok (.iload_n 1, 1) := by decide +kernel
theorem d_M_joined_102 : decode prog_12_method_23_code 102 = .ok (.aload_n 0, 1) := by decide +kernel
theorem d_M_joined_103 : decode prog_12_method_23_code 103 = .ok (.getfield 58, 3) := by decide +kernel
theorem d_M_joined_106 : decode prog_12_method_23_code 106 = .ok (.iconst 0, 1) := by decide +kernel
theorem d_M_joined_107 : decode prog_12_method_23_code 107 = .ok (.baload, 1) := by decide +kernel
theorem d_M_joined_108 : decode prog_12_method_23_code 108 = .ok (.ifCond .ne 7, 3) := by decide +kernel
theorem d_M_joined_111 : decode prog_12_method_23_code 111 = .ok (.iload_n 2, 1) := by decide +kernel
theorem d_M_joined_112 : decode prog_12_method_23_code 112 = .ok (.ifCond .eq 7, 3) := by decide +kernel
theorem d_M_joined_115 : decode prog_12_method_23_code 115 = .ok (.iconst 1, 1) := by decide +kernel
theorem d_M_joined_116 : decode prog_12_method_23_code 116 = .ok (.goto 4, 3) := by decide +kernel
theorem d_M_joined_119 : decode prog_12_method_23_code 119 = .ok (.iconst 0, 1) := by decide +kernel
theorem d_M_joined_120 : decode prog_12_method_23_code 120 = .ok (.bastore, 1) := by decide +kernel
theorem d_M_joined_121 : decode prog_12_method_23_code 121 = .ok (.iload 4, 2) := by decide +kernel
theorem d_M_joined_123 : decode prog_12_method_23_code 123 = .ok (.ifCond .eq 39, 3) := by decide +kernel
theorem d_M_joined_126 : decode prog_12_method_23_code 126 = .ok (.aload_n 0, 1) := by decide +kernel
theorem d_M_joined_127 : decode prog_12_method_23_code 127 = .ok (.getfield 43, 3) := by decide +kernel
theorem d_M_joined_130 : decode prog_12_method_23_code 130 = .ok (.iload_n 1, 1) := by decide +kernel
theorem d_M_joined_131 : decode prog_12_method_23_code 131 = .ok (.aload_n 0, 1) := by decide +kernel
theorem d_M_joined_132 : decode prog_12_method_23_code 132 = .ok (.getfield 55, 3) := by decide +kernel
theorem d_M_joined_135 : decode prog_12_method_23_code 135 = .ok (.iconst 0, 1) := by decide +kernel
theorem d_M_joined_136 : decode prog_12_method_23_code 136 = .ok (.laload, 1) := by decide +kernel
theorem d_M_joined_137 : decode prog_12_method_23_code 137 = .ok (.lastore, 1) := by decide +kernel
theorem d_M_joined_138 : decode prog_12_method_23_code 138 = .ok (.aload_n 0, 1) := by decide +kernel
theorem d_M_joined_139 : decode prog_12_method_23_code 139 = .ok (.getfield 49, 3) := by decide +kernel
theorem d_M_joined_142 : decode prog_12_method_23_code 142 = .ok (.iload_n 1, 1) := by decide +kernel
theorem d_M_joined_143 : decode prog_12_method_23_code 143 = .ok (.aload_n 0, 1) := by decide +kernel
theorem d_M_joined_144 : decode prog_12_method_23_code 144 = .ok (.getfield 61, 3) := by decide +kernel
theorem d_M_joined_147 : decode prog_12_method_23_code 147 = .ok (.iconst 0, 1) := by decide +kernel
theorem d_M_joined_148 : decode prog_12_method_23_code 148 = .ok (.baload, 1) := by decide +kernel
theorem d_M_joined_149 : decode prog_12_method_23_code 149 = .ok (.ifCond .ne 7, 3) := by decide +kernel
theorem d_M_joined_152 : decode prog_12_method_23_code 152 = .ok (.iload_n 2, 1) := by decide +kernel
theorem d_M_joined_153 : decode prog_12_method_23_code 153 = .ok (.ifCond .eq 7, 3) := by decide +kernel
theorem d_M_joined_156 : decode prog_12_method_23_code 156 = .ok (.iconst 1, 1) := by decide +kernel
theorem d_M_joined_157 : decode prog_12_method_23_code 157 = .ok (.goto 4, 3) := by decide +kernel
theorem d_M_joined_160 : decode prog_12_method_23_code 160 = .ok (.iconst 0, 1) := by decide +kernel
theorem d_M_joined_161 : decode prog_12_method_23_code 161 = .ok (.bastore, 1) := by decide +kernel
theorem d_M_joined_162 : decode prog_12_method_23_code 162 = .ok (.iload_n 3, 1) := by decide +kernel
theorem d_M_joined_163 : decode prog_12_method_23_code 163 = .ok (.ifCond .ne 8, 3) := by decide +kernel
theorem d_M_joined_166 : decode prog_12_method_23_code 166 = .ok (.iload 4, 2) := by decide +kernel
theorem d_M_joined_168 : decode prog_12_method_23_code 168 = .ok (.ifCond .eq 7, 3) := by decide +kernel
theorem d_M_joined_171 : decode prog_12_method_23_code 171 = .ok (.iconst 1, 1) := by decide +kernel
theorem d_M_joined_172 : decode prog_12_method_23_code 172 = .ok (.goto 4, 3) := by decide +kernel
theorem d_M_joined_175 : decode prog_12_method_23_code 175 = .ok (.iconst 0, 1) := by decide +kernel
theorem d_M_joined_176 : decode prog_12_method_23_code 176 = .ok (.ireturn, 1) := by decide +kernel
theorem d_M_less_0 : decode prog_12_method_16_code 0 = .ok (.lload_n 0, 1) := by decide +kernel
theorem d_M_less_1 : decode prog_12_method_16_code 1 = .ok (.lload_n 2, 1) := by decide +kernel
theorem d_M_less_2 : decode prog_12_method_16_code 2 = .ok (.lcmp, 1) := by decide +kernel
theorem d_M_less_3 : decode prog_12_method_16_code 3 = .ok (.ifCond .ge 7, 3) := by decide +kernel
theorem d_M_less_6 : decode prog_12_method_16_code 6 = .ok (.lload_n 0, 1) := by decide +kernel
theorem d_M_less_7 : decode prog_12_method_16_code 7 = .ok (.goto 4, 3) := by decide +kernel
theorem d_M_less_10 : decode prog_12_method_16_code 10 = .ok (.lload_n 2, 1) := by decide +kernel
theorem d_M_less_11 : decode prog_12_method_16_code 11 = .ok (.lreturn, 1) := by decide +kernel
theorem d_M_more_0 : decode prog_12_method_17_code 0 = .ok (.lload_n 0, 1) := by decide +kernel
theorem d_M_more_1 : decode prog_12_method_17_code 1 = .ok (.lload_n 2, 1) := by decide +kernel
theorem d_M_more_2 : decode prog_12_method_17_code 2 = .ok (.lcmp, 1) := by decide +kernel
theorem d_M_more_3 : decode prog_12_method_17_code 3 = .ok (.ifCond .le 7, 3) := by decide +kernel
theorem d_M_more_6 : decode prog_12_method_17_code 6 = .ok (.lload_n 0, 1) := by decide +kernel
theorem d_M_more_7 : decode prog_12_method_17_code 7 = .ok (.goto 4, 3) := by decide +kernel
theorem d_M_more_10 : decode prog_12_method_17_code 10 = .ok (.lload_n 2, 1) := by decide +kernel
theorem d_M_more_11 : decode prog_12_method_17_code 11 = .ok (.lreturn, 1) := by decide +kernel
theorem d_M_size_0 : decode prog_12_method_18_code 0 = .ok (.lload_n 0, 1) := by decide +kernel
theorem d_M_size_1 : decode prog_12_method_18_code 1 = .ok (.lconst 0, 1) := by decide +kernel
theorem d_M_size_2 : decode prog_12_method_18_code 2 = .ok (.lcmp, 1) := by decide +kernel
theorem d_M_size_3 : decode prog_12_method_18_code 3 = .ok (.ifCond .ge 8, 3) := by decide +kernel
theorem d_M_size_6 : decode prog_12_method_18_code 6 = .ok (.lload_n 0, 1) := by decide +kernel
theorem d_M_size_7 : decode prog_12_method_18_code 7 = .ok (.lneg, 1) := by decide +kernel
theorem d_M_size_8 : decode prog_12_method_18_code 8 = .ok (.goto 4, 3) := by decide +kernel
theorem d_M_size_11 : decode prog_12_method_18_code 11 = .ok (.lload_n 0, 1) := by decide +kernel
theorem d_M_size_12 : decode prog_12_method_18_code 12 = .ok (.lreturn, 1) := by decide +kernel
theorem d_M_spanProduct_0 : decode prog_12_method_20_code 0 = .ok (.aload_n 0, 1) := by decide +kernel
theorem d_M_spanProduct_1 : decode prog_12_method_20_code 1 = .ok (.getfield 58, 3) := by decide +kernel
theorem d_M_spanProduct_4 : decode prog_12_method_20_code 4 = .ok (.iload_n 1, 1) := by decide +kernel
theorem d_M_spanProduct_5 : decode prog_12_method_20_code 5 = .ok (.baload, 1) := by decide +kernel
theorem d_M_spanProduct_6 : decode prog_12_method_20_code 6 = .ok (.ifCond .ne 34, 3) := by decide +kernel
theorem d_M_spanProduct_9 : decode prog_12_method_20_code 9 = .ok (.aload_n 0, 1) := by decide +kernel
theorem d_M_spanProduct_10 : decode prog_12_method_20_code 10 = .ok (.getfield 61, 3) := by decide +kernel
theorem d_M_spanProduct_13 : decode prog_12_method_20_code 13 = .ok (.iload_n 1, 1) := by decide +kernel
theorem d_M_spanProduct_14 : decode prog_12_method_20_code 14 = .ok (.baload, 1) := by decide +kernel
theorem d_M_spanProduct_15 : decode prog_12_method_20_code 15 = .ok (.ifCond .ne 25, 3) := by decide +kernel
theorem d_M_spanProduct_18 : decode prog_12_method_20_code 18 = .ok (.aload_n 0, 1) := by decide +kernel
theorem d_M_spanProduct_19 : decode prog_12_method_20_code 19 = .ok (.getfield 52, 3) := by decide +kernel
theorem d_M_spanProduct_22 : decode prog_12_method_20_code 22 = .ok (.iload_n 1, 1) := by decide +kernel
theorem d_M_spanProduct_23 : decode prog_12_method_20_code 23 = .ok (.laload, 1) := by decide +kernel
theorem d_M_spanProduct_24 : decode prog_12_method_20_code 24 = .ok (.lconst 0, 1) := by decide +kernel
theorem d_M_spanProduct_25 : decode prog_12_method_20_code 25 = .ok (.lcmp, 1) := by decide +kernel
theorem d_M_spanProduct_26 : decode prog_12_method_20_code 26 = .ok (.ifCond .ne 14, 3) := by decide +kernel
theorem d_M_spanProduct_29 : decode prog_12_method_20_code 29 = .ok (.aload_n 0, 1) := by decide +kernel
theorem d_M_spanProduct_30 : decode prog_12_method_20_code 30 = .ok (.getfield 55, 3) := by decide +kernel
theorem d_M_spanProduct_33 : decode prog_12_method_20_code 33 = .ok (.iload_n 1, 1) := by decide +kernel
theorem d_M_spanProduct_34 : decode prog_12_method_20_code 34 = .ok (.laload, 1) := by decide +kernel
theorem d_M_spanProduct_35 : decode prog_12_method_20_code 35 = .ok (.lconst 0, 1) := by decide +kernel
theorem d_M_spanProduct_36 : decode prog_12_method_20_code 36 = .ok (.lcmp, 1) := by decide +kernel
theorem d_M_spanProduct_37 : decode prog_12_method_20_code 37 = .ok (.ifCond .eq 51, 3) := by decide +kernel
theorem d_M_spanProduct_40 : decode prog_12_method_20_code 40 = .ok (.aload_n 0, 1) := by decide +kernel
theorem d_M_spanProduct_41 : decode prog_12_method_20_code 41 = .ok (.getfield 58, 3) := by decide +kernel
theorem d_M_spanProduct_44 : decode prog_12_method_20_code 44 = .ok (.iload_n 1, 1) := by decide +kernel
theorem d_M_spanProduct_45 : decode prog_12_method_20_code 45 = .ok (.iconst 1, 1) := by decide +kernel
theorem d_M_spanProduct_46 : decode prog_12_method_20_code 46 = .ok (.iadd, 1) := by decide +kernel
theorem d_M_spanProduct_47 : decode prog_12_method_20_code 47 = .ok (.baload, 1) := by decide +kernel
theorem d_M_spanProduct_48 : decode prog_12_method_20_code 48 = .ok (.ifCond .ne 44, 3) := by decide +kernel
theorem d_M_spanProduct_51 : decode prog_12_method_20_code 51 = .ok (.aload_n 0, 1) := by decide +kernel
theorem d_M_spanProduct_52 : decode prog_12_method_20_code 52 = .ok (.getfield 61, 3) := by decide +kernel
theorem d_M_spanProduct_55 : decode prog_12_method_20_code 55 = .ok (.iload_n 1, 1) := by decide +kernel
theorem d_M_spanProduct_56 : decode prog_12_method_20_code 56 = .ok (.iconst 1, 1) := by decide +kernel
theorem d_M_spanProduct_57 : decode prog_12_method_20_code 57 = .ok (.iadd, 1) := by decide +kernel
theorem d_M_spanProduct_58 : decode prog_12_method_20_code 58 = .ok (.baload, 1) := by decide +kernel
theorem d_M_spanProduct_59 : decode prog_12_method_20_code 59 = .ok (.ifCond .ne 33, 3) := by decide +kernel
theorem d_M_spanProduct_62 : decode prog_12_method_20_code 62 = .ok (.aload_n 0, 1) := by decide +kernel
theorem d_M_spanProduct_63 : decode prog_12_method_20_code 63 = .ok (.getfield 52, 3) := by decide +kernel
theorem d_M_spanProduct_66 : decode prog_12_method_20_code 66 = .ok (.iload_n 1, 1) := by decide +kernel
theorem d_M_spanProduct_67 : decode prog_12_method_20_code 67 = .ok (.iconst 1, 1) := by decide +kernel
theorem d_M_spanProduct_68 : decode prog_12_method_20_code 68 = .ok (.iadd, 1) := by decide +kernel
theorem d_M_spanProduct_69 : decode prog_12_method_20_code 69 = .ok (.laload, 1) := by decide +kernel
theorem d_M_spanProduct_70 : decode prog_12_method_20_code 70 = .ok (.lconst 0, 1) := by decide +kernel
theorem d_M_spanProduct_71 : decode prog_12_method_20_code 71 = .ok (.lcmp, 1) := by decide +kernel
theorem d_M_spanProduct_72 : decode prog_12_method_20_code 72 = .ok (.ifCond .ne 20, 3) := by decide +kernel
theorem d_M_spanProduct_75 : decode prog_12_method_20_code 75 = .ok (.aload_n 0, 1) := by decide +kernel
theorem d_M_spanProduct_76 : decode prog_12_method_20_code 76 = .ok (.getfield 55, 3) := by decide +kernel
theorem d_M_spanProduct_79 : decode prog_12_method_20_code 79 = .ok (.iload_n 1, 1) := by decide +kernel
theorem d_M_spanProduct_80 : decode prog_12_method_20_code 80 = .ok (.iconst 1, 1) := by decide +kernel
theorem d_M_spanProduct_81 : decode prog_12_method_20_code 81 = .ok (.iadd, 1) := by decide +kernel
theorem d_M_spanProduct_82 : decode prog_12_method_20_code 82 = .ok (.laload, 1) := by decide +kernel
theorem d_M_spanProduct_83 : decode prog_12_method_20_code 83 = .ok (.lconst 0, 1) := by decide +kernel
theorem d_M_spanProduct_84 : decode prog_12_method_20_code 84 = .ok (.lcmp, 1) := by decide +kernel
theorem d_M_spanProduct_85 : decode prog_12_method_20_code 85 = .ok (.ifCond .ne 7, 3) := by decide +kernel
theorem d_M_spanProduct_88 : decode prog_12_method_20_code 88 = .ok (.iconst 1, 1) := by decide +kernel
theorem d_M_spanProduct_89 : decode prog_12_method_20_code 89 = .ok (.goto 4, 3) := by decide +kernel
theorem d_M_spanProduct_92 : decode prog_12_method_20_code 92 = .ok (.iconst 0, 1) := by decide +kernel
theorem d_M_spanProduct_93 : decode prog_12_method_20_code 93 = .ok (.istore_n 2, 1) := by decide +kernel
theorem d_M_spanProduct_94 : decode prog_12_method_20_code 94 = .ok (.aload_n 0, 1) := by decide +kernel
theorem d_M_spanProduct_95 : decode prog_12_method_20_code 95 = .ok (.getfield 58, 3) := by decide +kernel
theorem d_M_spanProduct_98 : decode prog_12_method_20_code 98 = .ok (.iload_n 1, 1) := by decide +kernel
theorem d_M_spanProduct_99 : decode prog_12_method_20_code 99 = .ok (.baload, 1) := by decide +kernel
theorem d_M_spanProduct_100 : decode prog_12_method_20_code 100 = .ok (.ifCond .ne 34, 3) := by decide +kernel
theorem d_M_spanProduct_103 : decode prog_12_method_20_code 103 = .ok (.aload_n 0, 1) := by decide +kernel
theorem d_M_spanProduct_104 : decode prog_12_method_20_code 104 = .ok (.getfield 61, 3) := by decide +kernel
theorem d_M_spanProduct_107 : decode prog_12_method_20_code 107 = .ok (.iload_n 1, 1) := by decide +kernel
theorem d_M_spanProduct_108 : decode prog_12_method_20_code 108 = .ok (.baload, 1) := by decide +kernel
theorem d_M_spanProduct_109 : decode prog_12_method_20_code 109 = .ok (.ifCond .ne 25, 3) := by decide +kernel
theorem d_M_spanProduct_112 : decode prog_12_method_20_code 112 = .ok (.aload_n 0, 1) := by decide +kernel
theorem d_M_spanProduct_113 : decode prog_12_method_20_code 113 = .ok (.getfield 58, 3) := by decide +kernel
theorem d_M_spanProduct_116 : decode prog_12_method_20_code 116 = .ok (.iload_n 1, 1) := by decide +kernel
theorem d_M_spanProduct_117 : decode prog_12_method_20_code 117 = .ok (.iconst 1, 1) := by decide +kernel
theorem d_M_spanProduct_118 : decode prog_12_method_20_code 118 = .ok (.iadd, 1) := by decide +kernel
theorem d_M_spanProduct_119 : decode prog_12_method_20_code 119 = .ok (.baload, 1) := by decide +kernel
theorem d_M_spanProduct_120 : decode prog_12_method_20_code 120 = .ok (.ifCond .ne 14, 3) := by decide +kernel
theorem d_M_spanProduct_123 : decode prog_12_method_20_code 123 = .ok (.aload_n 0, 1) := by decide +kernel
theorem d_M_spanProduct_124 : decode prog_12_method_20_code 124 = .ok (.getfield 61, 3) := by decide +kernel
theorem d_M_spanProduct_127 : decode prog_12_method_20_code 127 = .ok (.iload_n 1, 1) := by decide +kernel
theorem d_M_spanProduct_128 : decode prog_12_method_20_code 128 = .ok (.iconst 1, 1) := by decide +kernel
theorem d_M_spanProduct_129 : decode prog_12_method_20_code 129 = .ok (.iadd, 1) := by decide +kernel
theorem d_M_spanProduct_130 : decode prog_12_method_20_code 130 = .ok (.baload, 1) := by decide +kernel
theorem d_M_spanProduct_131 : decode prog_12_method_20_code 131 = .ok (.ifCond .eq 7, 3) := by decide +kernel
theorem d_M_spanProduct_134 : decode prog_12_method_20_code 134 = .ok (.iconst 1, 1) := by decide +kernel
theorem d_M_spanProduct_135 : decode prog_12_method_20_code 135 = .ok (.goto 4, 3) := by decide +kernel
theorem d_M_spanProduct_138 : decode prog_12_method_20_code 138 = .ok (.iconst 0, 1) := by decide +kernel
theorem d_M_spanProduct_139 : decode prog_12_method_20_code 139 = .ok (.istore_n 3, 1) := by decide +kernel
theorem d_M_spanProduct_140 : decode prog_12_method_20_code 140 = .ok (.iload_n 2, 1) := by decide +kernel
theorem d_M_spanProduct_141 : decode prog_12_method_20_code 141 = .ok (.ifCond .ne 7, 3) := by decide +kernel
theorem d_M_spanProduct_144 : decode prog_12_method_20_code 144 = .ok (.iload_n 3, 1) := by decide +kernel
theorem d_M_spanProduct_145 : decode prog_12_method_20_code 145 = .ok (.ifCond .eq 29, 3) := by decide +kernel
theorem d_M_spanProduct_148 : decode prog_12_method_20_code 148 = .ok (.aload_n 0, 1) := by decide +kernel
theorem d_M_spanProduct_149 : decode prog_12_method_20_code 149 = .ok (.iload_n 1, 1) := by decide +kernel
theorem d_M_spanProduct_150 : decode prog_12_method_20_code 150 = .ok (.lconst 0, 1) := by decide +kernel
theorem d_M_spanProduct_151 : decode prog_12_method_20_code 151 = .ok (.lconst 0, 1) := by decide +kernel
theorem d_M_spanProduct_152 : decode prog_12_method_20_code 152 = .ok (.iload_n 2, 1) := by decide +kernel
theorem d_M_spanProduct_153 : decode prog_12_method_20_code 153 = .ok (.ifCond .ne 7, 3) := by decide +kernel
theorem d_M_spanProduct_156 : decode prog_12_method_20_code 156 = .ok (.iconst 1, 1) := by decide +kernel
theorem d_M_spanProduct_157 : decode prog_12_method_20_code 157 = .ok (.goto 4, 3) := by decide +kernel
theorem d_M_spanProduct_160 : decode prog_12_method_20_code 160 = .ok (.iconst 0, 1) := by decide +kernel
theorem d_M_spanProduct_161 : decode prog_12_method_20_code 161 = .ok (.iload_n 2, 1) := by decide +kernel
theorem d_M_spanProduct_162 : decode prog_12_method_20_code 162 = .ok (.ifCond .ne 7, 3) := by decide +kernel
theorem d_M_spanProduct_165 : decode prog_12_method_20_code 165 = .ok (.iconst 1, 1) := by decide +kernel
theorem d_M_spanProduct_166 : decode prog_12_method_20_code 166 = .ok (.goto 4, 3) := by decide +kernel
theorem d_M_spanProduct_169 : decode prog_12_method_20_code 169 = .ok (.iconst 0, 1) := by decide +kernel
theorem d_M_spanProduct_170 : decode prog_12_method_20_code 170 = .ok (.invokevirtual 169, 3) := by decide +kernel
theorem d_M_spanProduct_173 : decode prog_12_method_20_code 173 = .ok (.return_, 1) := by decide +kernel
theorem d_M_spanProduct_174 : decode prog_12_method_20_code 174 = .ok (.aload_n 0, 1) := by decide +kernel
theorem d_M_spanProduct_175 : decode prog_12_method_20_code 175 = .ok (.getfield 52, 3) := by decide +kernel
theorem d_M_spanProduct_178 : decode prog_12_method_20_code 178 = .ok (.iload_n 1, 1) := by decide +kernel
theorem d_M_spanProduct_179 : decode prog_12_method_20_code 179 = .ok (.laload, 1) := by decide +kernel
theorem d_M_spanProduct_180 : decode prog_12_method_20_code 180 = .ok (.aload_n 0, 1) := by decide +kernel
theorem d_M_spanProduct_181 : decode prog_12_method_20_code 181 = .ok (.getfield 52, 3) := by decide +kernel
theorem d_M_spanProduct_184 : decode prog_12_method_20_code 184 = .ok (.iload_n 1, 1) := by decide +kernel
theorem d_M_spanProduct_185 : decode prog_12_method_20_code 185 = .ok (.iconst 1, 1) := by decide +kernel
theorem d_M_spanProduct_186 : decode prog_12_method_20_code 186 = .ok (.iadd, 1) := by decide +kernel
theorem d_M_spanProduct_187 : decode prog_12_method_20_code 187 = .ok (.laload, 1) := by decide +kernel
theorem d_M_spanProduct_188 : decode prog_12_method_20_code 188 = .ok (.invokestatic 173, 3) := by decide +kernel
theorem d_M_spanProduct_191 : decode prog_12_method_20_code 191 = .ok (.lstore 4, 2) := by decide +kernel
theorem d_M_spanProduct_193 : decode prog_12_method_20_code 193 = .ok (.aload_n 0, 1) := by decide +kernel
theorem d_M_spanProduct_194 : decode prog_12_method_20_code 194 = .ok (.getfield 52, 3) := by decide +kernel
theorem d_M_spanProduct_197 : decode prog_12_method_20_code 197 = .ok (.iload_n 1, 1) := by decide +kernel
theorem d_M_spanProduct_198 : decode prog_12_method_20_code 198 = .ok (.laload, 1) := by decide +kernel
theorem d_M_spanProduct_199 : decode prog_12_method_20_code 199 = .ok (.aload_n 0, 1) := by decide +kernel
theorem d_M_spanProduct_200 : decode prog_12_method_20_code 200 = .ok (.getfield 55, 3) := by decide +kernel
theorem d_M_spanProduct_203 : decode prog_12_method_20_code 203 = .ok (.iload_n 1, 1) := by decide +kernel
theorem d_M_spanProduct_204 : decode prog_12_method_20_code 204 = .ok (.iconst 1, 1) := by decide +kernel
theorem d_M_spanProduct_205 : decode prog_12_method_20_code 205 = .ok (.iadd, 1) := by decide +kernel
theorem d_M_spanProduct_206 : decode prog_12_method_20_code 206 = .ok (.laload, 1) := by decide +kernel
theorem d_M_spanProduct_207 : decode prog_12_method_20_code 207 = .ok (.invokestatic 173, 3) := by decide +kernel
theorem d_M_spanProduct_210 : decode prog_12_method_20_code 210 = .ok (.lstore 6, 2) := by decide +kernel
theorem d_M_spanProduct_212 : decode prog_12_method_20_code 212 = .ok (.aload_n 0, 1) := by decide +kernel
theorem d_M_spanProduct_213 : decode prog_12_method_20_code 213 = .ok (.getfield 55, 3) := by decide +kernel
theorem d_M_spanProduct_216 : decode prog_12_method_20_code 216 = .ok (.iload_n 1, 1) := by decide +kernel
theorem d_M_spanProduct_217 : decode prog_12_method_20_code 217 = .ok (.laload, 1) := by decide +kernel
theorem d_M_spanProduct_218 : decode prog_12_method_20_code 218 = .ok (.aload_n 0, 1) := by decide +kernel
theorem d_M_spanProduct_219 : decode prog_12_method_20_code 219 = .ok (.getfield 52, 3) := by decide +kernel
theorem d_M_spanProduct_222 : decode prog_12_method_20_code 222 = .ok (.iload_n 1, 1) := by decide +kernel
theorem d_M_spanProduct_223 : decode prog_12_method_20_code 223 = .ok (.iconst 1, 1) := by decide +kernel
theorem d_M_spanProduct_224 : decode prog_12_method_20_code 224 = .ok (.iadd, 1) := by decide +kernel
theorem d_M_spanProduct_225 : decode prog_12_method_20_code 225 = .ok (.laload, 1) := by decide +kernel
theorem d_M_spanProduct_226 : decode prog_12_method_20_code 226 = .ok (.invokestatic 173, 3) := by decide +kernel
theorem d_M_spanProduct_229 : decode prog_12_method_20_code 229 = .ok (.lstore 8, 2) := by decide +kernel
theorem d_M_spanProduct_231 : decode prog_12_method_20_code 231 = .ok (.aload_n 0, 1) := by decide +kernel
theorem d_M_spanProduct_232 : decode prog_12_method_20_code 232 = .ok (.getfield 55, 3) := by decide +kernel
theorem d_M_spanProduct_235 : decode prog_12_method_20_code 235 = .ok (.iload_n 1, 1) := by decide +kernel
theorem d_M_spanProduct_236 : decode prog_12_method_20_code 236 = .ok (.laload, 1) := by decide +kernel
theorem d_M_spanProduct_237 : decode prog_12_method_20_code 237 = .ok (.aload_n 0, 1) := by decide +kernel
theorem d_M_spanProduct_238 : decode prog_12_method_20_code 238 = .ok (.getfield 55, 3) := by decide +kernel
theorem d_M_spanProduct_241 : decode prog_12_method_20_code 241 = .ok (.iload_n 1, 1) := by decide +kernel
theorem d_M_spanProduct_242 : decode prog_12_method_20_code 242 = .ok (.iconst 1, 1) := by decide +kernel
theorem d_M_spanProduct_243 : decode prog_12_method_20_code 243 = .ok (.iadd, 1) := by decide +kernel
theorem d_M_spanProduct_244 : decode prog_12_method_20_code 244 = .ok (.laload, 1) := by decide +kernel
theorem d_M_spanProduct_245 : decode prog_12_method_20_code 245 = .ok (.invokestatic 173, 3) := by decide +kernel
theorem d_M_spanProduct_248 : decode prog_12_method_20_code 248 = .ok (.lstore 10, 2) := by decide +kernel
theorem d_M_spanProduct_250 : decode prog_12_method_20_code 250 = .ok (.aload_n 0, 1) := by decide +kernel
theorem d_M_spanProduct_251 : decode prog_12_method_20_code 251 = .ok (.iload_n 1, 1) := by decide +kernel
theorem d_M_spanProduct_252 : decode prog_12_method_20_code 252 = .ok (.lload 4, 2) := by decide +kernel
theorem d_M_spanProduct_254 : decode prog_12_method_20_code 254 = .ok (.lload 6, 2) := by decide +kernel
theorem d_M_spanProduct_256 : decode prog_12_method_20_code 256 = .ok (.invokestatic 177, 3) := by decide +kernel
theorem d_M_spanProduct_259 : decode prog_12_method_20_code 259 = .ok (.lload 8, 2) := by decide +kernel
theorem d_M_spanProduct_261 : decode prog_12_method_20_code 261 = .ok (.lload 10, 2) := by decide +kernel
theorem d_M_spanProduct_263 : decode prog_12_method_20_code 263 = .ok (.invokestatic 177, 3) := by decide +kernel
theorem d_M_spanProduct_266 : decode prog_12_method_20_code 266 = .ok (.invokestatic 177, 3) := by decide +kernel
theorem d_M_spanProduct_269 : decode prog_12_method_20_code 269 = .ok (.lload 4, 2) := by decide +kernel
theorem d_M_spanProduct_271 : decode prog_12_method_20_code 271 = .ok (.lload 6, 2) := by decide +kernel
theorem d_M_spanProduct_273 : decode prog_12_method_20_code 273 = .ok (.invokestatic 180, 3) := by decide +kernel
theorem d_M_spanProduct_276 : decode prog_12_method_20_code 276 = .ok (.lload 8, 2) := by decide +kernel
theorem d_M_spanProduct_278 : decode prog_12_method_20_code 278 = .ok (.lload 10, 2) := by decide +kernel
theorem d_M_spanProduct_280 : decode prog_12_method_20_code 280 = .ok (.invokestatic 180, 3) := by decide +kernel
theorem d_M_spanProduct_283 : decode prog_12_method_20_code 283 = .ok (.invokestatic 180, 3) := by decide +kernel
theorem d_M_spanProduct_286 : decode prog_12_method_20_code 286 = .ok (.iconst 0, 1) := by decide +kernel
theorem d_M_spanProduct_287 : decode prog_12_method_20_code 287 = .ok (.iconst 0, 1) := by decide +kernel
theorem d_M_spanProduct_288 : decode prog_12_method_20_code 288 = .ok (.invokevirtual 169, 3) := by decide +kernel
theorem d_M_spanProduct_291 : decode prog_12_method_20_code 291 = .ok (.return_, 1) := by decide +kernel
theorem d_M_spanQuotient_0 : decode prog_12_method_21_code 0 = .ok (.aload_n 0, 1) := by decide +kernel
theorem d_M_spanQuotient_1 : decode prog_12_method_21_code 1 = .ok (.getfield 58, 3) := by decide +kernel
theorem d_M_spanQuotient_4 : decode prog_12_method_21_code 4 = .ok (.iload_n 1, 1) := by decide +kernel
theorem d_M_spanQuotient_5 : decode prog_12_method_21_code 5 = .ok (.baload, 1) := by decide +kernel
theorem d_M_spanQuotient_6 : decode prog_12_method_21_code 6 = .ok (.ifCond .ne 12, 3) := by decide +kernel
theorem d_M_spanQuotient_9 : decode prog_12_method_21_code 9 = .ok (.aload_n 0, 1) := by decide +kernel
theorem d_M_spanQuotient_10 : decode prog_12_method_21_code 10 = .ok (.getfield 61, 3) := by decide +kernel
theorem d_M_spanQuotient_13 : decode prog_12_method_21_code 13 = .ok (.iload_n 1, 1) := by decide +kernel
theorem d_M_spanQuotient_14 : decode prog_12_method_21_code 14 = .ok (.baload, 1) := by decide +kernel
theorem d_M_spanQuotient_15 : decode prog_12_method_21_code 15 = .ok (.ifCond .eq 7, 3) := by decide +kernel
theorem d_M_spanQuotient_18 : decode prog_12_method_21_code 18 = .ok (.iconst 1, 1) := by decide +kernel
theorem d_M_spanQuotient_19 : decode prog_12_method_21_code 19 = .ok (.goto 4, 3) := by decide +kernel
theorem d_M_spanQuotient_22 : decode prog_12_method_21_code 22 = .ok (.iconst 0, 1) := by decide +kernel
theorem d_M_spanQuotient_23 : decode prog_12_method_21_code 23 = .ok (.istore_n 3, 1) := by decide +kernel
theorem d_M_spanQuotient_24 : decode prog_12_method_21_code 24 = .ok (.aload_n 0, 1) := by decide +kernel
theorem d_M_spanQuotient_25 : decode prog_12_method_21_code 25 = .ok (.getfield 58, 3) := by decide +kernel
theorem d_M_spanQuotient_28 : decode prog_12_method_21_code 28 = .ok (.iload_n 1, 1) := by decide +kernel
theorem d_M_spanQuotient_29 : decode prog_12_method_21_code 29 = .ok (.baload, 1) := by decide +kernel
theorem d_M_spanQuotient_30 : decode prog_12_method_21_code 30 = .ok (.ifCond .ne 14, 3) := by decide +kernel
theorem d_M_spanQuotient_33 : decode prog_12_method_21_code 33 = .ok (.aload_n 0, 1) := by decide +kernel
theorem d_M_spanQuotient_34 : decode prog_12_method_21_code 34 = .ok (.getfield 52, 3) := by decide +kernel
theorem d_M_spanQuotient_37 : decode prog_12_method_21_code 37 = .ok (.iload_n 1, 1) := by decide +kernel
theorem d_M_spanQuotient_38 : decode prog_12_method_21_code 38 = .ok (.laload, 1) := by decide +kernel
theorem d_M_spanQuotient_39 : decode prog_12_method_21_code 39 = .ok (.lconst 0, 1) := by decide +kernel
theorem d_M_spanQuotient_40 : decode prog_12_method_21_code 40 = .ok (.lcmp, 1) := by decide +kernel
theorem d_M_spanQuotient_41 : decode prog_12_method_21_code 41 = .ok (.ifCond .ge 7, 3) := by decide +kernel
theorem d_M_spanQuotient_44 : decode prog_12_method_21_code 44 = .ok (.iconst 1, 1) := by decide +kernel
theorem d_M_spanQuotient_45 : decode prog_12_method_21_code 45 = .ok (.goto 4, 3) := by decide +kernel
theorem d_M_spanQuotient_48 : decode prog_12_method_21_code 48 = .ok (.iconst 0, 1) := by decide +kernel
theorem d_M_spanQuotient_49 : decode prog_12_method_21_code 49 = .ok (.istore 4, 2) := by decide +kernel
theorem d_M_spanQuotient_51 : decode prog_12_method_21_code 51 = .ok (.iload_n 3, 1) := by decide +kernel
theorem d_M_spanQuotient_52 : decode prog_12_method_21_code 52 = .ok (.ifCond .eq 9, 3) := by decide +kernel
theorem d_M_spanQuotient_55 : decode prog_12_method_21_code 55 = .ok (.ldc2_w 161, 3) := by decide +kernel
theorem d_M_spanQuotient_58 : decode prog_12_method_21_code 58 = .ok (.goto 24, 3) := by decide +kernel
theorem d_M_spanQuotient_61 : decode prog_12_method_21_code 61 = .ok (.aload_n 0, 1) := by decide +kernel
theorem d_M_spanQuotient_62 : decode prog_12_method_21_code 62 = .ok (.getfield 52, 3) := by decide +kernel
theorem d_M_spanQuotient_65 : decode prog_12_method_21_code 65 = .ok (.iload_n 1, 1) := by decide +kernel
theorem d_M_spanQuotient_66 : decode prog_12_method_21_code 66 = .ok (.laload, 1) := by decide +kernel
theorem d_M_spanQuotient_67 : decode prog_12_method_21_code 67 = .ok (.invokestatic 163, 3) := by decide +kernel
theorem d_M_spanQuotient_70 : decode prog_12_method_21_code 70 = .ok (.aload_n 0, 1) := by decide +kernel
theorem d_M_spanQuotient_71 : decode prog_12_method_21_code 71 = .ok (.getfield 55, 3) := by decide +kernel
theorem d_M_spanQuotient_74 : decode prog_12_method_21_code 74 = .ok (.iload_n 1, 1) := by decide +kernel
theorem d_M_spanQuotient_75 : decode prog_12_method_21_code 75 = .ok (.laload, 1) := by decide +kernel
theorem d_M_spanQuotient_76 : decode prog_12_method_21_code 76 = .ok (.invokestatic 163, 3) := by decide +kernel
theorem d_M_spanQuotient_79 : decode prog_12_method_21_code 79 = .ok (.invokestatic 180, 3) := by decide +kernel
theorem d_M_spanQuotient_82 : decode prog_12_method_21_code 82 = .ok (.lstore 5, 2) := by decide +kernel
theorem d_M_spanQuotient_84 : decode prog_12_method_21_code 84 = .ok (.iload_n 2, 1) := by decide +kernel
theorem d_M_spanQuotient_85 : decode prog_12_method_21_code 85 = .ok (.ifCond .eq 69, 3) := by decide +kernel
theorem d_M_spanQuotient_88 : decode prog_12_method_21_code 88 = .ok (.aload_n 0, 1) := by decide +kernel
theorem d_M_spanQuotient_89 : decode prog_12_method_21_code 89 = .ok (.getfield 58, 3) := by decide +kernel
theorem d_M_spanQuotient_92 : decode prog_12_method_21_code 92 = .ok (.iload_n 1, 1) := by decide +kernel
theorem d_M_spanQuotient_93 : decode prog_12_method_21_code 93 = .ok (.iconst 1, 1) := by decide +kernel
theorem d_M_spanQuotient_94 : decode prog_12_method_21_code 94 = .ok (.iadd, 1) := by decide +kernel
theorem d_M_spanQuotient_95 : decode prog_12_method_21_code 95 = .ok (.baload, 1) := by decide +kernel
theorem d_M_spanQuotient_96 : decode prog_12_method_21_code 96 = .ok (.ifCond .ne 58, 3) := by decide +kernel
theorem d_M_spanQuotient_99 : decode prog_12_method_21_code 99 = .ok (.aload_n 0, 1) := by decide +kernel
theorem d_M_spanQuotient_100 : decode prog_12_method_21_code 100 = .ok (.getfield 61, 3) := by decide +kernel
theorem d_M_spanQuotient_103 : decode prog_12_method_21_code 103 = .ok (.iload_n 1, 1) := by decide +kernel
theorem d_M_spanQuotient_104 : decode prog_12_method_21_code 104 = .ok (.iconst 1, 1) := by decide +kernel
theorem d_M_spanQuotient_105 : decode prog_12_method_21_code 105 = .ok (.iadd, 1) := by decide +kernel
theorem d_M_spanQuotient_106 : decode prog_12_method_21_code 106 = .ok (.baload, 1) := by decide +kernel
theorem d_M_spanQuotient_107 : decode prog_12_method_21_code 107 = .ok (.ifCond .ne 47, 3) := by decide +kernel
theorem d_M_spanQuotient_110 : decode prog_12_method_21_code 110 = .ok (.aload_n 0, 1) := by decide +kernel
theorem d_M_spanQuotient_111 : decode prog_12_method_21_code 111 = .ok (.getfield 52, 3) := by decide +kernel
theorem d_M_spanQuotient_114 : decode prog_12_method_21_code 114 = .ok (.iload_n 1, 1) := by decide +kernel
theorem d_M_spanQuotient_115 : decode prog_12_method_21_code 115 = .ok (.iconst 1, 1) := by decide +kernel
theorem d_M_spanQuotient_116 : decode prog_12_method_21_code 116 = .ok (.iadd, 1) := by decide +kernel
theorem d_M_spanQuotient_117 : decode prog_12_method_21_code 117 = .ok (.laload, 1) := by decide +kernel
theorem d_M_spanQuotient_118 : decode prog_12_method_21_code 118 = .ok (.invokestatic 163, 3) := by decide +kernel
theorem d_M_spanQuotient_121 : decode prog_12_method_21_code 121 = .ok (.aload_n 0, 1) := by decide +kernel
theorem d_M_spanQuotient_122 : decode prog_12_method_21_code 122 = .ok (.getfield 55, 3) := by decide +kernel
theorem d_M_spanQuotient_125 : decode prog_12_method_21_code 125 = .ok (.iload_n 1, 1) := by decide +kernel
theorem d_M_spanQuotient_126 : decode prog_12_method_21_code 126 = .ok (.iconst 1, 1) := by decide +kernel
theorem d_M_spanQuotient_127 : decode prog_12_method_21_code 127 = .ok (.iadd, 1) := by decide +kernel
theorem d_M_spanQuotient_128 : decode prog_12_method_21_code 128 = .ok (.laload, 1) := by decide +kernel
theorem d_M_spanQuotient_129 : decode prog_12_method_21_code 129 = .ok (.invokestatic 163, 3) := by decide +kernel
theorem d_M_spanQuotient_132 : decode prog_12_method_21_code 132 = .ok (.invokestatic 180, 3) := by decide +kernel
theorem d_M_spanQuotient_135 : decode prog_12_method_21_code 135 = .ok (.lconst 1, 1) := by decide +kernel
theorem d_M_spanQuotient_136 : decode prog_12_method_21_code 136 = .ok (.lsub, 1) := by decide +kernel
theorem d_M_spanQuotient_137 : decode prog_12_method_21_code 137 = .ok (.lstore 7, 2) := by decide +kernel
theorem d_M_spanQuotient_139 : decode prog_12_method_21_code 139 = .ok (.lload 5, 2) := by decide +kernel
theorem d_M_spanQuotient_141 : decode prog_12_method_21_code 141 = .ok (.lconst 0, 1) := by decide +kernel
theorem d_M_spanQuotient_142 : decode prog_12_method_21_code 142 = .ok (.lload 7, 2) := by decide +kernel
theorem d_M_spanQuotient_144 : decode prog_12_method_21_code 144 = .ok (.invokestatic 180, 3) := by decide +kernel
theorem d_M_spanQuotient_147 : decode prog_12_method_21_code 147 = .ok (.invokestatic 177, 3) := by decide +kernel
theorem d_M_spanQuotient_150 : decode prog_12_method_21_code 150 = .ok (.lstore 5, 2) := by decide +kernel
theorem d_M_spanQuotient_152 : decode prog_12_method_21_code 152 = .ok (.iconst 0, 1) := by decide +kernel
theorem d_M_spanQuotient_153 : decode prog_12_method_21_code 153 = .ok (.istore_n 3, 1) := by decide +kernel
theorem d_M_spanQuotient_154 : decode prog_12_method_21_code 154 = .ok (.iload_n 2, 1) := by decide +kernel
theorem d_M_spanQuotient_155 : decode prog_12_method_21_code 155 = .ok (.ifCond .eq 12, 3) := by decide +kernel
theorem d_M_spanQuotient_158 : decode prog_12_method_21_code 158 = .ok (.iload 4, 2) := by decide +kernel
theorem d_M_spanQuotient_160 : decode prog_12_method_21_code 160 = .ok (.ifCond .ne 7, 3) := by decide +kernel
theorem d_M_spanQuotient_163 : decode prog_12_method_21_code 163 = .ok (.iconst 1, 1) := by decide +kernel
theorem d_M_spanQuotient_164 : decode prog_12_method_21_code 164 = .ok (.goto 4, 3) := by decide +kernel
theorem d_M_spanQuotient_167 : decode prog_12_method_21_code 167 = .ok (.iconst 0, 1) := by decide +kernel
theorem d_M_spanQuotient_168 : decode prog_12_method_21_code 168 = .ok (.istore 7, 2) := by decide +kernel
theorem d_M_spanQuotient_170 : decode prog_12_method_21_code 170 = .ok (.aload_n 0, 1) := by decide +kernel
theorem d_M_spanQuotient_171 : decode prog_12_method_21_code 171 = .ok (.iload_n 1, 1) := by decide +kernel
theorem d_M_spanQuotient_172 : decode prog_12_method_21_code 172 = .ok (.iload 7, 2) := by decide +kernel
theorem d_M_spanQuotient_174 : decode prog_12_method_21_code 174 = .ok (.ifCond .eq 7, 3) := by decide +kernel
theorem d_M_spanQuotient_177 : decode prog_12_method_21_code 177 = .ok (.lconst 0, 1) := by decide +kernel
theorem d_M_spanQuotient_178 : decode prog_12_method_21_code 178 = .ok (.goto 6, 3) := by decide +kernel
theorem d_M_spanQuotient_181 : decode prog_12_method_21_code 181 = .ok (.lload 5, 2) := by decide +kernel
theorem d_M_spanQuotient_183 : decode prog_12_method_21_code 183 = .ok (.lneg, 1) := by decide +kernel
theorem d_M_spanQuotient_184 : decode prog_12_method_21_code 184 = .ok (.lload 5, 2) := by decide +kernel
theorem d_M_spanQuotient_186 : decode prog_12_method_21_code 186 = .ok (.iload_n 3, 1) := by decide +kernel
theorem d_M_spanQuotient_187 : decode prog_12_method_21_code 187 = .ok (.ifCond .eq 12, 3) := by decide +kernel
theorem d_M_spanQuotient_190 : decode prog_12_method_21_code 190 = .ok (.iload 7, 2) := by decide +kernel
theorem d_M_spanQuotient_192 : decode prog_12_method_21_code 192 = .ok (.ifCond .ne 7, 3) := by decide +kernel
theorem d_M_spanQuotient_195 : decode prog_12_method_21_code 195 = .ok (.iconst 1, 1) := by decide +kernel
theorem d_M_spanQuotient_196 : decode prog_12_method_21_code 196 = .ok (.goto 4, 3) := by decide +kernel
theorem d_M_spanQuotient_199 : decode prog_12_method_21_code 199 = .ok (.iconst 0, 1) := by decide +kernel
theorem d_M_spanQuotient_200 : decode prog_12_method_21_code 200 = .ok (.iload_n 3, 1) := by decide +kernel
theorem d_M_spanQuotient_201 : decode prog_12_method_21_code 201 = .ok (.invokevirtual 169, 3) := by decide +kernel
theorem d_M_spanQuotient_204 : decode prog_12_method_21_code 204 = .ok (.return_, 1) := by decide +kernel
theorem d_M_times_0 : decode prog_12_method_19_code 0 = .ok (.lload_n 0, 1) := by decide +kernel
theorem d_M_times_1 : decode prog_12_method_19_code 1 = .ok (.lconst 0, 1) := by decide +kernel
theorem d_M_times_2 : decode prog_12_method_19_code 2 = .ok (.lcmp, 1) := by decide +kernel
theorem d_M_times_3 : decode prog_12_method_19_code 3 = .ok (.ifCond .eq 9, 3) := by decide +kernel
theorem d_M_times_6 : decode prog_12_method_19_code 6 = .ok (.lload_n 2, 1) := by decide +kernel
theorem d_M_times_7 : decode prog_12_method_19_code 7 = .ok (.lconst 0, 1) := by decide +kernel
theorem d_M_times_8 : decode prog_12_method_19_code 8 = .ok (.lcmp, 1) := by decide +kernel
theorem d_M_times_9 : decode prog_12_method_19_code 9 = .ok (.ifCond .ne 5, 3) := by decide +kernel
theorem d_M_times_12 : decode prog_12_method_19_code 12 = .ok (.lconst 0, 1) := by decide +kernel
theorem d_M_times_13 : decode prog_12_method_19_code 13 = .ok (.lreturn, 1) := by decide +kernel
theorem d_M_times_14 : decode prog_12_method_19_code 14 = .ok (.lload_n 0, 1) := by decide +kernel
theorem d_M_times_15 : decode prog_12_method_19_code 15 = .ok (.invokestatic 163, 3) := by decide +kernel
theorem d_M_times_18 : decode prog_12_method_19_code 18 = .ok (.ldc2_w 161, 3) := by decide +kernel
theorem d_M_times_21 : decode prog_12_method_19_code 21 = .ok (.lload_n 2, 1) := by decide +kernel
theorem d_M_times_22 : decode prog_12_method_19_code 22 = .ok (.invokestatic 163, 3) := by decide +kernel
theorem d_M_times_25 : decode prog_12_method_19_code 25 = .ok (.ldiv, 1) := by decide +kernel
theorem d_M_times_26 : decode prog_12_method_19_code 26 = .ok (.lcmp, 1) := by decide +kernel
theorem d_M_times_27 : decode prog_12_method_19_code 27 = .ok (.ifCond .le 9, 3) := by decide +kernel
theorem d_M_times_30 : decode prog_12_method_19_code 30 = .ok (.ldc2_w 167, 3) := by decide +kernel
theorem d_M_times_33 : decode prog_12_method_19_code 33 = .ok (.goto 12, 3) := by decide +kernel
theorem d_M_times_36 : decode prog_12_method_19_code 36 = .ok (.lload_n 0, 1) := by decide +kernel
theorem d_M_times_37 : decode prog_12_method_19_code 37 = .ok (.invokestatic 163, 3) := by decide +kernel
theorem d_M_times_40 : decode prog_12_method_19_code 40 = .ok (.lload_n 2, 1) := by decide +kernel
theorem d_M_times_41 : decode prog_12_method_19_code 41 = .ok (.invokestatic 163, 3) := by decide +kernel
theorem d_M_times_44 : decode prog_12_method_19_code 44 = .ok (.lmul, 1) := by decide +kernel
theorem d_M_times_45 : decode prog_12_method_19_code 45 = .ok (.lstore 4, 2) := by decide +kernel
theorem d_M_times_47 : decode prog_12_method_19_code 47 = .ok (.lload_n 0, 1) := by decide +kernel
theorem d_M_times_48 : decode prog_12_method_19_code 48 = .ok (.lconst 0, 1) := by decide +kernel
theorem d_M_times_49 : decode prog_12_method_19_code 49 = .ok (.lcmp, 1) := by decide +kernel
theorem d_M_times_50 : decode prog_12_method_19_code 50 = .ok (.ifCond .ge 7, 3) := by decide +kernel
theorem d_M_times_53 : decode prog_12_method_19_code 53 = .ok (.iconst 1, 1) := by decide +kernel
theorem d_M_times_54 : decode prog_12_method_19_code 54 = .ok (.goto 4, 3) := by decide +kernel
theorem d_M_times_57 : decode prog_12_method_19_code 57 = .ok (.iconst 0, 1) := by decide +kernel
theorem d_M_times_58 : decode prog_12_method_19_code 58 = .ok (.lload_n 2, 1) := by decide +kernel
theorem d_M_times_59 : decode prog_12_method_19_code 59 = .ok (.lconst 0, 1) := by decide +kernel
theorem d_M_times_60 : decode prog_12_method_19_code 60 = .ok (.lcmp, 1) := by decide +kernel
theorem d_M_times_61 : decode prog_12_method_19_code 61 = .ok (.ifCond .ge 7, 3) := by decide +kernel
theorem d_M_times_64 : decode prog_12_method_19_code 64 = .ok (.iconst 1, 1) := by decide +kernel
theorem d_M_times_65 : decode prog_12_method_19_code 65 = .ok (.goto 4, 3) := by decide +kernel
theorem d_M_times_68 : decode prog_12_method_19_code 68 = .ok (.iconst 0, 1) := by decide +kernel
theorem d_M_times_69 : decode prog_12_method_19_code 69 = .ok (.if_icmp .ne 8, 3) := by decide +kernel
theorem d_M_times_72 : decode prog_12_method_19_code 72 = .ok (.lload 4, 2) := by decide +kernel
theorem d_M_times_74 : decode prog_12_method_19_code 74 = .ok (.goto 6, 3) := by decide +kernel
theorem d_M_times_77 : decode prog_12_method_19_code 77 = .ok (.lload 4, 2) := by decide +kernel
theorem d_M_times_79 : decode prog_12_method_19_code 79 = .ok (.lneg, 1) := by decide +kernel
theorem d_M_times_80 : decode prog_12_method_19_code 80 = .ok (.lreturn, 1) := by decide +kernel

