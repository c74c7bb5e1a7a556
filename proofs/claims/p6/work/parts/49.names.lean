theorem wd_58 {U : State} (h : TB U) (args : Array Value) : (Cond.selects "BigRunnerModel" ⟨"BigRunnerModel", "takeInput", "(I)V"⟩ ⟨"BigRunnerModel", "takeInput", "(I)V"⟩).before args U = true := h.w 58 (by decide +kernel) rfl args
theorem wd_59 {U : State} (h : TB U) (args : Array Value) : (Cond.selects "BigRunnerModel" ⟨"BigRunnerModel", "setNumber", "(II)V"⟩ ⟨"BigRunnerModel", "setNumber", "(II)V"⟩).before args U = true := h.w 59 (by decide +kernel) rfl args
theorem wd_60 {U : State} (h : TB U) (args : Array Value) : (Cond.selects "BigRunnerModel" ⟨"BigRunnerModel", "assign", "(I)V"⟩ ⟨"BigRunnerModel", "assign", "(I)V"⟩).before args U = true := h.w 60 (by decide +kernel) rfl args
theorem wd_61 {U : State} (h : TB U) (args : Array Value) : (Cond.selects "BigRunnerModel" ⟨"BigRunnerModel", "work", "(I)V"⟩ ⟨"BigRunnerModel", "work", "(I)V"⟩).before args U = true := h.w 61 (by decide +kernel) rfl args
theorem wd_62 {U : State} (h : TB U) (args : Array Value) : (Cond.selects "BigRunnerModel" ⟨"BigRunnerModel", "clear", "()V"⟩ ⟨"BigRunnerModel", "clear", "()V"⟩).before args U = true := h.w 62 (by decide +kernel) rfl args
theorem wd_63 {U : State} (h : TB U) (args : Array Value) : (Cond.selects "BigRunnerModel" ⟨"BigRunnerModel", "product", "(II)I"⟩ ⟨"BigRunnerModel", "product", "(II)I"⟩).before args U = true := h.w 63 (by decide +kernel) rfl args
theorem wd_65 {U : State} (h : TB U) (args : Array Value) : (Cond.selects "BigRunnerModel" ⟨"BigRunnerModel", "sum", "(III)I"⟩ ⟨"BigRunnerModel", "sum", "(III)I"⟩).before args U = true := h.w 65 (by decide +kernel) rfl args
theorem wd_68 {U : State} (h : TB U) (args : Array Value) : (Cond.selects "BigRunnerModel" ⟨"BigRunnerModel", "divide", "(II)V"⟩ ⟨"BigRunnerModel", "divide", "(II)V"⟩).before args U = true := h.w 68 (by decide +kernel) rfl args
theorem wd_70 {U : State} (h : TB U) (args : Array Value) : (Cond.selects "BigRunnerModel" ⟨"BigRunnerModel", "keep", "(II)V"⟩ ⟨"BigRunnerModel", "keep", "(II)V"⟩).before args U = true := h.w 70 (by decide +kernel) rfl args
theorem wd_973 {U : State} (h : TB U) (args : Array Value) : (Cond.fieldLink "BigRunnerModel" 67 "BigRunnerModel" "varLimbs" "[I").before args U = true := h.w 973 (by decide +kernel) rfl args
theorem wd_974 {U : State} (h : TB U) (args : Array Value) : (Cond.fieldLink "BigRunnerModel" 70 "BigRunnerModel" "varSign" "[I").before args U = true := h.w 974 (by decide +kernel) rfl args
theorem wd_975 {U : State} (h : TB U) (args : Array Value) : (Cond.fieldLink "BigRunnerModel" 73 "BigRunnerModel" "outLimbs" "[I").before args U = true := h.w 975 (by decide +kernel) rfl args
theorem wd_976 {U : State} (h : TB U) (args : Array Value) : (Cond.fieldLink "BigRunnerModel" 76 "BigRunnerModel" "outSign" "[I").before args U = true := h.w 976 (by decide +kernel) rfl args
theorem wd_982 {U : State} (h : TB U) (args : Array Value) : (Cond.fieldLink "BigRunnerModel" 91 "BigRunnerModel" "inputs" "[I").before args U = true := h.w 982 (by decide +kernel) rfl args
theorem wd_983 {U : State} (h : TB U) (args : Array Value) : (Cond.fieldLink "BigRunnerModel" 282 "BigRunnerModel" "waiting" "I").before args U = true := h.w 983 (by decide +kernel) rfl args
theorem wd_984 {U : State} (h : TB U) (args : Array Value) : (Cond.fieldLink "BigRunnerModel" 264 "BigRunnerModel" "given" "I").before args U = true := h.w 984 (by decide +kernel) rfl args
theorem wd_985 {U : State} (h : TB U) (args : Array Value) : (Cond.fieldLink "BigRunnerModel" 267 "BigRunnerModel" "pc" "I").before args U = true := h.w 985 (by decide +kernel) rfl args
theorem wd_987 {U : State} (h : TB U) (args : Array Value) : (Cond.fieldLink "BigRunnerModel" 238 "BigRunnerModel" "trap" "I").before args U = true := h.w 987 (by decide +kernel) rfl args
theorem wd_988 {U : State} (h : TB U) (args : Array Value) : (Cond.fieldLink "BigRunnerModel" 273 "BigRunnerModel" "steps" "I").before args U = true := h.w 988 (by decide +kernel) rfl args
theorem wd_989 {U : State} (h : TB U) (args : Array Value) : (Cond.fieldLink "BigRunnerModel" 232 "BigRunnerModel" "machine" "I").before args U = true := h.w 989 (by decide +kernel) rfl args
theorem wd_990 {U : State} (h : TB U) (args : Array Value) : (Cond.fieldLink "BigRunnerModel" 235 "BigRunnerModel" "longs" "I").before args U = true := h.w 990 (by decide +kernel) rfl args
theorem wd_1204 {U : State} (h : TB U) (args : Array Value) : (Cond.methodLink "BigRunnerModel" 288 ⟨"BigRunnerModel", "takeInput", "(I)V"⟩).before args U = true := h.w 1204 (by decide +kernel) rfl args
theorem wd_1206 {U : State} (h : TB U) (args : Array Value) : (Cond.instanceMethod ⟨"BigRunnerModel", "takeInput", "(I)V"⟩).before args U = true := h.w 1206 (by decide +kernel) rfl args
theorem wd_1207 {U : State} (h : TB U) (args : Array Value) : (Cond.code ⟨"BigRunnerModel", "takeInput", "(I)V"⟩ prog_12_method_43_code 3 none).before args U = true := h.w 1207 (by decide +kernel) rfl args
theorem wd_1208 {U : State} (h : TB U) (args : Array Value) : (Cond.methodLink "BigRunnerModel" 229 ⟨"BigRunnerModel", "setNumber", "(II)V"⟩).before args U = true := h.w 1208 (by decide +kernel) rfl args
theorem wd_1210 {U : State} (h : TB U) (args : Array Value) : (Cond.instanceMethod ⟨"BigRunnerModel", "setNumber", "(II)V"⟩).before args U = true := h.w 1210 (by decide +kernel) rfl args
theorem wd_1211 {U : State} (h : TB U) (args : Array Value) : (Cond.code ⟨"BigRunnerModel", "setNumber", "(II)V"⟩ prog_12_method_27_code 4 none).before args U = true := h.w 1211 (by decide +kernel) rfl args
theorem wd_1213 {U : State} (h : TB U) (args : Array Value) : (Cond.methodLink "BigRunnerModel" 285 ⟨"BigRunnerModel", "assign", "(I)V"⟩).before args U = true := h.w 1213 (by decide +kernel) rfl args
theorem wd_1215 {U : State} (h : TB U) (args : Array Value) : (Cond.instanceMethod ⟨"BigRunnerModel", "assign", "(I)V"⟩).before args U = true := h.w 1215 (by decide +kernel) rfl args
theorem wd_1216 {U : State} (h : TB U) (args : Array Value) : (Cond.code ⟨"BigRunnerModel", "assign", "(I)V"⟩ prog_12_method_42_code 3 none).before args U = true := h.w 1216 (by decide +kernel) rfl args
theorem wd_1217 {U : State} (h : TB U) (args : Array Value) : (Cond.methodLink "BigRunnerModel" 291 ⟨"BigRunnerModel", "work", "(I)V"⟩).before args U = true := h.w 1217 (by decide +kernel) rfl args
theorem wd_1219 {U : State} (h : TB U) (args : Array Value) : (Cond.instanceMethod ⟨"BigRunnerModel", "work", "(I)V"⟩).before args U = true := h.w 1219 (by decide +kernel) rfl args
theorem wd_1220 {U : State} (h : TB U) (args : Array Value) : (Cond.code ⟨"BigRunnerModel", "work", "(I)V"⟩ prog_12_method_37_code 6 none).before args U = true := h.w 1220 (by decide +kernel) rfl args
theorem wd_1221 {U : State} (h : TB U) (args : Array Value) : (Cond.methodLink "BigRunnerModel" 241 ⟨"BigRunnerModel", "clear", "()V"⟩).before args U = true := h.w 1221 (by decide +kernel) rfl args
theorem wd_1223 {U : State} (h : TB U) (args : Array Value) : (Cond.instanceMethod ⟨"BigRunnerModel", "clear", "()V"⟩).before args U = true := h.w 1223 (by decide +kernel) rfl args
theorem wd_1224 {U : State} (h : TB U) (args : Array Value) : (Cond.code ⟨"BigRunnerModel", "clear", "()V"⟩ prog_12_method_29_code 2 none).before args U = true := h.w 1224 (by decide +kernel) rfl args
theorem wd_1225 {U : State} (h : TB U) (args : Array Value) : (Cond.methodLink "BigRunnerModel" 244 ⟨"BigRunnerModel", "product", "(II)I"⟩).before args U = true := h.w 1225 (by decide +kernel) rfl args
theorem wd_1227 {U : State} (h : TB U) (args : Array Value) : (Cond.instanceMethod ⟨"BigRunnerModel", "product", "(II)I"⟩).before args U = true := h.w 1227 (by decide +kernel) rfl args
theorem wd_1228 {U : State} (h : TB U) (args : Array Value) : (Cond.code ⟨"BigRunnerModel", "product", "(II)I"⟩ prog_12_method_32_code 9 (some .int)).before args U = true := h.w 1228 (by decide +kernel) rfl args
theorem wd_1234 {U : State} (h : TB U) (args : Array Value) : (Cond.methodLink "BigRunnerModel" 247 ⟨"BigRunnerModel", "sum", "(III)I"⟩).before args U = true := h.w 1234 (by decide +kernel) rfl args
theorem wd_1236 {U : State} (h : TB U) (args : Array Value) : (Cond.instanceMethod ⟨"BigRunnerModel", "sum", "(III)I"⟩).before args U = true := h.w 1236 (by decide +kernel) rfl args
theorem wd_1237 {U : State} (h : TB U) (args : Array Value) : (Cond.code ⟨"BigRunnerModel", "sum", "(III)I"⟩ prog_12_method_31_code 6 (some .int)).before args U = true := h.w 1237 (by decide +kernel) rfl args
theorem wd_1246 {U : State} (h : TB U) (args : Array Value) : (Cond.methodLink "BigRunnerModel" 251 ⟨"BigRunnerModel", "divide", "(II)V"⟩).before args U = true := h.w 1246 (by decide +kernel) rfl args
theorem wd_1248 {U : State} (h : TB U) (args : Array Value) : (Cond.instanceMethod ⟨"BigRunnerModel", "divide", "(II)V"⟩).before args U = true := h.w 1248 (by decide +kernel) rfl args
theorem wd_1249 {U : State} (h : TB U) (args : Array Value) : (Cond.code ⟨"BigRunnerModel", "divide", "(II)V"⟩ prog_12_method_34_code 6 none).before args U = true := h.w 1249 (by decide +kernel) rfl args
theorem wd_1255 {U : State} (h : TB U) (args : Array Value) : (Cond.methodLink "BigRunnerModel" 254 ⟨"BigRunnerModel", "digitsOf", "([III)I"⟩).before args U = true := h.w 1255 (by decide +kernel) rfl args
theorem wd_1256 {U : State} (h : TB U) (args : Array Value) : (Cond.static ⟨"BigRunnerModel", "digitsOf", "([III)I"⟩).before args U = true := h.w 1256 (by decide +kernel) rfl args
theorem wd_1257 {U : State} (h : TB U) (args : Array Value) : (Cond.code ⟨"BigRunnerModel", "digitsOf", "([III)I"⟩ prog_12_method_35_code 7 (some .int)).before args U = true := h.w 1257 (by decide +kernel) rfl args
theorem wd_1258 {U : State} (h : TB U) (args : Array Value) : (Cond.methodLink "BigRunnerModel" 258 ⟨"BigRunnerModel", "keep", "(II)V"⟩).before args U = true := h.w 1258 (by decide +kernel) rfl args
theorem wd_1260 {U : State} (h : TB U) (args : Array Value) : (Cond.instanceMethod ⟨"BigRunnerModel", "keep", "(II)V"⟩).before args U = true := h.w 1260 (by decide +kernel) rfl args
theorem wd_1261 {U : State} (h : TB U) (args : Array Value) : (Cond.code ⟨"BigRunnerModel", "keep", "(II)V"⟩ prog_12_method_36_code 5 none).before args U = true := h.w 1261 (by decide +kernel) rfl args
theorem d_M_assign_0 : decode prog_12_method_42_code 0 = .ok (.iconst 0, 1) := by decide +kernel
theorem d_M_assign_1 : decode prog_12_method_42_code 1 = .ok (.istore_n 2, 1) := by decide +kernel
theorem d_M_assign_2 : decode prog_12_method_42_code 2 = .ok (.iload_n 2, 1) := by decide +kernel
theorem d_M_assign_3 : decode prog_12_method_42_code 3 = .ok (.bipush 20, 2) := by decide +kernel
theorem d_M_assign_5 : decode prog_12_method_42_code 5 = .ok (.if_icmp .ge 26, 3) := by decide +kernel
theorem d_M_assign_8 : decode prog_12_method_42_code 8 = .ok (.aload_n 0, 1) := by decide +kernel
theorem d_M_assign_9 : decode prog_12_method_42_code 9 = .ok (.getfield 67, 3) := by decide +kernel
theorem d_M_assign_12 : decode prog_12_method_42_code 12 = .ok (.bipush 20, 2) := by decide +kernel
theorem d_M_assign_14 : decode prog_12_method_42_code 14 = .ok (.iload_n 1, 1) := by decide +kernel
theorem d_M_assign_15 : decode prog_12_method_42_code 15 = .ok (.imul, 1) := by decide +kernel
theorem d_M_assign_16 : decode prog_12_method_42_code 16 = .ok (.iload_n 2, 1) := by decide +kernel
theorem d_M_assign_17 : decode prog_12_method_42_code 17 = .ok (.iadd, 1) := by decide +kernel
theorem d_M_assign_18 : decode prog_12_method_42_code 18 = .ok (.aload_n 0, 1) := by decide +kernel
theorem d_M_assign_19 : decode prog_12_method_42_code 19 = .ok (.getfield 79, 3) := by decide +kernel
theorem d_M_assign_22 : decode prog_12_method_42_code 22 = .ok (.iload_n 2, 1) := by decide +kernel
theorem d_M_assign_23 : decode prog_12_method_42_code 23 = .ok (.iaload, 1) := by decide +kernel
theorem d_M_assign_24 : decode prog_12_method_42_code 24 = .ok (.iastore, 1) := by decide +kernel
theorem d_M_assign_25 : decode prog_12_method_42_code 25 = .ok (.iinc 2 1, 3) := by decide +kernel
theorem d_M_assign_28 : decode prog_12_method_42_code 28 = .ok (.goto (-26), 3) := by decide +kernel
theorem d_M_assign_31 : decode prog_12_method_42_code 31 = .ok (.aload_n 0, 1) := by decide +kernel
theorem d_M_assign_32 : decode prog_12_method_42_code 32 = .ok (.getfield 70, 3) := by decide +kernel
theorem d_M_assign_35 : decode prog_12_method_42_code 35 = .ok (.iload_n 1, 1) := by decide +kernel
theorem d_M_assign_36 : decode prog_12_method_42_code 36 = .ok (.aload_n 0, 1) := by decide +kernel
theorem d_M_assign_37 : decode prog_12_method_42_code 37 = .ok (.getfield 82, 3) := by decide +kernel
theorem d_M_assign_40 : decode prog_12_method_42_code 40 = .ok (.iconst 0, 1) := by decide +kernel
theorem d_M_assign_41 : decode prog_12_method_42_code 41 = .ok (.iaload, 1) := by decide +kernel
theorem d_M_assign_42 : decode prog_12_method_42_code 42 = .ok (.iastore, 1) := by decide +kernel
theorem d_M_assign_43 : decode prog_12_method_42_code 43 = .ok (.return_, 1) := by decide +kernel
theorem d_M_step_0 : decode prog_12_method_44_code 0 = .ok (.aload_n 0, 1) := by decide +kernel
theorem d_M_step_1 : decode prog_12_method_44_code 1 = .ok (.dup, 1) := by decide +kernel
theorem d_M_step_2 : decode prog_12_method_44_code 2 = .ok (.getfield 273, 3) := by decide +kernel
theorem d_M_step_5 : decode prog_12_method_44_code 5 = .ok (.iconst 1, 1) := by decide +kernel
theorem d_M_step_6 : decode prog_12_method_44_code 6 = .ok (.iadd, 1) := by decide +kernel
theorem d_M_step_7 : decode prog_12_method_44_code 7 = .ok (.putfield 273, 3) := by decide +kernel
theorem d_M_step_10 : decode prog_12_method_44_code 10 = .ok (.aload_n 0, 1) := by decide +kernel
theorem d_M_step_11 : decode prog_12_method_44_code 11 = .ok (.iconst 0, 1) := by decide +kernel
theorem d_M_step_12 : decode prog_12_method_44_code 12 = .ok (.putfield 183, 3) := by decide +kernel
theorem d_M_step_15 : decode prog_12_method_44_code 15 = .ok (.aload_n 0, 1) := by decide +kernel
theorem d_M_step_16 : decode prog_12_method_44_code 16 = .ok (.getfield 20, 3) := by decide +kernel
theorem d_M_step_19 : decode prog_12_method_44_code 19 = .ok (.aload_n 0, 1) := by decide +kernel
theorem d_M_step_20 : decode prog_12_method_44_code 20 = .ok (.getfield 267, 3) := by decide +kernel
theorem d_M_step_23 : decode prog_12_method_44_code 23 = .ok (.iaload, 1) := by decide +kernel
theorem d_M_step_24 : decode prog_12_method_44_code 24 = .ok (.bipush 9, 2) := by decide +kernel
theorem d_M_step_26 : decode prog_12_method_44_code 26 = .ok (.if_icmp .ne 17, 3) := by decide +kernel
theorem d_M_step_29 : decode prog_12_method_44_code 29 = .ok (.aload_n 0, 1) := by decide +kernel
theorem d_M_step_30 : decode prog_12_method_44_code 30 = .ok (.aload_n 0, 1) := by decide +kernel
theorem d_M_step_31 : decode prog_12_method_44_code 31 = .ok (.getfield 23, 3) := by decide +kernel
theorem d_M_step_34 : decode prog_12_method_44_code 34 = .ok (.aload_n 0, 1) := by decide +kernel
theorem d_M_step_35 : decode prog_12_method_44_code 35 = .ok (.getfield 267, 3) := by decide +kernel
theorem d_M_step_38 : decode prog_12_method_44_code 38 = .ok (.iaload, 1) := by decide +kernel
theorem d_M_step_39 : decode prog_12_method_44_code 39 = .ok (.invokevirtual 288, 3) := by decide +kernel
theorem d_M_step_42 : decode prog_12_method_44_code 42 = .ok (.return_, 1) := by decide +kernel
theorem d_M_step_43 : decode prog_12_method_44_code 43 = .ok (.aload_n 0, 1) := by decide +kernel
theorem d_M_step_44 : decode prog_12_method_44_code 44 = .ok (.getfield 20, 3) := by decide +kernel
theorem d_M_step_47 : decode prog_12_method_44_code 47 = .ok (.aload_n 0, 1) := by decide +kernel
theorem d_M_step_48 : decode prog_12_method_44_code 48 = .ok (.getfield 267, 3) := by decide +kernel
theorem d_M_step_51 : decode prog_12_method_44_code 51 = .ok (.iaload, 1) := by decide +kernel
theorem d_M_step_52 : decode prog_12_method_44_code 52 = .ok (.bipush 8, 2) := by decide +kernel
theorem d_M_step_54 : decode prog_12_method_44_code 54 = .ok (.if_icmp .ge 32, 3) := by decide +kernel
theorem d_M_step_57 : decode prog_12_method_44_code 57 = .ok (.aload_n 0, 1) := by decide +kernel
theorem d_M_step_58 : decode prog_12_method_44_code 58 = .ok (.aload_n 0, 1) := by decide +kernel
theorem d_M_step_59 : decode prog_12_method_44_code 59 = .ok (.getfield 267, 3) := by decide +kernel
theorem d_M_step_62 : decode prog_12_method_44_code 62 = .ok (.invokevirtual 291, 3) := by decide +kernel
theorem d_M_step_65 : decode prog_12_method_44_code 65 = .ok (.aload_n 0, 1) := by decide +kernel
theorem d_M_step_66 : decode prog_12_method_44_code 66 = .ok (.getfield 238, 3) := by decide +kernel
theorem d_M_step_69 : decode prog_12_method_44_code 69 = .ok (.ifCond .le 4, 3) := by decide +kernel
theorem d_M_step_72 : decode prog_12_method_44_code 72 = .ok (.return_, 1) := by decide +kernel
theorem d_M_step_73 : decode prog_12_method_44_code 73 = .ok (.aload_n 0, 1) := by decide +kernel
theorem d_M_step_74 : decode prog_12_method_44_code 74 = .ok (.dup, 1) := by decide +kernel
theorem d_M_step_75 : decode prog_12_method_44_code 75 = .ok (.getfield 267, 3) := by decide +kernel
theorem d_M_step_78 : decode prog_12_method_44_code 78 = .ok (.iconst 1, 1) := by decide +kernel
theorem d_M_step_79 : decode prog_12_method_44_code 79 = .ok (.iadd, 1) := by decide +kernel
theorem d_M_step_80 : decode prog_12_method_44_code 80 = .ok (.putfield 267, 3) := by decide +kernel
theorem d_M_step_83 : decode prog_12_method_44_code 83 = .ok (.goto (-40), 3) := by decide +kernel
theorem d_M_step_86 : decode prog_12_method_44_code 86 = .ok (.aload_n 0, 1) := by decide +kernel
theorem d_M_step_87 : decode prog_12_method_44_code 87 = .ok (.getfield 20, 3) := by decide +kernel
theorem d_M_step_90 : decode prog_12_method_44_code 90 = .ok (.aload_n 0, 1) := by decide +kernel
theorem d_M_step_91 : decode prog_12_method_44_code 91 = .ok (.getfield 267, 3) := by decide +kernel
theorem d_M_step_94 : decode prog_12_method_44_code 94 = .ok (.iaload, 1) := by decide +kernel
theorem d_M_step_95 : decode prog_12_method_44_code 95 = .ok (.bipush 8, 2) := by decide +kernel
theorem d_M_step_97 : decode prog_12_method_44_code 97 = .ok (.if_icmp .ne 19, 3) := by decide +kernel
theorem d_M_step_100 : decode prog_12_method_44_code 100 = .ok (.aload_n 0, 1) := by decide +kernel
theorem d_M_step_101 : decode prog_12_method_44_code 101 = .ok (.aload_n 0, 1) := by decide +kernel
theorem d_M_step_102 : decode prog_12_method_44_code 102 = .ok (.getfield 23, 3) := by decide +kernel
theorem d_M_step_105 : decode prog_12_method_44_code 105 = .ok (.aload_n 0, 1) := by decide +kernel
theorem d_M_step_106 : decode prog_12_method_44_code 106 = .ok (.getfield 267, 3) := by decide +kernel
theorem d_M_step_109 : decode prog_12_method_44_code 109 = .ok (.iaload, 1) := by decide +kernel
theorem d_M_step_110 : decode prog_12_method_44_code 110 = .ok (.invokevirtual 285, 3) := by decide +kernel
theorem d_M_step_113 : decode prog_12_method_44_code 113 = .ok (.goto 121, 3) := by decide +kernel
theorem d_M_step_116 : decode prog_12_method_44_code 116 = .ok (.aload_n 0, 1) := by decide +kernel
theorem d_M_step_117 : decode prog_12_method_44_code 117 = .ok (.getfield 20, 3) := by decide +kernel
theorem d_M_step_120 : decode prog_12_method_44_code 120 = .ok (.aload_n 0, 1) := by decide +kernel
theorem d_M_step_121 : decode prog_12_method_44_code 121 = .ok (.getfield 267, 3) := by decide +kernel
theorem d_M_step_124 : decode prog_12_method_44_code 124 = .ok (.iaload, 1) := by decide +kernel
theorem d_M_step_125 : decode prog_12_method_44_code 125 = .ok (.bipush 10, 2) := by decide +kernel
theorem d_M_step_127 : decode prog_12_method_44_code 127 = .ok (.if_icmp .ne 83, 3) := by decide +kernel
theorem d_M_step_130 : decode prog_12_method_44_code 130 = .ok (.iconst 0, 1) := by decide +kernel
theorem d_M_step_131 : decode prog_12_method_44_code 131 = .ok (.istore_n 1, 1) := by decide +kernel
theorem d_M_step_132 : decode prog_12_method_44_code 132 = .ok (.iload_n 1, 1) := by decide +kernel
theorem d_M_step_133 : decode prog_12_method_44_code 133 = .ok (.bipush 20, 2) := by decide +kernel
theorem d_M_step_135 : decode prog_12_method_44_code 135 = .ok (.if_icmp .ge 38, 3) := by decide +kernel
theorem d_M_step_138 : decode prog_12_method_44_code 138 = .ok (.aload_n 0, 1) := by decide +kernel
theorem d_M_step_139 : decode prog_12_method_44_code 139 = .ok (.getfield 264, 3) := by decide +kernel
theorem d_M_step_142 : decode prog_12_method_44_code 142 = .ok (.bipush 12, 2) := by decide +kernel
theorem d_M_step_144 : decode prog_12_method_44_code 144 = .ok (.if_icmp .ge 29, 3) := by decide +kernel
theorem d_M_step_147 : decode prog_12_method_44_code 147 = .ok (.aload_n 0, 1) := by decide +kernel
theorem d_M_step_148 : decode prog_12_method_44_code 148 = .ok (.getfield 73, 3) := by decide +kernel
theorem d_M_step_151 : decode prog_12_method_44_code 151 = .ok (.bipush 20, 2) := by decide +kernel
theorem d_M_step_153 : decode prog_12_method_44_code 153 = .ok (.aload_n 0, 1) := by decide +kernel
theorem d_M_step_154 : decode prog_12_method_44_code 154 = .ok (.getfield 264, 3) := by decide +kernel
theorem d_M_step_157 : decode prog_12_method_44_code 157 = .ok (.imul, 1) := by decide +kernel
theorem d_M_step_158 : decode prog_12_method_44_code 158 = .ok (.iload_n 1, 1) := by decide +kernel
theorem d_M_step_159 : decode prog_12_method_44_code 159 = .ok (.iadd, 1) := by decide +kernel
theorem d_M_step_160 : decode prog_12_method_44_code 160 = .ok (.aload_n 0, 1) := by decide +kernel
theorem d_M_step_161 : decode prog_12_method_44_code 161 = .ok (.getfield 79, 3) := by decide +kernel
theorem d_M_step_164 : decode prog_12_method_44_code 164 = .ok (.iload_n 1, 1) := by decide +kernel
theorem d_M_step_165 : decode prog_12_method_44_code 165 = .ok (.iaload, 1) := by decide +kernel
theorem d_M_step_166 : decode prog_12_method_44_code 166 = .ok (.iastore, 1) := by decide +kernel
theorem d_M_step_167 : decode prog_12_method_44_code 167 = .ok (.iinc 1 1, 3) := by decide +kernel
theorem d_M_step_170 : decode prog_12_method_44_code 170 = .ok (.goto (-38), 3) := by decide +kernel
theorem d_M_step_173 : decode prog_12_method_44_code 173 = .ok (.aload_n 0, 1) := by decide +kernel
theorem d_M_step_174 : decode prog_12_method_44_code 174 = .ok (.getfield 264, 3) := by decide +kernel
theorem d_M_step_177 : decode prog_12_method_44_code 177 = .ok (.bipush 12, 2) := by decide +kernel
theorem d_M_step_179 : decode prog_12_method_44_code 179 = .ok (.if_icmp .ge 18, 3) := by decide +kernel
theorem d_M_step_182 : decode prog_12_method_44_code 182 = .ok (.aload_n 0, 1) := by decide +kernel
theorem d_M_step_183 : decode prog_12_method_44_code 183 = .ok (.getfield 76, 3) := by decide +kernel
theorem d_M_step_186 : decode prog_12_method_44_code 186 = .ok (.aload_n 0, 1) := by decide +kernel
theorem d_M_step_187 : decode prog_12_method_44_code 187 = .ok (.getfield 264, 3) := by decide +kernel
theorem d_M_step_190 : decode prog_12_method_44_code 190 = .ok (.aload_n 0, 1) := by decide +kernel
theorem d_M_step_191 : decode prog_12_method_44_code 191 = .ok (.getfield 82, 3) := by decide +kernel
theorem d_M_step_194 : decode prog_12_method_44_code 194 = .ok (.iconst 0, 1) := by decide +kernel
theorem d_M_step_195 : decode prog_12_method_44_code 195 = .ok (.iaload, 1) := by decide +kernel
theorem d_M_step_196 : decode prog_12_method_44_code 196 = .ok (.iastore, 1) := by decide +kernel
theorem d_M_step_197 : decode prog_12_method_44_code 197 = .ok (.aload_n 0, 1) := by decide +kernel
theorem d_M_step_198 : decode prog_12_method_44_code 198 = .ok (.dup, 1) := by decide +kernel
theorem d_M_step_199 : decode prog_12_method_44_code 199 = .ok (.getfield 264, 3) := by decide +kernel
theorem d_M_step_202 : decode prog_12_method_44_code 202 = .ok (.iconst 1, 1) := by decide +kernel
theorem d_M_step_203 : decode prog_12_method_44_code 203 = .ok (.iadd, 1) := by decide +kernel
theorem d_M_step_204 : decode prog_12_method_44_code 204 = .ok (.putfield 264, 3) := by decide +kernel
theorem d_M_step_207 : decode prog_12_method_44_code 207 = .ok (.goto 27, 3) := by decide +kernel
theorem d_M_step_210 : decode prog_12_method_44_code 210 = .ok (.aload_n 0, 1) := by decide +kernel
theorem d_M_step_211 : decode prog_12_method_44_code 211 = .ok (.getfield 82, 3) := by decide +kernel
theorem d_M_step_214 : decode prog_12_method_44_code 214 = .ok (.iconst 0, 1) := by decide +kernel
theorem d_M_step_215 : decode prog_12_method_44_code 215 = .ok (.iaload, 1) := by decide +kernel
theorem d_M_step_216 : decode prog_12_method_44_code 216 = .ok (.ifCond .gt 18, 3) := by decide +kernel
theorem d_M_step_219 : decode prog_12_method_44_code 219 = .ok (.aload_n 0, 1) := by decide +kernel
theorem d_M_step_220 : decode prog_12_method_44_code 220 = .ok (.aload_n 0, 1) := by decide +kernel
theorem d_M_step_221 : decode prog_12_method_44_code 221 = .ok (.getfield 23, 3) := by decide +kernel
theorem d_M_step_224 : decode prog_12_method_44_code 224 = .ok (.aload_n 0, 1) := by decide +kernel
theorem d_M_step_225 : decode prog_12_method_44_code 225 = .ok (.getfield 267, 3) := by decide +kernel
theorem d_M_step_228 : decode prog_12_method_44_code 228 = .ok (.iaload, 1) := by decide +kernel
theorem d_M_step_229 : decode prog_12_method_44_code 229 = .ok (.iconst 1, 1) := by decide +kernel
theorem d_M_step_230 : decode prog_12_method_44_code 230 = .ok (.isub, 1) := by decide +kernel
theorem d_M_step_231 : decode prog_12_method_44_code 231 = .ok (.putfield 267, 3) := by decide +kernel
theorem d_M_step_234 : decode prog_12_method_44_code 234 = .ok (.aload_n 0, 1) := by decide +kernel
theorem d_M_step_235 : decode prog_12_method_44_code 235 = .ok (.dup, 1) := by decide +kernel
theorem d_M_step_236 : decode prog_12_method_44_code 236 = .ok (.getfield 267, 3) := by decide +kernel
theorem d_M_step_239 : decode prog_12_method_44_code 239 = .ok (.iconst 1, 1) := by decide +kernel
theorem d_M_step_240 : decode prog_12_method_44_code 240 = .ok (.iadd, 1) := by decide +kernel
theorem d_M_step_241 : decode prog_12_method_44_code 241 = .ok (.putfield 267, 3) := by decide +kernel
theorem d_M_step_244 : decode prog_12_method_44_code 244 = .ok (.return_, 1) := by decide +kernel
theorem d_M_takeInput_0 : decode prog_12_method_43_code 0 = .ok (.aload_n 0, 1) := by decide +kernel
theorem d_M_takeInput_1 : decode prog_12_method_43_code 1 = .ok (.iconst 0, 1) := by decide +kernel
theorem d_M_takeInput_2 : decode prog_12_method_43_code 2 = .ok (.aload_n 0, 1) := by decide +kernel
theorem d_M_takeInput_3 : decode prog_12_method_43_code 3 = .ok (.getfield 91, 3) := by decide +kernel
theorem d_M_takeInput_6 : decode prog_12_method_43_code 6 = .ok (.iconst 0, 1) := by decide +kernel
theorem d_M_takeInput_7 : decode prog_12_method_43_code 7 = .ok (.iaload, 1) := by decide +kernel
theorem d_M_takeInput_8 : decode prog_12_method_43_code 8 = .ok (.invokevirtual 229, 3) := by decide +kernel
theorem d_M_takeInput_11 : decode prog_12_method_43_code 11 = .ok (.aload_n 0, 1) := by decide +kernel
theorem d_M_takeInput_12 : decode prog_12_method_43_code 12 = .ok (.iload_n 1, 1) := by decide +kernel
theorem d_M_takeInput_13 : decode prog_12_method_43_code 13 = .ok (.invokevirtual 285, 3) := by decide +kernel
theorem d_M_takeInput_16 : decode prog_12_method_43_code 16 = .ok (.aload_n 0, 1) := by decide +kernel
theorem d_M_takeInput_17 : decode prog_12_method_43_code 17 = .ok (.dup, 1) := by decide +kernel
theorem d_M_takeInput_18 : decode prog_12_method_43_code 18 = .ok (.getfield 282, 3) := by decide +kernel
theorem d_M_takeInput_21 : decode prog_12_method_43_code 21 = .ok (.iconst 1, 1) := by decide +kernel
theorem d_M_takeInput_22 : decode prog_12_method_43_code 22 = .ok (.isub, 1) := by decide +kernel
theorem d_M_takeInput_23 : decode prog_12_method_43_code 23 = .ok (.putfield 282, 3) := by decide +kernel
theorem d_M_takeInput_26 : decode prog_12_method_43_code 26 = .ok (.iconst 0, 1) := by decide +kernel
theorem d_M_takeInput_27 : decode prog_12_method_43_code 27 = .ok (.istore_n 2, 1) := by decide +kernel
theorem d_M_takeInput_28 : decode prog_12_method_43_code 28 = .ok (.iload_n 2, 1) := by decide +kernel
theorem d_M_takeInput_29 : decode prog_12_method_43_code 29 = .ok (.aload_n 0, 1) := by decide +kernel
theorem d_M_takeInput_30 : decode prog_12_method_43_code 30 = .ok (.getfield 282, 3) := by decide +kernel
theorem d_M_takeInput_33 : decode prog_12_method_43_code 33 = .ok (.if_icmp .ge 23, 3) := by decide +kernel
theorem d_M_takeInput_36 : decode prog_12_method_43_code 36 = .ok (.aload_n 0, 1) := by decide +kernel
theorem d_M_takeInput_37 : decode prog_12_method_43_code 37 = .ok (.getfield 91, 3) := by decide +kernel
theorem d_M_takeInput_40 : decode prog_12_method_43_code 40 = .ok (.iload_n 2, 1) := by decide +kernel
theorem d_M_takeInput_41 : decode prog_12_method_43_code 41 = .ok (.aload_n 0, 1) := by decide +kernel
theorem d_M_takeInput_42 : decode prog_12_method_43_code 42 = .ok (.getfield 91, 3) := by decide +kernel
theorem d_M_takeInput_45 : decode prog_12_method_43_code 45 = .ok (.iload_n 2, 1) := by decide +kernel
theorem d_M_takeInput_46 : decode prog_12_method_43_code 46 = .ok (.iconst 1, 1) := by decide +kernel
theorem d_M_takeInput_47 : decode prog_12_method_43_code 47 = .ok (.iadd, 1) := by decide +kernel
theorem d_M_takeInput_48 : decode prog_12_method_43_code 48 = .ok (.iaload, 1) := by decide +kernel
theorem d_M_takeInput_49 : decode prog_12_method_43_code 49 = .ok (.iastore, 1) := by decide +kernel
theorem d_M_takeInput_50 : decode prog_12_method_43_code 50 = .ok (.iinc 2 1, 3) := by decide +kernel
theorem d_M_takeInput_53 : decode prog_12_method_43_code 53 = .ok (.goto (-25), 3) := by decide +kernel
theorem d_M_takeInput_56 : decode prog_12_method_43_code 56 = .ok (.aload_n 0, 1) := by decide +kernel
theorem d_M_takeInput_57 : decode prog_12_method_43_code 57 = .ok (.dup, 1) := by decide +kernel
theorem d_M_takeInput_58 : decode prog_12_method_43_code 58 = .ok (.getfield 267, 3) := by decide +kernel
theorem d_M_takeInput_61 : decode prog_12_method_43_code 61 = .ok (.iconst 1, 1) := by decide +kernel
theorem d_M_takeInput_62 : decode prog_12_method_43_code 62 = .ok (.iadd, 1) := by decide +kernel
theorem d_M_takeInput_63 : decode prog_12_method_43_code 63 = .ok (.putfield 267, 3) := by decide +kernel
theorem d_M_takeInput_66 : decode prog_12_method_43_code 66 = .ok (.return_, 1) := by decide +kernel
theorem d_M_work_0 : decode prog_12_method_37_code 0 = .ok (.aload_n 0, 1) := by decide +kernel
theorem d_M_work_1 : decode prog_12_method_37_code 1 = .ok (.getfield 20, 3) := by decide +kernel
theorem d_M_work_4 : decode prog_12_method_37_code 4 = .ok (.iload_n 1, 1) := by decide +kernel
theorem d_M_work_5 : decode prog_12_method_37_code 5 = .ok (.iaload, 1) := by decide +kernel
theorem d_M_work_6 : decode prog_12_method_37_code 6 = .ok (.istore_n 2, 1) := by decide +kernel
theorem d_M_work_7 : decode prog_12_method_37_code 7 = .ok (.iload_n 2, 1) := by decide +kernel
theorem d_M_work_8 : decode prog_12_method_37_code 8 = .ok (.ifCond .ne 28, 3) := by decide +kernel
theorem d_M_work_11 : decode prog_12_method_37_code 11 = .ok (.aload_n 0, 1) := by decide +kernel
theorem d_M_work_12 : decode prog_12_method_37_code 12 = .ok (.aload_n 0, 1) := by decide +kernel
theorem d_M_work_13 : decode prog_12_method_37_code 13 = .ok (.getfield 183, 3) := by decide +kernel
theorem d_M_work_16 : decode prog_12_method_37_code 16 = .ok (.aload_n 0, 1) := by decide +kernel
theorem d_M_work_17 : decode prog_12_method_37_code 17 = .ok (.getfield 23, 3) := by decide +kernel
theorem d_M_work_20 : decode prog_12_method_37_code 20 = .ok (.iload_n 1, 1) := by decide +kernel
theorem d_M_work_21 : decode prog_12_method_37_code 21 = .ok (.iaload, 1) := by decide +kernel
theorem d_M_work_22 : decode prog_12_method_37_code 22 = .ok (.invokevirtual 229, 3) := by decide +kernel
theorem d_M_work_25 : decode prog_12_method_37_code 25 = .ok (.aload_n 0, 1) := by decide +kernel
theorem d_M_work_26 : decode prog_12_method_37_code 26 = .ok (.dup, 1) := by decide +kernel
theorem d_M_work_27 : decode prog_12_method_37_code 27 = .ok (.getfield 183, 3) := by decide +kernel
theorem d_M_work_30 : decode prog_12_method_37_code 30 = .ok (.iconst 1, 1) := by decide +kernel
theorem d_M_work_31 : decode prog_12_method_37_code 31 = .ok (.iadd, 1) := by decide +kernel
theorem d_M_work_32 : decode prog_12_method_37_code 32 = .ok (.putfield 183, 3) := by decide +kernel
theorem d_M_work_35 : decode prog_12_method_37_code 35 = .ok (.return_, 1) := by decide +kernel
theorem d_M_work_36 : decode prog_12_method_37_code 36 = .ok (.iload_n 2, 1) := by decide +kernel
theorem d_M_work_37 : decode prog_12_method_37_code 37 = .ok (.iconst 1, 1) := by decide +kernel
theorem d_M_work_38 : decode prog_12_method_37_code 38 = .ok (.if_icmp .ne 78, 3) := by decide +kernel
theorem d_M_work_41 : decode prog_12_method_37_code 41 = .ok (.iconst 0, 1) := by decide +kernel
theorem d_M_work_42 : decode prog_12_method_37_code 42 = .ok (.istore_n 3, 1) := by decide +kernel
theorem d_M_work_43 : decode prog_12_method_37_code 43 = .ok (.iload_n 3, 1) := by decide +kernel
theorem d_M_work_44 : decode prog_12_method_37_code 44 = .ok (.bipush 20, 2) := by decide +kernel
theorem d_M_work_46 : decode prog_12_method_37_code 46 = .ok (.if_icmp .ge 39, 3) := by decide +kernel
theorem d_M_work_49 : decode prog_12_method_37_code 49 = .ok (.aload_n 0, 1) := by decide +kernel
theorem d_M_work_50 : decode prog_12_method_37_code 50 = .ok (.getfield 79, 3) := by decide +kernel
theorem d_M_work_53 : decode prog_12_method_37_code 53 = .ok (.bipush 20, 2) := by decide +kernel
theorem d_M_work_55 : decode prog_12_method_37_code 55 = .ok (.aload_n 0, 1) := by decide +kernel
theorem d_M_work_56 : decode prog_12_method_37_code 56 = .ok (.getfield 183, 3) := by decide +kernel
theorem d_M_work_59 : decode prog_12_method_37_code 59 = .ok (.imul, 1) := by decide +kernel
theorem d_M_work_60 : decode prog_12_method_37_code 60 = .ok (.iload_n 3, 1) := by decide +kernel
theorem d_M_work_61 : decode prog_12_method_37_code 61 = .ok (.iadd, 1) := by decide +kernel
theorem d_M_work_62 : decode prog_12_method_37_code 62 = .ok (.aload_n 0, 1) := by decide +kernel
theorem d_M_work_63 : decode prog_12_method_37_code 63 = .ok (.getfield 67, 3) := by decide +kernel
theorem d_M_work_66 : decode prog_12_method_37_code 66 = .ok (.bipush 20, 2) := by decide +kernel
theorem d_M_work_68 : decode prog_12_method_37_code 68 = .ok (.aload_n 0, 1) := by decide +kernel
theorem d_M_work_69 : decode prog_12_method_37_code 69 = .ok (.getfield 23, 3) := by decide +kernel
theorem d_M_work_72 : decode prog_12_method_37_code 72 = .ok (.iload_n 1, 1) := by decide +kernel
theorem d_M_work_73 : decode prog_12_method_37_code 73 = .ok (.iaload, 1) := by decide +kernel
theorem d_M_work_74 : decode prog_12_method_37_code 74 = .ok (.imul, 1) := by decide +kernel
theorem d_M_work_75 : decode prog_12_method_37_code 75 = .ok (.iload_n 3, 1) := by decide +kernel
theorem d_M_work_76 : decode prog_12_method_37_code 76 = .ok (.iadd, 1) := by decide +kernel
theorem d_M_work_77 : decode prog_12_method_37_code 77 = .ok (.iaload, 1) := by decide +kernel
theorem d_M_work_78 : decode prog_12_method_37_code 78 = .ok (.iastore, 1) := by decide +kernel
theorem d_M_work_79 : decode prog_12_method_37_code 79 = .ok (.iinc 3 1, 3) := by decide +kernel
theorem d_M_work_82 : decode prog_12_method_37_code 82 = .ok (.goto (-39), 3) := by decide +kernel
theorem d_M_work_85 : decode prog_12_method_37_code 85 = .ok (.aload_n 0, 1) := by decide +kernel
theorem d_M_work_86 : decode prog_12_method_37_code 86 = .ok (.getfield 82, 3) := by decide +kernel
theorem d_M_work_89 : decode prog_12_method_37_code 89 = .ok (.aload_n 0, 1) := by decide +kernel
theorem d_M_work_90 : decode prog_12_method_37_code 90 = .ok (.getfield 183, 3) := by decide +kernel
theorem d_M_work_93 : decode prog_12_method_37_code 93 = .ok (.aload_n 0, 1) := by decide +kernel
theorem d_M_work_94 : decode prog_12_method_37_code 94 = .ok (.getfield 70, 3) := by decide +kernel
theorem d_M_work_97 : decode prog_12_method_37_code 97 = .ok (.aload_n 0, 1) := by decide +kernel
theorem d_M_work_98 : decode prog_12_method_37_code 98 = .ok (.getfield 23, 3) := by decide +kernel
theorem d_M_work_101 : decode prog_12_method_37_code 101 = .ok (.iload_n 1, 1) := by decide +kernel
theorem d_M_work_102 : decode prog_12_method_37_code 102 = .ok (.iaload, 1) := by decide +kernel
theorem d_M_work_103 : decode prog_12_method_37_code 103 = .ok (.iaload, 1) := by decide +kernel
theorem d_M_work_104 : decode prog_12_method_37_code 104 = .ok (.iastore, 1) := by decide +kernel
theorem d_M_work_105 : decode prog_12_method_37_code 105 = .ok (.aload_n 0, 1) := by decide +kernel
theorem d_M_work_106 : decode prog_12_method_37_code 106 = .ok (.dup, 1) := by decide +kernel
theorem d_M_work_107 : decode prog_12_method_37_code 107 = .ok (.getfield 183, 3) := by decide +kernel
theorem d_M_work_110 : decode prog_12_method_37_code 110 = .ok (.iconst 1, 1) := by decide +kernel
theorem d_M_work_111 : decode prog_12_method_37_code 111 = .ok (.iadd, 1) := by decide +kernel
theorem d_M_work_112 : decode prog_12_method_37_code 112 = .ok (.putfield 183, 3) := by decide +kernel
theorem d_M_work_115 : decode prog_12_method_37_code 115 = .ok (.return_, 1) := by decide +kernel
theorem d_M_work_116 : decode prog_12_method_37_code 116 = .ok (.aload_n 0, 1) := by decide +kernel
theorem d_M_work_117 : decode prog_12_method_37_code 117 = .ok (.dup, 1) := by decide +kernel
theorem d_M_work_118 : decode prog_12_method_37_code 118 = .ok (.getfield 232, 3) := by decide +kernel
theorem d_M_work_121 : decode prog_12_method_37_code 121 = .ok (.aload_n 0, 1) := by decide +kernel
theorem d_M_work_122 : decode prog_12_method_37_code 122 = .ok (.getfield 26, 3) := by decide +kernel
theorem d_M_work_125 : decode prog_12_method_37_code 125 = .ok (.iload_n 1, 1) := by decide +kernel
theorem d_M_work_126 : decode prog_12_method_37_code 126 = .ok (.baload, 1) := by decide +kernel
theorem d_M_work_127 : decode prog_12_method_37_code 127 = .ok (.ifCond .eq 7, 3) := by decide +kernel
theorem d_M_work_130 : decode prog_12_method_37_code 130 = .ok (.iconst 1, 1) := by decide +kernel
theorem d_M_work_131 : decode prog_12_method_37_code 131 = .ok (.goto 4, 3) := by decide +kernel
theorem d_M_work_134 : decode prog_12_method_37_code 134 = .ok (.iconst 0, 1) := by decide +kernel
theorem d_M_work_135 : decode prog_12_method_37_code 135 = .ok (.iadd, 1) := by decide +kernel
theorem d_M_work_136 : decode prog_12_method_37_code 136 = .ok (.putfield 232, 3) := by decide +kernel
theorem d_M_work_139 : decode prog_12_method_37_code 139 = .ok (.aload_n 0, 1) := by decide +kernel
theorem d_M_work_140 : decode prog_12_method_37_code 140 = .ok (.dup, 1) := by decide +kernel
theorem d_M_work_141 : decode prog_12_method_37_code 141 = .ok (.getfield 235, 3) := by decide +kernel
theorem d_M_work_144 : decode prog_12_method_37_code 144 = .ok (.aload_n 0, 1) := by decide +kernel
theorem d_M_work_145 : decode prog_12_method_37_code 145 = .ok (.getfield 26, 3) := by decide +kernel
theorem d_M_work_148 : decode prog_12_method_37_code 148 = .ok (.iload_n 1, 1) := by decide +kernel
theorem d_M_work_149 : decode prog_12_method_37_code 149 = .ok (.baload, 1) := by decide +kernel
theorem d_M_work_150 : decode prog_12_method_37_code 150 = .ok (.ifCond .eq 7, 3) := by decide +kernel
theorem d_M_work_153 : decode prog_12_method_37_code 153 = .ok (.iconst 0, 1) := by decide +kernel
theorem d_M_work_154 : decode prog_12_method_37_code 154 = .ok (.goto 4, 3) := by decide +kernel
theorem d_M_work_157 : decode prog_12_method_37_code 157 = .ok (.iconst 1, 1) := by decide +kernel
theorem d_M_work_158 : decode prog_12_method_37_code 158 = .ok (.iadd, 1) := by decide +kernel
theorem d_M_work_159 : decode prog_12_method_37_code 159 = .ok (.putfield 235, 3) := by decide +kernel
theorem d_M_work_162 : decode prog_12_method_37_code 162 = .ok (.iload_n 2, 1) := by decide +kernel
theorem d_M_work_163 : decode prog_12_method_37_code 163 = .ok (.bipush 7, 2) := by decide +kernel
theorem d_M_work_165 : decode prog_12_method_37_code 165 = .ok (.if_icmp .ne 27, 3) := by decide +kernel
theorem d_M_work_168 : decode prog_12_method_37_code 168 = .ok (.aload_n 0, 1) := by decide +kernel
theorem d_M_work_169 : decode prog_12_method_37_code 169 = .ok (.getfield 82, 3) := by decide +kernel
theorem d_M_work_172 : decode prog_12_method_37_code 172 = .ok (.aload_n 0, 1) := by decide +kernel
theorem d_M_work_173 : decode prog_12_method_37_code 173 = .ok (.getfield 183, 3) := by decide +kernel
theorem d_M_work_176 : decode prog_12_method_37_code 176 = .ok (.iconst 1, 1) := by decide +kernel
theorem d_M_work_177 : decode prog_12_method_37_code 177 = .ok (.isub, 1) := by decide +kernel
theorem d_M_work_178 : decode prog_12_method_37_code 178 = .ok (.aload_n 0, 1) := by decide +kernel
theorem d_M_work_179 : decode prog_12_method_37_code 179 = .ok (.getfield 82, 3) := by decide +kernel
theorem d_M_work_182 : decode prog_12_method_37_code 182 = .ok (.aload_n 0, 1) := by decide +kernel
theorem d_M_work_183 : decode prog_12_method_37_code 183 = .ok (.getfield 183, 3) := by decide +kernel
theorem d_M_work_186 : decode prog_12_method_37_code 186 = .ok (.iconst 1, 1) := by decide +kernel
theorem d_M_work_187 : decode prog_12_method_37_code 187 = .ok (.isub, 1) := by decide +kernel
theorem d_M_work_188 : decode prog_12_method_37_code 188 = .ok (.iaload, 1) := by decide +kernel
theorem d_M_work_189 : decode prog_12_method_37_code 189 = .ok (.ineg, 1) := by decide +kernel
theorem d_M_work_190 : decode prog_12_method_37_code 190 = .ok (.iastore, 1) := by decide +kernel
theorem d_M_work_191 : decode prog_12_method_37_code 191 = .ok (.return_, 1) := by decide +kernel
theorem d_M_work_192 : decode prog_12_method_37_code 192 = .ok (.aload_n 0, 1) := by decide +kernel
theorem d_M_work_193 : decode prog_12_method_37_code 193 = .ok (.dup, 1) := by decide +kernel
theorem d_M_work_194 : decode prog_12_method_37_code 194 = .ok (.getfield 183, 3) := by decide +kernel
theorem d_M_work_197 : decode prog_12_method_37_code 197 = .ok (.iconst 1, 1) := by decide +kernel
theorem d_M_work_198 : decode prog_12_method_37_code 198 = .ok (.isub, 1) := by decide +kernel
theorem d_M_work_199 : decode prog_12_method_37_code 199 = .ok (.putfield 183, 3) := by decide +kernel
theorem d_M_work_202 : decode prog_12_method_37_code 202 = .ok (.aload_n 0, 1) := by decide +kernel
theorem d_M_work_203 : decode prog_12_method_37_code 203 = .ok (.getfield 183, 3) := by decide +kernel
theorem d_M_work_206 : decode prog_12_method_37_code 206 = .ok (.iconst 1, 1) := by decide +kernel
theorem d_M_work_207 : decode prog_12_method_37_code 207 = .ok (.isub, 1) := by decide +kernel
theorem d_M_work_208 : decode prog_12_method_37_code 208 = .ok (.istore_n 3, 1) := by decide +kernel
theorem d_M_work_209 : decode prog_12_method_37_code 209 = .ok (.iload_n 2, 1) := by decide +kernel
theorem d_M_work_210 : decode prog_12_method_37_code 210 = .ok (.iconst 4, 1) := by decide +kernel
theorem d_M_work_211 : decode prog_12_method_37_code 211 = .ok (.if_icmp .le 21, 3) := by decide +kernel
theorem d_M_work_214 : decode prog_12_method_37_code 214 = .ok (.aload_n 0, 1) := by decide +kernel
theorem d_M_work_215 : decode prog_12_method_37_code 215 = .ok (.getfield 82, 3) := by decide +kernel
theorem d_M_work_218 : decode prog_12_method_37_code 218 = .ok (.aload_n 0, 1) := by decide +kernel
theorem d_M_work_219 : decode prog_12_method_37_code 219 = .ok (.getfield 183, 3) := by decide +kernel
theorem d_M_work_222 : decode prog_12_method_37_code 222 = .ok (.iaload, 1) := by decide +kernel
theorem d_M_work_223 : decode prog_12_method_37_code 223 = .ok (.ifCond .ne 9, 3) := by decide +kernel
theorem d_M_work_226 : decode prog_12_method_37_code 226 = .ok (.aload_n 0, 1) := by decide +kernel
theorem d_M_work_227 : decode prog_12_method_37_code 227 = .ok (.iconst 1, 1) := by decide +kernel
theorem d_M_work_228 : decode prog_12_method_37_code 228 = .ok (.putfield 238, 3) := by decide +kernel
theorem d_M_work_231 : decode prog_12_method_37_code 231 = .ok (.return_, 1) := by decide +kernel
theorem d_M_work_232 : decode prog_12_method_37_code 232 = .ok (.aload_n 0, 1) := by decide +kernel
theorem d_M_work_233 : decode prog_12_method_37_code 233 = .ok (.invokevirtual 241, 3) := by decide +kernel
theorem d_M_work_236 : decode prog_12_method_37_code 236 = .ok (.iconst 0, 1) := by decide +kernel
theorem d_M_work_237 : decode prog_12_method_37_code 237 = .ok (.istore 4, 2) := by decide +kernel
theorem d_M_work_239 : decode prog_12_method_37_code 239 = .ok (.iload_n 2, 1) := by decide +kernel
theorem d_M_work_240 : decode prog_12_method_37_code 240 = .ok (.iconst 5, 1) := by decide +kernel
theorem d_M_work_241 : decode prog_12_method_37_code 241 = .ok (.if_icmp .ge 44, 3) := by decide +kernel
theorem d_M_work_244 : decode prog_12_method_37_code 244 = .ok (.iload_n 2, 1) := by decide +kernel
theorem d_M_work_245 : decode prog_12_method_37_code 245 = .ok (.iconst 4, 1) := by decide +kernel
theorem d_M_work_246 : decode prog_12_method_37_code 246 = .ok (.if_icmp .ne 15, 3) := by decide +kernel
theorem d_M_work_249 : decode prog_12_method_37_code 249 = .ok (.aload_n 0, 1) := by decide +kernel
theorem d_M_work_250 : decode prog_12_method_37_code 250 = .ok (.iload_n 3, 1) := by decide +kernel
theorem d_M_work_251 : decode prog_12_method_37_code 251 = .ok (.aload_n 0, 1) := by decide +kernel
theorem d_M_work_252 : decode prog_12_method_37_code 252 = .ok (.getfield 183, 3) := by decide +kernel
theorem d_M_work_255 : decode prog_12_method_37_code 255 = .ok (.invokevirtual 244, 3) := by decide +kernel
theorem d_M_work_258 : decode prog_12_method_37_code 258 = .ok (.goto 22, 3) := by decide +kernel
theorem d_M_work_261 : decode prog_12_method_37_code 261 = .ok (.aload_n 0, 1) := by decide +kernel
theorem d_M_work_262 : decode prog_12_method_37_code 262 = .ok (.iload_n 3, 1) := by decide +kernel
theorem d_M_work_263 : decode prog_12_method_37_code 263 = .ok (.aload_n 0, 1) := by decide +kernel
theorem d_M_work_264 : decode prog_12_method_37_code 264 = .ok (.getfield 183, 3) := by decide +kernel
theorem d_M_work_267 : decode prog_12_method_37_code 267 = .ok (.iload_n 2, 1) := by decide +kernel
theorem d_M_work_268 : decode prog_12_method_37_code 268 = .ok (.iconst 2, 1) := by decide +kernel
theorem d_M_work_269 : decode prog_12_method_37_code 269 = .ok (.if_icmp .ne 7, 3) := by decide +kernel
theorem d_M_work_272 : decode prog_12_method_37_code 272 = .ok (.iconst 1, 1) := by decide +kernel
theorem d_M_work_273 : decode prog_12_method_37_code 273 = .ok (.goto 4, 3) := by decide +kernel
theorem d_M_work_276 : decode prog_12_method_37_code 276 = .ok (.iconst (-1), 1) := by decide +kernel
theorem d_M_work_277 : decode prog_12_method_37_code 277 = .ok (.invokevirtual 247, 3) := by decide +kernel
theorem d_M_work_280 : decode prog_12_method_37_code 280 = .ok (.istore 4, 2) := by decide +kernel
theorem d_M_work_282 : decode prog_12_method_37_code 282 = .ok (.goto 80, 3) := by decide +kernel
theorem d_M_work_285 : decode prog_12_method_37_code 285 = .ok (.aload_n 0, 1) := by decide +kernel
theorem d_M_work_286 : decode prog_12_method_37_code 286 = .ok (.iload_n 3, 1) := by decide +kernel
theorem d_M_work_287 : decode prog_12_method_37_code 287 = .ok (.aload_n 0, 1) := by decide +kernel
theorem d_M_work_288 : decode prog_12_method_37_code 288 = .ok (.getfield 183, 3) := by decide +kernel
theorem d_M_work_291 : decode prog_12_method_37_code 291 = .ok (.invokevirtual 251, 3) := by decide +kernel
theorem d_M_work_294 : decode prog_12_method_37_code 294 = .ok (.iload_n 2, 1) := by decide +kernel
theorem d_M_work_295 : decode prog_12_method_37_code 295 = .ok (.iconst 5, 1) := by decide +kernel
theorem d_M_work_296 : decode prog_12_method_37_code 296 = .ok (.if_icmp .ne 22, 3) := by decide +kernel
theorem d_M_work_299 : decode prog_12_method_37_code 299 = .ok (.aload_n 0, 1) := by decide +kernel
theorem d_M_work_300 : decode prog_12_method_37_code 300 = .ok (.getfield 82, 3) := by decide +kernel
theorem d_M_work_303 : decode prog_12_method_37_code 303 = .ok (.iload_n 3, 1) := by decide +kernel
theorem d_M_work_304 : decode prog_12_method_37_code 304 = .ok (.iaload, 1) := by decide +kernel
theorem d_M_work_305 : decode prog_12_method_37_code 305 = .ok (.aload_n 0, 1) := by decide +kernel
theorem d_M_work_306 : decode prog_12_method_37_code 306 = .ok (.getfield 82, 3) := by decide +kernel
theorem d_M_work_309 : decode prog_12_method_37_code 309 = .ok (.aload_n 0, 1) := by decide +kernel
theorem d_M_work_310 : decode prog_12_method_37_code 310 = .ok (.getfield 183, 3) := by decide +kernel
theorem d_M_work_313 : decode prog_12_method_37_code 313 = .ok (.iaload, 1) := by decide +kernel
theorem d_M_work_314 : decode prog_12_method_37_code 314 = .ok (.imul, 1) := by decide +kernel
theorem d_M_work_315 : decode prog_12_method_37_code 315 = .ok (.goto 9, 3) := by decide +kernel
theorem d_M_work_318 : decode prog_12_method_37_code 318 = .ok (.aload_n 0, 1) := by decide +kernel
theorem d_M_work_319 : decode prog_12_method_37_code 319 = .ok (.getfield 82, 3) := by decide +kernel
theorem d_M_work_322 : decode prog_12_method_37_code 322 = .ok (.iload_n 3, 1) := by decide +kernel
theorem d_M_work_323 : decode prog_12_method_37_code 323 = .ok (.iaload, 1) := by decide +kernel
theorem d_M_work_324 : decode prog_12_method_37_code 324 = .ok (.istore 4, 2) := by decide +kernel
theorem d_M_work_326 : decode prog_12_method_37_code 326 = .ok (.iconst 0, 1) := by decide +kernel
theorem d_M_work_327 : decode prog_12_method_37_code 327 = .ok (.istore 5, 2) := by decide +kernel
theorem d_M_work_329 : decode prog_12_method_37_code 329 = .ok (.iload 5, 2) := by decide +kernel
theorem d_M_work_331 : decode prog_12_method_37_code 331 = .ok (.bipush 20, 2) := by decide +kernel
theorem d_M_work_333 : decode prog_12_method_37_code 333 = .ok (.if_icmp .ge 29, 3) := by decide +kernel
theorem d_M_work_336 : decode prog_12_method_37_code 336 = .ok (.iload_n 2, 1) := by decide +kernel
theorem d_M_work_337 : decode prog_12_method_37_code 337 = .ok (.bipush 6, 2) := by decide +kernel
theorem d_M_work_339 : decode prog_12_method_37_code 339 = .ok (.if_icmp .ne 23, 3) := by decide +kernel
theorem d_M_work_342 : decode prog_12_method_37_code 342 = .ok (.aload_n 0, 1) := by decide +kernel
theorem d_M_work_343 : decode prog_12_method_37_code 343 = .ok (.getfield 85, 3) := by decide +kernel
theorem d_M_work_346 : decode prog_12_method_37_code 346 = .ok (.iload 5, 2) := by decide +kernel
theorem d_M_work_348 : decode prog_12_method_37_code 348 = .ok (.aload_n 0, 1) := by decide +kernel
theorem d_M_work_349 : decode prog_12_method_37_code 349 = .ok (.getfield 88, 3) := by decide +kernel
theorem d_M_work_352 : decode prog_12_method_37_code 352 = .ok (.iload 5, 2) := by decide +kernel
theorem d_M_work_354 : decode prog_12_method_37_code 354 = .ok (.iaload, 1) := by decide +kernel
theorem d_M_work_355 : decode prog_12_method_37_code 355 = .ok (.iastore, 1) := by decide +kernel
theorem d_M_work_356 : decode prog_12_method_37_code 356 = .ok (.iinc 5 1, 3) := by decide +kernel
theorem d_M_work_359 : decode prog_12_method_37_code 359 = .ok (.goto (-30), 3) := by decide +kernel
theorem d_M_work_362 : decode prog_12_method_37_code 362 = .ok (.aload_n 0, 1) := by decide +kernel
theorem d_M_work_363 : decode prog_12_method_37_code 363 = .ok (.aload_n 0, 1) := by decide +kernel
theorem d_M_work_364 : decode prog_12_method_37_code 364 = .ok (.getfield 85, 3) := by decide +kernel
theorem d_M_work_367 : decode prog_12_method_37_code 367 = .ok (.iconst 0, 1) := by decide +kernel
theorem d_M_work_368 : decode prog_12_method_37_code 368 = .ok (.bipush 44, 2) := by decide +kernel
theorem d_M_work_370 : decode prog_12_method_37_code 370 = .ok (.invokestatic 254, 3) := by decide +kernel
theorem d_M_work_373 : decode prog_12_method_37_code 373 = .ok (.bipush 120, 2) := by decide +kernel
theorem d_M_work_375 : decode prog_12_method_37_code 375 = .ok (.if_icmp .le 7, 3) := by decide +kernel
theorem d_M_work_378 : decode prog_12_method_37_code 378 = .ok (.iconst 2, 1) := by decide +kernel
theorem d_M_work_379 : decode prog_12_method_37_code 379 = .ok (.goto 4, 3) := by decide +kernel
theorem d_M_work_382 : decode prog_12_method_37_code 382 = .ok (.iconst 0, 1) := by decide +kernel
theorem d_M_work_383 : decode prog_12_method_37_code 383 = .ok (.putfield 238, 3) := by decide +kernel
theorem d_M_work_386 : decode prog_12_method_37_code 386 = .ok (.aload_n 0, 1) := by decide +kernel
theorem d_M_work_387 : decode prog_12_method_37_code 387 = .ok (.getfield 238, 3) := by decide +kernel
theorem d_M_work_390 : decode prog_12_method_37_code 390 = .ok (.ifCond .ne 10, 3) := by decide +kernel
theorem d_M_work_393 : decode prog_12_method_37_code 393 = .ok (.aload_n 0, 1) := by decide +kernel
theorem d_M_work_394 : decode prog_12_method_37_code 394 = .ok (.iload_n 3, 1) := by decide +kernel
theorem d_M_work_395 : decode prog_12_method_37_code 395 = .ok (.iload 4, 2) := by decide +kernel
theorem d_M_work_397 : decode prog_12_method_37_code 397 = .ok (.invokevirtual 258, 3) := by decide +kernel
theorem d_M_work_400 : decode prog_12_method_37_code 400 = .ok (.return_, 1) := by decide +kernel

