theorem wd_71 {U : State} (h : TB U) (args : Array Value) : (Cond.initialized "BigRunnerLaw").before args U = true := h.w 71 (by decide +kernel) rfl args
theorem wd_394 {U : State} (h : TB U) (args : Array Value) : (Cond.methodLink "BigRunnerLaw" 42 ⟨"BigRunner", "type", "(C)Z"⟩).before args U = true := h.w 394 (by decide +kernel) rfl args
theorem wd_395 {U : State} (h : TB U) (args : Array Value) : (Cond.instanceMethod ⟨"BigRunner", "type", "(C)Z"⟩).before args U = true := h.w 395 (by decide +kernel) rfl args
theorem wd_396 {U : State} (h : TB U) (args : Array Value) : (Cond.selects "BigRunner" ⟨"BigRunner", "type", "(C)Z"⟩ ⟨"BigRunner", "type", "(C)Z"⟩).before args U = true := h.w 396 (by decide +kernel) rfl args
theorem wd_397 {U : State} (h : TB U) (args : Array Value) : (Cond.code ⟨"BigRunner", "type", "(C)Z"⟩ prog_1_method_2_code 2 (some .boolean)).before args U = true := h.w 397 (by decide +kernel) rfl args
theorem wd_398 {U : State} (h : TB U) (args : Array Value) : (Cond.methodLink "BigRunnerLaw" 47 ⟨"BigRunner", "wipe", "()V"⟩).before args U = true := h.w 398 (by decide +kernel) rfl args
theorem wd_399 {U : State} (h : TB U) (args : Array Value) : (Cond.instanceMethod ⟨"BigRunner", "wipe", "()V"⟩).before args U = true := h.w 399 (by decide +kernel) rfl args
theorem wd_400 {U : State} (h : TB U) (args : Array Value) : (Cond.selects "BigRunner" ⟨"BigRunner", "wipe", "()V"⟩ ⟨"BigRunner", "wipe", "()V"⟩).before args U = true := h.w 400 (by decide +kernel) rfl args
theorem wd_401 {U : State} (h : TB U) (args : Array Value) : (Cond.code ⟨"BigRunner", "wipe", "()V"⟩ prog_1_method_3_code 1 none).before args U = true := h.w 401 (by decide +kernel) rfl args
theorem wd_402 {U : State} (h : TB U) (args : Array Value) : (Cond.methodLink "BigRunnerLaw" 57 ⟨"BigRunner", "give", "(I)Z"⟩).before args U = true := h.w 402 (by decide +kernel) rfl args
theorem wd_403 {U : State} (h : TB U) (args : Array Value) : (Cond.instanceMethod ⟨"BigRunner", "give", "(I)Z"⟩).before args U = true := h.w 403 (by decide +kernel) rfl args
theorem wd_404 {U : State} (h : TB U) (args : Array Value) : (Cond.selects "BigRunner" ⟨"BigRunner", "give", "(I)Z"⟩ ⟨"BigRunner", "give", "(I)Z"⟩).before args U = true := h.w 404 (by decide +kernel) rfl args
theorem wd_405 {U : State} (h : TB U) (args : Array Value) : (Cond.code ⟨"BigRunner", "give", "(I)Z"⟩ prog_1_method_5_code 2 (some .boolean)).before args U = true := h.w 405 (by decide +kernel) rfl args
theorem wd_412 {U : State} (h : TB U) (args : Array Value) : (Cond.methodLink "BigRunnerLaw" 69 ⟨"BigRunner", "look", "(I)I"⟩).before args U = true := h.w 412 (by decide +kernel) rfl args
theorem wd_413 {U : State} (h : TB U) (args : Array Value) : (Cond.instanceMethod ⟨"BigRunner", "look", "(I)I"⟩).before args U = true := h.w 413 (by decide +kernel) rfl args
theorem wd_414 {U : State} (h : TB U) (args : Array Value) : (Cond.selects "BigRunner" ⟨"BigRunner", "look", "(I)I"⟩ ⟨"BigRunner", "look", "(I)I"⟩).before args U = true := h.w 414 (by decide +kernel) rfl args
theorem wd_415 {U : State} (h : TB U) (args : Array Value) : (Cond.code ⟨"BigRunner", "look", "(I)I"⟩ prog_1_method_7_code 2 (some .int)).before args U = true := h.w 415 (by decide +kernel) rfl args
theorem wd_429 {U : State} (h : TB U) (args : Array Value) : (Cond.methodLink "BigRunnerLaw" 77 ⟨"BigRunner", "small", "(I)Z"⟩).before args U = true := h.w 429 (by decide +kernel) rfl args
theorem wd_430 {U : State} (h : TB U) (args : Array Value) : (Cond.instanceMethod ⟨"BigRunner", "small", "(I)Z"⟩).before args U = true := h.w 430 (by decide +kernel) rfl args
theorem wd_431 {U : State} (h : TB U) (args : Array Value) : (Cond.selects "BigRunner" ⟨"BigRunner", "small", "(I)Z"⟩ ⟨"BigRunner", "small", "(I)Z"⟩).before args U = true := h.w 431 (by decide +kernel) rfl args
theorem wd_432 {U : State} (h : TB U) (args : Array Value) : (Cond.code ⟨"BigRunner", "small", "(I)Z"⟩ prog_1_method_9_code 2 (some .boolean)).before args U = true := h.w 432 (by decide +kernel) rfl args
theorem wd_446 {U : State} (h : TB U) (args : Array Value) : (Cond.methodLink "BigRunnerLaw" 51 ⟨"BigRunnerLaw", "load", "(LBigRunner;[J)I"⟩).before args U = true := h.w 446 (by decide +kernel) rfl args
theorem wd_447 {U : State} (h : TB U) (args : Array Value) : (Cond.static ⟨"BigRunnerLaw", "load", "(LBigRunner;[J)I"⟩).before args U = true := h.w 447 (by decide +kernel) rfl args
theorem wd_448 {U : State} (h : TB U) (args : Array Value) : (Cond.codeWith ⟨"BigRunnerLaw", "load", "(LBigRunner;[J)I"⟩ method_3_code 3 (some .int) [(0, 8, 11, 13)]).before args U = true := h.w 448 (by decide +kernel) rfl args
theorem wd_686 {U : State} (h : TB U) (args : Array Value) : (Cond.methodLink "BigRunnerLaw" 62 ⟨"BigRunnerLaw", "run", "(LBigRunner;I[J)I"⟩).before args U = true := h.w 686 (by decide +kernel) rfl args
theorem wd_687 {U : State} (h : TB U) (args : Array Value) : (Cond.static ⟨"BigRunnerLaw", "run", "(LBigRunner;I[J)I"⟩).before args U = true := h.w 687 (by decide +kernel) rfl args
theorem wd_688 {U : State} (h : TB U) (args : Array Value) : (Cond.codeWith ⟨"BigRunnerLaw", "run", "(LBigRunner;I[J)I"⟩ method_4_code 4 (some .int) [(0, 9, 12, 19), (0, 9, 15, 13), (0, 9, 18, 21), (0, 9, 21, 23)]).before args U = true := h.w 688 (by decide +kernel) rfl args
theorem wd_880 {U : State} (h : TB U) (args : Array Value) : (Cond.methodLink "BigRunnerLaw" 73 ⟨"BigRunnerLaw", "bound", "(LBigRunner;IZ[J)I"⟩).before args U = true := h.w 880 (by decide +kernel) rfl args
theorem wd_881 {U : State} (h : TB U) (args : Array Value) : (Cond.static ⟨"BigRunnerLaw", "bound", "(LBigRunner;IZ[J)I"⟩).before args U = true := h.w 881 (by decide +kernel) rfl args
theorem wd_882 {U : State} (h : TB U) (args : Array Value) : (Cond.codeWith ⟨"BigRunnerLaw", "bound", "(LBigRunner;IZ[J)I"⟩ method_5_code 5 (some .int) [(0, 9, 12, 29), (0, 9, 16, 23)]).before args U = true := h.w 882 (by decide +kernel) rfl args
theorem wd_906 {U : State} (h : TB U) (args : Array Value) : (Cond.methodLink "BigRunnerLaw" 81 ⟨"BigRunnerLaw", "variable", "(LBigRunner;II[J)I"⟩).before args U = true := h.w 906 (by decide +kernel) rfl args
theorem wd_907 {U : State} (h : TB U) (args : Array Value) : (Cond.static ⟨"BigRunnerLaw", "variable", "(LBigRunner;II[J)I"⟩).before args U = true := h.w 907 (by decide +kernel) rfl args
theorem wd_908 {U : State} (h : TB U) (args : Array Value) : (Cond.codeWith ⟨"BigRunnerLaw", "variable", "(LBigRunner;II[J)I"⟩ method_6_code 5 (some .int) [(0, 10, 13, 29)]).before args U = true := h.w 908 (by decide +kernel) rfl args
theorem wd_928 {U : State} (h : TB U) (args : Array Value) : (Cond.methodLink "BigRunnerLaw" 85 ⟨"BigRunnerLaw", "output", "(LBigRunner;II[J)I"⟩).before args U = true := h.w 928 (by decide +kernel) rfl args
theorem wd_929 {U : State} (h : TB U) (args : Array Value) : (Cond.static ⟨"BigRunnerLaw", "output", "(LBigRunner;II[J)I"⟩).before args U = true := h.w 929 (by decide +kernel) rfl args
theorem wd_930 {U : State} (h : TB U) (args : Array Value) : (Cond.codeWith ⟨"BigRunnerLaw", "output", "(LBigRunner;II[J)I"⟩ method_7_code 5 (some .int) [(0, 10, 13, 29)]).before args U = true := h.w 930 (by decide +kernel) rfl args
theorem wd_1084 {U : State} (h : TB U) (args : Array Value) : (Cond.methodLink "BigRunnerLaw" 66 ⟨"BigRunnerModel", "thrown", "()I"⟩).before args U = true := h.w 1084 (by decide +kernel) rfl args
theorem wd_1085 {U : State} (h : TB U) (args : Array Value) : (Cond.instanceMethod ⟨"BigRunnerModel", "thrown", "()I"⟩).before args U = true := h.w 1085 (by decide +kernel) rfl args
theorem wd_1086 {U : State} (h : TB U) (args : Array Value) : (Cond.selects "BigRunnerModel" ⟨"BigRunnerModel", "thrown", "()I"⟩ ⟨"BigRunnerModel", "thrown", "()I"⟩).before args U = true := h.w 1086 (by decide +kernel) rfl args
theorem wd_1087 {U : State} (h : TB U) (args : Array Value) : (Cond.code ⟨"BigRunnerModel", "thrown", "()I"⟩ prog_12_method_2_code 1 (some .int)).before args U = true := h.w 1087 (by decide +kernel) rfl args
theorem wd_1088 {U : State} (h : TB U) (args : Array Value) : (Cond.methodLink "BigRunnerLaw" 46 ⟨"BigRunnerModel", "type", "(C)Z"⟩).before args U = true := h.w 1088 (by decide +kernel) rfl args
theorem wd_1089 {U : State} (h : TB U) (args : Array Value) : (Cond.instanceMethod ⟨"BigRunnerModel", "type", "(C)Z"⟩).before args U = true := h.w 1089 (by decide +kernel) rfl args
theorem wd_1090 {U : State} (h : TB U) (args : Array Value) : (Cond.selects "BigRunnerModel" ⟨"BigRunnerModel", "type", "(C)Z"⟩ ⟨"BigRunnerModel", "type", "(C)Z"⟩).before args U = true := h.w 1090 (by decide +kernel) rfl args
theorem wd_1091 {U : State} (h : TB U) (args : Array Value) : (Cond.code ⟨"BigRunnerModel", "type", "(C)Z"⟩ prog_12_method_38_code 2 (some .boolean)).before args U = true := h.w 1091 (by decide +kernel) rfl args
theorem wd_1092 {U : State} (h : TB U) (args : Array Value) : (Cond.methodLink "BigRunnerLaw" 50 ⟨"BigRunnerModel", "wipe", "()V"⟩).before args U = true := h.w 1092 (by decide +kernel) rfl args
theorem wd_1093 {U : State} (h : TB U) (args : Array Value) : (Cond.instanceMethod ⟨"BigRunnerModel", "wipe", "()V"⟩).before args U = true := h.w 1093 (by decide +kernel) rfl args
theorem wd_1094 {U : State} (h : TB U) (args : Array Value) : (Cond.selects "BigRunnerModel" ⟨"BigRunnerModel", "wipe", "()V"⟩ ⟨"BigRunnerModel", "wipe", "()V"⟩).before args U = true := h.w 1094 (by decide +kernel) rfl args
theorem wd_1095 {U : State} (h : TB U) (args : Array Value) : (Cond.code ⟨"BigRunnerModel", "wipe", "()V"⟩ prog_12_method_39_code 1 none).before args U = true := h.w 1095 (by decide +kernel) rfl args
theorem wd_1096 {U : State} (h : TB U) (args : Array Value) : (Cond.methodLink "BigRunnerLaw" 56 ⟨"BigRunnerModel", "load", "()I"⟩).before args U = true := h.w 1096 (by decide +kernel) rfl args
theorem wd_1097 {U : State} (h : TB U) (args : Array Value) : (Cond.instanceMethod ⟨"BigRunnerModel", "load", "()I"⟩).before args U = true := h.w 1097 (by decide +kernel) rfl args
theorem wd_1098 {U : State} (h : TB U) (args : Array Value) : (Cond.selects "BigRunnerModel" ⟨"BigRunnerModel", "load", "()I"⟩ ⟨"BigRunnerModel", "load", "()I"⟩).before args U = true := h.w 1098 (by decide +kernel) rfl args
theorem wd_1099 {U : State} (h : TB U) (args : Array Value) : (Cond.code ⟨"BigRunnerModel", "load", "()I"⟩ prog_12_method_40_code 2 (some .int)).before args U = true := h.w 1099 (by decide +kernel) rfl args
theorem wd_1190 {U : State} (h : TB U) (args : Array Value) : (Cond.methodLink "BigRunnerLaw" 61 ⟨"BigRunnerModel", "give", "(I)Z"⟩).before args U = true := h.w 1190 (by decide +kernel) rfl args
theorem wd_1191 {U : State} (h : TB U) (args : Array Value) : (Cond.instanceMethod ⟨"BigRunnerModel", "give", "(I)Z"⟩).before args U = true := h.w 1191 (by decide +kernel) rfl args
theorem wd_1192 {U : State} (h : TB U) (args : Array Value) : (Cond.selects "BigRunnerModel" ⟨"BigRunnerModel", "give", "(I)Z"⟩ ⟨"BigRunnerModel", "give", "(I)Z"⟩).before args U = true := h.w 1192 (by decide +kernel) rfl args
theorem wd_1193 {U : State} (h : TB U) (args : Array Value) : (Cond.code ⟨"BigRunnerModel", "give", "(I)Z"⟩ prog_12_method_41_code 2 (some .boolean)).before args U = true := h.w 1193 (by decide +kernel) rfl args
theorem wd_1196 {U : State} (h : TB U) (args : Array Value) : (Cond.methodLink "BigRunnerLaw" 65 ⟨"BigRunnerModel", "run", "(I)I"⟩).before args U = true := h.w 1196 (by decide +kernel) rfl args
theorem wd_1197 {U : State} (h : TB U) (args : Array Value) : (Cond.instanceMethod ⟨"BigRunnerModel", "run", "(I)I"⟩).before args U = true := h.w 1197 (by decide +kernel) rfl args
theorem wd_1198 {U : State} (h : TB U) (args : Array Value) : (Cond.selects "BigRunnerModel" ⟨"BigRunnerModel", "run", "(I)I"⟩ ⟨"BigRunnerModel", "run", "(I)I"⟩).before args U = true := h.w 1198 (by decide +kernel) rfl args
theorem wd_1199 {U : State} (h : TB U) (args : Array Value) : (Cond.code ⟨"BigRunnerModel", "run", "(I)I"⟩ prog_12_method_45_code 3 (some .int)).before args U = true := h.w 1199 (by decide +kernel) rfl args
theorem wd_1262 {U : State} (h : TB U) (args : Array Value) : (Cond.methodLink "BigRunnerLaw" 72 ⟨"BigRunnerModel", "look", "(I)I"⟩).before args U = true := h.w 1262 (by decide +kernel) rfl args
theorem wd_1263 {U : State} (h : TB U) (args : Array Value) : (Cond.instanceMethod ⟨"BigRunnerModel", "look", "(I)I"⟩).before args U = true := h.w 1263 (by decide +kernel) rfl args
theorem wd_1264 {U : State} (h : TB U) (args : Array Value) : (Cond.selects "BigRunnerModel" ⟨"BigRunnerModel", "look", "(I)I"⟩ ⟨"BigRunnerModel", "look", "(I)I"⟩).before args U = true := h.w 1264 (by decide +kernel) rfl args
theorem wd_1265 {U : State} (h : TB U) (args : Array Value) : (Cond.code ⟨"BigRunnerModel", "look", "(I)I"⟩ prog_12_method_46_code 2 (some .int)).before args U = true := h.w 1265 (by decide +kernel) rfl args
theorem wd_1266 {U : State} (h : TB U) (args : Array Value) : (Cond.methodLink "BigRunnerLaw" 76 ⟨"BigRunnerModel", "bound", "(IZ)J"⟩).before args U = true := h.w 1266 (by decide +kernel) rfl args
theorem wd_1267 {U : State} (h : TB U) (args : Array Value) : (Cond.instanceMethod ⟨"BigRunnerModel", "bound", "(IZ)J"⟩).before args U = true := h.w 1267 (by decide +kernel) rfl args
theorem wd_1268 {U : State} (h : TB U) (args : Array Value) : (Cond.selects "BigRunnerModel" ⟨"BigRunnerModel", "bound", "(IZ)J"⟩ ⟨"BigRunnerModel", "bound", "(IZ)J"⟩).before args U = true := h.w 1268 (by decide +kernel) rfl args
theorem wd_1269 {U : State} (h : TB U) (args : Array Value) : (Cond.code ⟨"BigRunnerModel", "bound", "(IZ)J"⟩ prog_12_method_47_code 4 (some .long)).before args U = true := h.w 1269 (by decide +kernel) rfl args
theorem wd_1270 {U : State} (h : TB U) (args : Array Value) : (Cond.methodLink "BigRunnerLaw" 80 ⟨"BigRunnerModel", "small", "(I)Z"⟩).before args U = true := h.w 1270 (by decide +kernel) rfl args
theorem wd_1271 {U : State} (h : TB U) (args : Array Value) : (Cond.instanceMethod ⟨"BigRunnerModel", "small", "(I)Z"⟩).before args U = true := h.w 1271 (by decide +kernel) rfl args
theorem wd_1272 {U : State} (h : TB U) (args : Array Value) : (Cond.selects "BigRunnerModel" ⟨"BigRunnerModel", "small", "(I)Z"⟩ ⟨"BigRunnerModel", "small", "(I)Z"⟩).before args U = true := h.w 1272 (by decide +kernel) rfl args
theorem wd_1273 {U : State} (h : TB U) (args : Array Value) : (Cond.code ⟨"BigRunnerModel", "small", "(I)Z"⟩ prog_12_method_48_code 2 (some .boolean)).before args U = true := h.w 1273 (by decide +kernel) rfl args
theorem wd_1274 {U : State} (h : TB U) (args : Array Value) : (Cond.methodLink "BigRunnerLaw" 84 ⟨"BigRunnerModel", "variable", "(II)I"⟩).before args U = true := h.w 1274 (by decide +kernel) rfl args
theorem wd_1275 {U : State} (h : TB U) (args : Array Value) : (Cond.instanceMethod ⟨"BigRunnerModel", "variable", "(II)I"⟩).before args U = true := h.w 1275 (by decide +kernel) rfl args
theorem wd_1276 {U : State} (h : TB U) (args : Array Value) : (Cond.selects "BigRunnerModel" ⟨"BigRunnerModel", "variable", "(II)I"⟩ ⟨"BigRunnerModel", "variable", "(II)I"⟩).before args U = true := h.w 1276 (by decide +kernel) rfl args
theorem wd_1277 {U : State} (h : TB U) (args : Array Value) : (Cond.code ⟨"BigRunnerModel", "variable", "(II)I"⟩ prog_12_method_50_code 4 (some .int)).before args U = true := h.w 1277 (by decide +kernel) rfl args
theorem wd_1281 {U : State} (h : TB U) (args : Array Value) : (Cond.methodLink "BigRunnerLaw" 87 ⟨"BigRunnerModel", "output", "(II)I"⟩).before args U = true := h.w 1281 (by decide +kernel) rfl args
theorem wd_1282 {U : State} (h : TB U) (args : Array Value) : (Cond.instanceMethod ⟨"BigRunnerModel", "output", "(II)I"⟩).before args U = true := h.w 1282 (by decide +kernel) rfl args
theorem wd_1283 {U : State} (h : TB U) (args : Array Value) : (Cond.selects "BigRunnerModel" ⟨"BigRunnerModel", "output", "(II)I"⟩ ⟨"BigRunnerModel", "output", "(II)I"⟩).before args U = true := h.w 1283 (by decide +kernel) rfl args
theorem wd_1284 {U : State} (h : TB U) (args : Array Value) : (Cond.code ⟨"BigRunnerModel", "output", "(II)I"⟩ prog_12_method_51_code 4 (some .int)).before args U = true := h.w 1284 (by decide +kernel) rfl args
theorem d_L_law_92 : decode code 92 = .ok (.aload_n 1, 1) := by decide +kernel
theorem d_L_law_93 : decode code 93 = .ok (.aload_n 0, 1) := by decide +kernel
theorem d_L_law_94 : decode code 94 = .ok (.iload 4, 2) := by decide +kernel
theorem d_L_law_96 : decode code 96 = .ok (.iconst 1, 1) := by decide +kernel
theorem d_L_law_97 : decode code 97 = .ok (.iadd, 1) := by decide +kernel
theorem d_L_law_98 : decode code 98 = .ok (.iaload, 1) := by decide +kernel
theorem d_L_law_99 : decode code 99 = .ok (.i2c, 1) := by decide +kernel
theorem d_L_law_100 : decode code 100 = .ok (.invokevirtual 42, 3) := by decide +kernel
theorem d_L_law_103 : decode code 103 = .ok (.pop, 1) := by decide +kernel
theorem d_L_law_104 : decode code 104 = .ok (.aload_n 2, 1) := by decide +kernel
theorem d_L_law_105 : decode code 105 = .ok (.aload_n 0, 1) := by decide +kernel
theorem d_L_law_106 : decode code 106 = .ok (.iload 4, 2) := by decide +kernel
theorem d_L_law_108 : decode code 108 = .ok (.iconst 1, 1) := by decide +kernel
theorem d_L_law_109 : decode code 109 = .ok (.iadd, 1) := by decide +kernel
theorem d_L_law_110 : decode code 110 = .ok (.iaload, 1) := by decide +kernel
theorem d_L_law_111 : decode code 111 = .ok (.i2c, 1) := by decide +kernel
theorem d_L_law_112 : decode code 112 = .ok (.invokevirtual 46, 3) := by decide +kernel
theorem d_L_law_115 : decode code 115 = .ok (.pop, 1) := by decide +kernel
theorem d_L_law_116 : decode code 116 = .ok (.goto 297, 3) := by decide +kernel
theorem d_L_law_119 : decode code 119 = .ok (.aload_n 1, 1) := by decide +kernel
theorem d_L_law_120 : decode code 120 = .ok (.invokevirtual 47, 3) := by decide +kernel
theorem d_L_law_123 : decode code 123 = .ok (.aload_n 2, 1) := by decide +kernel
theorem d_L_law_124 : decode code 124 = .ok (.invokevirtual 50, 3) := by decide +kernel
theorem d_L_law_127 : decode code 127 = .ok (.goto 286, 3) := by decide +kernel
theorem d_L_law_130 : decode code 130 = .ok (.aload_n 1, 1) := by decide +kernel
theorem d_L_law_131 : decode code 131 = .ok (.aload_n 3, 1) := by decide +kernel
theorem d_L_law_132 : decode code 132 = .ok (.invokestatic 51, 3) := by decide +kernel
theorem d_L_law_135 : decode code 135 = .ok (.istore 5, 2) := by decide +kernel
theorem d_L_law_137 : decode code 137 = .ok (.aload_n 2, 1) := by decide +kernel
theorem d_L_law_138 : decode code 138 = .ok (.invokevirtual 56, 3) := by decide +kernel
theorem d_L_law_141 : decode code 141 = .ok (.istore 6, 2) := by decide +kernel
theorem d_L_law_143 : decode code 143 = .ok (.goto 270, 3) := by decide +kernel
theorem d_L_law_146 : decode code 146 = .ok (.aload_n 1, 1) := by decide +kernel
theorem d_L_law_147 : decode code 147 = .ok (.aload_n 0, 1) := by decide +kernel
theorem d_L_law_148 : decode code 148 = .ok (.iload 4, 2) := by decide +kernel
theorem d_L_law_150 : decode code 150 = .ok (.iconst 1, 1) := by decide +kernel
theorem d_L_law_151 : decode code 151 = .ok (.iadd, 1) := by decide +kernel
theorem d_L_law_152 : decode code 152 = .ok (.iaload, 1) := by decide +kernel
theorem d_L_law_153 : decode code 153 = .ok (.invokevirtual 57, 3) := by decide +kernel
theorem d_L_law_156 : decode code 156 = .ok (.pop, 1) := by decide +kernel
theorem d_L_law_157 : decode code 157 = .ok (.aload_n 2, 1) := by decide +kernel
theorem d_L_law_158 : decode code 158 = .ok (.aload_n 0, 1) := by decide +kernel
theorem d_L_law_159 : decode code 159 = .ok (.iload 4, 2) := by decide +kernel
theorem d_L_law_161 : decode code 161 = .ok (.iconst 1, 1) := by decide +kernel
theorem d_L_law_162 : decode code 162 = .ok (.iadd, 1) := by decide +kernel
theorem d_L_law_163 : decode code 163 = .ok (.iaload, 1) := by decide +kernel
theorem d_L_law_164 : decode code 164 = .ok (.invokevirtual 61, 3) := by decide +kernel
theorem d_L_law_167 : decode code 167 = .ok (.pop, 1) := by decide +kernel
theorem d_L_law_168 : decode code 168 = .ok (.goto 245, 3) := by decide +kernel
theorem d_L_law_171 : decode code 171 = .ok (.aload_n 1, 1) := by decide +kernel
theorem d_L_law_172 : decode code 172 = .ok (.aload_n 0, 1) := by decide +kernel
theorem d_L_law_173 : decode code 173 = .ok (.iload 4, 2) := by decide +kernel
theorem d_L_law_175 : decode code 175 = .ok (.iconst 1, 1) := by decide +kernel
theorem d_L_law_176 : decode code 176 = .ok (.iadd, 1) := by decide +kernel
theorem d_L_law_177 : decode code 177 = .ok (.iaload, 1) := by decide +kernel
theorem d_L_law_178 : decode code 178 = .ok (.aload_n 3, 1) := by decide +kernel
theorem d_L_law_179 : decode code 179 = .ok (.invokestatic 62, 3) := by decide +kernel
theorem d_L_law_182 : decode code 182 = .ok (.istore 5, 2) := by decide +kernel
theorem d_L_law_184 : decode code 184 = .ok (.aload_n 2, 1) := by decide +kernel
theorem d_L_law_185 : decode code 185 = .ok (.aload_n 0, 1) := by decide +kernel
theorem d_L_law_186 : decode code 186 = .ok (.iload 4, 2) := by decide +kernel
theorem d_L_law_188 : decode code 188 = .ok (.iconst 1, 1) := by decide +kernel
theorem d_L_law_189 : decode code 189 = .ok (.iadd, 1) := by decide +kernel
theorem d_L_law_190 : decode code 190 = .ok (.iaload, 1) := by decide +kernel
theorem d_L_law_191 : decode code 191 = .ok (.invokevirtual 65, 3) := by decide +kernel
theorem d_L_law_194 : decode code 194 = .ok (.istore 6, 2) := by decide +kernel
theorem d_L_law_196 : decode code 196 = .ok (.aload_n 2, 1) := by decide +kernel
theorem d_L_law_197 : decode code 197 = .ok (.invokevirtual 66, 3) := by decide +kernel
theorem d_L_law_200 : decode code 200 = .ok (.iload 5, 2) := by decide +kernel
theorem d_L_law_202 : decode code 202 = .ok (.if_icmp .eq 5, 3) := by decide +kernel
theorem d_L_law_207 : decode code 207 = .ok (.iload 5, 2) := by decide +kernel
theorem d_L_law_209 : decode code 209 = .ok (.ifCond .ne 15, 3) := by decide +kernel
theorem d_L_law_212 : decode code 212 = .ok (.aload_n 3, 1) := by decide +kernel
theorem d_L_law_213 : decode code 213 = .ok (.iconst 0, 1) := by decide +kernel
theorem d_L_law_214 : decode code 214 = .ok (.laload, 1) := by decide +kernel
theorem d_L_law_215 : decode code 215 = .ok (.iload 6, 2) := by decide +kernel
theorem d_L_law_217 : decode code 217 = .ok (.i2l, 1) := by decide +kernel
theorem d_L_law_218 : decode code 218 = .ok (.lcmp, 1) := by decide +kernel
theorem d_L_law_219 : decode code 219 = .ok (.ifCond .eq 5, 3) := by decide +kernel
theorem d_L_law_224 : decode code 224 = .ok (.goto 189, 3) := by decide +kernel
theorem d_L_law_227 : decode code 227 = .ok (.aload_n 1, 1) := by decide +kernel
theorem d_L_law_228 : decode code 228 = .ok (.aload_n 0, 1) := by decide +kernel
theorem d_L_law_229 : decode code 229 = .ok (.iload 4, 2) := by decide +kernel
theorem d_L_law_231 : decode code 231 = .ok (.iconst 1, 1) := by decide +kernel
theorem d_L_law_232 : decode code 232 = .ok (.iadd, 1) := by decide +kernel
theorem d_L_law_233 : decode code 233 = .ok (.iaload, 1) := by decide +kernel
theorem d_L_law_234 : decode code 234 = .ok (.invokevirtual 69, 3) := by decide +kernel
theorem d_L_law_237 : decode code 237 = .ok (.pop, 1) := by decide +kernel
theorem d_L_law_238 : decode code 238 = .ok (.aload_n 2, 1) := by decide +kernel
theorem d_L_law_239 : decode code 239 = .ok (.aload_n 0, 1) := by decide +kernel
theorem d_L_law_240 : decode code 240 = .ok (.iload 4, 2) := by decide +kernel
theorem d_L_law_242 : decode code 242 = .ok (.iconst 1, 1) := by decide +kernel
theorem d_L_law_243 : decode code 243 = .ok (.iadd, 1) := by decide +kernel
theorem d_L_law_244 : decode code 244 = .ok (.iaload, 1) := by decide +kernel
theorem d_L_law_245 : decode code 245 = .ok (.invokevirtual 72, 3) := by decide +kernel
theorem d_L_law_248 : decode code 248 = .ok (.pop, 1) := by decide +kernel
theorem d_L_law_249 : decode code 249 = .ok (.goto 164, 3) := by decide +kernel
theorem d_L_law_252 : decode code 252 = .ok (.aload_n 1, 1) := by decide +kernel
theorem d_L_law_253 : decode code 253 = .ok (.aload_n 0, 1) := by decide +kernel
theorem d_L_law_254 : decode code 254 = .ok (.iload 4, 2) := by decide +kernel
theorem d_L_law_256 : decode code 256 = .ok (.iconst 1, 1) := by decide +kernel
theorem d_L_law_257 : decode code 257 = .ok (.iadd, 1) := by decide +kernel
theorem d_L_law_258 : decode code 258 = .ok (.iaload, 1) := by decide +kernel
theorem d_L_law_259 : decode code 259 = .ok (.aload_n 0, 1) := by decide +kernel
theorem d_L_law_260 : decode code 260 = .ok (.iload 4, 2) := by decide +kernel
theorem d_L_law_262 : decode code 262 = .ok (.iconst 2, 1) := by decide +kernel
theorem d_L_law_263 : decode code 263 = .ok (.iadd, 1) := by decide +kernel
theorem d_L_law_264 : decode code 264 = .ok (.iaload, 1) := by decide +kernel
theorem d_L_law_265 : decode code 265 = .ok (.ifCond .eq 7, 3) := by decide +kernel
theorem d_L_law_268 : decode code 268 = .ok (.iconst 1, 1) := by decide +kernel
theorem d_L_law_269 : decode code 269 = .ok (.goto 4, 3) := by decide +kernel
theorem d_L_law_272 : decode code 272 = .ok (.iconst 0, 1) := by decide +kernel
theorem d_L_law_273 : decode code 273 = .ok (.aload_n 3, 1) := by decide +kernel
theorem d_L_law_274 : decode code 274 = .ok (.invokestatic 73, 3) := by decide +kernel
theorem d_L_law_277 : decode code 277 = .ok (.istore 5, 2) := by decide +kernel
theorem d_L_law_279 : decode code 279 = .ok (.aload_n 2, 1) := by decide +kernel
theorem d_L_law_280 : decode code 280 = .ok (.aload_n 0, 1) := by decide +kernel
theorem d_L_law_281 : decode code 281 = .ok (.iload 4, 2) := by decide +kernel
theorem d_L_law_283 : decode code 283 = .ok (.iconst 1, 1) := by decide +kernel
theorem d_L_law_284 : decode code 284 = .ok (.iadd, 1) := by decide +kernel
theorem d_L_law_285 : decode code 285 = .ok (.iaload, 1) := by decide +kernel
theorem d_L_law_286 : decode code 286 = .ok (.aload_n 0, 1) := by decide +kernel
theorem d_L_law_287 : decode code 287 = .ok (.iload 4, 2) := by decide +kernel
theorem d_L_law_289 : decode code 289 = .ok (.iconst 2, 1) := by decide +kernel
theorem d_L_law_290 : decode code 290 = .ok (.iadd, 1) := by decide +kernel
theorem d_L_law_291 : decode code 291 = .ok (.iaload, 1) := by decide +kernel
theorem d_L_law_292 : decode code 292 = .ok (.ifCond .eq 7, 3) := by decide +kernel
theorem d_L_law_295 : decode code 295 = .ok (.iconst 1, 1) := by decide +kernel
theorem d_L_law_296 : decode code 296 = .ok (.goto 4, 3) := by decide +kernel
theorem d_L_law_299 : decode code 299 = .ok (.iconst 0, 1) := by decide +kernel
theorem d_L_law_300 : decode code 300 = .ok (.invokevirtual 76, 3) := by decide +kernel
theorem d_L_law_303 : decode code 303 = .ok (.lstore 6, 2) := by decide +kernel
theorem d_L_law_305 : decode code 305 = .ok (.goto 108, 3) := by decide +kernel
theorem d_L_law_308 : decode code 308 = .ok (.aload_n 1, 1) := by decide +kernel
theorem d_L_law_309 : decode code 309 = .ok (.aload_n 0, 1) := by decide +kernel
theorem d_L_law_310 : decode code 310 = .ok (.iload 4, 2) := by decide +kernel
theorem d_L_law_312 : decode code 312 = .ok (.iconst 1, 1) := by decide +kernel
theorem d_L_law_313 : decode code 313 = .ok (.iadd, 1) := by decide +kernel
theorem d_L_law_314 : decode code 314 = .ok (.iaload, 1) := by decide +kernel
theorem d_L_law_315 : decode code 315 = .ok (.invokevirtual 77, 3) := by decide +kernel
theorem d_L_law_318 : decode code 318 = .ok (.pop, 1) := by decide +kernel
theorem d_L_law_319 : decode code 319 = .ok (.aload_n 2, 1) := by decide +kernel
theorem d_L_law_320 : decode code 320 = .ok (.aload_n 0, 1) := by decide +kernel
theorem d_L_law_321 : decode code 321 = .ok (.iload 4, 2) := by decide +kernel
theorem d_L_law_323 : decode code 323 = .ok (.iconst 1, 1) := by decide +kernel
theorem d_L_law_324 : decode code 324 = .ok (.iadd, 1) := by decide +kernel
theorem d_L_law_325 : decode code 325 = .ok (.iaload, 1) := by decide +kernel
theorem d_L_law_326 : decode code 326 = .ok (.invokevirtual 80, 3) := by decide +kernel
theorem d_L_law_329 : decode code 329 = .ok (.pop, 1) := by decide +kernel
theorem d_L_law_330 : decode code 330 = .ok (.goto 83, 3) := by decide +kernel
theorem d_L_law_333 : decode code 333 = .ok (.aload_n 1, 1) := by decide +kernel
theorem d_L_law_334 : decode code 334 = .ok (.aload_n 0, 1) := by decide +kernel
theorem d_L_law_335 : decode code 335 = .ok (.iload 4, 2) := by decide +kernel
theorem d_L_law_337 : decode code 337 = .ok (.iconst 1, 1) := by decide +kernel
theorem d_L_law_338 : decode code 338 = .ok (.iadd, 1) := by decide +kernel
theorem d_L_law_339 : decode code 339 = .ok (.iaload, 1) := by decide +kernel
theorem d_L_law_340 : decode code 340 = .ok (.aload_n 0, 1) := by decide +kernel
theorem d_L_law_341 : decode code 341 = .ok (.iload 4, 2) := by decide +kernel
theorem d_L_law_343 : decode code 343 = .ok (.iconst 2, 1) := by decide +kernel
theorem d_L_law_344 : decode code 344 = .ok (.iadd, 1) := by decide +kernel
theorem d_L_law_345 : decode code 345 = .ok (.iaload, 1) := by decide +kernel
theorem d_L_law_346 : decode code 346 = .ok (.aload_n 3, 1) := by decide +kernel
theorem d_L_law_347 : decode code 347 = .ok (.invokestatic 81, 3) := by decide +kernel
theorem d_L_law_350 : decode code 350 = .ok (.istore 5, 2) := by decide +kernel
theorem d_L_law_352 : decode code 352 = .ok (.aload_n 2, 1) := by decide +kernel
theorem d_L_law_353 : decode code 353 = .ok (.aload_n 0, 1) := by decide +kernel
theorem d_L_law_354 : decode code 354 = .ok (.iload 4, 2) := by decide +kernel
theorem d_L_law_356 : decode code 356 = .ok (.iconst 1, 1) := by decide +kernel
theorem d_L_law_357 : decode code 357 = .ok (.iadd, 1) := by decide +kernel
theorem d_L_law_358 : decode code 358 = .ok (.iaload, 1) := by decide +kernel
theorem d_L_law_359 : decode code 359 = .ok (.aload_n 0, 1) := by decide +kernel
theorem d_L_law_360 : decode code 360 = .ok (.iload 4, 2) := by decide +kernel
theorem d_L_law_362 : decode code 362 = .ok (.iconst 2, 1) := by decide +kernel
theorem d_L_law_363 : decode code 363 = .ok (.iadd, 1) := by decide +kernel
theorem d_L_law_364 : decode code 364 = .ok (.iaload, 1) := by decide +kernel
theorem d_L_law_365 : decode code 365 = .ok (.invokevirtual 84, 3) := by decide +kernel
theorem d_L_law_368 : decode code 368 = .ok (.istore 6, 2) := by decide +kernel
theorem d_L_law_370 : decode code 370 = .ok (.goto 43, 3) := by decide +kernel
theorem d_L_law_373 : decode code 373 = .ok (.aload_n 1, 1) := by decide +kernel
theorem d_L_law_374 : decode code 374 = .ok (.aload_n 0, 1) := by decide +kernel
theorem d_L_law_375 : decode code 375 = .ok (.iload 4, 2) := by decide +kernel
theorem d_L_law_377 : decode code 377 = .ok (.iconst 1, 1) := by decide +kernel
theorem d_L_law_378 : decode code 378 = .ok (.iadd, 1) := by decide +kernel
theorem d_L_law_379 : decode code 379 = .ok (.iaload, 1) := by decide +kernel
theorem d_L_law_380 : decode code 380 = .ok (.aload_n 0, 1) := by decide +kernel
theorem d_L_law_381 : decode code 381 = .ok (.iload 4, 2) := by decide +kernel
theorem d_L_law_383 : decode code 383 = .ok (.iconst 2, 1) := by decide +kernel
theorem d_L_law_384 : decode code 384 = .ok (.iadd, 1) := by decide +kernel
theorem d_L_law_385 : decode code 385 = .ok (.iaload, 1) := by decide +kernel
theorem d_L_law_386 : decode code 386 = .ok (.aload_n 3, 1) := by decide +kernel
theorem d_L_law_387 : decode code 387 = .ok (.invokestatic 85, 3) := by decide +kernel
theorem d_L_law_390 : decode code 390 = .ok (.istore 5, 2) := by decide +kernel
theorem d_L_law_392 : decode code 392 = .ok (.aload_n 2, 1) := by decide +kernel
theorem d_L_law_393 : decode code 393 = .ok (.aload_n 0, 1) := by decide +kernel
theorem d_L_law_394 : decode code 394 = .ok (.iload 4, 2) := by decide +kernel
theorem d_L_law_396 : decode code 396 = .ok (.iconst 1, 1) := by decide +kernel
theorem d_L_law_397 : decode code 397 = .ok (.iadd, 1) := by decide +kernel
theorem d_L_law_398 : decode code 398 = .ok (.iaload, 1) := by decide +kernel
theorem d_L_law_399 : decode code 399 = .ok (.aload_n 0, 1) := by decide +kernel
theorem d_L_law_400 : decode code 400 = .ok (.iload 4, 2) := by decide +kernel
theorem d_L_law_402 : decode code 402 = .ok (.iconst 2, 1) := by decide +kernel
theorem d_L_law_403 : decode code 403 = .ok (.iadd, 1) := by decide +kernel
theorem d_L_law_404 : decode code 404 = .ok (.iaload, 1) := by decide +kernel
theorem d_L_law_405 : decode code 405 = .ok (.invokevirtual 87, 3) := by decide +kernel
theorem d_L_law_408 : decode code 408 = .ok (.istore 6, 2) := by decide +kernel
theorem d_L_law_410 : decode code 410 = .ok (.goto 3, 3) := by decide +kernel

