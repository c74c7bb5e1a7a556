theorem wd_71 {U : State} (h : TB U) (args : Array Value) : (Cond.initialized "BigRunnerLaw").before args U = true := h.w 71 (by decide +kernel) rfl args
theorem wd_95 {U : State} (h : TB U) (args : Array Value) : (Cond.classLink "BigRunnerLaw" 8 "BigRunner").before args U = true := h.w 95 (by decide +kernel) rfl args
theorem wd_96 {U : State} (h : TB U) (args : Array Value) : (Cond.instantiable "BigRunner" 5).before args U = true := h.w 96 (by decide +kernel) rfl args
theorem wd_97 {U : State} (h : TB U) (args : Array Value) : (Cond.methodLink "BigRunnerLaw" 38 ⟨"BigRunner", "<init>", "()V"⟩).before args U = true := h.w 97 (by decide +kernel) rfl args
theorem wd_98 {U : State} (h : TB U) (args : Array Value) : (Cond.instanceMethod ⟨"BigRunner", "<init>", "()V"⟩).before args U = true := h.w 98 (by decide +kernel) rfl args
theorem wd_99 {U : State} (h : TB U) (args : Array Value) : (Cond.code ⟨"BigRunner", "<init>", "()V"⟩ prog_1_method_1_code 1 none).before args U = true := h.w 99 (by decide +kernel) rfl args
theorem wd_394 {U : State} (h : TB U) (args : Array Value) : (Cond.methodLink "BigRunnerLaw" 42 ⟨"BigRunner", "type", "(C)Z"⟩).before args U = true := h.w 394 (by decide +kernel) rfl args
theorem wd_395 {U : State} (h : TB U) (args : Array Value) : (Cond.instanceMethod ⟨"BigRunner", "type", "(C)Z"⟩).before args U = true := h.w 395 (by decide +kernel) rfl args
theorem wd_396 {U : State} (h : TB U) (args : Array Value) : (Cond.selects "BigRunner" ⟨"BigRunner", "type", "(C)Z"⟩ ⟨"BigRunner", "type", "(C)Z"⟩).before args U = true := h.w 396 (by decide +kernel) rfl args
theorem wd_397 {U : State} (h : TB U) (args : Array Value) : (Cond.code ⟨"BigRunner", "type", "(C)Z"⟩ prog_1_method_2_code 2 (some .boolean)).before args U = true := h.w 397 (by decide +kernel) rfl args
theorem wd_398 {U : State} (h : TB U) (args : Array Value) : (Cond.methodLink "BigRunnerLaw" 47 ⟨"BigRunner", "wipe", "()V"⟩).before args U = true := h.w 398 (by decide +kernel) rfl args
theorem wd_399 {U : State} (h : TB U) (args : Array Value) : (Cond.instanceMethod ⟨"BigRunner", "wipe", "()V"⟩).before args U = true := h.w 399 (by decide +kernel) rfl args
theorem wd_400 {U : State} (h : TB U) (args : Array Value) : (Cond.selects "BigRunner" ⟨"BigRunner", "wipe", "()V"⟩ ⟨"BigRunner", "wipe", "()V"⟩).before args U = true := h.w 400 (by decide +kernel) rfl args
theorem wd_401 {U : State} (h : TB U) (args : Array Value) : (Cond.code ⟨"BigRunner", "wipe", "()V"⟩ prog_1_method_3_code 1 none).before args U = true := h.w 401 (by decide +kernel) rfl args
theorem wd_402 {U : State} (h : TB U) (args : Array Value) : (Cond.methodLink "BigRunnerLaw" 60 ⟨"BigRunner", "give", "(I)Z"⟩).before args U = true := h.w 402 (by decide +kernel) rfl args
theorem wd_403 {U : State} (h : TB U) (args : Array Value) : (Cond.instanceMethod ⟨"BigRunner", "give", "(I)Z"⟩).before args U = true := h.w 403 (by decide +kernel) rfl args
theorem wd_404 {U : State} (h : TB U) (args : Array Value) : (Cond.selects "BigRunner" ⟨"BigRunner", "give", "(I)Z"⟩ ⟨"BigRunner", "give", "(I)Z"⟩).before args U = true := h.w 404 (by decide +kernel) rfl args
theorem wd_405 {U : State} (h : TB U) (args : Array Value) : (Cond.code ⟨"BigRunner", "give", "(I)Z"⟩ prog_1_method_5_code 2 (some .boolean)).before args U = true := h.w 405 (by decide +kernel) rfl args
theorem wd_412 {U : State} (h : TB U) (args : Array Value) : (Cond.methodLink "BigRunnerLaw" 69 ⟨"BigRunner", "look", "(I)I"⟩).before args U = true := h.w 412 (by decide +kernel) rfl args
theorem wd_413 {U : State} (h : TB U) (args : Array Value) : (Cond.instanceMethod ⟨"BigRunner", "look", "(I)I"⟩).before args U = true := h.w 413 (by decide +kernel) rfl args
theorem wd_414 {U : State} (h : TB U) (args : Array Value) : (Cond.selects "BigRunner" ⟨"BigRunner", "look", "(I)I"⟩ ⟨"BigRunner", "look", "(I)I"⟩).before args U = true := h.w 414 (by decide +kernel) rfl args
theorem wd_415 {U : State} (h : TB U) (args : Array Value) : (Cond.code ⟨"BigRunner", "look", "(I)I"⟩ prog_1_method_7_code 2 (some .int)).before args U = true := h.w 415 (by decide +kernel) rfl args
theorem wd_429 {U : State} (h : TB U) (args : Array Value) : (Cond.methodLink "BigRunnerLaw" 77 ⟨"BigRunner", "small", "(I)Z"⟩).before args U = true := h.w 429 (by decide +kernel) rfl args
theorem wd_430 {U : State} (h : TB U) (args : Array Value) : (Cond.instanceMethod ⟨"BigRunner", "small", "(I)Z"⟩).before args U = true := h.w 430 (by decide +kernel) rfl args
theorem wd_431 {U : State} (h : TB U) (args : Array Value) : (Cond.selects "BigRunner" ⟨"BigRunner", "small", "(I)Z"⟩ ⟨"BigRunner", "small", "(I)Z"⟩).before args U = true := h.w 431 (by decide +kernel) rfl args
theorem wd_432 {U : State} (h : TB U) (args : Array Value) : (Cond.code ⟨"BigRunner", "small", "(I)Z"⟩ prog_1_method_9_code 2 (some .boolean)).before args U = true := h.w 432 (by decide +kernel) rfl args
theorem wd_446 {U : State} (h : TB U) (args : Array Value) : (Cond.methodLink "BigRunnerLaw" 51 ⟨"BigRunnerLaw", "load", "(LBigRunner;[J)I"⟩).before args U = true := h.w 446 (by decide +kernel) rfl args
theorem wd_447 {U : State} (h : TB U) (args : Array Value) : (Cond.static ⟨"BigRunnerLaw", "load", "(LBigRunner;[J)I"⟩).before args U = true := h.w 447 (by decide +kernel) rfl args
theorem wd_448 {U : State} (h : TB U) (args : Array Value) : (Cond.codeWith ⟨"BigRunnerLaw", "load", "(LBigRunner;[J)I"⟩ method_3_code 3 (some .int) [(0, 8, 11, 13)]).before args U = true := h.w 448 (by decide +kernel) rfl args
theorem wd_686 {U : State} (h : TB U) (args : Array Value) : (Cond.methodLink "BigRunnerLaw" 65 ⟨"BigRunnerLaw", "run", "(LBigRunner;I[J)I"⟩).before args U = true := h.w 686 (by decide +kernel) rfl args
theorem wd_687 {U : State} (h : TB U) (args : Array Value) : (Cond.static ⟨"BigRunnerLaw", "run", "(LBigRunner;I[J)I"⟩).before args U = true := h.w 687 (by decide +kernel) rfl args
theorem wd_688 {U : State} (h : TB U) (args : Array Value) : (Cond.codeWith ⟨"BigRunnerLaw", "run", "(LBigRunner;I[J)I"⟩ method_4_code 4 (some .int) [(0, 9, 12, 19), (0, 9, 15, 13), (0, 9, 18, 21), (0, 9, 21, 23)]).before args U = true := h.w 688 (by decide +kernel) rfl args
theorem wd_880 {U : State} (h : TB U) (args : Array Value) : (Cond.methodLink "BigRunnerLaw" 73 ⟨"BigRunnerLaw", "bound", "(LBigRunner;IZ[J)I"⟩).before args U = true := h.w 880 (by decide +kernel) rfl args
theorem wd_881 {U : State} (h : TB U) (args : Array Value) : (Cond.static ⟨"BigRunnerLaw", "bound", "(LBigRunner;IZ[J)I"⟩).before args U = true := h.w 881 (by decide +kernel) rfl args
theorem wd_882 {U : State} (h : TB U) (args : Array Value) : (Cond.codeWith ⟨"BigRunnerLaw", "bound", "(LBigRunner;IZ[J)I"⟩ method_5_code 5 (some .int) [(0, 9, 12, 29), (0, 9, 16, 23)]).before args U = true := h.w 882 (by decide +kernel) rfl args
theorem wd_906 {U : State} (h : TB U) (args : Array Value) : (Cond.methodLink "BigRunnerLaw" 81 ⟨"BigRunnerLaw", "variable", "(LBigRunner;II[J)I"⟩).before args U = true := h.w 906 (by decide +kernel) rfl args
theorem wd_907 {U : State} (h : TB U) (args : Array Value) : (Cond.static ⟨"BigRunnerLaw", "variable", "(LBigRunner;II[J)I"⟩).before args U = true := h.w 907 (by decide +kernel) rfl args
theorem wd_908 {U : State} (h : TB U) (args : Array Value) : (Cond.codeWith ⟨"BigRunnerLaw", "variable", "(LBigRunner;II[J)I"⟩ method_6_code 5 (some .int) [(0, 10, 13, 29)]).before args U = true := h.w 908 (by decide +kernel) rfl args
theorem wd_928 {U : State} (h : TB U) (args : Array Value) : (Cond.methodLink "BigRunnerLaw" 85 ⟨"BigRunnerLaw", "output", "(LBigRunner;II[J)I"⟩).before args U = true := h.w 928 (by decide +kernel) rfl args
theorem wd_929 {U : State} (h : TB U) (args : Array Value) : (Cond.static ⟨"BigRunnerLaw", "output", "(LBigRunner;II[J)I"⟩).before args U = true := h.w 929 (by decide +kernel) rfl args
theorem wd_930 {U : State} (h : TB U) (args : Array Value) : (Cond.codeWith ⟨"BigRunnerLaw", "output", "(LBigRunner;II[J)I"⟩ method_7_code 5 (some .int) [(0, 10, 13, 29)]).before args U = true := h.w 930 (by decide +kernel) rfl args
theorem wd_941 {U : State} (h : TB U) (args : Array Value) : (Cond.classLink "BigRunnerLaw" 39 "BigRunnerModel").before args U = true := h.w 941 (by decide +kernel) rfl args
theorem wd_942 {U : State} (h : TB U) (args : Array Value) : (Cond.instantiable "BigRunnerModel" 45).before args U = true := h.w 942 (by decide +kernel) rfl args
theorem wd_943 {U : State} (h : TB U) (args : Array Value) : (Cond.methodLink "BigRunnerLaw" 41 ⟨"BigRunnerModel", "<init>", "()V"⟩).before args U = true := h.w 943 (by decide +kernel) rfl args
theorem wd_944 {U : State} (h : TB U) (args : Array Value) : (Cond.instanceMethod ⟨"BigRunnerModel", "<init>", "()V"⟩).before args U = true := h.w 944 (by decide +kernel) rfl args
theorem wd_945 {U : State} (h : TB U) (args : Array Value) : (Cond.code ⟨"BigRunnerModel", "<init>", "()V"⟩ prog_12_method_1_code 1 none).before args U = true := h.w 945 (by decide +kernel) rfl args
theorem wd_1084 {U : State} (h : TB U) (args : Array Value) : (Cond.methodLink "BigRunnerLaw" 57 ⟨"BigRunnerModel", "thrown", "()I"⟩).before args U = true := h.w 1084 (by decide +kernel) rfl args
theorem wd_1085 {U : State} (h : TB U) (args : Array Value) : (Cond.instanceMethod ⟨"BigRunnerModel", "thrown", "()I"⟩).before args U = true := h.w 1085 (by decide +kernel) rfl args
theorem wd_1086 {U : State} (h : TB U) (args : Array Value) : (Cond.selects "BigRunnerModel" ⟨"BigRunnerModel", "thrown", "()I"⟩ ⟨"BigRunnerModel", "thrown", "()I"⟩).before args U = true := h.w 1086 (by decide +kernel) rfl args
theorem wd_1087 {U : State} (h : TB U) (args : Array Value) : (Cond.code ⟨"BigRunnerModel", "thrown", "()I"⟩ prog_12_method_2_code 1 (some .int)).before args U = true := h.w 1087 (by decide +kernel) rfl args
theorem wd_1088 {U : State} (h : TB U) (args : Array Value) : (Cond.methodLink "BigRunnerLaw" 46 ⟨"BigRunnerModel", "type", "(C)Z"⟩).before args U = true := h.w 1088 (by decide +kernel) rfl args
theorem wd_1089 {U : State} (h : TB U) (args : Array Value) : (Cond.instanceMethod ⟨"BigRunnerModel", "type", "(C)Z"⟩).before args U = true := h.w 1089 (by decide +kernel) rfl args
theorem wd_1090 {U : State} (h : TB U) (args : Array Value) : (Cond.selects "BigRunnerModel" ⟨"BigRunnerModel", "type", "(C)Z"⟩ ⟨"BigRunnerModel", "type", "(C)Z"⟩).before args U = true := h.w 1090 (by decide +kernel) rfl args
theorem wd_1091 {U : State} (h : TB U) (args : Array Value) : (Cond.code ⟨"BigRunnerModel", "type", "(C)Z"⟩ prog_12_method_38_code 2 (some .boolean)).before args U = true := h.w 1091 (by decide +kernel) rfl args
theorem wd_1092 {U : State} (h : TB U) (args : Array Value) : (Cond.methodLink "BigRunnerLaw" 50 ⟨"BigRunnerModel", "wipe", "()V"⟩).before args U = true := h.w 1092 (by decide +kernel) rfl args
theorem wd_1093 {U : State} (h : TB U) (args : Array Value) : (Cond.instanceMethod ⟨"BigRunnerModel", "wipe", "()V"⟩).before args U = true := h.w 1093 (by decide +kernel) rfl args
theorem wd_1094 {U : State} (h : TB U) (args : Array Value) : (Cond.selects "BigRunnerModel" ⟨"BigRunnerModel", "wipe", "()V"⟩ ⟨"BigRunnerModel", "wipe", "()V"⟩).before args U = true := h.w 1094 (by decide +kernel) rfl args
theorem wd_1095 {U : State} (h : TB U) (args : Array Value) : (Cond.code ⟨"BigRunnerModel", "wipe", "()V"⟩ prog_12_method_39_code 1 none).before args U = true := h.w 1095 (by decide +kernel) rfl args
theorem wd_1096 {U : State} (h : TB U) (args : Array Value) : (Cond.methodLink "BigRunnerLaw" 56 ⟨"BigRunnerModel", "load", "()I"⟩).before args U = true := h.w 1096 (by decide +kernel) rfl args
theorem wd_1097 {U : State} (h : TB U) (args : Array Value) : (Cond.instanceMethod ⟨"BigRunnerModel", "load", "()I"⟩).before args U = true := h.w 1097 (by decide +kernel) rfl args
theorem wd_1098 {U : State} (h : TB U) (args : Array Value) : (Cond.selects "BigRunnerModel" ⟨"BigRunnerModel", "load", "()I"⟩ ⟨"BigRunnerModel", "load", "()I"⟩).before args U = true := h.w 1098 (by decide +kernel) rfl args
theorem wd_1099 {U : State} (h : TB U) (args : Array Value) : (Cond.code ⟨"BigRunnerModel", "load", "()I"⟩ prog_12_method_40_code 2 (some .int)).before args U = true := h.w 1099 (by decide +kernel) rfl args
theorem wd_1190 {U : State} (h : TB U) (args : Array Value) : (Cond.methodLink "BigRunnerLaw" 64 ⟨"BigRunnerModel", "give", "(I)Z"⟩).before args U = true := h.w 1190 (by decide +kernel) rfl args
theorem wd_1191 {U : State} (h : TB U) (args : Array Value) : (Cond.instanceMethod ⟨"BigRunnerModel", "give", "(I)Z"⟩).before args U = true := h.w 1191 (by decide +kernel) rfl args
theorem wd_1192 {U : State} (h : TB U) (args : Array Value) : (Cond.selects "BigRunnerModel" ⟨"BigRunnerModel", "give", "(I)Z"⟩ ⟨"BigRunnerModel", "give", "(I)Z"⟩).before args U = true := h.w 1192 (by decide +kernel) rfl args
theorem wd_1193 {U : State} (h : TB U) (args : Array Value) : (Cond.code ⟨"BigRunnerModel", "give", "(I)Z"⟩ prog_12_method_41_code 2 (some .boolean)).before args U = true := h.w 1193 (by decide +kernel) rfl args
theorem wd_1196 {U : State} (h : TB U) (args : Array Value) : (Cond.methodLink "BigRunnerLaw" 68 ⟨"BigRunnerModel", "run", "(I)I"⟩).before args U = true := h.w 1196 (by decide +kernel) rfl args
theorem wd_1197 {U : State} (h : TB U) (args : Array Value) : (Cond.instanceMethod ⟨"BigRunnerModel", "run", "(I)I"⟩).before args U = true := h.w 1197 (by decide +kernel) rfl args
theorem wd_1198 {U : State} (h : TB U) (args : Array Value) : (Cond.selects "BigRunnerModel" ⟨"BigRunnerModel", "run", "(I)I"⟩ ⟨"BigRunnerModel", "run", "(I)I"⟩).before args U = true := h.w 1198 (by decide +kernel) rfl args
theorem wd_1199 {U : State} (h : TB U) (args : Array Value) : (Cond.code ⟨"BigRunnerModel", "run", "(I)I"⟩ prog_12_method_45_code 3 (some .int)).before args U = true := h.w 1199 (by decide +kernel) rfl args
theorem wd_1262 {U : State} (h : TB U) (args : Array Value) : (Cond.methodLink "BigRunnerLaw" 72 ⟨"BigRunnerModel", "look", "(I)I"⟩).before args U = true := h.w 1262 (by decide +kernel) rfl args
theorem wd_1263 {U : State} (h : TB U) (args : Array Value) : (Cond.instanceMethod ⟨"BigRunnerModel", "look", "(I)I"⟩).before args U = true := h.w 1263 (by decide +kernel) rfl args
theorem wd_1264 {U : State} (h : TB U) (args : Array Value) : (Cond.selects "BigRunnerModel" ⟨"BigRunnerModel", "look", "(I)I"⟩ ⟨"BigRunnerModel", "look", "(I)I"⟩).before args U = true := h.w 1264 (by decide +kernel) rfl args
theorem wd_1265 {U : State} (h : TB U) (args : Array Value) : (Cond.code ⟨"BigRunnerModel", "look", "(I)I"⟩ prog_12_method_46_code 2 (some .int)).before args U = true := h.w 1265 (by decide +kernel) rfl args
theorem wd_1266 {U : State} (h : TB U) (args : Array Value) : (Cond.methodLink "BigRunnerLaw" 76 ⟨"BigRunnerModel", "bound", "(IZ)J"⟩).before args U = true := h.w 1266 (by decide +kernel) rfl args
theorem wd_1267 {U : State} (h : TB U) (args : Array Value) : (Cond.instanceMethod ⟨"BigRunnerModel", "bound", "(IZ)J"⟩).before args U = true := h.w 1267 (by decide +kernel) rfl args
theorem wd_1268 {U : State} (h : TB U) (args : Array Value) : (Cond.selects "BigRunnerModel" ⟨"BigRunnerModel", "bound", "(IZ)J"⟩ ⟨"BigRunnerModel", "bound", "(IZ)J"⟩).before args U = true := h.w 1268 (by decide +kernel) rfl args
theorem wd_1269 {U : State} (h : TB U) (args : Array Value) : (Cond.code ⟨"BigRunnerModel", "bound", "(IZ)J"⟩ prog_12_method_47_code 4 (some .long)).before args U = true := h.w 1269 (by decide +kernel) rfl args
theorem wd_1270 {U : State} (h : TB U) (args : Array Value) : (Cond.methodLink "BigRunnerLaw" 80 ⟨"BigRunnerModel", "small", "(I)Z"⟩).before args U = true := h.w 1270 (by decide +kernel) rfl args
theorem wd_1271 {U : State} (h : TB U) (args : Array Value) : (Cond.instanceMethod ⟨"BigRunnerModel", "small", "(I)Z"⟩).before args U = true := h.w 1271 (by decide +kernel) rfl args
theorem wd_1272 {U : State} (h : TB U) (args : Array Value) : (Cond.selects "BigRunnerModel" ⟨"BigRunnerModel", "small", "(I)Z"⟩ ⟨"BigRunnerModel", "small", "(I)Z"⟩).before args U = true := h.w 1272 (by decide +kernel) rfl args
theorem wd_1273 {U : State} (h : TB U) (args : Array Value) : (Cond.code ⟨"BigRunnerModel", "small", "(I)Z"⟩ prog_12_method_48_code 2 (some .boolean)).before args U = true := h.w 1273 (by decide +kernel) rfl args
theorem wd_1274 {U : State} (h : TB U) (args : Array Value) : (Cond.methodLink "BigRunnerLaw" 84 ⟨"BigRunnerModel", "variable", "(II)I"⟩).before args U = true := h.w 1274 (by decide +kernel) rfl args
theorem wd_1275 {U : State} (h : TB U) (args : Array Value) : (Cond.instanceMethod ⟨"BigRunnerModel", "variable", "(II)I"⟩).before args U = true := h.w 1275 (by decide +kernel) rfl args
theorem wd_1276 {U : State} (h : TB U) (args : Array Value) : (Cond.selects "BigRunnerModel" ⟨"BigRunnerModel", "variable", "(II)I"⟩ ⟨"BigRunnerModel", "variable", "(II)I"⟩).before args U = true := h.w 1276 (by decide +kernel) rfl args
theorem wd_1277 {U : State} (h : TB U) (args : Array Value) : (Cond.code ⟨"BigRunnerModel", "variable", "(II)I"⟩ prog_12_method_50_code 4 (some .int)).before args U = true := h.w 1277 (by decide +kernel) rfl args
theorem wd_1281 {U : State} (h : TB U) (args : Array Value) : (Cond.methodLink "BigRunnerLaw" 87 ⟨"BigRunnerModel", "output", "(II)I"⟩).before args U = true := h.w 1281 (by decide +kernel) rfl args
theorem wd_1282 {U : State} (h : TB U) (args : Array Value) : (Cond.instanceMethod ⟨"BigRunnerModel", "output", "(II)I"⟩).before args U = true := h.w 1282 (by decide +kernel) rfl args
theorem wd_1283 {U : State} (h : TB U) (args : Array Value) : (Cond.selects "BigRunnerModel" ⟨"BigRunnerModel", "output", "(II)I"⟩ ⟨"BigRunnerModel", "output", "(II)I"⟩).before args U = true := h.w 1283 (by decide +kernel) rfl args
theorem wd_1284 {U : State} (h : TB U) (args : Array Value) : (Cond.code ⟨"BigRunnerModel", "output", "(II)I"⟩ prog_12_method_51_code 4 (some .int)).before args U = true := h.w 1284 (by decide +kernel) rfl args
theorem d_L_law_0 : decode code 0 = .ok (.new 8, 3) := by decide +kernel
theorem d_L_law_3 : decode code 3 = .ok (.dup, 1) := by decide +kernel
theorem d_L_law_4 : decode code 4 = .ok (.invokespecial 38, 3) := by decide +kernel
theorem d_L_law_7 : decode code 7 = .ok (.astore_n 1, 1) := by decide +kernel
theorem d_L_law_8 : decode code 8 = .ok (.new 39, 3) := by decide +kernel
theorem d_L_law_11 : decode code 11 = .ok (.dup, 1) := by decide +kernel
theorem d_L_law_12 : decode code 12 = .ok (.invokespecial 41, 3) := by decide +kernel
theorem d_L_law_15 : decode code 15 = .ok (.astore_n 2, 1) := by decide +kernel
theorem d_L_law_16 : decode code 16 = .ok (.iconst 1, 1) := by decide +kernel
theorem d_L_law_17 : decode code 17 = .ok (.newarray .long, 2) := by decide +kernel
theorem d_L_law_19 : decode code 19 = .ok (.astore_n 3, 1) := by decide +kernel
theorem d_L_law_20 : decode code 20 = .ok (.iconst 0, 1) := by decide +kernel
theorem d_L_law_21 : decode code 21 = .ok (.istore 4, 2) := by decide +kernel
theorem d_L_law_23 : decode code 23 = .ok (.iload 4, 2) := by decide +kernel
theorem d_L_law_25 : decode code 25 = .ok (.aload_n 0, 1) := by decide +kernel
theorem d_L_law_26 : decode code 26 = .ok (.arraylength, 1) := by decide +kernel
theorem d_L_law_27 : decode code 27 = .ok (.iconst 3, 1) := by decide +kernel
theorem d_L_law_28 : decode code 28 = .ok (.isub, 1) := by decide +kernel
theorem d_L_law_29 : decode code 29 = .ok (.if_icmp .gt 501, 3) := by decide +kernel
theorem d_L_law_32 : decode code 32 = .ok (.aload_n 0, 1) := by decide +kernel
theorem d_L_law_33 : decode code 33 = .ok (.iload 4, 2) := by decide +kernel
theorem d_L_law_35 : decode code 35 = .ok (.iaload, 1) := by decide +kernel
theorem d_L_law_36 : decode code 36 = .ok (.bipush 15, 2) := by decide +kernel
theorem d_L_law_38 : decode code 38 = .ok (.iand, 1) := by decide +kernel
theorem d_L_law_39 : decode code 39 = .ok (.tableswitch 485 0 9 #[53, 80, 91, 135, 160, 216, 241, 324, 349, 417], 53) := by decide +kernel
theorem d_L_law_92 : decode code 92 = .ok (.aload_n 1, 1) := by decide +kernel
theorem d_L_law_93 : decode code 93 = .ok (.aload_n 0, 1) := by decide +kernel
theorem d_L_law_94 : decode code 94 = .ok (.iload 4, 2) := by decide +kernel
theorem d_L_law_96 : decode code 96 = .ok (.iconst 1, 1) := by decide +kernel
theorem d_L_law_97 : decode code 97 = .ok (.iadd, 1) := by decide +kernel
theorem d_L_law_98 : decode code 98 = .ok (.iaload, 1) := by decide +kernel
theorem d_L_law_99 : decode code 99 = .ok (.i2c, 1) := by decide +kernel
theorem d_L_law_100 : decode code 100 = .ok (.invokevirtual 42, 3) := by decide +kernel
theorem d_L_law_103 : decode code 103 = .ok (.aload_n 2, 1) := by decide +kernel
theorem d_L_law_104 : decode code 104 = .ok (.aload_n 0, 1) := by decide +kernel
theorem d_L_law_105 : decode code 105 = .ok (.iload 4, 2) := by decide +kernel
theorem d_L_law_107 : decode code 107 = .ok (.iconst 1, 1) := by decide +kernel
theorem d_L_law_108 : decode code 108 = .ok (.iadd, 1) := by decide +kernel
theorem d_L_law_109 : decode code 109 = .ok (.iaload, 1) := by decide +kernel
theorem d_L_law_110 : decode code 110 = .ok (.i2c, 1) := by decide +kernel
theorem d_L_law_111 : decode code 111 = .ok (.invokevirtual 46, 3) := by decide +kernel
theorem d_L_law_114 : decode code 114 = .ok (.if_icmp .eq 410, 3) := by decide +kernel
theorem d_L_law_119 : decode code 119 = .ok (.aload_n 1, 1) := by decide +kernel
theorem d_L_law_120 : decode code 120 = .ok (.invokevirtual 47, 3) := by decide +kernel
theorem d_L_law_123 : decode code 123 = .ok (.aload_n 2, 1) := by decide +kernel
theorem d_L_law_124 : decode code 124 = .ok (.invokevirtual 50, 3) := by decide +kernel
theorem d_L_law_127 : decode code 127 = .ok (.goto 397, 3) := by decide +kernel
theorem d_L_law_130 : decode code 130 = .ok (.aload_n 1, 1) := by decide +kernel
theorem d_L_law_131 : decode code 131 = .ok (.aload_n 3, 1) := by decide +kernel
theorem d_L_law_132 : decode code 132 = .ok (.invokestatic 51, 3) := by decide +kernel
theorem d_L_law_135 : decode code 135 = .ok (.istore 5, 2) := by decide +kernel
theorem d_L_law_137 : decode code 137 = .ok (.aload_n 2, 1) := by decide +kernel
theorem d_L_law_138 : decode code 138 = .ok (.invokevirtual 56, 3) := by decide +kernel
theorem d_L_law_141 : decode code 141 = .ok (.istore 6, 2) := by decide +kernel
theorem d_L_law_143 : decode code 143 = .ok (.aload_n 2, 1) := by decide +kernel
theorem d_L_law_144 : decode code 144 = .ok (.invokevirtual 57, 3) := by decide +kernel
theorem d_L_law_147 : decode code 147 = .ok (.iload 5, 2) := by decide +kernel
theorem d_L_law_149 : decode code 149 = .ok (.if_icmp .eq 5, 3) := by decide +kernel
theorem d_L_law_154 : decode code 154 = .ok (.iload 5, 2) := by decide +kernel
theorem d_L_law_156 : decode code 156 = .ok (.ifCond .ne 15, 3) := by decide +kernel
theorem d_L_law_171 : decode code 171 = .ok (.goto 353, 3) := by decide +kernel
theorem d_L_law_174 : decode code 174 = .ok (.aload_n 1, 1) := by decide +kernel
theorem d_L_law_175 : decode code 175 = .ok (.aload_n 0, 1) := by decide +kernel
theorem d_L_law_176 : decode code 176 = .ok (.iload 4, 2) := by decide +kernel
theorem d_L_law_178 : decode code 178 = .ok (.iconst 1, 1) := by decide +kernel
theorem d_L_law_179 : decode code 179 = .ok (.iadd, 1) := by decide +kernel
theorem d_L_law_180 : decode code 180 = .ok (.iaload, 1) := by decide +kernel
theorem d_L_law_181 : decode code 181 = .ok (.invokevirtual 60, 3) := by decide +kernel
theorem d_L_law_184 : decode code 184 = .ok (.aload_n 2, 1) := by decide +kernel
theorem d_L_law_185 : decode code 185 = .ok (.aload_n 0, 1) := by decide +kernel
theorem d_L_law_186 : decode code 186 = .ok (.iload 4, 2) := by decide +kernel
theorem d_L_law_188 : decode code 188 = .ok (.iconst 1, 1) := by decide +kernel
theorem d_L_law_189 : decode code 189 = .ok (.iadd, 1) := by decide +kernel
theorem d_L_law_190 : decode code 190 = .ok (.iaload, 1) := by decide +kernel
theorem d_L_law_191 : decode code 191 = .ok (.invokevirtual 64, 3) := by decide +kernel
theorem d_L_law_194 : decode code 194 = .ok (.if_icmp .eq 330, 3) := by decide +kernel
theorem d_L_law_199 : decode code 199 = .ok (.aload_n 1, 1) := by decide +kernel
theorem d_L_law_200 : decode code 200 = .ok (.aload_n 0, 1) := by decide +kernel
theorem d_L_law_201 : decode code 201 = .ok (.iload 4, 2) := by decide +kernel
theorem d_L_law_203 : decode code 203 = .ok (.iconst 1, 1) := by decide +kernel
theorem d_L_law_204 : decode code 204 = .ok (.iadd, 1) := by decide +kernel
theorem d_L_law_205 : decode code 205 = .ok (.iaload, 1) := by decide +kernel
theorem d_L_law_206 : decode code 206 = .ok (.aload_n 3, 1) := by decide +kernel
theorem d_L_law_207 : decode code 207 = .ok (.invokestatic 65, 3) := by decide +kernel
theorem d_L_law_210 : decode code 210 = .ok (.istore 5, 2) := by decide +kernel
theorem d_L_law_212 : decode code 212 = .ok (.aload_n 2, 1) := by decide +kernel
theorem d_L_law_213 : decode code 213 = .ok (.aload_n 0, 1) := by decide +kernel
theorem d_L_law_214 : decode code 214 = .ok (.iload 4, 2) := by decide +kernel
theorem d_L_law_216 : decode code 216 = .ok (.iconst 1, 1) := by decide +kernel
theorem d_L_law_217 : decode code 217 = .ok (.iadd, 1) := by decide +kernel
theorem d_L_law_218 : decode code 218 = .ok (.iaload, 1) := by decide +kernel
theorem d_L_law_219 : decode code 219 = .ok (.invokevirtual 68, 3) := by decide +kernel
theorem d_L_law_222 : decode code 222 = .ok (.istore 6, 2) := by decide +kernel
theorem d_L_law_224 : decode code 224 = .ok (.aload_n 2, 1) := by decide +kernel
theorem d_L_law_225 : decode code 225 = .ok (.invokevirtual 57, 3) := by decide +kernel
theorem d_L_law_228 : decode code 228 = .ok (.iload 5, 2) := by decide +kernel
theorem d_L_law_230 : decode code 230 = .ok (.if_icmp .eq 5, 3) := by decide +kernel
theorem d_L_law_235 : decode code 235 = .ok (.iload 5, 2) := by decide +kernel
theorem d_L_law_237 : decode code 237 = .ok (.ifCond .ne 15, 3) := by decide +kernel
theorem d_L_law_252 : decode code 252 = .ok (.goto 272, 3) := by decide +kernel
theorem d_L_law_255 : decode code 255 = .ok (.aload_n 1, 1) := by decide +kernel
theorem d_L_law_256 : decode code 256 = .ok (.aload_n 0, 1) := by decide +kernel
theorem d_L_law_257 : decode code 257 = .ok (.iload 4, 2) := by decide +kernel
theorem d_L_law_259 : decode code 259 = .ok (.iconst 1, 1) := by decide +kernel
theorem d_L_law_260 : decode code 260 = .ok (.iadd, 1) := by decide +kernel
theorem d_L_law_261 : decode code 261 = .ok (.iaload, 1) := by decide +kernel
theorem d_L_law_262 : decode code 262 = .ok (.invokevirtual 69, 3) := by decide +kernel
theorem d_L_law_265 : decode code 265 = .ok (.aload_n 2, 1) := by decide +kernel
theorem d_L_law_266 : decode code 266 = .ok (.aload_n 0, 1) := by decide +kernel
theorem d_L_law_267 : decode code 267 = .ok (.iload 4, 2) := by decide +kernel
theorem d_L_law_269 : decode code 269 = .ok (.iconst 1, 1) := by decide +kernel
theorem d_L_law_270 : decode code 270 = .ok (.iadd, 1) := by decide +kernel
theorem d_L_law_271 : decode code 271 = .ok (.iaload, 1) := by decide +kernel
theorem d_L_law_272 : decode code 272 = .ok (.invokevirtual 72, 3) := by decide +kernel
theorem d_L_law_275 : decode code 275 = .ok (.if_icmp .eq 249, 3) := by decide +kernel
theorem d_L_law_280 : decode code 280 = .ok (.aload_n 1, 1) := by decide +kernel
theorem d_L_law_281 : decode code 281 = .ok (.aload_n 0, 1) := by decide +kernel
theorem d_L_law_282 : decode code 282 = .ok (.iload 4, 2) := by decide +kernel
theorem d_L_law_284 : decode code 284 = .ok (.iconst 1, 1) := by decide +kernel
theorem d_L_law_285 : decode code 285 = .ok (.iadd, 1) := by decide +kernel
theorem d_L_law_286 : decode code 286 = .ok (.iaload, 1) := by decide +kernel
theorem d_L_law_287 : decode code 287 = .ok (.aload_n 0, 1) := by decide +kernel
theorem d_L_law_288 : decode code 288 = .ok (.iload 4, 2) := by decide +kernel
theorem d_L_law_290 : decode code 290 = .ok (.iconst 2, 1) := by decide +kernel
theorem d_L_law_291 : decode code 291 = .ok (.iadd, 1) := by decide +kernel
theorem d_L_law_292 : decode code 292 = .ok (.iaload, 1) := by decide +kernel
theorem d_L_law_293 : decode code 293 = .ok (.ifCond .eq 7, 3) := by decide +kernel
theorem d_L_law_296 : decode code 296 = .ok (.iconst 1, 1) := by decide +kernel
theorem d_L_law_297 : decode code 297 = .ok (.goto 4, 3) := by decide +kernel
theorem d_L_law_300 : decode code 300 = .ok (.iconst 0, 1) := by decide +kernel
theorem d_L_law_301 : decode code 301 = .ok (.aload_n 3, 1) := by decide +kernel
theorem d_L_law_302 : decode code 302 = .ok (.invokestatic 73, 3) := by decide +kernel
theorem d_L_law_305 : decode code 305 = .ok (.istore 5, 2) := by decide +kernel
theorem d_L_law_307 : decode code 307 = .ok (.aload_n 2, 1) := by decide +kernel
theorem d_L_law_308 : decode code 308 = .ok (.aload_n 0, 1) := by decide +kernel
theorem d_L_law_309 : decode code 309 = .ok (.iload 4, 2) := by decide +kernel
theorem d_L_law_311 : decode code 311 = .ok (.iconst 1, 1) := by decide +kernel
theorem d_L_law_312 : decode code 312 = .ok (.iadd, 1) := by decide +kernel
theorem d_L_law_313 : decode code 313 = .ok (.iaload, 1) := by decide +kernel
theorem d_L_law_314 : decode code 314 = .ok (.aload_n 0, 1) := by decide +kernel
theorem d_L_law_315 : decode code 315 = .ok (.iload 4, 2) := by decide +kernel
theorem d_L_law_317 : decode code 317 = .ok (.iconst 2, 1) := by decide +kernel
theorem d_L_law_318 : decode code 318 = .ok (.iadd, 1) := by decide +kernel
theorem d_L_law_319 : decode code 319 = .ok (.iaload, 1) := by decide +kernel
theorem d_L_law_320 : decode code 320 = .ok (.ifCond .eq 7, 3) := by decide +kernel
theorem d_L_law_323 : decode code 323 = .ok (.iconst 1, 1) := by decide +kernel
theorem d_L_law_324 : decode code 324 = .ok (.goto 4, 3) := by decide +kernel
theorem d_L_law_327 : decode code 327 = .ok (.iconst 0, 1) := by decide +kernel
theorem d_L_law_328 : decode code 328 = .ok (.invokevirtual 76, 3) := by decide +kernel
theorem d_L_law_331 : decode code 331 = .ok (.lstore 6, 2) := by decide +kernel
theorem d_L_law_333 : decode code 333 = .ok (.aload_n 2, 1) := by decide +kernel
theorem d_L_law_334 : decode code 334 = .ok (.invokevirtual 57, 3) := by decide +kernel
theorem d_L_law_337 : decode code 337 = .ok (.iload 5, 2) := by decide +kernel
theorem d_L_law_339 : decode code 339 = .ok (.if_icmp .eq 5, 3) := by decide +kernel
theorem d_L_law_344 : decode code 344 = .ok (.iload 5, 2) := by decide +kernel
theorem d_L_law_346 : decode code 346 = .ok (.ifCond .ne 14, 3) := by decide +kernel
theorem d_L_law_360 : decode code 360 = .ok (.goto 164, 3) := by decide +kernel
theorem d_L_law_363 : decode code 363 = .ok (.aload_n 1, 1) := by decide +kernel
theorem d_L_law_364 : decode code 364 = .ok (.aload_n 0, 1) := by decide +kernel
theorem d_L_law_365 : decode code 365 = .ok (.iload 4, 2) := by decide +kernel
theorem d_L_law_367 : decode code 367 = .ok (.iconst 1, 1) := by decide +kernel
theorem d_L_law_368 : decode code 368 = .ok (.iadd, 1) := by decide +kernel
theorem d_L_law_369 : decode code 369 = .ok (.iaload, 1) := by decide +kernel
theorem d_L_law_370 : decode code 370 = .ok (.invokevirtual 77, 3) := by decide +kernel
theorem d_L_law_373 : decode code 373 = .ok (.aload_n 2, 1) := by decide +kernel
theorem d_L_law_374 : decode code 374 = .ok (.aload_n 0, 1) := by decide +kernel
theorem d_L_law_375 : decode code 375 = .ok (.iload 4, 2) := by decide +kernel
theorem d_L_law_377 : decode code 377 = .ok (.iconst 1, 1) := by decide +kernel
theorem d_L_law_378 : decode code 378 = .ok (.iadd, 1) := by decide +kernel
theorem d_L_law_379 : decode code 379 = .ok (.iaload, 1) := by decide +kernel
theorem d_L_law_380 : decode code 380 = .ok (.invokevirtual 80, 3) := by decide +kernel
theorem d_L_law_383 : decode code 383 = .ok (.if_icmp .eq 141, 3) := by decide +kernel
theorem d_L_law_388 : decode code 388 = .ok (.aload_n 1, 1) := by decide +kernel
theorem d_L_law_389 : decode code 389 = .ok (.aload_n 0, 1) := by decide +kernel
theorem d_L_law_390 : decode code 390 = .ok (.iload 4, 2) := by decide +kernel
theorem d_L_law_392 : decode code 392 = .ok (.iconst 1, 1) := by decide +kernel
theorem d_L_law_393 : decode code 393 = .ok (.iadd, 1) := by decide +kernel
theorem d_L_law_394 : decode code 394 = .ok (.iaload, 1) := by decide +kernel
theorem d_L_law_395 : decode code 395 = .ok (.aload_n 0, 1) := by decide +kernel
theorem d_L_law_396 : decode code 396 = .ok (.iload 4, 2) := by decide +kernel
theorem d_L_law_398 : decode code 398 = .ok (.iconst 2, 1) := by decide +kernel
theorem d_L_law_399 : decode code 399 = .ok (.iadd, 1) := by decide +kernel
theorem d_L_law_400 : decode code 400 = .ok (.iaload, 1) := by decide +kernel
theorem d_L_law_401 : decode code 401 = .ok (.aload_n 3, 1) := by decide +kernel
theorem d_L_law_402 : decode code 402 = .ok (.invokestatic 81, 3) := by decide +kernel
theorem d_L_law_405 : decode code 405 = .ok (.istore 5, 2) := by decide +kernel
theorem d_L_law_407 : decode code 407 = .ok (.aload_n 2, 1) := by decide +kernel
theorem d_L_law_408 : decode code 408 = .ok (.aload_n 0, 1) := by decide +kernel
theorem d_L_law_409 : decode code 409 = .ok (.iload 4, 2) := by decide +kernel
theorem d_L_law_411 : decode code 411 = .ok (.iconst 1, 1) := by decide +kernel
theorem d_L_law_412 : decode code 412 = .ok (.iadd, 1) := by decide +kernel
theorem d_L_law_413 : decode code 413 = .ok (.iaload, 1) := by decide +kernel
theorem d_L_law_414 : decode code 414 = .ok (.aload_n 0, 1) := by decide +kernel
theorem d_L_law_415 : decode code 415 = .ok (.iload 4, 2) := by decide +kernel
theorem d_L_law_417 : decode code 417 = .ok (.iconst 2, 1) := by decide +kernel
theorem d_L_law_418 : decode code 418 = .ok (.iadd, 1) := by decide +kernel
theorem d_L_law_419 : decode code 419 = .ok (.iaload, 1) := by decide +kernel
theorem d_L_law_420 : decode code 420 = .ok (.invokevirtual 84, 3) := by decide +kernel
theorem d_L_law_423 : decode code 423 = .ok (.istore 6, 2) := by decide +kernel
theorem d_L_law_425 : decode code 425 = .ok (.aload_n 2, 1) := by decide +kernel
theorem d_L_law_426 : decode code 426 = .ok (.invokevirtual 57, 3) := by decide +kernel
theorem d_L_law_429 : decode code 429 = .ok (.iload 5, 2) := by decide +kernel
theorem d_L_law_431 : decode code 431 = .ok (.if_icmp .eq 5, 3) := by decide +kernel
theorem d_L_law_436 : decode code 436 = .ok (.iload 5, 2) := by decide +kernel
theorem d_L_law_438 : decode code 438 = .ok (.ifCond .ne 15, 3) := by decide +kernel
theorem d_L_law_453 : decode code 453 = .ok (.goto 71, 3) := by decide +kernel
theorem d_L_law_456 : decode code 456 = .ok (.aload_n 1, 1) := by decide +kernel
theorem d_L_law_457 : decode code 457 = .ok (.aload_n 0, 1) := by decide +kernel
theorem d_L_law_458 : decode code 458 = .ok (.iload 4, 2) := by decide +kernel
theorem d_L_law_460 : decode code 460 = .ok (.iconst 1, 1) := by decide +kernel
theorem d_L_law_461 : decode code 461 = .ok (.iadd, 1) := by decide +kernel
theorem d_L_law_462 : decode code 462 = .ok (.iaload, 1) := by decide +kernel
theorem d_L_law_463 : decode code 463 = .ok (.aload_n 0, 1) := by decide +kernel
theorem d_L_law_464 : decode code 464 = .ok (.iload 4, 2) := by decide +kernel
theorem d_L_law_466 : decode code 466 = .ok (.iconst 2, 1) := by decide +kernel
theorem d_L_law_467 : decode code 467 = .ok (.iadd, 1) := by decide +kernel
theorem d_L_law_468 : decode code 468 = .ok (.iaload, 1) := by decide +kernel
theorem d_L_law_469 : decode code 469 = .ok (.aload_n 3, 1) := by decide +kernel
theorem d_L_law_470 : decode code 470 = .ok (.invokestatic 85, 3) := by decide +kernel
theorem d_L_law_473 : decode code 473 = .ok (.istore 5, 2) := by decide +kernel
theorem d_L_law_475 : decode code 475 = .ok (.aload_n 2, 1) := by decide +kernel
theorem d_L_law_476 : decode code 476 = .ok (.aload_n 0, 1) := by decide +kernel
theorem d_L_law_477 : decode code 477 = .ok (.iload 4, 2) := by decide +kernel
theorem d_L_law_479 : decode code 479 = .ok (.iconst 1, 1) := by decide +kernel
theorem d_L_law_480 : decode code 480 = .ok (.iadd, 1) := by decide +kernel
theorem d_L_law_481 : decode code 481 = .ok (.iaload, 1) := by decide +kernel
theorem d_L_law_482 : decode code 482 = .ok (.aload_n 0, 1) := by decide +kernel
theorem d_L_law_483 : decode code 483 = .ok (.iload 4, 2) := by decide +kernel
theorem d_L_law_485 : decode code 485 = .ok (.iconst 2, 1) := by decide +kernel
theorem d_L_law_486 : decode code 486 = .ok (.iadd, 1) := by decide +kernel
theorem d_L_law_487 : decode code 487 = .ok (.iaload, 1) := by decide +kernel
theorem d_L_law_488 : decode code 488 = .ok (.invokevirtual 87, 3) := by decide +kernel
theorem d_L_law_491 : decode code 491 = .ok (.istore 6, 2) := by decide +kernel
theorem d_L_law_493 : decode code 493 = .ok (.aload_n 2, 1) := by decide +kernel
theorem d_L_law_494 : decode code 494 = .ok (.invokevirtual 57, 3) := by decide +kernel
theorem d_L_law_497 : decode code 497 = .ok (.iload 5, 2) := by decide +kernel
theorem d_L_law_499 : decode code 499 = .ok (.if_icmp .eq 5, 3) := by decide +kernel
theorem d_L_law_504 : decode code 504 = .ok (.iload 5, 2) := by decide +kernel
theorem d_L_law_506 : decode code 506 = .ok (.ifCond .ne 15, 3) := by decide +kernel
theorem d_L_law_521 : decode code 521 = .ok (.goto 3, 3) := by decide +kernel
theorem d_L_law_524 : decode code 524 = .ok (.iinc 4 3, 3) := by decide +kernel
theorem d_L_law_527 : decode code 527 = .ok (.goto (-504), 3) := by decide +kernel
theorem d_L_law_530 : decode code 530 = .ok (.iconst 1, 1) := by decide +kernel
theorem d_L_law_531 : decode code 531 = .ok (.ireturn, 1) := by decide +kernel
