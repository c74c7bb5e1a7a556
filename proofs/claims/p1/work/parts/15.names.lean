theorem wd_41 {U : State} (h : TB U) (args : Array Value) : (Cond.selects "BigRunnerModel" ⟨"BigRunnerModel", "reads", "()Z"⟩ ⟨"BigRunnerModel", "reads", "()Z"⟩).before args U = true := h.w 41 (by decide +kernel) rfl args
theorem wd_42 {U : State} (h : TB U) (args : Array Value) : (Cond.selects "BigRunnerModel" ⟨"BigRunnerModel", "statement", "()Z"⟩ ⟨"BigRunnerModel", "statement", "()Z"⟩).before args U = true := h.w 42 (by decide +kernel) rfl args
theorem wd_43 {U : State} (h : TB U) (args : Array Value) : (Cond.selects "BigRunnerModel" ⟨"BigRunnerModel", "here", "()C"⟩ ⟨"BigRunnerModel", "here", "()C"⟩).before args U = true := h.w 43 (by decide +kernel) rfl args
theorem wd_82 {U : State} (h : TB U) (args : Array Value) : (Cond.initialized "BigRunnerModel").before args U = true := h.w 82 (by decide +kernel) rfl args
theorem wd_946 {U : State} (h : TB U) (args : Array Value) : (Cond.methodLink "BigRunnerModel" 1 ⟨"java/lang/Object", "<init>", "()V"⟩).before args U = true := h.w 946 (by decide +kernel) rfl args
theorem wd_947 {U : State} (h : TB U) (args : Array Value) : (Cond.fieldLink "BigRunnerModel" 94 "BigRunnerModel" "thrown" "I").before args U = true := h.w 947 (by decide +kernel) rfl args
theorem wd_948 {U : State} (h : TB U) (args : Array Value) : (Cond.fieldLink "BigRunnerModel" 7 "BigRunnerModel" "text" "[C").before args U = true := h.w 948 (by decide +kernel) rfl args
theorem wd_949 {U : State} (h : TB U) (args : Array Value) : (Cond.fieldLink "BigRunnerModel" 101 "BigRunnerModel" "length" "I").before args U = true := h.w 949 (by decide +kernel) rfl args
theorem wd_950 {U : State} (h : TB U) (args : Array Value) : (Cond.fieldLink "BigRunnerModel" 13 "BigRunnerModel" "draft" "[I").before args U = true := h.w 950 (by decide +kernel) rfl args
theorem wd_951 {U : State} (h : TB U) (args : Array Value) : (Cond.fieldLink "BigRunnerModel" 17 "BigRunnerModel" "draftArg" "[I").before args U = true := h.w 951 (by decide +kernel) rfl args
theorem wd_952 {U : State} (h : TB U) (args : Array Value) : (Cond.fieldLink "BigRunnerModel" 104 "BigRunnerModel" "drafts" "I").before args U = true := h.w 952 (by decide +kernel) rfl args
theorem wd_953 {U : State} (h : TB U) (args : Array Value) : (Cond.fieldLink "BigRunnerModel" 20 "BigRunnerModel" "code" "[I").before args U = true := h.w 953 (by decide +kernel) rfl args
theorem wd_954 {U : State} (h : TB U) (args : Array Value) : (Cond.fieldLink "BigRunnerModel" 23 "BigRunnerModel" "arg" "[I").before args U = true := h.w 954 (by decide +kernel) rfl args
theorem wd_955 {U : State} (h : TB U) (args : Array Value) : (Cond.fieldLink "BigRunnerModel" 26 "BigRunnerModel" "machineSign" "[Z").before args U = true := h.w 955 (by decide +kernel) rfl args
theorem wd_957 {U : State} (h : TB U) (args : Array Value) : (Cond.fieldLink "BigRunnerModel" 98 "BigRunnerModel" "at" "I").before args U = true := h.w 957 (by decide +kernel) rfl args
theorem wd_958 {U : State} (h : TB U) (args : Array Value) : (Cond.fieldLink "BigRunnerModel" 118 "BigRunnerModel" "depth" "I").before args U = true := h.w 958 (by decide +kernel) rfl args
theorem wd_959 {U : State} (h : TB U) (args : Array Value) : (Cond.fieldLink "BigRunnerModel" 30 "BigRunnerModel" "wait" "[C").before args U = true := h.w 959 (by decide +kernel) rfl args
theorem wd_961 {U : State} (h : TB U) (args : Array Value) : (Cond.fieldLink "BigRunnerModel" 33 "BigRunnerModel" "begins" "[I").before args U = true := h.w 961 (by decide +kernel) rfl args
theorem wd_962 {U : State} (h : TB U) (args : Array Value) : (Cond.fieldLink "BigRunnerModel" 36 "BigRunnerModel" "kinds" "[I").before args U = true := h.w 962 (by decide +kernel) rfl args
theorem wd_963 {U : State} (h : TB U) (args : Array Value) : (Cond.fieldLink "BigRunnerModel" 143 "BigRunnerModel" "opened" "I").before args U = true := h.w 963 (by decide +kernel) rfl args
theorem wd_964 {U : State} (h : TB U) (args : Array Value) : (Cond.fieldLink "BigRunnerModel" 39 "BigRunnerModel" "low" "[J").before args U = true := h.w 964 (by decide +kernel) rfl args
theorem wd_965 {U : State} (h : TB U) (args : Array Value) : (Cond.fieldLink "BigRunnerModel" 43 "BigRunnerModel" "high" "[J").before args U = true := h.w 965 (by decide +kernel) rfl args
theorem wd_966 {U : State} (h : TB U) (args : Array Value) : (Cond.fieldLink "BigRunnerModel" 46 "BigRunnerModel" "under" "[Z").before args U = true := h.w 966 (by decide +kernel) rfl args
theorem wd_967 {U : State} (h : TB U) (args : Array Value) : (Cond.fieldLink "BigRunnerModel" 49 "BigRunnerModel" "over" "[Z").before args U = true := h.w 967 (by decide +kernel) rfl args
theorem wd_968 {U : State} (h : TB U) (args : Array Value) : (Cond.fieldLink "BigRunnerModel" 52 "BigRunnerModel" "a" "[J").before args U = true := h.w 968 (by decide +kernel) rfl args
theorem wd_969 {U : State} (h : TB U) (args : Array Value) : (Cond.fieldLink "BigRunnerModel" 55 "BigRunnerModel" "b" "[J").before args U = true := h.w 969 (by decide +kernel) rfl args
theorem wd_970 {U : State} (h : TB U) (args : Array Value) : (Cond.fieldLink "BigRunnerModel" 58 "BigRunnerModel" "ua" "[Z").before args U = true := h.w 970 (by decide +kernel) rfl args
theorem wd_971 {U : State} (h : TB U) (args : Array Value) : (Cond.fieldLink "BigRunnerModel" 61 "BigRunnerModel" "ub" "[Z").before args U = true := h.w 971 (by decide +kernel) rfl args
theorem wd_972 {U : State} (h : TB U) (args : Array Value) : (Cond.fieldLink "BigRunnerModel" 64 "BigRunnerModel" "bounded" "[Z").before args U = true := h.w 972 (by decide +kernel) rfl args
theorem wd_973 {U : State} (h : TB U) (args : Array Value) : (Cond.fieldLink "BigRunnerModel" 67 "BigRunnerModel" "varLimbs" "[I").before args U = true := h.w 973 (by decide +kernel) rfl args
theorem wd_974 {U : State} (h : TB U) (args : Array Value) : (Cond.fieldLink "BigRunnerModel" 70 "BigRunnerModel" "varSign" "[I").before args U = true := h.w 974 (by decide +kernel) rfl args
theorem wd_975 {U : State} (h : TB U) (args : Array Value) : (Cond.fieldLink "BigRunnerModel" 73 "BigRunnerModel" "outLimbs" "[I").before args U = true := h.w 975 (by decide +kernel) rfl args
theorem wd_976 {U : State} (h : TB U) (args : Array Value) : (Cond.fieldLink "BigRunnerModel" 76 "BigRunnerModel" "outSign" "[I").before args U = true := h.w 976 (by decide +kernel) rfl args
theorem wd_977 {U : State} (h : TB U) (args : Array Value) : (Cond.fieldLink "BigRunnerModel" 79 "BigRunnerModel" "limbs" "[I").before args U = true := h.w 977 (by decide +kernel) rfl args
theorem wd_978 {U : State} (h : TB U) (args : Array Value) : (Cond.fieldLink "BigRunnerModel" 82 "BigRunnerModel" "sign" "[I").before args U = true := h.w 978 (by decide +kernel) rfl args
theorem wd_980 {U : State} (h : TB U) (args : Array Value) : (Cond.fieldLink "BigRunnerModel" 85 "BigRunnerModel" "result" "[I").before args U = true := h.w 980 (by decide +kernel) rfl args
theorem wd_981 {U : State} (h : TB U) (args : Array Value) : (Cond.fieldLink "BigRunnerModel" 88 "BigRunnerModel" "rest" "[I").before args U = true := h.w 981 (by decide +kernel) rfl args
theorem wd_982 {U : State} (h : TB U) (args : Array Value) : (Cond.fieldLink "BigRunnerModel" 91 "BigRunnerModel" "inputs" "[I").before args U = true := h.w 982 (by decide +kernel) rfl args
theorem wd_983 {U : State} (h : TB U) (args : Array Value) : (Cond.fieldLink "BigRunnerModel" 282 "BigRunnerModel" "waiting" "I").before args U = true := h.w 983 (by decide +kernel) rfl args
theorem wd_984 {U : State} (h : TB U) (args : Array Value) : (Cond.fieldLink "BigRunnerModel" 264 "BigRunnerModel" "given" "I").before args U = true := h.w 984 (by decide +kernel) rfl args
theorem wd_986 {U : State} (h : TB U) (args : Array Value) : (Cond.fieldLink "BigRunnerModel" 270 "BigRunnerModel" "state" "I").before args U = true := h.w 986 (by decide +kernel) rfl args
theorem wd_987 {U : State} (h : TB U) (args : Array Value) : (Cond.fieldLink "BigRunnerModel" 238 "BigRunnerModel" "trap" "I").before args U = true := h.w 987 (by decide +kernel) rfl args
theorem wd_988 {U : State} (h : TB U) (args : Array Value) : (Cond.fieldLink "BigRunnerModel" 273 "BigRunnerModel" "steps" "I").before args U = true := h.w 988 (by decide +kernel) rfl args
theorem wd_989 {U : State} (h : TB U) (args : Array Value) : (Cond.fieldLink "BigRunnerModel" 232 "BigRunnerModel" "machine" "I").before args U = true := h.w 989 (by decide +kernel) rfl args
theorem wd_990 {U : State} (h : TB U) (args : Array Value) : (Cond.fieldLink "BigRunnerModel" 235 "BigRunnerModel" "longs" "I").before args U = true := h.w 990 (by decide +kernel) rfl args
theorem wd_991 {U : State} (h : TB U) (args : Array Value) : (Cond.fieldLink "BigRunnerModel" 149 "BigRunnerModel" "dueStatement" "Z").before args U = true := h.w 991 (by decide +kernel) rfl args
theorem wd_1083 {U : State} (h : TB U) (args : Array Value) : (Cond.arrayClass .boolean).before args U = true := h.w 1083 (by decide +kernel) rfl args
theorem wd_1100 {U : State} (h : TB U) (args : Array Value) : (Cond.methodLink "BigRunnerModel" 261 ⟨"BigRunnerModel", "reads", "()Z"⟩).before args U = true := h.w 1100 (by decide +kernel) rfl args
theorem wd_1102 {U : State} (h : TB U) (args : Array Value) : (Cond.instanceMethod ⟨"BigRunnerModel", "reads", "()Z"⟩).before args U = true := h.w 1102 (by decide +kernel) rfl args
theorem wd_1103 {U : State} (h : TB U) (args : Array Value) : (Cond.code ⟨"BigRunnerModel", "reads", "()Z"⟩ prog_12_method_14_code 3 (some .boolean)).before args U = true := h.w 1103 (by decide +kernel) rfl args
theorem wd_1104 {U : State} (h : TB U) (args : Array Value) : (Cond.methodLink "BigRunnerModel" 153 ⟨"BigRunnerModel", "statement", "()Z"⟩).before args U = true := h.w 1104 (by decide +kernel) rfl args
theorem wd_1106 {U : State} (h : TB U) (args : Array Value) : (Cond.instanceMethod ⟨"BigRunnerModel", "statement", "()Z"⟩).before args U = true := h.w 1106 (by decide +kernel) rfl args
theorem wd_1107 {U : State} (h : TB U) (args : Array Value) : (Cond.code ⟨"BigRunnerModel", "statement", "()Z"⟩ prog_12_method_12_code 3 (some .boolean)).before args U = true := h.w 1107 (by decide +kernel) rfl args
theorem wd_1108 {U : State} (h : TB U) (args : Array Value) : (Cond.methodLink "BigRunnerModel" 121 ⟨"BigRunnerModel", "here", "()C"⟩).before args U = true := h.w 1108 (by decide +kernel) rfl args
theorem wd_1110 {U : State} (h : TB U) (args : Array Value) : (Cond.instanceMethod ⟨"BigRunnerModel", "here", "()C"⟩).before args U = true := h.w 1110 (by decide +kernel) rfl args
theorem wd_1111 {U : State} (h : TB U) (args : Array Value) : (Cond.code ⟨"BigRunnerModel", "here", "()C"⟩ prog_12_method_3_code 1 (some .char)).before args U = true := h.w 1111 (by decide +kernel) rfl args
theorem wd_1116 {U : State} (h : TB U) (args : Array Value) : (Cond.methodLink "BigRunnerModel" 129 ⟨"BigRunnerModel", "isName", "(C)Z"⟩).before args U = true := h.w 1116 (by decide +kernel) rfl args
theorem wd_1117 {U : State} (h : TB U) (args : Array Value) : (Cond.static ⟨"BigRunnerModel", "isName", "(C)Z"⟩).before args U = true := h.w 1117 (by decide +kernel) rfl args
theorem wd_1118 {U : State} (h : TB U) (args : Array Value) : (Cond.code ⟨"BigRunnerModel", "isName", "(C)Z"⟩ prog_12_method_6_code 1 (some .boolean)).before args U = true := h.w 1118 (by decide +kernel) rfl args
theorem wd_1194 {U : State} (h : TB U) (args : Array Value) : (Cond.constant "BigRunnerModel" 280 (-1000000000)).before args U = true := h.w 1194 (by decide +kernel) rfl args
theorem wd_1195 {U : State} (h : TB U) (args : Array Value) : (Cond.constant "BigRunnerModel" 281 1000000000).before args U = true := h.w 1195 (by decide +kernel) rfl args
theorem d_M_init_0 : decode prog_12_method_1_code 0 = .ok (.aload_n 0, 1) := by decide +kernel
theorem d_M_init_1 : decode prog_12_method_1_code 1 = .ok (.invokespecial 1, 3) := by decide +kernel
theorem d_M_init_4 : decode prog_12_method_1_code 4 = .ok (.aload_n 0, 1) := by decide +kernel
theorem d_M_init_5 : decode prog_12_method_1_code 5 = .ok (.bipush 72, 2) := by decide +kernel
theorem d_M_init_7 : decode prog_12_method_1_code 7 = .ok (.newarray .char, 2) := by decide +kernel
theorem d_M_init_9 : decode prog_12_method_1_code 9 = .ok (.putfield 7, 3) := by decide +kernel
theorem d_M_init_12 : decode prog_12_method_1_code 12 = .ok (.aload_n 0, 1) := by decide +kernel
theorem d_M_init_13 : decode prog_12_method_1_code 13 = .ok (.bipush 100, 2) := by decide +kernel
theorem d_M_init_15 : decode prog_12_method_1_code 15 = .ok (.newarray .int, 2) := by decide +kernel
theorem d_M_init_17 : decode prog_12_method_1_code 17 = .ok (.putfield 13, 3) := by decide +kernel
theorem d_M_init_20 : decode prog_12_method_1_code 20 = .ok (.aload_n 0, 1) := by decide +kernel
theorem d_M_init_21 : decode prog_12_method_1_code 21 = .ok (.bipush 100, 2) := by decide +kernel
theorem d_M_init_23 : decode prog_12_method_1_code 23 = .ok (.newarray .int, 2) := by decide +kernel
theorem d_M_init_25 : decode prog_12_method_1_code 25 = .ok (.putfield 17, 3) := by decide +kernel
theorem d_M_init_28 : decode prog_12_method_1_code 28 = .ok (.aload_n 0, 1) := by decide +kernel
theorem d_M_init_29 : decode prog_12_method_1_code 29 = .ok (.bipush 100, 2) := by decide +kernel
theorem d_M_init_31 : decode prog_12_method_1_code 31 = .ok (.newarray .int, 2) := by decide +kernel
theorem d_M_init_33 : decode prog_12_method_1_code 33 = .ok (.putfield 20, 3) := by decide +kernel
theorem d_M_init_36 : decode prog_12_method_1_code 36 = .ok (.aload_n 0, 1) := by decide +kernel
theorem d_M_init_37 : decode prog_12_method_1_code 37 = .ok (.bipush 100, 2) := by decide +kernel
theorem d_M_init_39 : decode prog_12_method_1_code 39 = .ok (.newarray .int, 2) := by decide +kernel
theorem d_M_init_41 : decode prog_12_method_1_code 41 = .ok (.putfield 23, 3) := by decide +kernel
theorem d_M_init_44 : decode prog_12_method_1_code 44 = .ok (.aload_n 0, 1) := by decide +kernel
theorem d_M_init_45 : decode prog_12_method_1_code 45 = .ok (.bipush 100, 2) := by decide +kernel
theorem d_M_init_47 : decode prog_12_method_1_code 47 = .ok (.newarray .boolean, 2) := by decide +kernel
theorem d_M_init_49 : decode prog_12_method_1_code 49 = .ok (.putfield 26, 3) := by decide +kernel
theorem d_M_init_52 : decode prog_12_method_1_code 52 = .ok (.aload_n 0, 1) := by decide +kernel
theorem d_M_init_53 : decode prog_12_method_1_code 53 = .ok (.bipush 72, 2) := by decide +kernel
theorem d_M_init_55 : decode prog_12_method_1_code 55 = .ok (.newarray .char, 2) := by decide +kernel
theorem d_M_init_57 : decode prog_12_method_1_code 57 = .ok (.putfield 30, 3) := by decide +kernel
theorem d_M_init_60 : decode prog_12_method_1_code 60 = .ok (.aload_n 0, 1) := by decide +kernel
theorem d_M_init_61 : decode prog_12_method_1_code 61 = .ok (.bipush 40, 2) := by decide +kernel
theorem d_M_init_63 : decode prog_12_method_1_code 63 = .ok (.newarray .int, 2) := by decide +kernel
theorem d_M_init_65 : decode prog_12_method_1_code 65 = .ok (.putfield 33, 3) := by decide +kernel
theorem d_M_init_68 : decode prog_12_method_1_code 68 = .ok (.aload_n 0, 1) := by decide +kernel
theorem d_M_init_69 : decode prog_12_method_1_code 69 = .ok (.bipush 40, 2) := by decide +kernel
theorem d_M_init_71 : decode prog_12_method_1_code 71 = .ok (.newarray .int, 2) := by decide +kernel
theorem d_M_init_73 : decode prog_12_method_1_code 73 = .ok (.putfield 36, 3) := by decide +kernel
theorem d_M_init_76 : decode prog_12_method_1_code 76 = .ok (.aload_n 0, 1) := by decide +kernel
theorem d_M_init_77 : decode prog_12_method_1_code 77 = .ok (.bipush 10, 2) := by decide +kernel
theorem d_M_init_79 : decode prog_12_method_1_code 79 = .ok (.newarray .long, 2) := by decide +kernel
theorem d_M_init_81 : decode prog_12_method_1_code 81 = .ok (.putfield 39, 3) := by decide +kernel
theorem d_M_init_84 : decode prog_12_method_1_code 84 = .ok (.aload_n 0, 1) := by decide +kernel
theorem d_M_init_85 : decode prog_12_method_1_code 85 = .ok (.bipush 10, 2) := by decide +kernel
theorem d_M_init_87 : decode prog_12_method_1_code 87 = .ok (.newarray .long, 2) := by decide +kernel
theorem d_M_init_89 : decode prog_12_method_1_code 89 = .ok (.putfield 43, 3) := by decide +kernel
theorem d_M_init_92 : decode prog_12_method_1_code 92 = .ok (.aload_n 0, 1) := by decide +kernel
theorem d_M_init_93 : decode prog_12_method_1_code 93 = .ok (.bipush 10, 2) := by decide +kernel
theorem d_M_init_95 : decode prog_12_method_1_code 95 = .ok (.newarray .boolean, 2) := by decide +kernel
theorem d_M_init_97 : decode prog_12_method_1_code 97 = .ok (.putfield 46, 3) := by decide +kernel
theorem d_M_init_100 : decode prog_12_method_1_code 100 = .ok (.aload_n 0, 1) := by decide +kernel
theorem d_M_init_101 : decode prog_12_method_1_code 101 = .ok (.bipush 10, 2) := by decide +kernel
theorem d_M_init_103 : decode prog_12_method_1_code 103 = .ok (.newarray .boolean, 2) := by decide +kernel
theorem d_M_init_105 : decode prog_12_method_1_code 105 = .ok (.putfield 49, 3) := by decide +kernel
theorem d_M_init_108 : decode prog_12_method_1_code 108 = .ok (.aload_n 0, 1) := by decide +kernel
theorem d_M_init_109 : decode prog_12_method_1_code 109 = .ok (.bipush 80, 2) := by decide +kernel
theorem d_M_init_111 : decode prog_12_method_1_code 111 = .ok (.newarray .long, 2) := by decide +kernel
theorem d_M_init_113 : decode prog_12_method_1_code 113 = .ok (.putfield 52, 3) := by decide +kernel
theorem d_M_init_116 : decode prog_12_method_1_code 116 = .ok (.aload_n 0, 1) := by decide +kernel
theorem d_M_init_117 : decode prog_12_method_1_code 117 = .ok (.bipush 80, 2) := by decide +kernel
theorem d_M_init_119 : decode prog_12_method_1_code 119 = .ok (.newarray .long, 2) := by decide +kernel
theorem d_M_init_121 : decode prog_12_method_1_code 121 = .ok (.putfield 55, 3) := by decide +kernel
theorem d_M_init_124 : decode prog_12_method_1_code 124 = .ok (.aload_n 0, 1) := by decide +kernel
theorem d_M_init_125 : decode prog_12_method_1_code 125 = .ok (.bipush 80, 2) := by decide +kernel
theorem d_M_init_127 : decode prog_12_method_1_code 127 = .ok (.newarray .boolean, 2) := by decide +kernel
theorem d_M_init_129 : decode prog_12_method_1_code 129 = .ok (.putfield 58, 3) := by decide +kernel
theorem d_M_init_132 : decode prog_12_method_1_code 132 = .ok (.aload_n 0, 1) := by decide +kernel
theorem d_M_init_133 : decode prog_12_method_1_code 133 = .ok (.bipush 80, 2) := by decide +kernel
theorem d_M_init_135 : decode prog_12_method_1_code 135 = .ok (.newarray .boolean, 2) := by decide +kernel
theorem d_M_init_137 : decode prog_12_method_1_code 137 = .ok (.putfield 61, 3) := by decide +kernel
theorem d_M_init_140 : decode prog_12_method_1_code 140 = .ok (.aload_n 0, 1) := by decide +kernel
theorem d_M_init_141 : decode prog_12_method_1_code 141 = .ok (.bipush 80, 2) := by decide +kernel
theorem d_M_init_143 : decode prog_12_method_1_code 143 = .ok (.newarray .boolean, 2) := by decide +kernel
theorem d_M_init_145 : decode prog_12_method_1_code 145 = .ok (.putfield 64, 3) := by decide +kernel
theorem d_M_init_148 : decode prog_12_method_1_code 148 = .ok (.aload_n 0, 1) := by decide +kernel
theorem d_M_init_149 : decode prog_12_method_1_code 149 = .ok (.sipush 200, 3) := by decide +kernel
theorem d_M_init_152 : decode prog_12_method_1_code 152 = .ok (.newarray .int, 2) := by decide +kernel
theorem d_M_init_154 : decode prog_12_method_1_code 154 = .ok (.putfield 67, 3) := by decide +kernel
theorem d_M_init_157 : decode prog_12_method_1_code 157 = .ok (.aload_n 0, 1) := by decide +kernel
theorem d_M_init_158 : decode prog_12_method_1_code 158 = .ok (.bipush 10, 2) := by decide +kernel
theorem d_M_init_160 : decode prog_12_method_1_code 160 = .ok (.newarray .int, 2) := by decide +kernel
theorem d_M_init_162 : decode prog_12_method_1_code 162 = .ok (.putfield 70, 3) := by decide +kernel
theorem d_M_init_165 : decode prog_12_method_1_code 165 = .ok (.aload_n 0, 1) := by decide +kernel
theorem d_M_init_166 : decode prog_12_method_1_code 166 = .ok (.sipush 240, 3) := by decide +kernel
theorem d_M_init_169 : decode prog_12_method_1_code 169 = .ok (.newarray .int, 2) := by decide +kernel
theorem d_M_init_171 : decode prog_12_method_1_code 171 = .ok (.putfield 73, 3) := by decide +kernel
theorem d_M_init_174 : decode prog_12_method_1_code 174 = .ok (.aload_n 0, 1) := by decide +kernel
theorem d_M_init_175 : decode prog_12_method_1_code 175 = .ok (.bipush 12, 2) := by decide +kernel
theorem d_M_init_177 : decode prog_12_method_1_code 177 = .ok (.newarray .int, 2) := by decide +kernel
theorem d_M_init_179 : decode prog_12_method_1_code 179 = .ok (.putfield 76, 3) := by decide +kernel
theorem d_M_init_182 : decode prog_12_method_1_code 182 = .ok (.aload_n 0, 1) := by decide +kernel
theorem d_M_init_183 : decode prog_12_method_1_code 183 = .ok (.sipush 1600, 3) := by decide +kernel
theorem d_M_init_186 : decode prog_12_method_1_code 186 = .ok (.newarray .int, 2) := by decide +kernel
theorem d_M_init_188 : decode prog_12_method_1_code 188 = .ok (.putfield 79, 3) := by decide +kernel
theorem d_M_init_191 : decode prog_12_method_1_code 191 = .ok (.aload_n 0, 1) := by decide +kernel
theorem d_M_init_192 : decode prog_12_method_1_code 192 = .ok (.bipush 80, 2) := by decide +kernel
theorem d_M_init_194 : decode prog_12_method_1_code 194 = .ok (.newarray .int, 2) := by decide +kernel
theorem d_M_init_196 : decode prog_12_method_1_code 196 = .ok (.putfield 82, 3) := by decide +kernel
theorem d_M_init_199 : decode prog_12_method_1_code 199 = .ok (.aload_n 0, 1) := by decide +kernel
theorem d_M_init_200 : decode prog_12_method_1_code 200 = .ok (.bipush 44, 2) := by decide +kernel
theorem d_M_init_202 : decode prog_12_method_1_code 202 = .ok (.newarray .int, 2) := by decide +kernel
theorem d_M_init_204 : decode prog_12_method_1_code 204 = .ok (.putfield 85, 3) := by decide +kernel
theorem d_M_init_207 : decode prog_12_method_1_code 207 = .ok (.aload_n 0, 1) := by decide +kernel
theorem d_M_init_208 : decode prog_12_method_1_code 208 = .ok (.bipush 44, 2) := by decide +kernel
theorem d_M_init_210 : decode prog_12_method_1_code 210 = .ok (.newarray .int, 2) := by decide +kernel
theorem d_M_init_212 : decode prog_12_method_1_code 212 = .ok (.putfield 88, 3) := by decide +kernel
theorem d_M_init_215 : decode prog_12_method_1_code 215 = .ok (.aload_n 0, 1) := by decide +kernel
theorem d_M_init_216 : decode prog_12_method_1_code 216 = .ok (.bipush 20, 2) := by decide +kernel
theorem d_M_init_218 : decode prog_12_method_1_code 218 = .ok (.newarray .int, 2) := by decide +kernel
theorem d_M_init_220 : decode prog_12_method_1_code 220 = .ok (.putfield 91, 3) := by decide +kernel
theorem d_M_init_223 : decode prog_12_method_1_code 223 = .ok (.return_, 1) := by decide +kernel
theorem d_M_bound_0 : decode prog_12_method_47_code 0 = .ok (.iload_n 1, 1) := by decide +kernel
theorem d_M_bound_1 : decode prog_12_method_47_code 1 = .ok (.ifCond .lt 20, 3) := by decide +kernel
theorem d_M_bound_4 : decode prog_12_method_47_code 4 = .ok (.iload_n 1, 1) := by decide +kernel
theorem d_M_bound_5 : decode prog_12_method_47_code 5 = .ok (.bipush 10, 2) := by decide +kernel
theorem d_M_bound_7 : decode prog_12_method_47_code 7 = .ok (.if_icmp .ge 14, 3) := by decide +kernel
theorem d_M_bound_10 : decode prog_12_method_47_code 10 = .ok (.aload_n 0, 1) := by decide +kernel
theorem d_M_bound_11 : decode prog_12_method_47_code 11 = .ok (.getfield 270, 3) := by decide +kernel
theorem d_M_bound_14 : decode prog_12_method_47_code 14 = .ok (.ifCond .le 7, 3) := by decide +kernel
theorem d_M_bound_21 : decode prog_12_method_47_code 21 = .ok (.iconst 0, 1) := by decide +kernel
theorem d_M_bound_22 : decode prog_12_method_47_code 22 = .ok (.istore_n 3, 1) := by decide +kernel
theorem d_M_bound_23 : decode prog_12_method_47_code 23 = .ok (.aload_n 0, 1) := by decide +kernel
theorem d_M_bound_24 : decode prog_12_method_47_code 24 = .ok (.iload_n 3, 1) := by decide +kernel
theorem d_M_bound_25 : decode prog_12_method_47_code 25 = .ok (.ifCond .eq 7, 3) := by decide +kernel
theorem d_M_bound_32 : decode prog_12_method_47_code 32 = .ok (.iconst 1, 1) := by decide +kernel
theorem d_M_bound_33 : decode prog_12_method_47_code 33 = .ok (.putfield 94, 3) := by decide +kernel
theorem d_M_bound_36 : decode prog_12_method_47_code 36 = .ok (.iload_n 3, 1) := by decide +kernel
theorem d_M_bound_37 : decode prog_12_method_47_code 37 = .ok (.ifCond .ne 5, 3) := by decide +kernel
theorem d_M_bound_40 : decode prog_12_method_47_code 40 = .ok (.lconst 0, 1) := by decide +kernel
theorem d_M_bound_41 : decode prog_12_method_47_code 41 = .ok (.lreturn, 1) := by decide +kernel
theorem d_M_give_0 : decode prog_12_method_41_code 0 = .ok (.aload_n 0, 1) := by decide +kernel
theorem d_M_give_1 : decode prog_12_method_41_code 1 = .ok (.iconst 0, 1) := by decide +kernel
theorem d_M_give_2 : decode prog_12_method_41_code 2 = .ok (.putfield 94, 3) := by decide +kernel
theorem d_M_give_5 : decode prog_12_method_41_code 5 = .ok (.iload_n 1, 1) := by decide +kernel
theorem d_M_give_6 : decode prog_12_method_41_code 6 = .ok (.ldc_w 280, 3) := by decide +kernel
theorem d_M_give_9 : decode prog_12_method_41_code 9 = .ok (.if_icmp .lt 19, 3) := by decide +kernel
theorem d_M_give_12 : decode prog_12_method_41_code 12 = .ok (.iload_n 1, 1) := by decide +kernel
theorem d_M_give_13 : decode prog_12_method_41_code 13 = .ok (.ldc_w 281, 3) := by decide +kernel
theorem d_M_give_16 : decode prog_12_method_41_code 16 = .ok (.if_icmp .gt 12, 3) := by decide +kernel
theorem d_M_give_19 : decode prog_12_method_41_code 19 = .ok (.aload_n 0, 1) := by decide +kernel
theorem d_M_give_20 : decode prog_12_method_41_code 20 = .ok (.getfield 282, 3) := by decide +kernel
theorem d_M_give_23 : decode prog_12_method_41_code 23 = .ok (.bipush 20, 2) := by decide +kernel
theorem d_M_give_25 : decode prog_12_method_41_code 25 = .ok (.if_icmp .ne 5, 3) := by decide +kernel
theorem d_M_give_28 : decode prog_12_method_41_code 28 = .ok (.iconst 0, 1) := by decide +kernel
theorem d_M_give_29 : decode prog_12_method_41_code 29 = .ok (.ireturn, 1) := by decide +kernel
theorem d_M_give_30 : decode prog_12_method_41_code 30 = .ok (.aload_n 0, 1) := by decide +kernel
theorem d_M_give_31 : decode prog_12_method_41_code 31 = .ok (.getfield 91, 3) := by decide +kernel
theorem d_M_give_34 : decode prog_12_method_41_code 34 = .ok (.aload_n 0, 1) := by decide +kernel
theorem d_M_give_35 : decode prog_12_method_41_code 35 = .ok (.getfield 282, 3) := by decide +kernel
theorem d_M_give_38 : decode prog_12_method_41_code 38 = .ok (.iload_n 1, 1) := by decide +kernel
theorem d_M_give_39 : decode prog_12_method_41_code 39 = .ok (.iastore, 1) := by decide +kernel
theorem d_M_give_40 : decode prog_12_method_41_code 40 = .ok (.aload_n 0, 1) := by decide +kernel
theorem d_M_give_41 : decode prog_12_method_41_code 41 = .ok (.dup, 1) := by decide +kernel
theorem d_M_give_42 : decode prog_12_method_41_code 42 = .ok (.getfield 282, 3) := by decide +kernel
theorem d_M_give_45 : decode prog_12_method_41_code 45 = .ok (.iconst 1, 1) := by decide +kernel
theorem d_M_give_46 : decode prog_12_method_41_code 46 = .ok (.iadd, 1) := by decide +kernel
theorem d_M_give_47 : decode prog_12_method_41_code 47 = .ok (.putfield 282, 3) := by decide +kernel
theorem d_M_give_50 : decode prog_12_method_41_code 50 = .ok (.iconst 1, 1) := by decide +kernel
theorem d_M_give_51 : decode prog_12_method_41_code 51 = .ok (.ireturn, 1) := by decide +kernel
theorem d_M_here_0 : decode prog_12_method_3_code 0 = .ok (.aload_n 0, 1) := by decide +kernel
theorem d_M_here_1 : decode prog_12_method_3_code 1 = .ok (.getfield 98, 3) := by decide +kernel
theorem d_M_here_4 : decode prog_12_method_3_code 4 = .ok (.aload_n 0, 1) := by decide +kernel
theorem d_M_here_5 : decode prog_12_method_3_code 5 = .ok (.getfield 101, 3) := by decide +kernel
theorem d_M_here_8 : decode prog_12_method_3_code 8 = .ok (.if_icmp .ge 15, 3) := by decide +kernel
theorem d_M_here_23 : decode prog_12_method_3_code 23 = .ok (.bipush 10, 2) := by decide +kernel
theorem d_M_here_25 : decode prog_12_method_3_code 25 = .ok (.ireturn, 1) := by decide +kernel
theorem d_M_isName_0 : decode prog_12_method_6_code 0 = .ok (.iload_n 0, 1) := by decide +kernel
theorem d_M_isName_1 : decode prog_12_method_6_code 1 = .ok (.bipush 97, 2) := by decide +kernel
theorem d_M_isName_3 : decode prog_12_method_6_code 3 = .ok (.if_icmp .lt 13, 3) := by decide +kernel
theorem d_M_isName_16 : decode prog_12_method_6_code 16 = .ok (.iconst 0, 1) := by decide +kernel
theorem d_M_isName_17 : decode prog_12_method_6_code 17 = .ok (.ireturn, 1) := by decide +kernel
theorem d_M_load_0 : decode prog_12_method_40_code 0 = .ok (.aload_n 0, 1) := by decide +kernel
theorem d_M_load_1 : decode prog_12_method_40_code 1 = .ok (.aload_n 0, 1) := by decide +kernel
theorem d_M_load_2 : decode prog_12_method_40_code 2 = .ok (.invokevirtual 261, 3) := by decide +kernel
theorem d_M_load_5 : decode prog_12_method_40_code 5 = .ok (.ifCond .eq 7, 3) := by decide +kernel
theorem d_M_load_12 : decode prog_12_method_40_code 12 = .ok (.iconst 1, 1) := by decide +kernel
theorem d_M_load_13 : decode prog_12_method_40_code 13 = .ok (.putfield 94, 3) := by decide +kernel
theorem d_M_load_16 : decode prog_12_method_40_code 16 = .ok (.aload_n 0, 1) := by decide +kernel
theorem d_M_load_17 : decode prog_12_method_40_code 17 = .ok (.getfield 94, 3) := by decide +kernel
theorem d_M_load_20 : decode prog_12_method_40_code 20 = .ok (.ifCond .le 5, 3) := by decide +kernel
theorem d_M_load_23 : decode prog_12_method_40_code 23 = .ok (.iconst 0, 1) := by decide +kernel
theorem d_M_load_24 : decode prog_12_method_40_code 24 = .ok (.ireturn, 1) := by decide +kernel
theorem d_M_look_0 : decode prog_12_method_46_code 0 = .ok (.aload_n 0, 1) := by decide +kernel
theorem d_M_look_1 : decode prog_12_method_46_code 1 = .ok (.iconst 0, 1) := by decide +kernel
theorem d_M_look_2 : decode prog_12_method_46_code 2 = .ok (.putfield 94, 3) := by decide +kernel
theorem d_M_look_5 : decode prog_12_method_46_code 5 = .ok (.iload_n 1, 1) := by decide +kernel
theorem d_M_look_6 : decode prog_12_method_46_code 6 = .ok (.iconst 4, 1) := by decide +kernel
theorem d_M_look_7 : decode prog_12_method_46_code 7 = .ok (.if_icmp .ge 52, 3) := by decide +kernel
theorem d_M_look_10 : decode prog_12_method_46_code 10 = .ok (.iload_n 1, 1) := by decide +kernel
theorem d_M_look_11 : decode prog_12_method_46_code 11 = .ok (.ifCond .ne 10, 3) := by decide +kernel
theorem d_M_look_14 : decode prog_12_method_46_code 14 = .ok (.aload_n 0, 1) := by decide +kernel
theorem d_M_look_15 : decode prog_12_method_46_code 15 = .ok (.getfield 270, 3) := by decide +kernel
theorem d_M_look_18 : decode prog_12_method_46_code 18 = .ok (.goto 40, 3) := by decide +kernel
theorem d_M_look_21 : decode prog_12_method_46_code 21 = .ok (.iload_n 1, 1) := by decide +kernel
theorem d_M_look_22 : decode prog_12_method_46_code 22 = .ok (.iconst 1, 1) := by decide +kernel
theorem d_M_look_23 : decode prog_12_method_46_code 23 = .ok (.if_icmp .ne 10, 3) := by decide +kernel
theorem d_M_look_26 : decode prog_12_method_46_code 26 = .ok (.aload_n 0, 1) := by decide +kernel
theorem d_M_look_27 : decode prog_12_method_46_code 27 = .ok (.getfield 238, 3) := by decide +kernel
theorem d_M_look_30 : decode prog_12_method_46_code 30 = .ok (.goto 28, 3) := by decide +kernel
theorem d_M_look_33 : decode prog_12_method_46_code 33 = .ok (.iload_n 1, 1) := by decide +kernel
theorem d_M_look_34 : decode prog_12_method_46_code 34 = .ok (.iconst 2, 1) := by decide +kernel
theorem d_M_look_35 : decode prog_12_method_46_code 35 = .ok (.if_icmp .ne 10, 3) := by decide +kernel
theorem d_M_look_38 : decode prog_12_method_46_code 38 = .ok (.aload_n 0, 1) := by decide +kernel
theorem d_M_look_39 : decode prog_12_method_46_code 39 = .ok (.getfield 273, 3) := by decide +kernel
theorem d_M_look_42 : decode prog_12_method_46_code 42 = .ok (.goto 16, 3) := by decide +kernel
theorem d_M_look_45 : decode prog_12_method_46_code 45 = .ok (.iload_n 1, 1) := by decide +kernel
theorem d_M_look_46 : decode prog_12_method_46_code 46 = .ok (.iconst 3, 1) := by decide +kernel
theorem d_M_look_47 : decode prog_12_method_46_code 47 = .ok (.if_icmp .ne 10, 3) := by decide +kernel
theorem d_M_look_50 : decode prog_12_method_46_code 50 = .ok (.aload_n 0, 1) := by decide +kernel
theorem d_M_look_51 : decode prog_12_method_46_code 51 = .ok (.getfield 232, 3) := by decide +kernel
theorem d_M_look_54 : decode prog_12_method_46_code 54 = .ok (.goto 4, 3) := by decide +kernel
theorem d_M_look_57 : decode prog_12_method_46_code 57 = .ok (.iconst (-1), 1) := by decide +kernel
theorem d_M_look_58 : decode prog_12_method_46_code 58 = .ok (.ireturn, 1) := by decide +kernel
theorem d_M_look_59 : decode prog_12_method_46_code 59 = .ok (.iload_n 1, 1) := by decide +kernel
theorem d_M_look_60 : decode prog_12_method_46_code 60 = .ok (.iconst 4, 1) := by decide +kernel
theorem d_M_look_61 : decode prog_12_method_46_code 61 = .ok (.if_icmp .ne 10, 3) := by decide +kernel
theorem d_M_look_64 : decode prog_12_method_46_code 64 = .ok (.aload_n 0, 1) := by decide +kernel
theorem d_M_look_65 : decode prog_12_method_46_code 65 = .ok (.getfield 235, 3) := by decide +kernel
theorem d_M_look_68 : decode prog_12_method_46_code 68 = .ok (.goto 29, 3) := by decide +kernel
theorem d_M_look_71 : decode prog_12_method_46_code 71 = .ok (.iload_n 1, 1) := by decide +kernel
theorem d_M_look_72 : decode prog_12_method_46_code 72 = .ok (.iconst 5, 1) := by decide +kernel
theorem d_M_look_73 : decode prog_12_method_46_code 73 = .ok (.if_icmp .ne 10, 3) := by decide +kernel
theorem d_M_look_76 : decode prog_12_method_46_code 76 = .ok (.aload_n 0, 1) := by decide +kernel
theorem d_M_look_77 : decode prog_12_method_46_code 77 = .ok (.getfield 264, 3) := by decide +kernel
theorem d_M_look_80 : decode prog_12_method_46_code 80 = .ok (.goto 17, 3) := by decide +kernel
theorem d_M_look_83 : decode prog_12_method_46_code 83 = .ok (.iload_n 1, 1) := by decide +kernel
theorem d_M_look_84 : decode prog_12_method_46_code 84 = .ok (.bipush 6, 2) := by decide +kernel
theorem d_M_look_86 : decode prog_12_method_46_code 86 = .ok (.if_icmp .ne 10, 3) := by decide +kernel
theorem d_M_look_89 : decode prog_12_method_46_code 89 = .ok (.aload_n 0, 1) := by decide +kernel
theorem d_M_look_90 : decode prog_12_method_46_code 90 = .ok (.getfield 282, 3) := by decide +kernel
theorem d_M_look_93 : decode prog_12_method_46_code 93 = .ok (.goto 4, 3) := by decide +kernel
theorem d_M_look_96 : decode prog_12_method_46_code 96 = .ok (.iconst (-1), 1) := by decide +kernel
theorem d_M_look_97 : decode prog_12_method_46_code 97 = .ok (.ireturn, 1) := by decide +kernel
theorem d_M_output_0 : decode prog_12_method_51_code 0 = .ok (.iload_n 1, 1) := by decide +kernel
theorem d_M_output_1 : decode prog_12_method_51_code 1 = .ok (.ifCond .lt 27, 3) := by decide +kernel
theorem d_M_output_4 : decode prog_12_method_51_code 4 = .ok (.iload_n 1, 1) := by decide +kernel
theorem d_M_output_5 : decode prog_12_method_51_code 5 = .ok (.aload_n 0, 1) := by decide +kernel
theorem d_M_output_6 : decode prog_12_method_51_code 6 = .ok (.getfield 264, 3) := by decide +kernel
theorem d_M_output_9 : decode prog_12_method_51_code 9 = .ok (.if_icmp .ge 19, 3) := by decide +kernel
theorem d_M_output_28 : decode prog_12_method_51_code 28 = .ok (.iconst 0, 1) := by decide +kernel
theorem d_M_output_29 : decode prog_12_method_51_code 29 = .ok (.istore_n 3, 1) := by decide +kernel
theorem d_M_output_30 : decode prog_12_method_51_code 30 = .ok (.aload_n 0, 1) := by decide +kernel
theorem d_M_output_31 : decode prog_12_method_51_code 31 = .ok (.iload_n 3, 1) := by decide +kernel
theorem d_M_output_32 : decode prog_12_method_51_code 32 = .ok (.ifCond .eq 7, 3) := by decide +kernel
theorem d_M_output_39 : decode prog_12_method_51_code 39 = .ok (.iconst 1, 1) := by decide +kernel
theorem d_M_output_40 : decode prog_12_method_51_code 40 = .ok (.putfield 94, 3) := by decide +kernel
theorem d_M_output_43 : decode prog_12_method_51_code 43 = .ok (.iload_n 3, 1) := by decide +kernel
theorem d_M_output_44 : decode prog_12_method_51_code 44 = .ok (.ifCond .eq 24, 3) := by decide +kernel
theorem d_M_output_68 : decode prog_12_method_51_code 68 = .ok (.iconst 0, 1) := by decide +kernel
theorem d_M_output_69 : decode prog_12_method_51_code 69 = .ok (.ireturn, 1) := by decide +kernel
theorem d_M_reads_0 : decode prog_12_method_14_code 0 = .ok (.aload_n 0, 1) := by decide +kernel
theorem d_M_reads_1 : decode prog_12_method_14_code 1 = .ok (.iconst 0, 1) := by decide +kernel
theorem d_M_reads_2 : decode prog_12_method_14_code 2 = .ok (.putfield 98, 3) := by decide +kernel
theorem d_M_reads_5 : decode prog_12_method_14_code 5 = .ok (.aload_n 0, 1) := by decide +kernel
theorem d_M_reads_6 : decode prog_12_method_14_code 6 = .ok (.iconst 1, 1) := by decide +kernel
theorem d_M_reads_7 : decode prog_12_method_14_code 7 = .ok (.putfield 118, 3) := by decide +kernel
theorem d_M_reads_10 : decode prog_12_method_14_code 10 = .ok (.aload_n 0, 1) := by decide +kernel
theorem d_M_reads_11 : decode prog_12_method_14_code 11 = .ok (.iconst 0, 1) := by decide +kernel
theorem d_M_reads_12 : decode prog_12_method_14_code 12 = .ok (.putfield 104, 3) := by decide +kernel
theorem d_M_reads_15 : decode prog_12_method_14_code 15 = .ok (.aload_n 0, 1) := by decide +kernel
theorem d_M_reads_16 : decode prog_12_method_14_code 16 = .ok (.iconst 0, 1) := by decide +kernel
theorem d_M_reads_17 : decode prog_12_method_14_code 17 = .ok (.putfield 143, 3) := by decide +kernel
theorem d_M_reads_20 : decode prog_12_method_14_code 20 = .ok (.aload_n 0, 1) := by decide +kernel
theorem d_M_reads_21 : decode prog_12_method_14_code 21 = .ok (.iconst 1, 1) := by decide +kernel
theorem d_M_reads_22 : decode prog_12_method_14_code 22 = .ok (.putfield 149, 3) := by decide +kernel
theorem d_M_reads_25 : decode prog_12_method_14_code 25 = .ok (.iconst 1, 1) := by decide +kernel
theorem d_M_reads_26 : decode prog_12_method_14_code 26 = .ok (.istore_n 1, 1) := by decide +kernel
theorem d_M_reads_27 : decode prog_12_method_14_code 27 = .ok (.iload_n 1, 1) := by decide +kernel
theorem d_M_reads_28 : decode prog_12_method_14_code 28 = .ok (.ifCond .eq 79, 3) := by decide +kernel
theorem d_M_reads_31 : decode prog_12_method_14_code 31 = .ok (.aload_n 0, 1) := by decide +kernel
theorem d_M_reads_32 : decode prog_12_method_14_code 32 = .ok (.getfield 149, 3) := by decide +kernel
theorem d_M_reads_35 : decode prog_12_method_14_code 35 = .ok (.ifCond .ne 14, 3) := by decide +kernel
theorem d_M_reads_49 : decode prog_12_method_14_code 49 = .ok (.aload_n 0, 1) := by decide +kernel
theorem d_M_reads_50 : decode prog_12_method_14_code 50 = .ok (.getfield 149, 3) := by decide +kernel
theorem d_M_reads_53 : decode prog_12_method_14_code 53 = .ok (.ifCond .eq 16, 3) := by decide +kernel
theorem d_M_reads_56 : decode prog_12_method_14_code 56 = .ok (.aload_n 0, 1) := by decide +kernel
theorem d_M_reads_57 : decode prog_12_method_14_code 57 = .ok (.iconst 0, 1) := by decide +kernel
theorem d_M_reads_58 : decode prog_12_method_14_code 58 = .ok (.putfield 149, 3) := by decide +kernel
theorem d_M_reads_61 : decode prog_12_method_14_code 61 = .ok (.aload_n 0, 1) := by decide +kernel
theorem d_M_reads_62 : decode prog_12_method_14_code 62 = .ok (.invokevirtual 153, 3) := by decide +kernel
theorem d_M_reads_65 : decode prog_12_method_14_code 65 = .ok (.istore_n 1, 1) := by decide +kernel
theorem d_M_reads_66 : decode prog_12_method_14_code 66 = .ok (.goto (-39), 3) := by decide +kernel
theorem d_M_reads_107 : decode prog_12_method_14_code 107 = .ok (.iload_n 1, 1) := by decide +kernel
theorem d_M_reads_108 : decode prog_12_method_14_code 108 = .ok (.ifCond .eq 14, 3) := by decide +kernel
theorem d_M_reads_122 : decode prog_12_method_14_code 122 = .ok (.iconst 0, 1) := by decide +kernel
theorem d_M_reads_123 : decode prog_12_method_14_code 123 = .ok (.ireturn, 1) := by decide +kernel
theorem d_M_run_0 : decode prog_12_method_45_code 0 = .ok (.aload_n 0, 1) := by decide +kernel
theorem d_M_run_1 : decode prog_12_method_45_code 1 = .ok (.aload_n 0, 1) := by decide +kernel
theorem d_M_run_2 : decode prog_12_method_45_code 2 = .ok (.getfield 270, 3) := by decide +kernel
theorem d_M_run_5 : decode prog_12_method_45_code 5 = .ok (.ifCond .eq 11, 3) := by decide +kernel
theorem d_M_run_16 : decode prog_12_method_45_code 16 = .ok (.iconst 1, 1) := by decide +kernel
theorem d_M_run_17 : decode prog_12_method_45_code 17 = .ok (.goto 20, 3) := by decide +kernel
theorem d_M_run_37 : decode prog_12_method_45_code 37 = .ok (.putfield 94, 3) := by decide +kernel
theorem d_M_run_40 : decode prog_12_method_45_code 40 = .ok (.aload_n 0, 1) := by decide +kernel
theorem d_M_run_41 : decode prog_12_method_45_code 41 = .ok (.getfield 94, 3) := by decide +kernel
theorem d_M_run_44 : decode prog_12_method_45_code 44 = .ok (.ifCond .le 5, 3) := by decide +kernel
theorem d_M_run_47 : decode prog_12_method_45_code 47 = .ok (.iconst 0, 1) := by decide +kernel
theorem d_M_run_48 : decode prog_12_method_45_code 48 = .ok (.ireturn, 1) := by decide +kernel
theorem d_M_small_0 : decode prog_12_method_48_code 0 = .ok (.aload_n 0, 1) := by decide +kernel
theorem d_M_small_1 : decode prog_12_method_48_code 1 = .ok (.iconst 0, 1) := by decide +kernel
theorem d_M_small_2 : decode prog_12_method_48_code 2 = .ok (.putfield 94, 3) := by decide +kernel
theorem d_M_small_5 : decode prog_12_method_48_code 5 = .ok (.iload_n 1, 1) := by decide +kernel
theorem d_M_small_6 : decode prog_12_method_48_code 6 = .ok (.ifCond .lt 38, 3) := by decide +kernel
theorem d_M_small_9 : decode prog_12_method_48_code 9 = .ok (.iload_n 1, 1) := by decide +kernel
theorem d_M_small_10 : decode prog_12_method_48_code 10 = .ok (.bipush 10, 2) := by decide +kernel
theorem d_M_small_12 : decode prog_12_method_48_code 12 = .ok (.if_icmp .ge 32, 3) := by decide +kernel
theorem d_M_small_15 : decode prog_12_method_48_code 15 = .ok (.aload_n 0, 1) := by decide +kernel
theorem d_M_small_16 : decode prog_12_method_48_code 16 = .ok (.getfield 270, 3) := by decide +kernel
theorem d_M_small_19 : decode prog_12_method_48_code 19 = .ok (.ifCond .le 25, 3) := by decide +kernel
theorem d_M_small_44 : decode prog_12_method_48_code 44 = .ok (.iconst 0, 1) := by decide +kernel
theorem d_M_small_45 : decode prog_12_method_48_code 45 = .ok (.ireturn, 1) := by decide +kernel
theorem d_M_statement_0 : decode prog_12_method_12_code 0 = .ok (.aload_n 0, 1) := by decide +kernel
theorem d_M_statement_1 : decode prog_12_method_12_code 1 = .ok (.invokevirtual 121, 3) := by decide +kernel
theorem d_M_statement_4 : decode prog_12_method_12_code 4 = .ok (.istore_n 1, 1) := by decide +kernel
theorem d_M_statement_5 : decode prog_12_method_12_code 5 = .ok (.aload_n 0, 1) := by decide +kernel
theorem d_M_statement_6 : decode prog_12_method_12_code 6 = .ok (.dup, 1) := by decide +kernel
theorem d_M_statement_7 : decode prog_12_method_12_code 7 = .ok (.getfield 98, 3) := by decide +kernel
theorem d_M_statement_10 : decode prog_12_method_12_code 10 = .ok (.iconst 1, 1) := by decide +kernel
theorem d_M_statement_11 : decode prog_12_method_12_code 11 = .ok (.iadd, 1) := by decide +kernel
theorem d_M_statement_12 : decode prog_12_method_12_code 12 = .ok (.putfield 98, 3) := by decide +kernel
theorem d_M_statement_15 : decode prog_12_method_12_code 15 = .ok (.iload_n 1, 1) := by decide +kernel
theorem d_M_statement_16 : decode prog_12_method_12_code 16 = .ok (.bipush 63, 2) := by decide +kernel
theorem d_M_statement_18 : decode prog_12_method_12_code 18 = .ok (.if_icmp .ne 33, 3) := by decide +kernel
theorem d_M_statement_51 : decode prog_12_method_12_code 51 = .ok (.iload_n 1, 1) := by decide +kernel
theorem d_M_statement_52 : decode prog_12_method_12_code 52 = .ok (.bipush 91, 2) := by decide +kernel
theorem d_M_statement_54 : decode prog_12_method_12_code 54 = .ok (.if_icmp .eq 9, 3) := by decide +kernel
theorem d_M_statement_57 : decode prog_12_method_12_code 57 = .ok (.iload_n 1, 1) := by decide +kernel
theorem d_M_statement_58 : decode prog_12_method_12_code 58 = .ok (.bipush 123, 2) := by decide +kernel
theorem d_M_statement_60 : decode prog_12_method_12_code 60 = .ok (.if_icmp .ne 124, 3) := by decide +kernel
theorem d_M_statement_184 : decode prog_12_method_12_code 184 = .ok (.iload_n 1, 1) := by decide +kernel
theorem d_M_statement_185 : decode prog_12_method_12_code 185 = .ok (.bipush 33, 2) := by decide +kernel
theorem d_M_statement_187 : decode prog_12_method_12_code 187 = .ok (.if_icmp .ne 17, 3) := by decide +kernel
theorem d_M_statement_204 : decode prog_12_method_12_code 204 = .ok (.iload_n 1, 1) := by decide +kernel
theorem d_M_statement_205 : decode prog_12_method_12_code 205 = .ok (.invokestatic 129, 3) := by decide +kernel
theorem d_M_statement_208 : decode prog_12_method_12_code 208 = .ok (.ifCond .eq 12, 3) := by decide +kernel
theorem d_M_statement_220 : decode prog_12_method_12_code 220 = .ok (.iconst 0, 1) := by decide +kernel
theorem d_M_statement_221 : decode prog_12_method_12_code 221 = .ok (.ireturn, 1) := by decide +kernel
theorem d_M_thrown_0 : decode prog_12_method_2_code 0 = .ok (.aload_n 0, 1) := by decide +kernel
theorem d_M_thrown_1 : decode prog_12_method_2_code 1 = .ok (.getfield 94, 3) := by decide +kernel
theorem d_M_thrown_4 : decode prog_12_method_2_code 4 = .ok (.ireturn, 1) := by decide +kernel
theorem d_M_type_0 : decode prog_12_method_38_code 0 = .ok (.aload_n 0, 1) := by decide +kernel
theorem d_M_type_1 : decode prog_12_method_38_code 1 = .ok (.iconst 0, 1) := by decide +kernel
theorem d_M_type_2 : decode prog_12_method_38_code 2 = .ok (.putfield 94, 3) := by decide +kernel
theorem d_M_type_5 : decode prog_12_method_38_code 5 = .ok (.iload_n 1, 1) := by decide +kernel
theorem d_M_type_6 : decode prog_12_method_38_code 6 = .ok (.bipush 33, 2) := by decide +kernel
theorem d_M_type_8 : decode prog_12_method_38_code 8 = .ok (.if_icmp .lt 18, 3) := by decide +kernel
theorem d_M_type_11 : decode prog_12_method_38_code 11 = .ok (.iload_n 1, 1) := by decide +kernel
theorem d_M_type_12 : decode prog_12_method_38_code 12 = .ok (.bipush 126, 2) := by decide +kernel
theorem d_M_type_14 : decode prog_12_method_38_code 14 = .ok (.if_icmp .gt 12, 3) := by decide +kernel
theorem d_M_type_17 : decode prog_12_method_38_code 17 = .ok (.aload_n 0, 1) := by decide +kernel
theorem d_M_type_18 : decode prog_12_method_38_code 18 = .ok (.getfield 101, 3) := by decide +kernel
theorem d_M_type_21 : decode prog_12_method_38_code 21 = .ok (.bipush 72, 2) := by decide +kernel
theorem d_M_type_23 : decode prog_12_method_38_code 23 = .ok (.if_icmp .ne 5, 3) := by decide +kernel
theorem d_M_type_26 : decode prog_12_method_38_code 26 = .ok (.iconst 0, 1) := by decide +kernel
theorem d_M_type_27 : decode prog_12_method_38_code 27 = .ok (.ireturn, 1) := by decide +kernel
theorem d_M_type_28 : decode prog_12_method_38_code 28 = .ok (.aload_n 0, 1) := by decide +kernel
theorem d_M_type_29 : decode prog_12_method_38_code 29 = .ok (.getfield 7, 3) := by decide +kernel
theorem d_M_type_32 : decode prog_12_method_38_code 32 = .ok (.aload_n 0, 1) := by decide +kernel
theorem d_M_type_33 : decode prog_12_method_38_code 33 = .ok (.getfield 101, 3) := by decide +kernel
theorem d_M_type_36 : decode prog_12_method_38_code 36 = .ok (.iload_n 1, 1) := by decide +kernel
theorem d_M_type_37 : decode prog_12_method_38_code 37 = .ok (.castore, 1) := by decide +kernel
theorem d_M_type_38 : decode prog_12_method_38_code 38 = .ok (.aload_n 0, 1) := by decide +kernel
theorem d_M_type_39 : decode prog_12_method_38_code 39 = .ok (.dup, 1) := by decide +kernel
theorem d_M_type_40 : decode prog_12_method_38_code 40 = .ok (.getfield 101, 3) := by decide +kernel
theorem d_M_type_43 : decode prog_12_method_38_code 43 = .ok (.iconst 1, 1) := by decide +kernel
theorem d_M_type_44 : decode prog_12_method_38_code 44 = .ok (.iadd, 1) := by decide +kernel
theorem d_M_type_45 : decode prog_12_method_38_code 45 = .ok (.putfield 101, 3) := by decide +kernel
theorem d_M_type_48 : decode prog_12_method_38_code 48 = .ok (.iconst 1, 1) := by decide +kernel
theorem d_M_type_49 : decode prog_12_method_38_code 49 = .ok (.ireturn, 1) := by decide +kernel
theorem d_M_variable_0 : decode prog_12_method_50_code 0 = .ok (.iload_n 1, 1) := by decide +kernel
theorem d_M_variable_1 : decode prog_12_method_50_code 1 = .ok (.ifCond .lt 26, 3) := by decide +kernel
theorem d_M_variable_4 : decode prog_12_method_50_code 4 = .ok (.iload_n 1, 1) := by decide +kernel
theorem d_M_variable_5 : decode prog_12_method_50_code 5 = .ok (.bipush 10, 2) := by decide +kernel
theorem d_M_variable_7 : decode prog_12_method_50_code 7 = .ok (.if_icmp .ge 20, 3) := by decide +kernel
theorem d_M_variable_10 : decode prog_12_method_50_code 10 = .ok (.aload_n 0, 1) := by decide +kernel
theorem d_M_variable_11 : decode prog_12_method_50_code 11 = .ok (.getfield 270, 3) := by decide +kernel
theorem d_M_variable_14 : decode prog_12_method_50_code 14 = .ok (.ifCond .le 13, 3) := by decide +kernel
theorem d_M_variable_27 : decode prog_12_method_50_code 27 = .ok (.iconst 0, 1) := by decide +kernel
theorem d_M_variable_28 : decode prog_12_method_50_code 28 = .ok (.istore_n 3, 1) := by decide +kernel
theorem d_M_variable_29 : decode prog_12_method_50_code 29 = .ok (.aload_n 0, 1) := by decide +kernel
theorem d_M_variable_30 : decode prog_12_method_50_code 30 = .ok (.iload_n 3, 1) := by decide +kernel
theorem d_M_variable_31 : decode prog_12_method_50_code 31 = .ok (.ifCond .eq 7, 3) := by decide +kernel
theorem d_M_variable_38 : decode prog_12_method_50_code 38 = .ok (.iconst 1, 1) := by decide +kernel
theorem d_M_variable_39 : decode prog_12_method_50_code 39 = .ok (.putfield 94, 3) := by decide +kernel
theorem d_M_variable_42 : decode prog_12_method_50_code 42 = .ok (.iload_n 3, 1) := by decide +kernel
theorem d_M_variable_43 : decode prog_12_method_50_code 43 = .ok (.ifCond .eq 24, 3) := by decide +kernel
theorem d_M_variable_67 : decode prog_12_method_50_code 67 = .ok (.iconst 0, 1) := by decide +kernel
theorem d_M_variable_68 : decode prog_12_method_50_code 68 = .ok (.ireturn, 1) := by decide +kernel
theorem d_M_wipe_0 : decode prog_12_method_39_code 0 = .ok (.aload_n 0, 1) := by decide +kernel
theorem d_M_wipe_1 : decode prog_12_method_39_code 1 = .ok (.iconst 0, 1) := by decide +kernel
theorem d_M_wipe_2 : decode prog_12_method_39_code 2 = .ok (.putfield 94, 3) := by decide +kernel
theorem d_M_wipe_5 : decode prog_12_method_39_code 5 = .ok (.aload_n 0, 1) := by decide +kernel
theorem d_M_wipe_6 : decode prog_12_method_39_code 6 = .ok (.iconst 0, 1) := by decide +kernel
theorem d_M_wipe_7 : decode prog_12_method_39_code 7 = .ok (.putfield 101, 3) := by decide +kernel
theorem d_M_wipe_10 : decode prog_12_method_39_code 10 = .ok (.return_, 1) := by decide +kernel
