theorem wd_961 {U : State} (h : TB U) (args : Array Value) : (Cond.fieldLink "BigRunnerModel" 33 "BigRunnerModel" "begins" "[I").before args U = true := h.w 961 (by decide +kernel) rfl args
theorem wd_962 {U : State} (h : TB U) (args : Array Value) : (Cond.fieldLink "BigRunnerModel" 36 "BigRunnerModel" "kinds" "[I").before args U = true := h.w 962 (by decide +kernel) rfl args
theorem wd_963 {U : State} (h : TB U) (args : Array Value) : (Cond.fieldLink "BigRunnerModel" 143 "BigRunnerModel" "opened" "I").before args U = true := h.w 963 (by decide +kernel) rfl args
theorem wd_991 {U : State} (h : TB U) (args : Array Value) : (Cond.fieldLink "BigRunnerModel" 149 "BigRunnerModel" "dueStatement" "Z").before args U = true := h.w 991 (by decide +kernel) rfl args
theorem d_M_closes_0 : decode prog_12_method_13_code 0 = .ok (.aload_n 0, 1) := by decide +kernel
theorem d_M_closes_1 : decode prog_12_method_13_code 1 = .ok (.getfield 143, 3) := by decide +kernel
theorem d_M_closes_4 : decode prog_12_method_13_code 4 = .ok (.ifCond .ne 5, 3) := by decide +kernel
theorem d_M_closes_7 : decode prog_12_method_13_code 7 = .ok (.iconst 0, 1) := by decide +kernel
theorem d_M_closes_8 : decode prog_12_method_13_code 8 = .ok (.ireturn, 1) := by decide +kernel
theorem d_M_closes_9 : decode prog_12_method_13_code 9 = .ok (.aload_n 0, 1) := by decide +kernel
theorem d_M_closes_10 : decode prog_12_method_13_code 10 = .ok (.getfield 143, 3) := by decide +kernel
theorem d_M_closes_13 : decode prog_12_method_13_code 13 = .ok (.iconst 1, 1) := by decide +kernel
theorem d_M_closes_14 : decode prog_12_method_13_code 14 = .ok (.isub, 1) := by decide +kernel
theorem d_M_closes_15 : decode prog_12_method_13_code 15 = .ok (.istore_n 2, 1) := by decide +kernel
theorem d_M_closes_16 : decode prog_12_method_13_code 16 = .ok (.aload_n 0, 1) := by decide +kernel
theorem d_M_closes_17 : decode prog_12_method_13_code 17 = .ok (.getfield 33, 3) := by decide +kernel
theorem d_M_closes_20 : decode prog_12_method_13_code 20 = .ok (.iload_n 2, 1) := by decide +kernel
theorem d_M_closes_21 : decode prog_12_method_13_code 21 = .ok (.iaload, 1) := by decide +kernel
theorem d_M_closes_22 : decode prog_12_method_13_code 22 = .ok (.istore_n 3, 1) := by decide +kernel
theorem d_M_closes_23 : decode prog_12_method_13_code 23 = .ok (.iload_n 1, 1) := by decide +kernel
theorem d_M_closes_24 : decode prog_12_method_13_code 24 = .ok (.bipush 93, 2) := by decide +kernel
theorem d_M_closes_26 : decode prog_12_method_13_code 26 = .ok (.if_icmp .ne 39, 3) := by decide +kernel
theorem d_M_closes_29 : decode prog_12_method_13_code 29 = .ok (.aload_n 0, 1) := by decide +kernel
theorem d_M_closes_30 : decode prog_12_method_13_code 30 = .ok (.getfield 36, 3) := by decide +kernel
theorem d_M_closes_33 : decode prog_12_method_13_code 33 = .ok (.iload_n 2, 1) := by decide +kernel
theorem d_M_closes_34 : decode prog_12_method_13_code 34 = .ok (.iaload, 1) := by decide +kernel
theorem d_M_closes_35 : decode prog_12_method_13_code 35 = .ok (.bipush 91, 2) := by decide +kernel
theorem d_M_closes_37 : decode prog_12_method_13_code 37 = .ok (.if_icmp .ne 28, 3) := by decide +kernel
theorem d_M_closes_40 : decode prog_12_method_13_code 40 = .ok (.aload_n 0, 1) := by decide +kernel
theorem d_M_closes_41 : decode prog_12_method_13_code 41 = .ok (.bipush 12, 2) := by decide +kernel
theorem d_M_closes_43 : decode prog_12_method_13_code 43 = .ok (.aload_n 0, 1) := by decide +kernel
theorem d_M_closes_44 : decode prog_12_method_13_code 44 = .ok (.getfield 17, 3) := by decide +kernel
theorem d_M_closes_47 : decode prog_12_method_13_code 47 = .ok (.iload_n 3, 1) := by decide +kernel
theorem d_M_closes_48 : decode prog_12_method_13_code 48 = .ok (.iaload, 1) := by decide +kernel
theorem d_M_closes_49 : decode prog_12_method_13_code 49 = .ok (.invokevirtual 114, 3) := by decide +kernel
theorem d_M_closes_52 : decode prog_12_method_13_code 52 = .ok (.aload_n 0, 1) := by decide +kernel
theorem d_M_closes_53 : decode prog_12_method_13_code 53 = .ok (.getfield 17, 3) := by decide +kernel
theorem d_M_closes_56 : decode prog_12_method_13_code 56 = .ok (.iload_n 3, 1) := by decide +kernel
theorem d_M_closes_57 : decode prog_12_method_13_code 57 = .ok (.aload_n 0, 1) := by decide +kernel
theorem d_M_closes_58 : decode prog_12_method_13_code 58 = .ok (.getfield 104, 3) := by decide +kernel
theorem d_M_closes_61 : decode prog_12_method_13_code 61 = .ok (.iastore, 1) := by decide +kernel
theorem d_M_closes_62 : decode prog_12_method_13_code 62 = .ok (.goto 96, 3) := by decide +kernel
theorem d_M_closes_65 : decode prog_12_method_13_code 65 = .ok (.iload_n 1, 1) := by decide +kernel
theorem d_M_closes_66 : decode prog_12_method_13_code 66 = .ok (.bipush 124, 2) := by decide +kernel
theorem d_M_closes_68 : decode prog_12_method_13_code 68 = .ok (.if_icmp .ne 58, 3) := by decide +kernel
theorem d_M_closes_71 : decode prog_12_method_13_code 71 = .ok (.aload_n 0, 1) := by decide +kernel
theorem d_M_closes_72 : decode prog_12_method_13_code 72 = .ok (.getfield 36, 3) := by decide +kernel
theorem d_M_closes_75 : decode prog_12_method_13_code 75 = .ok (.iload_n 2, 1) := by decide +kernel
theorem d_M_closes_76 : decode prog_12_method_13_code 76 = .ok (.iaload, 1) := by decide +kernel
theorem d_M_closes_77 : decode prog_12_method_13_code 77 = .ok (.bipush 123, 2) := by decide +kernel
theorem d_M_closes_79 : decode prog_12_method_13_code 79 = .ok (.if_icmp .ne 47, 3) := by decide +kernel
theorem d_M_closes_82 : decode prog_12_method_13_code 82 = .ok (.aload_n 0, 1) := by decide +kernel
theorem d_M_closes_83 : decode prog_12_method_13_code 83 = .ok (.bipush 12, 2) := by decide +kernel
theorem d_M_closes_85 : decode prog_12_method_13_code 85 = .ok (.iconst 0, 1) := by decide +kernel
theorem d_M_closes_86 : decode prog_12_method_13_code 86 = .ok (.invokevirtual 114, 3) := by decide +kernel
theorem d_M_closes_89 : decode prog_12_method_13_code 89 = .ok (.aload_n 0, 1) := by decide +kernel
theorem d_M_closes_90 : decode prog_12_method_13_code 90 = .ok (.getfield 17, 3) := by decide +kernel
theorem d_M_closes_93 : decode prog_12_method_13_code 93 = .ok (.iload_n 3, 1) := by decide +kernel
theorem d_M_closes_94 : decode prog_12_method_13_code 94 = .ok (.aload_n 0, 1) := by decide +kernel
theorem d_M_closes_95 : decode prog_12_method_13_code 95 = .ok (.getfield 104, 3) := by decide +kernel
theorem d_M_closes_98 : decode prog_12_method_13_code 98 = .ok (.iastore, 1) := by decide +kernel
theorem d_M_closes_99 : decode prog_12_method_13_code 99 = .ok (.aload_n 0, 1) := by decide +kernel
theorem d_M_closes_100 : decode prog_12_method_13_code 100 = .ok (.getfield 33, 3) := by decide +kernel
theorem d_M_closes_103 : decode prog_12_method_13_code 103 = .ok (.iload_n 2, 1) := by decide +kernel
theorem d_M_closes_104 : decode prog_12_method_13_code 104 = .ok (.aload_n 0, 1) := by decide +kernel
theorem d_M_closes_105 : decode prog_12_method_13_code 105 = .ok (.getfield 104, 3) := by decide +kernel
theorem d_M_closes_108 : decode prog_12_method_13_code 108 = .ok (.iconst 1, 1) := by decide +kernel
theorem d_M_closes_109 : decode prog_12_method_13_code 109 = .ok (.isub, 1) := by decide +kernel
theorem d_M_closes_110 : decode prog_12_method_13_code 110 = .ok (.iastore, 1) := by decide +kernel
theorem d_M_closes_111 : decode prog_12_method_13_code 111 = .ok (.aload_n 0, 1) := by decide +kernel
theorem d_M_closes_112 : decode prog_12_method_13_code 112 = .ok (.getfield 36, 3) := by decide +kernel
theorem d_M_closes_115 : decode prog_12_method_13_code 115 = .ok (.iload_n 2, 1) := by decide +kernel
theorem d_M_closes_116 : decode prog_12_method_13_code 116 = .ok (.bipush 124, 2) := by decide +kernel
theorem d_M_closes_118 : decode prog_12_method_13_code 118 = .ok (.iastore, 1) := by decide +kernel
theorem d_M_closes_119 : decode prog_12_method_13_code 119 = .ok (.aload_n 0, 1) := by decide +kernel
theorem d_M_closes_120 : decode prog_12_method_13_code 120 = .ok (.iconst 1, 1) := by decide +kernel
theorem d_M_closes_121 : decode prog_12_method_13_code 121 = .ok (.putfield 149, 3) := by decide +kernel
theorem d_M_closes_124 : decode prog_12_method_13_code 124 = .ok (.iconst 1, 1) := by decide +kernel
theorem d_M_closes_125 : decode prog_12_method_13_code 125 = .ok (.ireturn, 1) := by decide +kernel
theorem d_M_closes_126 : decode prog_12_method_13_code 126 = .ok (.iload_n 1, 1) := by decide +kernel
theorem d_M_closes_127 : decode prog_12_method_13_code 127 = .ok (.bipush 125, 2) := by decide +kernel
theorem d_M_closes_129 : decode prog_12_method_13_code 129 = .ok (.if_icmp .ne 27, 3) := by decide +kernel
theorem d_M_closes_132 : decode prog_12_method_13_code 132 = .ok (.aload_n 0, 1) := by decide +kernel
theorem d_M_closes_133 : decode prog_12_method_13_code 133 = .ok (.getfield 36, 3) := by decide +kernel
theorem d_M_closes_136 : decode prog_12_method_13_code 136 = .ok (.iload_n 2, 1) := by decide +kernel
theorem d_M_closes_137 : decode prog_12_method_13_code 137 = .ok (.iaload, 1) := by decide +kernel
theorem d_M_closes_138 : decode prog_12_method_13_code 138 = .ok (.bipush 124, 2) := by decide +kernel
theorem d_M_closes_140 : decode prog_12_method_13_code 140 = .ok (.if_icmp .ne 16, 3) := by decide +kernel
theorem d_M_closes_143 : decode prog_12_method_13_code 143 = .ok (.aload_n 0, 1) := by decide +kernel
theorem d_M_closes_144 : decode prog_12_method_13_code 144 = .ok (.getfield 17, 3) := by decide +kernel
theorem d_M_closes_147 : decode prog_12_method_13_code 147 = .ok (.iload_n 3, 1) := by decide +kernel
theorem d_M_closes_148 : decode prog_12_method_13_code 148 = .ok (.aload_n 0, 1) := by decide +kernel
theorem d_M_closes_149 : decode prog_12_method_13_code 149 = .ok (.getfield 104, 3) := by decide +kernel
theorem d_M_closes_152 : decode prog_12_method_13_code 152 = .ok (.iastore, 1) := by decide +kernel
theorem d_M_closes_153 : decode prog_12_method_13_code 153 = .ok (.goto 5, 3) := by decide +kernel
theorem d_M_closes_156 : decode prog_12_method_13_code 156 = .ok (.iconst 0, 1) := by decide +kernel
theorem d_M_closes_157 : decode prog_12_method_13_code 157 = .ok (.ireturn, 1) := by decide +kernel
theorem d_M_closes_158 : decode prog_12_method_13_code 158 = .ok (.aload_n 0, 1) := by decide +kernel
theorem d_M_closes_159 : decode prog_12_method_13_code 159 = .ok (.dup, 1) := by decide +kernel
theorem d_M_closes_160 : decode prog_12_method_13_code 160 = .ok (.getfield 143, 3) := by decide +kernel
theorem d_M_closes_163 : decode prog_12_method_13_code 163 = .ok (.iconst 1, 1) := by decide +kernel
theorem d_M_closes_164 : decode prog_12_method_13_code 164 = .ok (.isub, 1) := by decide +kernel
theorem d_M_closes_165 : decode prog_12_method_13_code 165 = .ok (.putfield 143, 3) := by decide +kernel
theorem d_M_closes_168 : decode prog_12_method_13_code 168 = .ok (.aload_n 0, 1) := by decide +kernel
theorem d_M_closes_169 : decode prog_12_method_13_code 169 = .ok (.dup, 1) := by decide +kernel
theorem d_M_closes_170 : decode prog_12_method_13_code 170 = .ok (.getfield 118, 3) := by decide +kernel
theorem d_M_closes_173 : decode prog_12_method_13_code 173 = .ok (.iconst 1, 1) := by decide +kernel
theorem d_M_closes_174 : decode prog_12_method_13_code 174 = .ok (.isub, 1) := by decide +kernel
theorem d_M_closes_175 : decode prog_12_method_13_code 175 = .ok (.putfield 118, 3) := by decide +kernel
theorem d_M_closes_178 : decode prog_12_method_13_code 178 = .ok (.iconst 1, 1) := by decide +kernel
theorem d_M_closes_179 : decode prog_12_method_13_code 179 = .ok (.ireturn, 1) := by decide +kernel

