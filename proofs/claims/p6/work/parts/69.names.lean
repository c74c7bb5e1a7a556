theorem wd_41 {U : State} (h : TB U) (args : Array Value) : (Cond.selects "BigRunnerModel" ⟨"BigRunnerModel", "reads", "()Z"⟩ ⟨"BigRunnerModel", "reads", "()Z"⟩).before args U = true := h.w 41 (by decide +kernel) rfl args
theorem wd_50 {U : State} (h : TB U) (args : Array Value) : (Cond.selects "BigRunnerModel" ⟨"BigRunnerModel", "settle", "()I"⟩ ⟨"BigRunnerModel", "settle", "()I"⟩).before args U = true := h.w 50 (by decide +kernel) rfl args
theorem wd_1100 {U : State} (h : TB U) (args : Array Value) : (Cond.methodLink "BigRunnerModel" 261 ⟨"BigRunnerModel", "reads", "()Z"⟩).before args U = true := h.w 1100 (by decide +kernel) rfl args
theorem wd_1102 {U : State} (h : TB U) (args : Array Value) : (Cond.instanceMethod ⟨"BigRunnerModel", "reads", "()Z"⟩).before args U = true := h.w 1102 (by decide +kernel) rfl args
theorem wd_1103 {U : State} (h : TB U) (args : Array Value) : (Cond.code ⟨"BigRunnerModel", "reads", "()Z"⟩ prog_12_method_14_code 3 (some .boolean)).before args U = true := h.w 1103 (by decide +kernel) rfl args
theorem wd_1145 {U : State} (h : TB U) (args : Array Value) : (Cond.methodLink "BigRunnerModel" 276 ⟨"BigRunnerModel", "settle", "()I"⟩).before args U = true := h.w 1145 (by decide +kernel) rfl args
theorem wd_1147 {U : State} (h : TB U) (args : Array Value) : (Cond.instanceMethod ⟨"BigRunnerModel", "settle", "()I"⟩).before args U = true := h.w 1147 (by decide +kernel) rfl args
theorem wd_1148 {U : State} (h : TB U) (args : Array Value) : (Cond.code ⟨"BigRunnerModel", "settle", "()I"⟩ prog_12_method_25_code 2 (some .int)).before args U = true := h.w 1148 (by decide +kernel) rfl args
theorem d_M_load_0 : decode prog_12_method_40_code 0 = .ok (.aload_n 0, 1) := by decide +kernel
theorem d_M_load_1 : decode prog_12_method_40_code 1 = .ok (.aload_n 0, 1) := by decide +kernel
theorem d_M_load_2 : decode prog_12_method_40_code 2 = .ok (.invokevirtual 261, 3) := by decide +kernel
theorem d_M_load_5 : decode prog_12_method_40_code 5 = .ok (.ifCond .eq 7, 3) := by decide +kernel
theorem d_M_load_8 : decode prog_12_method_40_code 8 = .ok (.iconst 0, 1) := by decide +kernel
theorem d_M_load_9 : decode prog_12_method_40_code 9 = .ok (.goto 4, 3) := by decide +kernel
theorem d_M_load_12 : decode prog_12_method_40_code 12 = .ok (.iconst 1, 1) := by decide +kernel
theorem d_M_load_13 : decode prog_12_method_40_code 13 = .ok (.putfield 94, 3) := by decide +kernel
theorem d_M_load_16 : decode prog_12_method_40_code 16 = .ok (.aload_n 0, 1) := by decide +kernel
theorem d_M_load_17 : decode prog_12_method_40_code 17 = .ok (.getfield 94, 3) := by decide +kernel
theorem d_M_load_20 : decode prog_12_method_40_code 20 = .ok (.ifCond .le 5, 3) := by decide +kernel
theorem d_M_load_23 : decode prog_12_method_40_code 23 = .ok (.iconst 0, 1) := by decide +kernel
theorem d_M_load_24 : decode prog_12_method_40_code 24 = .ok (.ireturn, 1) := by decide +kernel
theorem d_M_load_25 : decode prog_12_method_40_code 25 = .ok (.iconst 0, 1) := by decide +kernel
theorem d_M_load_26 : decode prog_12_method_40_code 26 = .ok (.istore_n 1, 1) := by decide +kernel
theorem d_M_load_27 : decode prog_12_method_40_code 27 = .ok (.iload_n 1, 1) := by decide +kernel
theorem d_M_load_28 : decode prog_12_method_40_code 28 = .ok (.aload_n 0, 1) := by decide +kernel
theorem d_M_load_29 : decode prog_12_method_40_code 29 = .ok (.getfield 104, 3) := by decide +kernel
theorem d_M_load_32 : decode prog_12_method_40_code 32 = .ok (.if_icmp .ge 33, 3) := by decide +kernel
theorem d_M_load_35 : decode prog_12_method_40_code 35 = .ok (.aload_n 0, 1) := by decide +kernel
theorem d_M_load_36 : decode prog_12_method_40_code 36 = .ok (.getfield 20, 3) := by decide +kernel
theorem d_M_load_39 : decode prog_12_method_40_code 39 = .ok (.iload_n 1, 1) := by decide +kernel
theorem d_M_load_40 : decode prog_12_method_40_code 40 = .ok (.aload_n 0, 1) := by decide +kernel
theorem d_M_load_41 : decode prog_12_method_40_code 41 = .ok (.getfield 13, 3) := by decide +kernel
theorem d_M_load_44 : decode prog_12_method_40_code 44 = .ok (.iload_n 1, 1) := by decide +kernel
theorem d_M_load_45 : decode prog_12_method_40_code 45 = .ok (.iaload, 1) := by decide +kernel
theorem d_M_load_46 : decode prog_12_method_40_code 46 = .ok (.iastore, 1) := by decide +kernel
theorem d_M_load_47 : decode prog_12_method_40_code 47 = .ok (.aload_n 0, 1) := by decide +kernel
theorem d_M_load_48 : decode prog_12_method_40_code 48 = .ok (.getfield 23, 3) := by decide +kernel
theorem d_M_load_51 : decode prog_12_method_40_code 51 = .ok (.iload_n 1, 1) := by decide +kernel
theorem d_M_load_52 : decode prog_12_method_40_code 52 = .ok (.aload_n 0, 1) := by decide +kernel
theorem d_M_load_53 : decode prog_12_method_40_code 53 = .ok (.getfield 17, 3) := by decide +kernel
theorem d_M_load_56 : decode prog_12_method_40_code 56 = .ok (.iload_n 1, 1) := by decide +kernel
theorem d_M_load_57 : decode prog_12_method_40_code 57 = .ok (.iaload, 1) := by decide +kernel
theorem d_M_load_58 : decode prog_12_method_40_code 58 = .ok (.iastore, 1) := by decide +kernel
theorem d_M_load_59 : decode prog_12_method_40_code 59 = .ok (.iinc 1 1, 3) := by decide +kernel
theorem d_M_load_62 : decode prog_12_method_40_code 62 = .ok (.goto (-35), 3) := by decide +kernel
theorem d_M_load_65 : decode prog_12_method_40_code 65 = .ok (.aload_n 0, 1) := by decide +kernel
theorem d_M_load_66 : decode prog_12_method_40_code 66 = .ok (.aload_n 0, 1) := by decide +kernel
theorem d_M_load_67 : decode prog_12_method_40_code 67 = .ok (.getfield 104, 3) := by decide +kernel
theorem d_M_load_70 : decode prog_12_method_40_code 70 = .ok (.putfield 193, 3) := by decide +kernel
theorem d_M_load_73 : decode prog_12_method_40_code 73 = .ok (.aload_n 0, 1) := by decide +kernel
theorem d_M_load_74 : decode prog_12_method_40_code 74 = .ok (.iconst 0, 1) := by decide +kernel
theorem d_M_load_75 : decode prog_12_method_40_code 75 = .ok (.putfield 101, 3) := by decide +kernel
theorem d_M_load_78 : decode prog_12_method_40_code 78 = .ok (.iconst 0, 1) := by decide +kernel
theorem d_M_load_79 : decode prog_12_method_40_code 79 = .ok (.istore_n 1, 1) := by decide +kernel
theorem d_M_load_80 : decode prog_12_method_40_code 80 = .ok (.iload_n 1, 1) := by decide +kernel
theorem d_M_load_81 : decode prog_12_method_40_code 81 = .ok (.sipush 200, 3) := by decide +kernel
theorem d_M_load_84 : decode prog_12_method_40_code 84 = .ok (.if_icmp .ge 26, 3) := by decide +kernel
theorem d_M_load_87 : decode prog_12_method_40_code 87 = .ok (.aload_n 0, 1) := by decide +kernel
theorem d_M_load_88 : decode prog_12_method_40_code 88 = .ok (.getfield 67, 3) := by decide +kernel
theorem d_M_load_91 : decode prog_12_method_40_code 91 = .ok (.iload_n 1, 1) := by decide +kernel
theorem d_M_load_92 : decode prog_12_method_40_code 92 = .ok (.iconst 0, 1) := by decide +kernel
theorem d_M_load_93 : decode prog_12_method_40_code 93 = .ok (.iastore, 1) := by decide +kernel
theorem d_M_load_94 : decode prog_12_method_40_code 94 = .ok (.aload_n 0, 1) := by decide +kernel
theorem d_M_load_95 : decode prog_12_method_40_code 95 = .ok (.getfield 70, 3) := by decide +kernel
theorem d_M_load_98 : decode prog_12_method_40_code 98 = .ok (.iload_n 1, 1) := by decide +kernel
theorem d_M_load_99 : decode prog_12_method_40_code 99 = .ok (.bipush 20, 2) := by decide +kernel
theorem d_M_load_101 : decode prog_12_method_40_code 101 = .ok (.idiv, 1) := by decide +kernel
theorem d_M_load_102 : decode prog_12_method_40_code 102 = .ok (.iconst 0, 1) := by decide +kernel
theorem d_M_load_103 : decode prog_12_method_40_code 103 = .ok (.iastore, 1) := by decide +kernel
theorem d_M_load_104 : decode prog_12_method_40_code 104 = .ok (.iinc 1 1, 3) := by decide +kernel
theorem d_M_load_107 : decode prog_12_method_40_code 107 = .ok (.goto (-27), 3) := by decide +kernel
theorem d_M_load_110 : decode prog_12_method_40_code 110 = .ok (.aload_n 0, 1) := by decide +kernel
theorem d_M_load_111 : decode prog_12_method_40_code 111 = .ok (.iconst 0, 1) := by decide +kernel
theorem d_M_load_112 : decode prog_12_method_40_code 112 = .ok (.putfield 264, 3) := by decide +kernel
theorem d_M_load_115 : decode prog_12_method_40_code 115 = .ok (.aload_n 0, 1) := by decide +kernel
theorem d_M_load_116 : decode prog_12_method_40_code 116 = .ok (.iconst 0, 1) := by decide +kernel
theorem d_M_load_117 : decode prog_12_method_40_code 117 = .ok (.putfield 267, 3) := by decide +kernel
theorem d_M_load_120 : decode prog_12_method_40_code 120 = .ok (.aload_n 0, 1) := by decide +kernel
theorem d_M_load_121 : decode prog_12_method_40_code 121 = .ok (.iconst 1, 1) := by decide +kernel
theorem d_M_load_122 : decode prog_12_method_40_code 122 = .ok (.putfield 270, 3) := by decide +kernel
theorem d_M_load_125 : decode prog_12_method_40_code 125 = .ok (.aload_n 0, 1) := by decide +kernel
theorem d_M_load_126 : decode prog_12_method_40_code 126 = .ok (.iconst 0, 1) := by decide +kernel
theorem d_M_load_127 : decode prog_12_method_40_code 127 = .ok (.putfield 238, 3) := by decide +kernel
theorem d_M_load_130 : decode prog_12_method_40_code 130 = .ok (.aload_n 0, 1) := by decide +kernel
theorem d_M_load_131 : decode prog_12_method_40_code 131 = .ok (.iconst 0, 1) := by decide +kernel
theorem d_M_load_132 : decode prog_12_method_40_code 132 = .ok (.putfield 273, 3) := by decide +kernel
theorem d_M_load_135 : decode prog_12_method_40_code 135 = .ok (.aload_n 0, 1) := by decide +kernel
theorem d_M_load_136 : decode prog_12_method_40_code 136 = .ok (.iconst 0, 1) := by decide +kernel
theorem d_M_load_137 : decode prog_12_method_40_code 137 = .ok (.putfield 232, 3) := by decide +kernel
theorem d_M_load_140 : decode prog_12_method_40_code 140 = .ok (.aload_n 0, 1) := by decide +kernel
theorem d_M_load_141 : decode prog_12_method_40_code 141 = .ok (.iconst 0, 1) := by decide +kernel
theorem d_M_load_142 : decode prog_12_method_40_code 142 = .ok (.putfield 235, 3) := by decide +kernel
theorem d_M_load_145 : decode prog_12_method_40_code 145 = .ok (.aload_n 0, 1) := by decide +kernel
theorem d_M_load_146 : decode prog_12_method_40_code 146 = .ok (.invokevirtual 276, 3) := by decide +kernel
theorem d_M_load_149 : decode prog_12_method_40_code 149 = .ok (.ireturn, 1) := by decide +kernel

