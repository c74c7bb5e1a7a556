theorem wd_76 {U : State} (h : TB U) (args : Array Value) : (Cond.initialized "BigRunner$Statement").before args U = true := h.w 76 (by decide +kernel) rfl args
theorem wd_114 {U : State} (h : TB U) (args : Array Value) : (Cond.methodLink "BigRunner$Program" 5 ⟨"java/lang/Object", "<init>", "()V"⟩).before args U = true := h.w 114 (by decide +kernel) rfl args
theorem wd_115 {U : State} (h : TB U) (args : Array Value) : (Cond.classLink "BigRunner$Program" 11 "BigRunner$Statement").before args U = true := h.w 115 (by decide +kernel) rfl args
theorem wd_116 {U : State} (h : TB U) (args : Array Value) : (Cond.arrayOver (.object "BigRunner$Statement")).before args U = true := h.w 116 (by decide +kernel) rfl args
theorem wd_117 {U : State} (h : TB U) (args : Array Value) : (Cond.classLink "BigRunner$Program" 21 "BigRunner$Node").before args U = true := h.w 117 (by decide +kernel) rfl args
theorem wd_118 {U : State} (h : TB U) (args : Array Value) : (Cond.arrayOver (.object "BigRunner$Node")).before args U = true := h.w 118 (by decide +kernel) rfl args
theorem wd_119 {U : State} (h : TB U) (args : Array Value) : (Cond.classLink "BigRunner$Program" 30 "BigRunner$Interval").before args U = true := h.w 119 (by decide +kernel) rfl args
theorem wd_120 {U : State} (h : TB U) (args : Array Value) : (Cond.arrayOver (.object "BigRunner$Interval")).before args U = true := h.w 120 (by decide +kernel) rfl args
theorem wd_122 {U : State} (h : TB U) (args : Array Value) : (Cond.methodLinkNest "BigRunner$Program" 36 ⟨"BigRunner$Interval", "<init>", "()V"⟩ "BigRunner").before args U = true := h.w 122 (by decide +kernel) rfl args
theorem wd_138 {U : State} (h : TB U) (args : Array Value) : (Cond.instantiable "BigRunner$Statement" 5).before args U = true := h.w 138 (by decide +kernel) rfl args
theorem wd_139 {U : State} (h : TB U) (args : Array Value) : (Cond.methodLinkNest "BigRunner$Program" 41 ⟨"BigRunner$Statement", "<init>", "()V"⟩ "BigRunner").before args U = true := h.w 139 (by decide +kernel) rfl args
theorem wd_140 {U : State} (h : TB U) (args : Array Value) : (Cond.instanceMethod ⟨"BigRunner$Statement", "<init>", "()V"⟩).before args U = true := h.w 140 (by decide +kernel) rfl args
theorem wd_141 {U : State} (h : TB U) (args : Array Value) : (Cond.code ⟨"BigRunner$Statement", "<init>", "()V"⟩ prog_10_method_1_code 1 none).before args U = true := h.w 141 (by decide +kernel) rfl args
theorem wd_173 {U : State} (h : TB U) (args : Array Value) : (Cond.instantiable "BigRunner$Node" 7).before args U = true := h.w 173 (by decide +kernel) rfl args
theorem wd_174 {U : State} (h : TB U) (args : Array Value) : (Cond.methodLinkNest "BigRunner$Program" 42 ⟨"BigRunner$Node", "<init>", "()V"⟩ "BigRunner").before args U = true := h.w 174 (by decide +kernel) rfl args
theorem wd_175 {U : State} (h : TB U) (args : Array Value) : (Cond.instanceMethod ⟨"BigRunner$Node", "<init>", "()V"⟩).before args U = true := h.w 175 (by decide +kernel) rfl args
theorem wd_176 {U : State} (h : TB U) (args : Array Value) : (Cond.code ⟨"BigRunner$Node", "<init>", "()V"⟩ prog_6_method_1_code 1 none).before args U = true := h.w 176 (by decide +kernel) rfl args
theorem wd_240 {U : State} (h : TB U) (args : Array Value) : (Cond.constantLong "BigRunner$Program" 45 (-1000000000)).before args U = true := h.w 240 (by decide +kernel) rfl args
theorem wd_241 {U : State} (h : TB U) (args : Array Value) : (Cond.constantLong "BigRunner$Program" 51 1000000000).before args U = true := h.w 241 (by decide +kernel) rfl args
theorem d_NProgram_init_0 : decode prog_7_method_1_code 0 = .ok (.aload_n 0, 1) := by decide +kernel
theorem d_NProgram_init_1 : decode prog_7_method_1_code 1 = .ok (.invokespecial 5, 3) := by decide +kernel
theorem d_NProgram_init_4 : decode prog_7_method_1_code 4 = .ok (.aload_n 0, 1) := by decide +kernel
theorem d_NProgram_init_5 : decode prog_7_method_1_code 5 = .ok (.bipush 36, 2) := by decide +kernel
theorem d_NProgram_init_7 : decode prog_7_method_1_code 7 = .ok (.anewarray 11, 3) := by decide +kernel
theorem d_NProgram_init_10 : decode prog_7_method_1_code 10 = .ok (.putfield 13, 3) := by decide +kernel
theorem d_NProgram_init_13 : decode prog_7_method_1_code 13 = .ok (.aload_n 0, 1) := by decide +kernel
theorem d_NProgram_init_14 : decode prog_7_method_1_code 14 = .ok (.iconst 0, 1) := by decide +kernel
theorem d_NProgram_init_15 : decode prog_7_method_1_code 15 = .ok (.putfield 17, 3) := by decide +kernel
theorem d_NProgram_init_18 : decode prog_7_method_1_code 18 = .ok (.aload_n 0, 1) := by decide +kernel
theorem d_NProgram_init_19 : decode prog_7_method_1_code 19 = .ok (.bipush 72, 2) := by decide +kernel
theorem d_NProgram_init_21 : decode prog_7_method_1_code 21 = .ok (.anewarray 21, 3) := by decide +kernel
theorem d_NProgram_init_24 : decode prog_7_method_1_code 24 = .ok (.putfield 23, 3) := by decide +kernel
theorem d_NProgram_init_27 : decode prog_7_method_1_code 27 = .ok (.aload_n 0, 1) := by decide +kernel
theorem d_NProgram_init_28 : decode prog_7_method_1_code 28 = .ok (.iconst 0, 1) := by decide +kernel
theorem d_NProgram_init_29 : decode prog_7_method_1_code 29 = .ok (.putfield 27, 3) := by decide +kernel
theorem d_NProgram_init_32 : decode prog_7_method_1_code 32 = .ok (.aload_n 0, 1) := by decide +kernel
theorem d_NProgram_init_33 : decode prog_7_method_1_code 33 = .ok (.bipush 10, 2) := by decide +kernel
theorem d_NProgram_init_35 : decode prog_7_method_1_code 35 = .ok (.anewarray 30, 3) := by decide +kernel
theorem d_NProgram_init_38 : decode prog_7_method_1_code 38 = .ok (.putfield 32, 3) := by decide +kernel
theorem d_NProgram_init_41 : decode prog_7_method_1_code 41 = .ok (.aload_n 0, 1) := by decide +kernel
theorem d_NProgram_init_42 : decode prog_7_method_1_code 42 = .ok (.new 30, 3) := by decide +kernel
theorem d_NProgram_init_45 : decode prog_7_method_1_code 45 = .ok (.dup, 1) := by decide +kernel
theorem d_NProgram_init_46 : decode prog_7_method_1_code 46 = .ok (.invokespecial 36, 3) := by decide +kernel
theorem d_NProgram_init_49 : decode prog_7_method_1_code 49 = .ok (.putfield 37, 3) := by decide +kernel
theorem d_NProgram_init_52 : decode prog_7_method_1_code 52 = .ok (.iconst 0, 1) := by decide +kernel
theorem d_NProgram_init_53 : decode prog_7_method_1_code 53 = .ok (.istore_n 1, 1) := by decide +kernel
theorem d_NProgram_init_54 : decode prog_7_method_1_code 54 = .ok (.iload_n 1, 1) := by decide +kernel
theorem d_NProgram_init_55 : decode prog_7_method_1_code 55 = .ok (.bipush 36, 2) := by decide +kernel
theorem d_NProgram_init_57 : decode prog_7_method_1_code 57 = .ok (.if_icmp .ge 22, 3) := by decide +kernel
theorem d_NProgram_init_60 : decode prog_7_method_1_code 60 = .ok (.aload_n 0, 1) := by decide +kernel
theorem d_NProgram_init_61 : decode prog_7_method_1_code 61 = .ok (.getfield 13, 3) := by decide +kernel
theorem d_NProgram_init_64 : decode prog_7_method_1_code 64 = .ok (.iload_n 1, 1) := by decide +kernel
theorem d_NProgram_init_65 : decode prog_7_method_1_code 65 = .ok (.new 11, 3) := by decide +kernel
theorem d_NProgram_init_68 : decode prog_7_method_1_code 68 = .ok (.dup, 1) := by decide +kernel
theorem d_NProgram_init_69 : decode prog_7_method_1_code 69 = .ok (.invokespecial 41, 3) := by decide +kernel
theorem d_NProgram_init_72 : decode prog_7_method_1_code 72 = .ok (.aastore, 1) := by decide +kernel
theorem d_NProgram_init_73 : decode prog_7_method_1_code 73 = .ok (.iinc 1 1, 3) := by decide +kernel
theorem d_NProgram_init_76 : decode prog_7_method_1_code 76 = .ok (.goto (-22), 3) := by decide +kernel
theorem d_NProgram_init_79 : decode prog_7_method_1_code 79 = .ok (.iconst 0, 1) := by decide +kernel
theorem d_NProgram_init_80 : decode prog_7_method_1_code 80 = .ok (.istore_n 1, 1) := by decide +kernel
theorem d_NProgram_init_81 : decode prog_7_method_1_code 81 = .ok (.iload_n 1, 1) := by decide +kernel
theorem d_NProgram_init_82 : decode prog_7_method_1_code 82 = .ok (.bipush 72, 2) := by decide +kernel
theorem d_NProgram_init_84 : decode prog_7_method_1_code 84 = .ok (.if_icmp .ge 22, 3) := by decide +kernel
theorem d_NProgram_init_87 : decode prog_7_method_1_code 87 = .ok (.aload_n 0, 1) := by decide +kernel
theorem d_NProgram_init_88 : decode prog_7_method_1_code 88 = .ok (.getfield 23, 3) := by decide +kernel
theorem d_NProgram_init_91 : decode prog_7_method_1_code 91 = .ok (.iload_n 1, 1) := by decide +kernel
theorem d_NProgram_init_92 : decode prog_7_method_1_code 92 = .ok (.new 21, 3) := by decide +kernel
theorem d_NProgram_init_95 : decode prog_7_method_1_code 95 = .ok (.dup, 1) := by decide +kernel
theorem d_NProgram_init_96 : decode prog_7_method_1_code 96 = .ok (.invokespecial 42, 3) := by decide +kernel
theorem d_NProgram_init_99 : decode prog_7_method_1_code 99 = .ok (.aastore, 1) := by decide +kernel
theorem d_NProgram_init_100 : decode prog_7_method_1_code 100 = .ok (.iinc 1 1, 3) := by decide +kernel
theorem d_NProgram_init_103 : decode prog_7_method_1_code 103 = .ok (.goto (-22), 3) := by decide +kernel
theorem d_NProgram_init_106 : decode prog_7_method_1_code 106 = .ok (.iconst 0, 1) := by decide +kernel
theorem d_NProgram_init_107 : decode prog_7_method_1_code 107 = .ok (.istore_n 1, 1) := by decide +kernel
theorem d_NProgram_init_108 : decode prog_7_method_1_code 108 = .ok (.iload_n 1, 1) := by decide +kernel
theorem d_NProgram_init_109 : decode prog_7_method_1_code 109 = .ok (.bipush 10, 2) := by decide +kernel
theorem d_NProgram_init_111 : decode prog_7_method_1_code 111 = .ok (.if_icmp .ge 22, 3) := by decide +kernel
theorem d_NProgram_init_114 : decode prog_7_method_1_code 114 = .ok (.aload_n 0, 1) := by decide +kernel
theorem d_NProgram_init_115 : decode prog_7_method_1_code 115 = .ok (.getfield 32, 3) := by decide +kernel
theorem d_NProgram_init_118 : decode prog_7_method_1_code 118 = .ok (.iload_n 1, 1) := by decide +kernel
theorem d_NProgram_init_119 : decode prog_7_method_1_code 119 = .ok (.new 30, 3) := by decide +kernel
theorem d_NProgram_init_122 : decode prog_7_method_1_code 122 = .ok (.dup, 1) := by decide +kernel
theorem d_NProgram_init_123 : decode prog_7_method_1_code 123 = .ok (.invokespecial 36, 3) := by decide +kernel
theorem d_NProgram_init_126 : decode prog_7_method_1_code 126 = .ok (.aastore, 1) := by decide +kernel
theorem d_NProgram_init_127 : decode prog_7_method_1_code 127 = .ok (.iinc 1 1, 3) := by decide +kernel
theorem d_NProgram_init_130 : decode prog_7_method_1_code 130 = .ok (.goto (-22), 3) := by decide +kernel
theorem d_NProgram_init_133 : decode prog_7_method_1_code 133 = .ok (.aload_n 0, 1) := by decide +kernel
theorem d_NProgram_init_134 : decode prog_7_method_1_code 134 = .ok (.getfield 37, 3) := by decide +kernel
theorem d_NProgram_init_137 : decode prog_7_method_1_code 137 = .ok (.ldc2_w 45, 3) := by decide +kernel
theorem d_NProgram_init_140 : decode prog_7_method_1_code 140 = .ok (.putfield 47, 3) := by decide +kernel
theorem d_NProgram_init_143 : decode prog_7_method_1_code 143 = .ok (.aload_n 0, 1) := by decide +kernel
theorem d_NProgram_init_144 : decode prog_7_method_1_code 144 = .ok (.getfield 37, 3) := by decide +kernel
theorem d_NProgram_init_147 : decode prog_7_method_1_code 147 = .ok (.ldc2_w 51, 3) := by decide +kernel
theorem d_NProgram_init_150 : decode prog_7_method_1_code 150 = .ok (.putfield 53, 3) := by decide +kernel
theorem d_NProgram_init_153 : decode prog_7_method_1_code 153 = .ok (.return_, 1) := by decide +kernel

