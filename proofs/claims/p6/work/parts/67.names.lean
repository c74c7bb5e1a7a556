theorem wd_42 {U : State} (h : TB U) (args : Array Value) : (Cond.selects "BigRunnerModel" ⟨"BigRunnerModel", "statement", "()Z"⟩ ⟨"BigRunnerModel", "statement", "()Z"⟩).before args U = true := h.w 42 (by decide +kernel) rfl args
theorem wd_49 {U : State} (h : TB U) (args : Array Value) : (Cond.selects "BigRunnerModel" ⟨"BigRunnerModel", "closes", "(C)Z"⟩ ⟨"BigRunnerModel", "closes", "(C)Z"⟩).before args U = true := h.w 49 (by decide +kernel) rfl args
theorem wd_1104 {U : State} (h : TB U) (args : Array Value) : (Cond.methodLink "BigRunnerModel" 153 ⟨"BigRunnerModel", "statement", "()Z"⟩).before args U = true := h.w 1104 (by decide +kernel) rfl args
theorem wd_1106 {U : State} (h : TB U) (args : Array Value) : (Cond.instanceMethod ⟨"BigRunnerModel", "statement", "()Z"⟩).before args U = true := h.w 1106 (by decide +kernel) rfl args
theorem wd_1107 {U : State} (h : TB U) (args : Array Value) : (Cond.code ⟨"BigRunnerModel", "statement", "()Z"⟩ prog_12_method_12_code 3 (some .boolean)).before args U = true := h.w 1107 (by decide +kernel) rfl args
theorem wd_1141 {U : State} (h : TB U) (args : Array Value) : (Cond.methodLink "BigRunnerModel" 156 ⟨"BigRunnerModel", "closes", "(C)Z"⟩).before args U = true := h.w 1141 (by decide +kernel) rfl args
theorem wd_1143 {U : State} (h : TB U) (args : Array Value) : (Cond.instanceMethod ⟨"BigRunnerModel", "closes", "(C)Z"⟩).before args U = true := h.w 1143 (by decide +kernel) rfl args
theorem wd_1144 {U : State} (h : TB U) (args : Array Value) : (Cond.code ⟨"BigRunnerModel", "closes", "(C)Z"⟩ prog_12_method_13_code 4 (some .boolean)).before args U = true := h.w 1144 (by decide +kernel) rfl args
theorem d_M_reads_0 : decode prog_12_method_14_code 0 = .ok (.aload_n 0, 1) := by decide +kernel
theorem d_M_reads_1 : decode prog_12_method_14_code 1 = .ok (.iconst 0, 1) := by decide +kernel
theorem d_M_reads_2 : decode prog_12_method_14_code 2 = .ok (.putfield 98, 3) := by decide +kernel
theorem d_M_reads_5 : decode prog_12_method_14_code 5 = .ok (.aload_n 0, 1) := by decide +kernel
theorem d_M_reads_6 : decode prog_12_method_14_code 6 = .ok (.iconst 1, 1) := by decide +kernel
theorem d_M_reads_7 : decode prog_12_method_14_code 7 = .ok (.putfield 118, 3) := by decide +kernel
theorem d_M_reads_10 : decode prog_12_method_14_code 10 = .ok (.aload_n 0, 1) := by decide +kernel
theorem d_M_reads_11 : decode prog_12_method_14_code 11 = .ok (.iconst 0, 1) := by decide +kernel
theorem d_M_reads_12 : decode prog_12_method_14_code 12 = .ok (.putfield 104, 3) := by decide +kernel
theorem d_M_reads_15 : decode prog_12_method_14_code 15 = .ok (.aload_n 0, 1) := by decide +kernel
theorem d_M_reads_16 : decode prog_12_method_14_code 16 = .ok (.iconst 0, 1) := by decide +kernel
theorem d_M_reads_17 : decode prog_12_method_14_code 17 = .ok (.putfield 143, 3) := by decide +kernel
theorem d_M_reads_20 : decode prog_12_method_14_code 20 = .ok (.aload_n 0, 1) := by decide +kernel
theorem d_M_reads_21 : decode prog_12_method_14_code 21 = .ok (.iconst 1, 1) := by decide +kernel
theorem d_M_reads_22 : decode prog_12_method_14_code 22 = .ok (.putfield 149, 3) := by decide +kernel
theorem d_M_reads_25 : decode prog_12_method_14_code 25 = .ok (.iconst 1, 1) := by decide +kernel
theorem d_M_reads_26 : decode prog_12_method_14_code 26 = .ok (.istore_n 1, 1) := by decide +kernel
theorem d_M_reads_27 : decode prog_12_method_14_code 27 = .ok (.iload_n 1, 1) := by decide +kernel
theorem d_M_reads_28 : decode prog_12_method_14_code 28 = .ok (.ifCond .eq 79, 3) := by decide +kernel
theorem d_M_reads_31 : decode prog_12_method_14_code 31 = .ok (.aload_n 0, 1) := by decide +kernel
theorem d_M_reads_32 : decode prog_12_method_14_code 32 = .ok (.getfield 149, 3) := by decide +kernel
theorem d_M_reads_35 : decode prog_12_method_14_code 35 = .ok (.ifCond .ne 14, 3) := by decide +kernel
theorem d_M_reads_38 : decode prog_12_method_14_code 38 = .ok (.aload_n 0, 1) := by decide +kernel
theorem d_M_reads_39 : decode prog_12_method_14_code 39 = .ok (.getfield 98, 3) := by decide +kernel
theorem d_M_reads_42 : decode prog_12_method_14_code 42 = .ok (.aload_n 0, 1) := by decide +kernel
theorem d_M_reads_43 : decode prog_12_method_14_code 43 = .ok (.getfield 101, 3) := by decide +kernel
theorem d_M_reads_46 : decode prog_12_method_14_code 46 = .ok (.if_icmp .ge 61, 3) := by decide +kernel
theorem d_M_reads_49 : decode prog_12_method_14_code 49 = .ok (.aload_n 0, 1) := by decide +kernel
theorem d_M_reads_50 : decode prog_12_method_14_code 50 = .ok (.getfield 149, 3) := by decide +kernel
theorem d_M_reads_53 : decode prog_12_method_14_code 53 = .ok (.ifCond .eq 16, 3) := by decide +kernel
theorem d_M_reads_56 : decode prog_12_method_14_code 56 = .ok (.aload_n 0, 1) := by decide +kernel
theorem d_M_reads_57 : decode prog_12_method_14_code 57 = .ok (.iconst 0, 1) := by decide +kernel
theorem d_M_reads_58 : decode prog_12_method_14_code 58 = .ok (.putfield 149, 3) := by decide +kernel
theorem d_M_reads_61 : decode prog_12_method_14_code 61 = .ok (.aload_n 0, 1) := by decide +kernel
theorem d_M_reads_62 : decode prog_12_method_14_code 62 = .ok (.invokevirtual 153, 3) := by decide +kernel
theorem d_M_reads_65 : decode prog_12_method_14_code 65 = .ok (.istore_n 1, 1) := by decide +kernel
theorem d_M_reads_66 : decode prog_12_method_14_code 66 = .ok (.goto (-39), 3) := by decide +kernel
theorem d_M_reads_69 : decode prog_12_method_14_code 69 = .ok (.aload_n 0, 1) := by decide +kernel
theorem d_M_reads_70 : decode prog_12_method_14_code 70 = .ok (.invokevirtual 121, 3) := by decide +kernel
theorem d_M_reads_73 : decode prog_12_method_14_code 73 = .ok (.istore_n 2, 1) := by decide +kernel
theorem d_M_reads_74 : decode prog_12_method_14_code 74 = .ok (.aload_n 0, 1) := by decide +kernel
theorem d_M_reads_75 : decode prog_12_method_14_code 75 = .ok (.dup, 1) := by decide +kernel
theorem d_M_reads_76 : decode prog_12_method_14_code 76 = .ok (.getfield 98, 3) := by decide +kernel
theorem d_M_reads_79 : decode prog_12_method_14_code 79 = .ok (.iconst 1, 1) := by decide +kernel
theorem d_M_reads_80 : decode prog_12_method_14_code 80 = .ok (.iadd, 1) := by decide +kernel
theorem d_M_reads_81 : decode prog_12_method_14_code 81 = .ok (.putfield 98, 3) := by decide +kernel
theorem d_M_reads_84 : decode prog_12_method_14_code 84 = .ok (.iload_n 2, 1) := by decide +kernel
theorem d_M_reads_85 : decode prog_12_method_14_code 85 = .ok (.bipush 59, 2) := by decide +kernel
theorem d_M_reads_87 : decode prog_12_method_14_code 87 = .ok (.if_icmp .ne 11, 3) := by decide +kernel
theorem d_M_reads_90 : decode prog_12_method_14_code 90 = .ok (.aload_n 0, 1) := by decide +kernel
theorem d_M_reads_91 : decode prog_12_method_14_code 91 = .ok (.iconst 1, 1) := by decide +kernel
theorem d_M_reads_92 : decode prog_12_method_14_code 92 = .ok (.putfield 149, 3) := by decide +kernel
theorem d_M_reads_95 : decode prog_12_method_14_code 95 = .ok (.goto 9, 3) := by decide +kernel
theorem d_M_reads_98 : decode prog_12_method_14_code 98 = .ok (.aload_n 0, 1) := by decide +kernel
theorem d_M_reads_99 : decode prog_12_method_14_code 99 = .ok (.iload_n 2, 1) := by decide +kernel
theorem d_M_reads_100 : decode prog_12_method_14_code 100 = .ok (.invokevirtual 156, 3) := by decide +kernel
theorem d_M_reads_103 : decode prog_12_method_14_code 103 = .ok (.istore_n 1, 1) := by decide +kernel
theorem d_M_reads_104 : decode prog_12_method_14_code 104 = .ok (.goto (-77), 3) := by decide +kernel
theorem d_M_reads_107 : decode prog_12_method_14_code 107 = .ok (.iload_n 1, 1) := by decide +kernel
theorem d_M_reads_108 : decode prog_12_method_14_code 108 = .ok (.ifCond .eq 14, 3) := by decide +kernel
theorem d_M_reads_111 : decode prog_12_method_14_code 111 = .ok (.aload_n 0, 1) := by decide +kernel
theorem d_M_reads_112 : decode prog_12_method_14_code 112 = .ok (.getfield 143, 3) := by decide +kernel
theorem d_M_reads_115 : decode prog_12_method_14_code 115 = .ok (.ifCond .ne 7, 3) := by decide +kernel
theorem d_M_reads_118 : decode prog_12_method_14_code 118 = .ok (.iconst 1, 1) := by decide +kernel
theorem d_M_reads_119 : decode prog_12_method_14_code 119 = .ok (.goto 4, 3) := by decide +kernel
theorem d_M_reads_122 : decode prog_12_method_14_code 122 = .ok (.iconst 0, 1) := by decide +kernel
theorem d_M_reads_123 : decode prog_12_method_14_code 123 = .ok (.ireturn, 1) := by decide +kernel

