theorem wd_43 {U : State} (h : TB U) (args : Array Value) : (Cond.selects "BigRunnerModel" ⟨"BigRunnerModel", "here", "()C"⟩ ⟨"BigRunnerModel", "here", "()C"⟩).before args U = true := h.w 43 (by decide +kernel) rfl args
theorem wd_1108 {U : State} (h : TB U) (args : Array Value) : (Cond.methodLink "BigRunnerModel" 121 ⟨"BigRunnerModel", "here", "()C"⟩).before args U = true := h.w 1108 (by decide +kernel) rfl args
theorem wd_1110 {U : State} (h : TB U) (args : Array Value) : (Cond.instanceMethod ⟨"BigRunnerModel", "here", "()C"⟩).before args U = true := h.w 1110 (by decide +kernel) rfl args
theorem wd_1111 {U : State} (h : TB U) (args : Array Value) : (Cond.code ⟨"BigRunnerModel", "here", "()C"⟩ prog_12_method_3_code 1 (some .char)).before args U = true := h.w 1111 (by decide +kernel) rfl args
theorem wd_1127 {U : State} (h : TB U) (args : Array Value) : (Cond.methodLink "BigRunnerModel" 125 ⟨"BigRunnerModel", "digit", "(C)Z"⟩).before args U = true := h.w 1127 (by decide +kernel) rfl args
theorem wd_1128 {U : State} (h : TB U) (args : Array Value) : (Cond.static ⟨"BigRunnerModel", "digit", "(C)Z"⟩).before args U = true := h.w 1128 (by decide +kernel) rfl args
theorem wd_1129 {U : State} (h : TB U) (args : Array Value) : (Cond.code ⟨"BigRunnerModel", "digit", "(C)Z"⟩ prog_12_method_5_code 1 (some .boolean)).before args U = true := h.w 1129 (by decide +kernel) rfl args
theorem wd_1134 {U : State} (h : TB U) (args : Array Value) : (Cond.methodLink "BigRunnerModel" 110 ⟨"BigRunnerModel", "kindOf", "(C)I"⟩).before args U = true := h.w 1134 (by decide +kernel) rfl args
theorem wd_1135 {U : State} (h : TB U) (args : Array Value) : (Cond.static ⟨"BigRunnerModel", "kindOf", "(C)I"⟩).before args U = true := h.w 1135 (by decide +kernel) rfl args
theorem wd_1136 {U : State} (h : TB U) (args : Array Value) : (Cond.code ⟨"BigRunnerModel", "kindOf", "(C)I"⟩ prog_12_method_7_code 1 (some .int)).before args U = true := h.w 1136 (by decide +kernel) rfl args
theorem d_M_number_0 : decode prog_12_method_10_code 0 = .ok (.iconst 0, 1) := by decide +kernel
theorem d_M_number_1 : decode prog_12_method_10_code 1 = .ok (.istore_n 1, 1) := by decide +kernel
theorem d_M_number_2 : decode prog_12_method_10_code 2 = .ok (.iconst 0, 1) := by decide +kernel
theorem d_M_number_3 : decode prog_12_method_10_code 3 = .ok (.istore_n 2, 1) := by decide +kernel
theorem d_M_number_4 : decode prog_12_method_10_code 4 = .ok (.aload_n 0, 1) := by decide +kernel
theorem d_M_number_5 : decode prog_12_method_10_code 5 = .ok (.invokevirtual 121, 3) := by decide +kernel
theorem d_M_number_8 : decode prog_12_method_10_code 8 = .ok (.invokestatic 125, 3) := by decide +kernel
theorem d_M_number_11 : decode prog_12_method_10_code 11 = .ok (.ifCond .eq 48, 3) := by decide +kernel
theorem d_M_number_14 : decode prog_12_method_10_code 14 = .ok (.iload_n 1, 1) := by decide +kernel
theorem d_M_number_15 : decode prog_12_method_10_code 15 = .ok (.bipush 10, 2) := by decide +kernel
theorem d_M_number_17 : decode prog_12_method_10_code 17 = .ok (.if_icmp .ge 42, 3) := by decide +kernel
theorem d_M_number_20 : decode prog_12_method_10_code 20 = .ok (.iload_n 1, 1) := by decide +kernel
theorem d_M_number_21 : decode prog_12_method_10_code 21 = .ok (.bipush 9, 2) := by decide +kernel
theorem d_M_number_23 : decode prog_12_method_10_code 23 = .ok (.if_icmp .ge 18, 3) := by decide +kernel
theorem d_M_number_26 : decode prog_12_method_10_code 26 = .ok (.bipush 10, 2) := by decide +kernel
theorem d_M_number_28 : decode prog_12_method_10_code 28 = .ok (.iload_n 2, 1) := by decide +kernel
theorem d_M_number_29 : decode prog_12_method_10_code 29 = .ok (.imul, 1) := by decide +kernel
theorem d_M_number_30 : decode prog_12_method_10_code 30 = .ok (.aload_n 0, 1) := by decide +kernel
theorem d_M_number_31 : decode prog_12_method_10_code 31 = .ok (.invokevirtual 121, 3) := by decide +kernel
theorem d_M_number_34 : decode prog_12_method_10_code 34 = .ok (.iadd, 1) := by decide +kernel
theorem d_M_number_35 : decode prog_12_method_10_code 35 = .ok (.bipush 48, 2) := by decide +kernel
theorem d_M_number_37 : decode prog_12_method_10_code 37 = .ok (.isub, 1) := by decide +kernel
theorem d_M_number_38 : decode prog_12_method_10_code 38 = .ok (.goto 4, 3) := by decide +kernel
theorem d_M_number_41 : decode prog_12_method_10_code 41 = .ok (.iload_n 2, 1) := by decide +kernel
theorem d_M_number_42 : decode prog_12_method_10_code 42 = .ok (.istore_n 2, 1) := by decide +kernel
theorem d_M_number_43 : decode prog_12_method_10_code 43 = .ok (.iinc 1 1, 3) := by decide +kernel
theorem d_M_number_46 : decode prog_12_method_10_code 46 = .ok (.aload_n 0, 1) := by decide +kernel
theorem d_M_number_47 : decode prog_12_method_10_code 47 = .ok (.dup, 1) := by decide +kernel
theorem d_M_number_48 : decode prog_12_method_10_code 48 = .ok (.getfield 98, 3) := by decide +kernel
theorem d_M_number_51 : decode prog_12_method_10_code 51 = .ok (.iconst 1, 1) := by decide +kernel
theorem d_M_number_52 : decode prog_12_method_10_code 52 = .ok (.iadd, 1) := by decide +kernel
theorem d_M_number_53 : decode prog_12_method_10_code 53 = .ok (.putfield 98, 3) := by decide +kernel
theorem d_M_number_56 : decode prog_12_method_10_code 56 = .ok (.goto (-52), 3) := by decide +kernel
theorem d_M_number_59 : decode prog_12_method_10_code 59 = .ok (.aload_n 0, 1) := by decide +kernel
theorem d_M_number_60 : decode prog_12_method_10_code 60 = .ok (.iconst 0, 1) := by decide +kernel
theorem d_M_number_61 : decode prog_12_method_10_code 61 = .ok (.iload_n 2, 1) := by decide +kernel
theorem d_M_number_62 : decode prog_12_method_10_code 62 = .ok (.invokevirtual 114, 3) := by decide +kernel
theorem d_M_number_65 : decode prog_12_method_10_code 65 = .ok (.iload_n 1, 1) := by decide +kernel
theorem d_M_number_66 : decode prog_12_method_10_code 66 = .ok (.bipush 10, 2) := by decide +kernel
theorem d_M_number_68 : decode prog_12_method_10_code 68 = .ok (.if_icmp .ge 7, 3) := by decide +kernel
theorem d_M_number_71 : decode prog_12_method_10_code 71 = .ok (.iconst 1, 1) := by decide +kernel
theorem d_M_number_72 : decode prog_12_method_10_code 72 = .ok (.goto 4, 3) := by decide +kernel
theorem d_M_number_75 : decode prog_12_method_10_code 75 = .ok (.iconst 0, 1) := by decide +kernel
theorem d_M_number_76 : decode prog_12_method_10_code 76 = .ok (.ireturn, 1) := by decide +kernel
theorem d_M_release_0 : decode prog_12_method_8_code 0 = .ok (.aload_n 0, 1) := by decide +kernel
theorem d_M_release_1 : decode prog_12_method_8_code 1 = .ok (.getfield 107, 3) := by decide +kernel
theorem d_M_release_4 : decode prog_12_method_8_code 4 = .ok (.ifCond .le 76, 3) := by decide +kernel
theorem d_M_release_7 : decode prog_12_method_8_code 7 = .ok (.aload_n 0, 1) := by decide +kernel
theorem d_M_release_8 : decode prog_12_method_8_code 8 = .ok (.getfield 30, 3) := by decide +kernel
theorem d_M_release_11 : decode prog_12_method_8_code 11 = .ok (.aload_n 0, 1) := by decide +kernel
theorem d_M_release_12 : decode prog_12_method_8_code 12 = .ok (.getfield 107, 3) := by decide +kernel
theorem d_M_release_15 : decode prog_12_method_8_code 15 = .ok (.iconst 1, 1) := by decide +kernel
theorem d_M_release_16 : decode prog_12_method_8_code 16 = .ok (.isub, 1) := by decide +kernel
theorem d_M_release_17 : decode prog_12_method_8_code 17 = .ok (.caload, 1) := by decide +kernel
theorem d_M_release_18 : decode prog_12_method_8_code 18 = .ok (.bipush 40, 2) := by decide +kernel
theorem d_M_release_20 : decode prog_12_method_8_code 20 = .ok (.if_icmp .eq 60, 3) := by decide +kernel
theorem d_M_release_23 : decode prog_12_method_8_code 23 = .ok (.aload_n 0, 1) := by decide +kernel
theorem d_M_release_24 : decode prog_12_method_8_code 24 = .ok (.getfield 30, 3) := by decide +kernel
theorem d_M_release_27 : decode prog_12_method_8_code 27 = .ok (.aload_n 0, 1) := by decide +kernel
theorem d_M_release_28 : decode prog_12_method_8_code 28 = .ok (.getfield 107, 3) := by decide +kernel
theorem d_M_release_31 : decode prog_12_method_8_code 31 = .ok (.iconst 1, 1) := by decide +kernel
theorem d_M_release_32 : decode prog_12_method_8_code 32 = .ok (.isub, 1) := by decide +kernel
theorem d_M_release_33 : decode prog_12_method_8_code 33 = .ok (.caload, 1) := by decide +kernel
theorem d_M_release_34 : decode prog_12_method_8_code 34 = .ok (.invokestatic 110, 3) := by decide +kernel
theorem d_M_release_37 : decode prog_12_method_8_code 37 = .ok (.iconst 3, 1) := by decide +kernel
theorem d_M_release_38 : decode prog_12_method_8_code 38 = .ok (.if_icmp .le 7, 3) := by decide +kernel
theorem d_M_release_41 : decode prog_12_method_8_code 41 = .ok (.iconst 2, 1) := by decide +kernel
theorem d_M_release_42 : decode prog_12_method_8_code 42 = .ok (.goto 4, 3) := by decide +kernel
theorem d_M_release_45 : decode prog_12_method_8_code 45 = .ok (.iconst 1, 1) := by decide +kernel
theorem d_M_release_46 : decode prog_12_method_8_code 46 = .ok (.iload_n 1, 1) := by decide +kernel
theorem d_M_release_47 : decode prog_12_method_8_code 47 = .ok (.if_icmp .lt 33, 3) := by decide +kernel
theorem d_M_release_50 : decode prog_12_method_8_code 50 = .ok (.aload_n 0, 1) := by decide +kernel
theorem d_M_release_51 : decode prog_12_method_8_code 51 = .ok (.dup, 1) := by decide +kernel
theorem d_M_release_52 : decode prog_12_method_8_code 52 = .ok (.getfield 107, 3) := by decide +kernel
theorem d_M_release_55 : decode prog_12_method_8_code 55 = .ok (.iconst 1, 1) := by decide +kernel
theorem d_M_release_56 : decode prog_12_method_8_code 56 = .ok (.isub, 1) := by decide +kernel
theorem d_M_release_57 : decode prog_12_method_8_code 57 = .ok (.putfield 107, 3) := by decide +kernel
theorem d_M_release_60 : decode prog_12_method_8_code 60 = .ok (.aload_n 0, 1) := by decide +kernel
theorem d_M_release_61 : decode prog_12_method_8_code 61 = .ok (.aload_n 0, 1) := by decide +kernel
theorem d_M_release_62 : decode prog_12_method_8_code 62 = .ok (.getfield 30, 3) := by decide +kernel
theorem d_M_release_65 : decode prog_12_method_8_code 65 = .ok (.aload_n 0, 1) := by decide +kernel
theorem d_M_release_66 : decode prog_12_method_8_code 66 = .ok (.getfield 107, 3) := by decide +kernel
theorem d_M_release_69 : decode prog_12_method_8_code 69 = .ok (.caload, 1) := by decide +kernel
theorem d_M_release_70 : decode prog_12_method_8_code 70 = .ok (.invokestatic 110, 3) := by decide +kernel
theorem d_M_release_73 : decode prog_12_method_8_code 73 = .ok (.iconst 0, 1) := by decide +kernel
theorem d_M_release_74 : decode prog_12_method_8_code 74 = .ok (.invokevirtual 114, 3) := by decide +kernel
theorem d_M_release_77 : decode prog_12_method_8_code 77 = .ok (.goto (-77), 3) := by decide +kernel
theorem d_M_release_80 : decode prog_12_method_8_code 80 = .ok (.return_, 1) := by decide +kernel

