theorem wd_64 {U : State} (h : TB U) (args : Array Value) : (Cond.selects "BigRunnerModel" ⟨"BigRunnerModel", "limb", "(II)I"⟩ ⟨"BigRunnerModel", "limb", "(II)I"⟩).before args U = true := h.w 64 (by decide +kernel) rfl args
theorem wd_66 {U : State} (h : TB U) (args : Array Value) : (Cond.selects "BigRunnerModel" ⟨"BigRunnerModel", "addUp", "(III)V"⟩ ⟨"BigRunnerModel", "addUp", "(III)V"⟩).before args U = true := h.w 66 (by decide +kernel) rfl args
theorem wd_67 {U : State} (h : TB U) (args : Array Value) : (Cond.selects "BigRunnerModel" ⟨"BigRunnerModel", "order", "(II)I"⟩ ⟨"BigRunnerModel", "order", "(II)I"⟩).before args U = true := h.w 67 (by decide +kernel) rfl args
theorem wd_69 {U : State} (h : TB U) (args : Array Value) : (Cond.selects "BigRunnerModel" ⟨"BigRunnerModel", "holds", "(IIZ)Z"⟩ ⟨"BigRunnerModel", "holds", "(IIZ)Z"⟩).before args U = true := h.w 69 (by decide +kernel) rfl args
theorem wd_82 {U : State} (h : TB U) (args : Array Value) : (Cond.initialized "BigRunnerModel").before args U = true := h.w 82 (by decide +kernel) rfl args
theorem wd_977 {U : State} (h : TB U) (args : Array Value) : (Cond.fieldLink "BigRunnerModel" 79 "BigRunnerModel" "limbs" "[I").before args U = true := h.w 977 (by decide +kernel) rfl args
theorem wd_978 {U : State} (h : TB U) (args : Array Value) : (Cond.fieldLink "BigRunnerModel" 82 "BigRunnerModel" "sign" "[I").before args U = true := h.w 978 (by decide +kernel) rfl args
theorem wd_980 {U : State} (h : TB U) (args : Array Value) : (Cond.fieldLink "BigRunnerModel" 85 "BigRunnerModel" "result" "[I").before args U = true := h.w 980 (by decide +kernel) rfl args
theorem wd_981 {U : State} (h : TB U) (args : Array Value) : (Cond.fieldLink "BigRunnerModel" 88 "BigRunnerModel" "rest" "[I").before args U = true := h.w 981 (by decide +kernel) rfl args
theorem wd_1212 {U : State} (h : TB U) (args : Array Value) : (Cond.constant "BigRunnerModel" 210 1000000).before args U = true := h.w 1212 (by decide +kernel) rfl args
theorem wd_1229 {U : State} (h : TB U) (args : Array Value) : (Cond.methodLink "BigRunnerModel" 211 ⟨"BigRunnerModel", "limb", "(II)I"⟩).before args U = true := h.w 1229 (by decide +kernel) rfl args
theorem wd_1231 {U : State} (h : TB U) (args : Array Value) : (Cond.instanceMethod ⟨"BigRunnerModel", "limb", "(II)I"⟩).before args U = true := h.w 1231 (by decide +kernel) rfl args
theorem wd_1232 {U : State} (h : TB U) (args : Array Value) : (Cond.code ⟨"BigRunnerModel", "limb", "(II)I"⟩ prog_12_method_26_code 3 (some .int)).before args U = true := h.w 1232 (by decide +kernel) rfl args
theorem wd_1233 {U : State} (h : TB U) (args : Array Value) : (Cond.constantLong "BigRunnerModel" 222 1000000).before args U = true := h.w 1233 (by decide +kernel) rfl args
theorem wd_1238 {U : State} (h : TB U) (args : Array Value) : (Cond.methodLink "BigRunnerModel" 215 ⟨"BigRunnerModel", "addUp", "(III)V"⟩).before args U = true := h.w 1238 (by decide +kernel) rfl args
theorem wd_1240 {U : State} (h : TB U) (args : Array Value) : (Cond.instanceMethod ⟨"BigRunnerModel", "addUp", "(III)V"⟩).before args U = true := h.w 1240 (by decide +kernel) rfl args
theorem wd_1241 {U : State} (h : TB U) (args : Array Value) : (Cond.code ⟨"BigRunnerModel", "addUp", "(III)V"⟩ prog_12_method_30_code 7 none).before args U = true := h.w 1241 (by decide +kernel) rfl args
theorem wd_1242 {U : State} (h : TB U) (args : Array Value) : (Cond.methodLink "BigRunnerModel" 219 ⟨"BigRunnerModel", "order", "(II)I"⟩).before args U = true := h.w 1242 (by decide +kernel) rfl args
theorem wd_1244 {U : State} (h : TB U) (args : Array Value) : (Cond.instanceMethod ⟨"BigRunnerModel", "order", "(II)I"⟩).before args U = true := h.w 1244 (by decide +kernel) rfl args
theorem wd_1245 {U : State} (h : TB U) (args : Array Value) : (Cond.code ⟨"BigRunnerModel", "order", "(II)I"⟩ prog_12_method_28_code 4 (some .int)).before args U = true := h.w 1245 (by decide +kernel) rfl args
theorem wd_1250 {U : State} (h : TB U) (args : Array Value) : (Cond.constant "BigRunnerModel" 224 524288).before args U = true := h.w 1250 (by decide +kernel) rfl args
theorem wd_1251 {U : State} (h : TB U) (args : Array Value) : (Cond.methodLink "BigRunnerModel" 225 ⟨"BigRunnerModel", "holds", "(IIZ)Z"⟩).before args U = true := h.w 1251 (by decide +kernel) rfl args
theorem wd_1253 {U : State} (h : TB U) (args : Array Value) : (Cond.instanceMethod ⟨"BigRunnerModel", "holds", "(IIZ)Z"⟩).before args U = true := h.w 1253 (by decide +kernel) rfl args
theorem wd_1254 {U : State} (h : TB U) (args : Array Value) : (Cond.code ⟨"BigRunnerModel", "holds", "(IIZ)Z"⟩ prog_12_method_33_code 12 (some .boolean)).before args U = true := h.w 1254 (by decide +kernel) rfl args
theorem d_M_addUp_0 : decode prog_12_method_30_code 0 = .ok (.iconst 0, 1) := by decide +kernel
theorem d_M_addUp_1 : decode prog_12_method_30_code 1 = .ok (.istore 4, 2) := by decide +kernel
theorem d_M_addUp_3 : decode prog_12_method_30_code 3 = .ok (.iconst 0, 1) := by decide +kernel
theorem d_M_addUp_4 : decode prog_12_method_30_code 4 = .ok (.istore 5, 2) := by decide +kernel
theorem d_M_addUp_6 : decode prog_12_method_30_code 6 = .ok (.iload 5, 2) := by decide +kernel
theorem d_M_addUp_8 : decode prog_12_method_30_code 8 = .ok (.bipush 21, 2) := by decide +kernel
theorem d_M_addUp_10 : decode prog_12_method_30_code 10 = .ok (.if_icmp .ge 69, 3) := by decide +kernel
theorem d_M_addUp_13 : decode prog_12_method_30_code 13 = .ok (.aload_n 0, 1) := by decide +kernel
theorem d_M_addUp_14 : decode prog_12_method_30_code 14 = .ok (.iload_n 1, 1) := by decide +kernel
theorem d_M_addUp_15 : decode prog_12_method_30_code 15 = .ok (.iload 5, 2) := by decide +kernel
theorem d_M_addUp_17 : decode prog_12_method_30_code 17 = .ok (.invokevirtual 211, 3) := by decide +kernel
theorem d_M_addUp_20 : decode prog_12_method_30_code 20 = .ok (.iload_n 3, 1) := by decide +kernel
theorem d_M_addUp_21 : decode prog_12_method_30_code 21 = .ok (.aload_n 0, 1) := by decide +kernel
theorem d_M_addUp_22 : decode prog_12_method_30_code 22 = .ok (.iload_n 2, 1) := by decide +kernel
theorem d_M_addUp_23 : decode prog_12_method_30_code 23 = .ok (.iload 5, 2) := by decide +kernel
theorem d_M_addUp_25 : decode prog_12_method_30_code 25 = .ok (.invokevirtual 211, 3) := by decide +kernel
theorem d_M_addUp_28 : decode prog_12_method_30_code 28 = .ok (.imul, 1) := by decide +kernel
theorem d_M_addUp_29 : decode prog_12_method_30_code 29 = .ok (.iadd, 1) := by decide +kernel
theorem d_M_addUp_30 : decode prog_12_method_30_code 30 = .ok (.iload 4, 2) := by decide +kernel
theorem d_M_addUp_32 : decode prog_12_method_30_code 32 = .ok (.iadd, 1) := by decide +kernel
theorem d_M_addUp_33 : decode prog_12_method_30_code 33 = .ok (.istore 6, 2) := by decide +kernel
theorem d_M_addUp_35 : decode prog_12_method_30_code 35 = .ok (.iload 6, 2) := by decide +kernel
theorem d_M_addUp_37 : decode prog_12_method_30_code 37 = .ok (.ifCond .ge 7, 3) := by decide +kernel
theorem d_M_addUp_40 : decode prog_12_method_30_code 40 = .ok (.iconst (-1), 1) := by decide +kernel
theorem d_M_addUp_41 : decode prog_12_method_30_code 41 = .ok (.goto 15, 3) := by decide +kernel
theorem d_M_addUp_44 : decode prog_12_method_30_code 44 = .ok (.iload 6, 2) := by decide +kernel
theorem d_M_addUp_46 : decode prog_12_method_30_code 46 = .ok (.ldc 210, 2) := by decide +kernel
theorem d_M_addUp_48 : decode prog_12_method_30_code 48 = .ok (.if_icmp .lt 7, 3) := by decide +kernel
theorem d_M_addUp_51 : decode prog_12_method_30_code 51 = .ok (.iconst 1, 1) := by decide +kernel
theorem d_M_addUp_52 : decode prog_12_method_30_code 52 = .ok (.goto 4, 3) := by decide +kernel
theorem d_M_addUp_55 : decode prog_12_method_30_code 55 = .ok (.iconst 0, 1) := by decide +kernel
theorem d_M_addUp_56 : decode prog_12_method_30_code 56 = .ok (.istore 4, 2) := by decide +kernel
theorem d_M_addUp_58 : decode prog_12_method_30_code 58 = .ok (.aload_n 0, 1) := by decide +kernel
theorem d_M_addUp_59 : decode prog_12_method_30_code 59 = .ok (.getfield 85, 3) := by decide +kernel
theorem d_M_addUp_62 : decode prog_12_method_30_code 62 = .ok (.iload 5, 2) := by decide +kernel
theorem d_M_addUp_64 : decode prog_12_method_30_code 64 = .ok (.iload 6, 2) := by decide +kernel
theorem d_M_addUp_66 : decode prog_12_method_30_code 66 = .ok (.iload 4, 2) := by decide +kernel
theorem d_M_addUp_68 : decode prog_12_method_30_code 68 = .ok (.ldc 210, 2) := by decide +kernel
theorem d_M_addUp_70 : decode prog_12_method_30_code 70 = .ok (.imul, 1) := by decide +kernel
theorem d_M_addUp_71 : decode prog_12_method_30_code 71 = .ok (.isub, 1) := by decide +kernel
theorem d_M_addUp_72 : decode prog_12_method_30_code 72 = .ok (.iastore, 1) := by decide +kernel
theorem d_M_addUp_73 : decode prog_12_method_30_code 73 = .ok (.iinc 5 1, 3) := by decide +kernel
theorem d_M_addUp_76 : decode prog_12_method_30_code 76 = .ok (.goto (-70), 3) := by decide +kernel
theorem d_M_addUp_79 : decode prog_12_method_30_code 79 = .ok (.return_, 1) := by decide +kernel
theorem d_M_clear_0 : decode prog_12_method_29_code 0 = .ok (.iconst 0, 1) := by decide +kernel
theorem d_M_clear_1 : decode prog_12_method_29_code 1 = .ok (.istore_n 1, 1) := by decide +kernel
theorem d_M_clear_2 : decode prog_12_method_29_code 2 = .ok (.iload_n 1, 1) := by decide +kernel
theorem d_M_clear_3 : decode prog_12_method_29_code 3 = .ok (.bipush 44, 2) := by decide +kernel
theorem d_M_clear_5 : decode prog_12_method_29_code 5 = .ok (.if_icmp .ge 23, 3) := by decide +kernel
theorem d_M_clear_8 : decode prog_12_method_29_code 8 = .ok (.aload_n 0, 1) := by decide +kernel
theorem d_M_clear_9 : decode prog_12_method_29_code 9 = .ok (.getfield 85, 3) := by decide +kernel
theorem d_M_clear_12 : decode prog_12_method_29_code 12 = .ok (.iload_n 1, 1) := by decide +kernel
theorem d_M_clear_13 : decode prog_12_method_29_code 13 = .ok (.iconst 0, 1) := by decide +kernel
theorem d_M_clear_14 : decode prog_12_method_29_code 14 = .ok (.iastore, 1) := by decide +kernel
theorem d_M_clear_15 : decode prog_12_method_29_code 15 = .ok (.aload_n 0, 1) := by decide +kernel
theorem d_M_clear_16 : decode prog_12_method_29_code 16 = .ok (.getfield 88, 3) := by decide +kernel
theorem d_M_clear_19 : decode prog_12_method_29_code 19 = .ok (.iload_n 1, 1) := by decide +kernel
theorem d_M_clear_20 : decode prog_12_method_29_code 20 = .ok (.iconst 0, 1) := by decide +kernel
theorem d_M_clear_21 : decode prog_12_method_29_code 21 = .ok (.iastore, 1) := by decide +kernel
theorem d_M_clear_22 : decode prog_12_method_29_code 22 = .ok (.iinc 1 1, 3) := by decide +kernel
theorem d_M_clear_25 : decode prog_12_method_29_code 25 = .ok (.goto (-23), 3) := by decide +kernel
theorem d_M_clear_28 : decode prog_12_method_29_code 28 = .ok (.return_, 1) := by decide +kernel
theorem d_M_digitsOf_0 : decode prog_12_method_35_code 0 = .ok (.iconst 1, 1) := by decide +kernel
theorem d_M_digitsOf_1 : decode prog_12_method_35_code 1 = .ok (.istore_n 3, 1) := by decide +kernel
theorem d_M_digitsOf_2 : decode prog_12_method_35_code 2 = .ok (.iconst 0, 1) := by decide +kernel
theorem d_M_digitsOf_3 : decode prog_12_method_35_code 3 = .ok (.istore 4, 2) := by decide +kernel
theorem d_M_digitsOf_5 : decode prog_12_method_35_code 5 = .ok (.iload 4, 2) := by decide +kernel
theorem d_M_digitsOf_7 : decode prog_12_method_35_code 7 = .ok (.iload_n 2, 1) := by decide +kernel
theorem d_M_digitsOf_8 : decode prog_12_method_35_code 8 = .ok (.if_icmp .ge 47, 3) := by decide +kernel
theorem d_M_digitsOf_11 : decode prog_12_method_35_code 11 = .ok (.aload_n 0, 1) := by decide +kernel
theorem d_M_digitsOf_12 : decode prog_12_method_35_code 12 = .ok (.iload_n 1, 1) := by decide +kernel
theorem d_M_digitsOf_13 : decode prog_12_method_35_code 13 = .ok (.iload 4, 2) := by decide +kernel
theorem d_M_digitsOf_15 : decode prog_12_method_35_code 15 = .ok (.iadd, 1) := by decide +kernel
theorem d_M_digitsOf_16 : decode prog_12_method_35_code 16 = .ok (.iaload, 1) := by decide +kernel
theorem d_M_digitsOf_17 : decode prog_12_method_35_code 17 = .ok (.istore 5, 2) := by decide +kernel
theorem d_M_digitsOf_19 : decode prog_12_method_35_code 19 = .ok (.iconst 1, 1) := by decide +kernel
theorem d_M_digitsOf_20 : decode prog_12_method_35_code 20 = .ok (.istore 6, 2) := by decide +kernel
theorem d_M_digitsOf_22 : decode prog_12_method_35_code 22 = .ok (.iload 5, 2) := by decide +kernel
theorem d_M_digitsOf_24 : decode prog_12_method_35_code 24 = .ok (.ifCond .le 25, 3) := by decide +kernel
theorem d_M_digitsOf_27 : decode prog_12_method_35_code 27 = .ok (.bipush 6, 2) := by decide +kernel
theorem d_M_digitsOf_29 : decode prog_12_method_35_code 29 = .ok (.iload 4, 2) := by decide +kernel
theorem d_M_digitsOf_31 : decode prog_12_method_35_code 31 = .ok (.imul, 1) := by decide +kernel
theorem d_M_digitsOf_32 : decode prog_12_method_35_code 32 = .ok (.iload 6, 2) := by decide +kernel
theorem d_M_digitsOf_34 : decode prog_12_method_35_code 34 = .ok (.iadd, 1) := by decide +kernel
theorem d_M_digitsOf_35 : decode prog_12_method_35_code 35 = .ok (.istore_n 3, 1) := by decide +kernel
theorem d_M_digitsOf_36 : decode prog_12_method_35_code 36 = .ok (.iload 5, 2) := by decide +kernel
theorem d_M_digitsOf_38 : decode prog_12_method_35_code 38 = .ok (.bipush 10, 2) := by decide +kernel
theorem d_M_digitsOf_40 : decode prog_12_method_35_code 40 = .ok (.idiv, 1) := by decide +kernel
theorem d_M_digitsOf_41 : decode prog_12_method_35_code 41 = .ok (.istore 5, 2) := by decide +kernel
theorem d_M_digitsOf_43 : decode prog_12_method_35_code 43 = .ok (.iinc 6 1, 3) := by decide +kernel
theorem d_M_digitsOf_46 : decode prog_12_method_35_code 46 = .ok (.goto (-24), 3) := by decide +kernel
theorem d_M_digitsOf_49 : decode prog_12_method_35_code 49 = .ok (.iinc 4 1, 3) := by decide +kernel
theorem d_M_digitsOf_52 : decode prog_12_method_35_code 52 = .ok (.goto (-47), 3) := by decide +kernel
theorem d_M_digitsOf_55 : decode prog_12_method_35_code 55 = .ok (.iload_n 3, 1) := by decide +kernel
theorem d_M_digitsOf_56 : decode prog_12_method_35_code 56 = .ok (.ireturn, 1) := by decide +kernel
theorem d_M_divide_0 : decode prog_12_method_34_code 0 = .ok (.bipush 19, 2) := by decide +kernel
theorem d_M_divide_2 : decode prog_12_method_34_code 2 = .ok (.istore_n 3, 1) := by decide +kernel
theorem d_M_divide_3 : decode prog_12_method_34_code 3 = .ok (.iload_n 3, 1) := by decide +kernel
theorem d_M_divide_4 : decode prog_12_method_34_code 4 = .ok (.ifCond .lt 122, 3) := by decide +kernel
theorem d_M_divide_7 : decode prog_12_method_34_code 7 = .ok (.bipush 22, 2) := by decide +kernel
theorem d_M_divide_9 : decode prog_12_method_34_code 9 = .ok (.istore 4, 2) := by decide +kernel
theorem d_M_divide_11 : decode prog_12_method_34_code 11 = .ok (.iload 4, 2) := by decide +kernel
theorem d_M_divide_13 : decode prog_12_method_34_code 13 = .ok (.ifCond .le 25, 3) := by decide +kernel
theorem d_M_divide_16 : decode prog_12_method_34_code 16 = .ok (.aload_n 0, 1) := by decide +kernel
theorem d_M_divide_17 : decode prog_12_method_34_code 17 = .ok (.getfield 88, 3) := by decide +kernel
theorem d_M_divide_20 : decode prog_12_method_34_code 20 = .ok (.iload 4, 2) := by decide +kernel
theorem d_M_divide_22 : decode prog_12_method_34_code 22 = .ok (.aload_n 0, 1) := by decide +kernel
theorem d_M_divide_23 : decode prog_12_method_34_code 23 = .ok (.getfield 88, 3) := by decide +kernel
theorem d_M_divide_26 : decode prog_12_method_34_code 26 = .ok (.iload 4, 2) := by decide +kernel
theorem d_M_divide_28 : decode prog_12_method_34_code 28 = .ok (.iconst 1, 1) := by decide +kernel
theorem d_M_divide_29 : decode prog_12_method_34_code 29 = .ok (.isub, 1) := by decide +kernel
theorem d_M_divide_30 : decode prog_12_method_34_code 30 = .ok (.iaload, 1) := by decide +kernel
theorem d_M_divide_31 : decode prog_12_method_34_code 31 = .ok (.iastore, 1) := by decide +kernel
theorem d_M_divide_32 : decode prog_12_method_34_code 32 = .ok (.iinc 4 (-1), 3) := by decide +kernel
theorem d_M_divide_35 : decode prog_12_method_34_code 35 = .ok (.goto (-24), 3) := by decide +kernel
theorem d_M_divide_38 : decode prog_12_method_34_code 38 = .ok (.aload_n 0, 1) := by decide +kernel
theorem d_M_divide_39 : decode prog_12_method_34_code 39 = .ok (.getfield 88, 3) := by decide +kernel
theorem d_M_divide_42 : decode prog_12_method_34_code 42 = .ok (.iconst 0, 1) := by decide +kernel
theorem d_M_divide_43 : decode prog_12_method_34_code 43 = .ok (.aload_n 0, 1) := by decide +kernel
theorem d_M_divide_44 : decode prog_12_method_34_code 44 = .ok (.iload_n 1, 1) := by decide +kernel
theorem d_M_divide_45 : decode prog_12_method_34_code 45 = .ok (.iload_n 3, 1) := by decide +kernel
theorem d_M_divide_46 : decode prog_12_method_34_code 46 = .ok (.invokevirtual 211, 3) := by decide +kernel
theorem d_M_divide_49 : decode prog_12_method_34_code 49 = .ok (.iastore, 1) := by decide +kernel
theorem d_M_divide_50 : decode prog_12_method_34_code 50 = .ok (.iconst 0, 1) := by decide +kernel
theorem d_M_divide_51 : decode prog_12_method_34_code 51 = .ok (.istore 4, 2) := by decide +kernel
theorem d_M_divide_53 : decode prog_12_method_34_code 53 = .ok (.ldc 224, 2) := by decide +kernel
theorem d_M_divide_55 : decode prog_12_method_34_code 55 = .ok (.istore 5, 2) := by decide +kernel
theorem d_M_divide_57 : decode prog_12_method_34_code 57 = .ok (.iload 5, 2) := by decide +kernel
theorem d_M_divide_59 : decode prog_12_method_34_code 59 = .ok (.ifCond .le 43, 3) := by decide +kernel
theorem d_M_divide_62 : decode prog_12_method_34_code 62 = .ok (.iload 4, 2) := by decide +kernel
theorem d_M_divide_64 : decode prog_12_method_34_code 64 = .ok (.iload 5, 2) := by decide +kernel
theorem d_M_divide_66 : decode prog_12_method_34_code 66 = .ok (.iadd, 1) := by decide +kernel
theorem d_M_divide_67 : decode prog_12_method_34_code 67 = .ok (.ldc 210, 2) := by decide +kernel
theorem d_M_divide_69 : decode prog_12_method_34_code 69 = .ok (.if_icmp .ge 24, 3) := by decide +kernel
theorem d_M_divide_72 : decode prog_12_method_34_code 72 = .ok (.aload_n 0, 1) := by decide +kernel
theorem d_M_divide_73 : decode prog_12_method_34_code 73 = .ok (.iload_n 2, 1) := by decide +kernel
theorem d_M_divide_74 : decode prog_12_method_34_code 74 = .ok (.iload 4, 2) := by decide +kernel
theorem d_M_divide_76 : decode prog_12_method_34_code 76 = .ok (.iload 5, 2) := by decide +kernel
theorem d_M_divide_78 : decode prog_12_method_34_code 78 = .ok (.iadd, 1) := by decide +kernel
theorem d_M_divide_79 : decode prog_12_method_34_code 79 = .ok (.iconst 0, 1) := by decide +kernel
theorem d_M_divide_80 : decode prog_12_method_34_code 80 = .ok (.invokevirtual 225, 3) := by decide +kernel
theorem d_M_divide_83 : decode prog_12_method_34_code 83 = .ok (.ifCond .eq 10, 3) := by decide +kernel
theorem d_M_divide_86 : decode prog_12_method_34_code 86 = .ok (.iload 4, 2) := by decide +kernel
theorem d_M_divide_88 : decode prog_12_method_34_code 88 = .ok (.iload 5, 2) := by decide +kernel
theorem d_M_divide_90 : decode prog_12_method_34_code 90 = .ok (.iadd, 1) := by decide +kernel
theorem d_M_divide_91 : decode prog_12_method_34_code 91 = .ok (.istore 4, 2) := by decide +kernel
theorem d_M_divide_93 : decode prog_12_method_34_code 93 = .ok (.iload 5, 2) := by decide +kernel
theorem d_M_divide_95 : decode prog_12_method_34_code 95 = .ok (.iconst 2, 1) := by decide +kernel
theorem d_M_divide_96 : decode prog_12_method_34_code 96 = .ok (.idiv, 1) := by decide +kernel
theorem d_M_divide_97 : decode prog_12_method_34_code 97 = .ok (.istore 5, 2) := by decide +kernel
theorem d_M_divide_99 : decode prog_12_method_34_code 99 = .ok (.goto (-42), 3) := by decide +kernel
theorem d_M_divide_102 : decode prog_12_method_34_code 102 = .ok (.aload_n 0, 1) := by decide +kernel
theorem d_M_divide_103 : decode prog_12_method_34_code 103 = .ok (.iload_n 2, 1) := by decide +kernel
theorem d_M_divide_104 : decode prog_12_method_34_code 104 = .ok (.iload 4, 2) := by decide +kernel
theorem d_M_divide_106 : decode prog_12_method_34_code 106 = .ok (.iconst 1, 1) := by decide +kernel
theorem d_M_divide_107 : decode prog_12_method_34_code 107 = .ok (.invokevirtual 225, 3) := by decide +kernel
theorem d_M_divide_110 : decode prog_12_method_34_code 110 = .ok (.istore 5, 2) := by decide +kernel
theorem d_M_divide_112 : decode prog_12_method_34_code 112 = .ok (.aload_n 0, 1) := by decide +kernel
theorem d_M_divide_113 : decode prog_12_method_34_code 113 = .ok (.getfield 85, 3) := by decide +kernel
theorem d_M_divide_116 : decode prog_12_method_34_code 116 = .ok (.iload_n 3, 1) := by decide +kernel
theorem d_M_divide_117 : decode prog_12_method_34_code 117 = .ok (.iload 4, 2) := by decide +kernel
theorem d_M_divide_119 : decode prog_12_method_34_code 119 = .ok (.iastore, 1) := by decide +kernel
theorem d_M_divide_120 : decode prog_12_method_34_code 120 = .ok (.iinc 3 (-1), 3) := by decide +kernel
theorem d_M_divide_123 : decode prog_12_method_34_code 123 = .ok (.goto (-120), 3) := by decide +kernel
theorem d_M_divide_126 : decode prog_12_method_34_code 126 = .ok (.return_, 1) := by decide +kernel
theorem d_M_holds_0 : decode prog_12_method_33_code 0 = .ok (.lconst 0, 1) := by decide +kernel
theorem d_M_holds_1 : decode prog_12_method_33_code 1 = .ok (.lstore 4, 2) := by decide +kernel
theorem d_M_holds_3 : decode prog_12_method_33_code 3 = .ok (.iconst 0, 1) := by decide +kernel
theorem d_M_holds_4 : decode prog_12_method_33_code 4 = .ok (.istore 6, 2) := by decide +kernel
theorem d_M_holds_6 : decode prog_12_method_33_code 6 = .ok (.iconst 0, 1) := by decide +kernel
theorem d_M_holds_7 : decode prog_12_method_33_code 7 = .ok (.istore 7, 2) := by decide +kernel
theorem d_M_holds_9 : decode prog_12_method_33_code 9 = .ok (.iload 7, 2) := by decide +kernel
theorem d_M_holds_11 : decode prog_12_method_33_code 11 = .ok (.bipush 22, 2) := by decide +kernel
theorem d_M_holds_13 : decode prog_12_method_33_code 13 = .ok (.if_icmp .ge 89, 3) := by decide +kernel
theorem d_M_holds_16 : decode prog_12_method_33_code 16 = .ok (.aload_n 0, 1) := by decide +kernel
theorem d_M_holds_17 : decode prog_12_method_33_code 17 = .ok (.getfield 88, 3) := by decide +kernel
theorem d_M_holds_20 : decode prog_12_method_33_code 20 = .ok (.iload 7, 2) := by decide +kernel
theorem d_M_holds_22 : decode prog_12_method_33_code 22 = .ok (.iaload, 1) := by decide +kernel
theorem d_M_holds_23 : decode prog_12_method_33_code 23 = .ok (.i2l, 1) := by decide +kernel
theorem d_M_holds_24 : decode prog_12_method_33_code 24 = .ok (.aload_n 0, 1) := by decide +kernel
theorem d_M_holds_25 : decode prog_12_method_33_code 25 = .ok (.iload_n 1, 1) := by decide +kernel
theorem d_M_holds_26 : decode prog_12_method_33_code 26 = .ok (.iload 7, 2) := by decide +kernel
theorem d_M_holds_28 : decode prog_12_method_33_code 28 = .ok (.invokevirtual 211, 3) := by decide +kernel
theorem d_M_holds_31 : decode prog_12_method_33_code 31 = .ok (.i2l, 1) := by decide +kernel
theorem d_M_holds_32 : decode prog_12_method_33_code 32 = .ok (.iload_n 2, 1) := by decide +kernel
theorem d_M_holds_33 : decode prog_12_method_33_code 33 = .ok (.i2l, 1) := by decide +kernel
theorem d_M_holds_34 : decode prog_12_method_33_code 34 = .ok (.lmul, 1) := by decide +kernel
theorem d_M_holds_35 : decode prog_12_method_33_code 35 = .ok (.lsub, 1) := by decide +kernel
theorem d_M_holds_36 : decode prog_12_method_33_code 36 = .ok (.lload 4, 2) := by decide +kernel
theorem d_M_holds_38 : decode prog_12_method_33_code 38 = .ok (.ladd, 1) := by decide +kernel
theorem d_M_holds_39 : decode prog_12_method_33_code 39 = .ok (.lstore 8, 2) := by decide +kernel
theorem d_M_holds_41 : decode prog_12_method_33_code 41 = .ok (.lload 8, 2) := by decide +kernel
theorem d_M_holds_43 : decode prog_12_method_33_code 43 = .ok (.ldc2_w 222, 3) := by decide +kernel
theorem d_M_holds_46 : decode prog_12_method_33_code 46 = .ok (.lrem, 1) := by decide +kernel
theorem d_M_holds_47 : decode prog_12_method_33_code 47 = .ok (.ldc2_w 222, 3) := by decide +kernel
theorem d_M_holds_50 : decode prog_12_method_33_code 50 = .ok (.ladd, 1) := by decide +kernel
theorem d_M_holds_51 : decode prog_12_method_33_code 51 = .ok (.ldc2_w 222, 3) := by decide +kernel
theorem d_M_holds_54 : decode prog_12_method_33_code 54 = .ok (.lrem, 1) := by decide +kernel
theorem d_M_holds_55 : decode prog_12_method_33_code 55 = .ok (.lstore 10, 2) := by decide +kernel
theorem d_M_holds_57 : decode prog_12_method_33_code 57 = .ok (.lload 8, 2) := by decide +kernel
theorem d_M_holds_59 : decode prog_12_method_33_code 59 = .ok (.lload 10, 2) := by decide +kernel
theorem d_M_holds_61 : decode prog_12_method_33_code 61 = .ok (.lsub, 1) := by decide +kernel
theorem d_M_holds_62 : decode prog_12_method_33_code 62 = .ok (.ldc2_w 222, 3) := by decide +kernel
theorem d_M_holds_65 : decode prog_12_method_33_code 65 = .ok (.ldiv, 1) := by decide +kernel
theorem d_M_holds_66 : decode prog_12_method_33_code 66 = .ok (.lstore 4, 2) := by decide +kernel
theorem d_M_holds_68 : decode prog_12_method_33_code 68 = .ok (.iload_n 3, 1) := by decide +kernel
theorem d_M_holds_69 : decode prog_12_method_33_code 69 = .ok (.ifCond .eq 13, 3) := by decide +kernel
theorem d_M_holds_72 : decode prog_12_method_33_code 72 = .ok (.aload_n 0, 1) := by decide +kernel
theorem d_M_holds_73 : decode prog_12_method_33_code 73 = .ok (.getfield 88, 3) := by decide +kernel
theorem d_M_holds_76 : decode prog_12_method_33_code 76 = .ok (.iload 7, 2) := by decide +kernel
theorem d_M_holds_78 : decode prog_12_method_33_code 78 = .ok (.lload 10, 2) := by decide +kernel
theorem d_M_holds_80 : decode prog_12_method_33_code 80 = .ok (.l2i, 1) := by decide +kernel
theorem d_M_holds_81 : decode prog_12_method_33_code 81 = .ok (.iastore, 1) := by decide +kernel
theorem d_M_holds_82 : decode prog_12_method_33_code 82 = .ok (.lload 4, 2) := by decide +kernel
theorem d_M_holds_84 : decode prog_12_method_33_code 84 = .ok (.lconst 0, 1) := by decide +kernel
theorem d_M_holds_85 : decode prog_12_method_33_code 85 = .ok (.lcmp, 1) := by decide +kernel
theorem d_M_holds_86 : decode prog_12_method_33_code 86 = .ok (.ifCond .ge 7, 3) := by decide +kernel
theorem d_M_holds_89 : decode prog_12_method_33_code 89 = .ok (.iconst 1, 1) := by decide +kernel
theorem d_M_holds_90 : decode prog_12_method_33_code 90 = .ok (.goto 4, 3) := by decide +kernel
theorem d_M_holds_93 : decode prog_12_method_33_code 93 = .ok (.iconst 0, 1) := by decide +kernel
theorem d_M_holds_94 : decode prog_12_method_33_code 94 = .ok (.istore 6, 2) := by decide +kernel
theorem d_M_holds_96 : decode prog_12_method_33_code 96 = .ok (.iinc 7 1, 3) := by decide +kernel
theorem d_M_holds_99 : decode prog_12_method_33_code 99 = .ok (.goto (-90), 3) := by decide +kernel
theorem d_M_holds_102 : decode prog_12_method_33_code 102 = .ok (.iload 6, 2) := by decide +kernel
theorem d_M_holds_104 : decode prog_12_method_33_code 104 = .ok (.ifCond .ne 7, 3) := by decide +kernel
theorem d_M_holds_107 : decode prog_12_method_33_code 107 = .ok (.iconst 1, 1) := by decide +kernel
theorem d_M_holds_108 : decode prog_12_method_33_code 108 = .ok (.goto 4, 3) := by decide +kernel
theorem d_M_holds_111 : decode prog_12_method_33_code 111 = .ok (.iconst 0, 1) := by decide +kernel
theorem d_M_holds_112 : decode prog_12_method_33_code 112 = .ok (.ireturn, 1) := by decide +kernel
theorem d_M_keep_0 : decode prog_12_method_36_code 0 = .ok (.iconst 0, 1) := by decide +kernel
theorem d_M_keep_1 : decode prog_12_method_36_code 1 = .ok (.istore_n 3, 1) := by decide +kernel
theorem d_M_keep_2 : decode prog_12_method_36_code 2 = .ok (.iconst 0, 1) := by decide +kernel
theorem d_M_keep_3 : decode prog_12_method_36_code 3 = .ok (.istore 4, 2) := by decide +kernel
theorem d_M_keep_5 : decode prog_12_method_36_code 5 = .ok (.iload 4, 2) := by decide +kernel
theorem d_M_keep_7 : decode prog_12_method_36_code 7 = .ok (.bipush 20, 2) := by decide +kernel
theorem d_M_keep_9 : decode prog_12_method_36_code 9 = .ok (.if_icmp .ge 48, 3) := by decide +kernel
theorem d_M_keep_12 : decode prog_12_method_36_code 12 = .ok (.aload_n 0, 1) := by decide +kernel
theorem d_M_keep_13 : decode prog_12_method_36_code 13 = .ok (.getfield 79, 3) := by decide +kernel
theorem d_M_keep_16 : decode prog_12_method_36_code 16 = .ok (.bipush 20, 2) := by decide +kernel
theorem d_M_keep_18 : decode prog_12_method_36_code 18 = .ok (.iload_n 1, 1) := by decide +kernel
theorem d_M_keep_19 : decode prog_12_method_36_code 19 = .ok (.imul, 1) := by decide +kernel
theorem d_M_keep_20 : decode prog_12_method_36_code 20 = .ok (.iload 4, 2) := by decide +kernel
theorem d_M_keep_22 : decode prog_12_method_36_code 22 = .ok (.iadd, 1) := by decide +kernel
theorem d_M_keep_23 : decode prog_12_method_36_code 23 = .ok (.aload_n 0, 1) := by decide +kernel
theorem d_M_keep_24 : decode prog_12_method_36_code 24 = .ok (.getfield 85, 3) := by decide +kernel
theorem d_M_keep_27 : decode prog_12_method_36_code 27 = .ok (.iload 4, 2) := by decide +kernel
theorem d_M_keep_29 : decode prog_12_method_36_code 29 = .ok (.iaload, 1) := by decide +kernel
theorem d_M_keep_30 : decode prog_12_method_36_code 30 = .ok (.iastore, 1) := by decide +kernel
theorem d_M_keep_31 : decode prog_12_method_36_code 31 = .ok (.iload_n 3, 1) := by decide +kernel
theorem d_M_keep_32 : decode prog_12_method_36_code 32 = .ok (.ifCond .ne 13, 3) := by decide +kernel
theorem d_M_keep_35 : decode prog_12_method_36_code 35 = .ok (.aload_n 0, 1) := by decide +kernel
theorem d_M_keep_36 : decode prog_12_method_36_code 36 = .ok (.getfield 85, 3) := by decide +kernel
theorem d_M_keep_39 : decode prog_12_method_36_code 39 = .ok (.iload 4, 2) := by decide +kernel
theorem d_M_keep_41 : decode prog_12_method_36_code 41 = .ok (.iaload, 1) := by decide +kernel
theorem d_M_keep_42 : decode prog_12_method_36_code 42 = .ok (.ifCond .eq 7, 3) := by decide +kernel
theorem d_M_keep_45 : decode prog_12_method_36_code 45 = .ok (.iconst 1, 1) := by decide +kernel
theorem d_M_keep_46 : decode prog_12_method_36_code 46 = .ok (.goto 4, 3) := by decide +kernel
theorem d_M_keep_49 : decode prog_12_method_36_code 49 = .ok (.iconst 0, 1) := by decide +kernel
theorem d_M_keep_50 : decode prog_12_method_36_code 50 = .ok (.istore_n 3, 1) := by decide +kernel
theorem d_M_keep_51 : decode prog_12_method_36_code 51 = .ok (.iinc 4 1, 3) := by decide +kernel
theorem d_M_keep_54 : decode prog_12_method_36_code 54 = .ok (.goto (-49), 3) := by decide +kernel
theorem d_M_keep_57 : decode prog_12_method_36_code 57 = .ok (.aload_n 0, 1) := by decide +kernel
theorem d_M_keep_58 : decode prog_12_method_36_code 58 = .ok (.getfield 82, 3) := by decide +kernel
theorem d_M_keep_61 : decode prog_12_method_36_code 61 = .ok (.iload_n 1, 1) := by decide +kernel
theorem d_M_keep_62 : decode prog_12_method_36_code 62 = .ok (.iload_n 3, 1) := by decide +kernel
theorem d_M_keep_63 : decode prog_12_method_36_code 63 = .ok (.ifCond .eq 7, 3) := by decide +kernel
theorem d_M_keep_66 : decode prog_12_method_36_code 66 = .ok (.iload_n 2, 1) := by decide +kernel
theorem d_M_keep_67 : decode prog_12_method_36_code 67 = .ok (.goto 4, 3) := by decide +kernel
theorem d_M_keep_70 : decode prog_12_method_36_code 70 = .ok (.iconst 0, 1) := by decide +kernel
theorem d_M_keep_71 : decode prog_12_method_36_code 71 = .ok (.iastore, 1) := by decide +kernel
theorem d_M_keep_72 : decode prog_12_method_36_code 72 = .ok (.return_, 1) := by decide +kernel
theorem d_M_limb_0 : decode prog_12_method_26_code 0 = .ok (.iload_n 2, 1) := by decide +kernel
theorem d_M_limb_1 : decode prog_12_method_26_code 1 = .ok (.bipush 20, 2) := by decide +kernel
theorem d_M_limb_3 : decode prog_12_method_26_code 3 = .ok (.if_icmp .ge 17, 3) := by decide +kernel
theorem d_M_limb_6 : decode prog_12_method_26_code 6 = .ok (.aload_n 0, 1) := by decide +kernel
theorem d_M_limb_7 : decode prog_12_method_26_code 7 = .ok (.getfield 79, 3) := by decide +kernel
theorem d_M_limb_10 : decode prog_12_method_26_code 10 = .ok (.bipush 20, 2) := by decide +kernel
theorem d_M_limb_12 : decode prog_12_method_26_code 12 = .ok (.iload_n 1, 1) := by decide +kernel
theorem d_M_limb_13 : decode prog_12_method_26_code 13 = .ok (.imul, 1) := by decide +kernel
theorem d_M_limb_14 : decode prog_12_method_26_code 14 = .ok (.iload_n 2, 1) := by decide +kernel
theorem d_M_limb_15 : decode prog_12_method_26_code 15 = .ok (.iadd, 1) := by decide +kernel
theorem d_M_limb_16 : decode prog_12_method_26_code 16 = .ok (.iaload, 1) := by decide +kernel
theorem d_M_limb_17 : decode prog_12_method_26_code 17 = .ok (.goto 4, 3) := by decide +kernel
theorem d_M_limb_20 : decode prog_12_method_26_code 20 = .ok (.iconst 0, 1) := by decide +kernel
theorem d_M_limb_21 : decode prog_12_method_26_code 21 = .ok (.ireturn, 1) := by decide +kernel
theorem d_M_order_0 : decode prog_12_method_28_code 0 = .ok (.bipush 19, 2) := by decide +kernel
theorem d_M_order_2 : decode prog_12_method_28_code 2 = .ok (.istore_n 3, 1) := by decide +kernel
theorem d_M_order_3 : decode prog_12_method_28_code 3 = .ok (.iload_n 3, 1) := by decide +kernel
theorem d_M_order_4 : decode prog_12_method_28_code 4 = .ok (.ifCond .lt 45, 3) := by decide +kernel
theorem d_M_order_7 : decode prog_12_method_28_code 7 = .ok (.aload_n 0, 1) := by decide +kernel
theorem d_M_order_8 : decode prog_12_method_28_code 8 = .ok (.iload_n 1, 1) := by decide +kernel
theorem d_M_order_9 : decode prog_12_method_28_code 9 = .ok (.iload_n 3, 1) := by decide +kernel
theorem d_M_order_10 : decode prog_12_method_28_code 10 = .ok (.invokevirtual 211, 3) := by decide +kernel
theorem d_M_order_13 : decode prog_12_method_28_code 13 = .ok (.aload_n 0, 1) := by decide +kernel
theorem d_M_order_14 : decode prog_12_method_28_code 14 = .ok (.iload_n 2, 1) := by decide +kernel
theorem d_M_order_15 : decode prog_12_method_28_code 15 = .ok (.iload_n 3, 1) := by decide +kernel
theorem d_M_order_16 : decode prog_12_method_28_code 16 = .ok (.invokevirtual 211, 3) := by decide +kernel
theorem d_M_order_19 : decode prog_12_method_28_code 19 = .ok (.if_icmp .eq 24, 3) := by decide +kernel
theorem d_M_order_22 : decode prog_12_method_28_code 22 = .ok (.aload_n 0, 1) := by decide +kernel
theorem d_M_order_23 : decode prog_12_method_28_code 23 = .ok (.iload_n 1, 1) := by decide +kernel
theorem d_M_order_24 : decode prog_12_method_28_code 24 = .ok (.iload_n 3, 1) := by decide +kernel
theorem d_M_order_25 : decode prog_12_method_28_code 25 = .ok (.invokevirtual 211, 3) := by decide +kernel
theorem d_M_order_28 : decode prog_12_method_28_code 28 = .ok (.aload_n 0, 1) := by decide +kernel
theorem d_M_order_29 : decode prog_12_method_28_code 29 = .ok (.iload_n 2, 1) := by decide +kernel
theorem d_M_order_30 : decode prog_12_method_28_code 30 = .ok (.iload_n 3, 1) := by decide +kernel
theorem d_M_order_31 : decode prog_12_method_28_code 31 = .ok (.invokevirtual 211, 3) := by decide +kernel
theorem d_M_order_34 : decode prog_12_method_28_code 34 = .ok (.if_icmp .ge 7, 3) := by decide +kernel
theorem d_M_order_37 : decode prog_12_method_28_code 37 = .ok (.iconst (-1), 1) := by decide +kernel
theorem d_M_order_38 : decode prog_12_method_28_code 38 = .ok (.goto 4, 3) := by decide +kernel
theorem d_M_order_41 : decode prog_12_method_28_code 41 = .ok (.iconst 1, 1) := by decide +kernel
theorem d_M_order_42 : decode prog_12_method_28_code 42 = .ok (.ireturn, 1) := by decide +kernel
theorem d_M_order_43 : decode prog_12_method_28_code 43 = .ok (.iinc 3 (-1), 3) := by decide +kernel
theorem d_M_order_46 : decode prog_12_method_28_code 46 = .ok (.goto (-43), 3) := by decide +kernel
theorem d_M_order_49 : decode prog_12_method_28_code 49 = .ok (.iconst 0, 1) := by decide +kernel
theorem d_M_order_50 : decode prog_12_method_28_code 50 = .ok (.ireturn, 1) := by decide +kernel
theorem d_M_product_0 : decode prog_12_method_32_code 0 = .ok (.iconst 0, 1) := by decide +kernel
theorem d_M_product_1 : decode prog_12_method_32_code 1 = .ok (.istore_n 3, 1) := by decide +kernel
theorem d_M_product_2 : decode prog_12_method_32_code 2 = .ok (.iload_n 3, 1) := by decide +kernel
theorem d_M_product_3 : decode prog_12_method_32_code 3 = .ok (.bipush 20, 2) := by decide +kernel
theorem d_M_product_5 : decode prog_12_method_32_code 5 = .ok (.if_icmp .ge 84, 3) := by decide +kernel
theorem d_M_product_8 : decode prog_12_method_32_code 8 = .ok (.lconst 0, 1) := by decide +kernel
theorem d_M_product_9 : decode prog_12_method_32_code 9 = .ok (.lstore 4, 2) := by decide +kernel
theorem d_M_product_11 : decode prog_12_method_32_code 11 = .ok (.iconst 0, 1) := by decide +kernel
theorem d_M_product_12 : decode prog_12_method_32_code 12 = .ok (.istore 6, 2) := by decide +kernel
theorem d_M_product_14 : decode prog_12_method_32_code 14 = .ok (.iload 6, 2) := by decide +kernel
theorem d_M_product_16 : decode prog_12_method_32_code 16 = .ok (.bipush 21, 2) := by decide +kernel
theorem d_M_product_18 : decode prog_12_method_32_code 18 = .ok (.if_icmp .ge 65, 3) := by decide +kernel
theorem d_M_product_21 : decode prog_12_method_32_code 21 = .ok (.aload_n 0, 1) := by decide +kernel
theorem d_M_product_22 : decode prog_12_method_32_code 22 = .ok (.getfield 85, 3) := by decide +kernel
theorem d_M_product_25 : decode prog_12_method_32_code 25 = .ok (.iload_n 3, 1) := by decide +kernel
theorem d_M_product_26 : decode prog_12_method_32_code 26 = .ok (.iload 6, 2) := by decide +kernel
theorem d_M_product_28 : decode prog_12_method_32_code 28 = .ok (.iadd, 1) := by decide +kernel
theorem d_M_product_29 : decode prog_12_method_32_code 29 = .ok (.iaload, 1) := by decide +kernel
theorem d_M_product_30 : decode prog_12_method_32_code 30 = .ok (.i2l, 1) := by decide +kernel
theorem d_M_product_31 : decode prog_12_method_32_code 31 = .ok (.aload_n 0, 1) := by decide +kernel
theorem d_M_product_32 : decode prog_12_method_32_code 32 = .ok (.iload_n 1, 1) := by decide +kernel
theorem d_M_product_33 : decode prog_12_method_32_code 33 = .ok (.iload_n 3, 1) := by decide +kernel
theorem d_M_product_34 : decode prog_12_method_32_code 34 = .ok (.invokevirtual 211, 3) := by decide +kernel
theorem d_M_product_37 : decode prog_12_method_32_code 37 = .ok (.i2l, 1) := by decide +kernel
theorem d_M_product_38 : decode prog_12_method_32_code 38 = .ok (.aload_n 0, 1) := by decide +kernel
theorem d_M_product_39 : decode prog_12_method_32_code 39 = .ok (.iload_n 2, 1) := by decide +kernel
theorem d_M_product_40 : decode prog_12_method_32_code 40 = .ok (.iload 6, 2) := by decide +kernel
theorem d_M_product_42 : decode prog_12_method_32_code 42 = .ok (.invokevirtual 211, 3) := by decide +kernel
theorem d_M_product_45 : decode prog_12_method_32_code 45 = .ok (.i2l, 1) := by decide +kernel
theorem d_M_product_46 : decode prog_12_method_32_code 46 = .ok (.lmul, 1) := by decide +kernel
theorem d_M_product_47 : decode prog_12_method_32_code 47 = .ok (.ladd, 1) := by decide +kernel
theorem d_M_product_48 : decode prog_12_method_32_code 48 = .ok (.lload 4, 2) := by decide +kernel
theorem d_M_product_50 : decode prog_12_method_32_code 50 = .ok (.ladd, 1) := by decide +kernel
theorem d_M_product_51 : decode prog_12_method_32_code 51 = .ok (.lstore 7, 2) := by decide +kernel
theorem d_M_product_53 : decode prog_12_method_32_code 53 = .ok (.aload_n 0, 1) := by decide +kernel
theorem d_M_product_54 : decode prog_12_method_32_code 54 = .ok (.getfield 85, 3) := by decide +kernel
theorem d_M_product_57 : decode prog_12_method_32_code 57 = .ok (.iload_n 3, 1) := by decide +kernel
theorem d_M_product_58 : decode prog_12_method_32_code 58 = .ok (.iload 6, 2) := by decide +kernel
theorem d_M_product_60 : decode prog_12_method_32_code 60 = .ok (.iadd, 1) := by decide +kernel
theorem d_M_product_61 : decode prog_12_method_32_code 61 = .ok (.lload 7, 2) := by decide +kernel
theorem d_M_product_63 : decode prog_12_method_32_code 63 = .ok (.ldc2_w 222, 3) := by decide +kernel
theorem d_M_product_66 : decode prog_12_method_32_code 66 = .ok (.lrem, 1) := by decide +kernel
theorem d_M_product_67 : decode prog_12_method_32_code 67 = .ok (.l2i, 1) := by decide +kernel
theorem d_M_product_68 : decode prog_12_method_32_code 68 = .ok (.iastore, 1) := by decide +kernel
theorem d_M_product_69 : decode prog_12_method_32_code 69 = .ok (.lload 7, 2) := by decide +kernel
theorem d_M_product_71 : decode prog_12_method_32_code 71 = .ok (.ldc2_w 222, 3) := by decide +kernel
theorem d_M_product_74 : decode prog_12_method_32_code 74 = .ok (.ldiv, 1) := by decide +kernel
theorem d_M_product_75 : decode prog_12_method_32_code 75 = .ok (.lstore 4, 2) := by decide +kernel
theorem d_M_product_77 : decode prog_12_method_32_code 77 = .ok (.iinc 6 1, 3) := by decide +kernel
theorem d_M_product_80 : decode prog_12_method_32_code 80 = .ok (.goto (-66), 3) := by decide +kernel
theorem d_M_product_83 : decode prog_12_method_32_code 83 = .ok (.iinc 3 1, 3) := by decide +kernel
theorem d_M_product_86 : decode prog_12_method_32_code 86 = .ok (.goto (-84), 3) := by decide +kernel
theorem d_M_product_89 : decode prog_12_method_32_code 89 = .ok (.aload_n 0, 1) := by decide +kernel
theorem d_M_product_90 : decode prog_12_method_32_code 90 = .ok (.getfield 82, 3) := by decide +kernel
theorem d_M_product_93 : decode prog_12_method_32_code 93 = .ok (.iload_n 1, 1) := by decide +kernel
theorem d_M_product_94 : decode prog_12_method_32_code 94 = .ok (.iaload, 1) := by decide +kernel
theorem d_M_product_95 : decode prog_12_method_32_code 95 = .ok (.aload_n 0, 1) := by decide +kernel
theorem d_M_product_96 : decode prog_12_method_32_code 96 = .ok (.getfield 82, 3) := by decide +kernel
theorem d_M_product_99 : decode prog_12_method_32_code 99 = .ok (.iload_n 2, 1) := by decide +kernel
theorem d_M_product_100 : decode prog_12_method_32_code 100 = .ok (.iaload, 1) := by decide +kernel
theorem d_M_product_101 : decode prog_12_method_32_code 101 = .ok (.imul, 1) := by decide +kernel
theorem d_M_product_102 : decode prog_12_method_32_code 102 = .ok (.ireturn, 1) := by decide +kernel
theorem d_M_setNumber_0 : decode prog_12_method_27_code 0 = .ok (.iconst 0, 1) := by decide +kernel
theorem d_M_setNumber_1 : decode prog_12_method_27_code 1 = .ok (.istore_n 3, 1) := by decide +kernel
theorem d_M_setNumber_2 : decode prog_12_method_27_code 2 = .ok (.iload_n 3, 1) := by decide +kernel
theorem d_M_setNumber_3 : decode prog_12_method_27_code 3 = .ok (.bipush 20, 2) := by decide +kernel
theorem d_M_setNumber_5 : decode prog_12_method_27_code 5 = .ok (.if_icmp .ge 21, 3) := by decide +kernel
theorem d_M_setNumber_8 : decode prog_12_method_27_code 8 = .ok (.aload_n 0, 1) := by decide +kernel
theorem d_M_setNumber_9 : decode prog_12_method_27_code 9 = .ok (.getfield 79, 3) := by decide +kernel
theorem d_M_setNumber_12 : decode prog_12_method_27_code 12 = .ok (.bipush 20, 2) := by decide +kernel
theorem d_M_setNumber_14 : decode prog_12_method_27_code 14 = .ok (.iload_n 1, 1) := by decide +kernel
theorem d_M_setNumber_15 : decode prog_12_method_27_code 15 = .ok (.imul, 1) := by decide +kernel
theorem d_M_setNumber_16 : decode prog_12_method_27_code 16 = .ok (.iload_n 3, 1) := by decide +kernel
theorem d_M_setNumber_17 : decode prog_12_method_27_code 17 = .ok (.iadd, 1) := by decide +kernel
theorem d_M_setNumber_18 : decode prog_12_method_27_code 18 = .ok (.iconst 0, 1) := by decide +kernel
theorem d_M_setNumber_19 : decode prog_12_method_27_code 19 = .ok (.iastore, 1) := by decide +kernel
theorem d_M_setNumber_20 : decode prog_12_method_27_code 20 = .ok (.iinc 3 1, 3) := by decide +kernel
theorem d_M_setNumber_23 : decode prog_12_method_27_code 23 = .ok (.goto (-21), 3) := by decide +kernel
theorem d_M_setNumber_26 : decode prog_12_method_27_code 26 = .ok (.iload_n 2, 1) := by decide +kernel
theorem d_M_setNumber_27 : decode prog_12_method_27_code 27 = .ok (.ifCond .ge 8, 3) := by decide +kernel
theorem d_M_setNumber_30 : decode prog_12_method_27_code 30 = .ok (.iload_n 2, 1) := by decide +kernel
theorem d_M_setNumber_31 : decode prog_12_method_27_code 31 = .ok (.ineg, 1) := by decide +kernel
theorem d_M_setNumber_32 : decode prog_12_method_27_code 32 = .ok (.goto 4, 3) := by decide +kernel
theorem d_M_setNumber_35 : decode prog_12_method_27_code 35 = .ok (.iload_n 2, 1) := by decide +kernel
theorem d_M_setNumber_36 : decode prog_12_method_27_code 36 = .ok (.istore_n 3, 1) := by decide +kernel
theorem d_M_setNumber_37 : decode prog_12_method_27_code 37 = .ok (.aload_n 0, 1) := by decide +kernel
theorem d_M_setNumber_38 : decode prog_12_method_27_code 38 = .ok (.getfield 79, 3) := by decide +kernel
theorem d_M_setNumber_41 : decode prog_12_method_27_code 41 = .ok (.bipush 20, 2) := by decide +kernel
theorem d_M_setNumber_43 : decode prog_12_method_27_code 43 = .ok (.iload_n 1, 1) := by decide +kernel
theorem d_M_setNumber_44 : decode prog_12_method_27_code 44 = .ok (.imul, 1) := by decide +kernel
theorem d_M_setNumber_45 : decode prog_12_method_27_code 45 = .ok (.iload_n 3, 1) := by decide +kernel
theorem d_M_setNumber_46 : decode prog_12_method_27_code 46 = .ok (.ldc 210, 2) := by decide +kernel
theorem d_M_setNumber_48 : decode prog_12_method_27_code 48 = .ok (.irem, 1) := by decide +kernel
theorem d_M_setNumber_49 : decode prog_12_method_27_code 49 = .ok (.iastore, 1) := by decide +kernel
theorem d_M_setNumber_50 : decode prog_12_method_27_code 50 = .ok (.aload_n 0, 1) := by decide +kernel
theorem d_M_setNumber_51 : decode prog_12_method_27_code 51 = .ok (.getfield 79, 3) := by decide +kernel
theorem d_M_setNumber_54 : decode prog_12_method_27_code 54 = .ok (.bipush 20, 2) := by decide +kernel
theorem d_M_setNumber_56 : decode prog_12_method_27_code 56 = .ok (.iload_n 1, 1) := by decide +kernel
theorem d_M_setNumber_57 : decode prog_12_method_27_code 57 = .ok (.imul, 1) := by decide +kernel
theorem d_M_setNumber_58 : decode prog_12_method_27_code 58 = .ok (.iconst 1, 1) := by decide +kernel
theorem d_M_setNumber_59 : decode prog_12_method_27_code 59 = .ok (.iadd, 1) := by decide +kernel
theorem d_M_setNumber_60 : decode prog_12_method_27_code 60 = .ok (.iload_n 3, 1) := by decide +kernel
theorem d_M_setNumber_61 : decode prog_12_method_27_code 61 = .ok (.ldc 210, 2) := by decide +kernel
theorem d_M_setNumber_63 : decode prog_12_method_27_code 63 = .ok (.idiv, 1) := by decide +kernel
theorem d_M_setNumber_64 : decode prog_12_method_27_code 64 = .ok (.iastore, 1) := by decide +kernel
theorem d_M_setNumber_65 : decode prog_12_method_27_code 65 = .ok (.aload_n 0, 1) := by decide +kernel
theorem d_M_setNumber_66 : decode prog_12_method_27_code 66 = .ok (.getfield 82, 3) := by decide +kernel
theorem d_M_setNumber_69 : decode prog_12_method_27_code 69 = .ok (.iload_n 1, 1) := by decide +kernel
theorem d_M_setNumber_70 : decode prog_12_method_27_code 70 = .ok (.iload_n 2, 1) := by decide +kernel
theorem d_M_setNumber_71 : decode prog_12_method_27_code 71 = .ok (.ifCond .ge 7, 3) := by decide +kernel
theorem d_M_setNumber_74 : decode prog_12_method_27_code 74 = .ok (.iconst (-1), 1) := by decide +kernel
theorem d_M_setNumber_75 : decode prog_12_method_27_code 75 = .ok (.goto 12, 3) := by decide +kernel
theorem d_M_setNumber_78 : decode prog_12_method_27_code 78 = .ok (.iload_n 2, 1) := by decide +kernel
theorem d_M_setNumber_79 : decode prog_12_method_27_code 79 = .ok (.ifCond .le 7, 3) := by decide +kernel
theorem d_M_setNumber_82 : decode prog_12_method_27_code 82 = .ok (.iconst 1, 1) := by decide +kernel
theorem d_M_setNumber_83 : decode prog_12_method_27_code 83 = .ok (.goto 4, 3) := by decide +kernel
theorem d_M_setNumber_86 : decode prog_12_method_27_code 86 = .ok (.iconst 0, 1) := by decide +kernel
theorem d_M_setNumber_87 : decode prog_12_method_27_code 87 = .ok (.iastore, 1) := by decide +kernel
theorem d_M_setNumber_88 : decode prog_12_method_27_code 88 = .ok (.return_, 1) := by decide +kernel
theorem d_M_sum_0 : decode prog_12_method_31_code 0 = .ok (.aload_n 0, 1) := by decide +kernel
theorem d_M_sum_1 : decode prog_12_method_31_code 1 = .ok (.getfield 82, 3) := by decide +kernel
theorem d_M_sum_4 : decode prog_12_method_31_code 4 = .ok (.iload_n 2, 1) := by decide +kernel
theorem d_M_sum_5 : decode prog_12_method_31_code 5 = .ok (.iaload, 1) := by decide +kernel
theorem d_M_sum_6 : decode prog_12_method_31_code 6 = .ok (.iload_n 3, 1) := by decide +kernel
theorem d_M_sum_7 : decode prog_12_method_31_code 7 = .ok (.imul, 1) := by decide +kernel
theorem d_M_sum_8 : decode prog_12_method_31_code 8 = .ok (.istore 4, 2) := by decide +kernel
theorem d_M_sum_10 : decode prog_12_method_31_code 10 = .ok (.aload_n 0, 1) := by decide +kernel
theorem d_M_sum_11 : decode prog_12_method_31_code 11 = .ok (.getfield 82, 3) := by decide +kernel
theorem d_M_sum_14 : decode prog_12_method_31_code 14 = .ok (.iload_n 1, 1) := by decide +kernel
theorem d_M_sum_15 : decode prog_12_method_31_code 15 = .ok (.iaload, 1) := by decide +kernel
theorem d_M_sum_16 : decode prog_12_method_31_code 16 = .ok (.ifCond .eq 19, 3) := by decide +kernel
theorem d_M_sum_19 : decode prog_12_method_31_code 19 = .ok (.iload 4, 2) := by decide +kernel
theorem d_M_sum_21 : decode prog_12_method_31_code 21 = .ok (.ifCond .eq 14, 3) := by decide +kernel
theorem d_M_sum_24 : decode prog_12_method_31_code 24 = .ok (.aload_n 0, 1) := by decide +kernel
theorem d_M_sum_25 : decode prog_12_method_31_code 25 = .ok (.getfield 82, 3) := by decide +kernel
theorem d_M_sum_28 : decode prog_12_method_31_code 28 = .ok (.iload_n 1, 1) := by decide +kernel
theorem d_M_sum_29 : decode prog_12_method_31_code 29 = .ok (.iaload, 1) := by decide +kernel
theorem d_M_sum_30 : decode prog_12_method_31_code 30 = .ok (.iload 4, 2) := by decide +kernel
theorem d_M_sum_32 : decode prog_12_method_31_code 32 = .ok (.if_icmp .ne 31, 3) := by decide +kernel
theorem d_M_sum_35 : decode prog_12_method_31_code 35 = .ok (.aload_n 0, 1) := by decide +kernel
theorem d_M_sum_36 : decode prog_12_method_31_code 36 = .ok (.iload_n 1, 1) := by decide +kernel
theorem d_M_sum_37 : decode prog_12_method_31_code 37 = .ok (.iload_n 2, 1) := by decide +kernel
theorem d_M_sum_38 : decode prog_12_method_31_code 38 = .ok (.iconst 1, 1) := by decide +kernel
theorem d_M_sum_39 : decode prog_12_method_31_code 39 = .ok (.invokevirtual 215, 3) := by decide +kernel
theorem d_M_sum_42 : decode prog_12_method_31_code 42 = .ok (.aload_n 0, 1) := by decide +kernel
theorem d_M_sum_43 : decode prog_12_method_31_code 43 = .ok (.getfield 82, 3) := by decide +kernel
theorem d_M_sum_46 : decode prog_12_method_31_code 46 = .ok (.iload_n 1, 1) := by decide +kernel
theorem d_M_sum_47 : decode prog_12_method_31_code 47 = .ok (.iaload, 1) := by decide +kernel
theorem d_M_sum_48 : decode prog_12_method_31_code 48 = .ok (.ifCond .ne 8, 3) := by decide +kernel
theorem d_M_sum_51 : decode prog_12_method_31_code 51 = .ok (.iload 4, 2) := by decide +kernel
theorem d_M_sum_53 : decode prog_12_method_31_code 53 = .ok (.goto 9, 3) := by decide +kernel
theorem d_M_sum_56 : decode prog_12_method_31_code 56 = .ok (.aload_n 0, 1) := by decide +kernel
theorem d_M_sum_57 : decode prog_12_method_31_code 57 = .ok (.getfield 82, 3) := by decide +kernel
theorem d_M_sum_60 : decode prog_12_method_31_code 60 = .ok (.iload_n 1, 1) := by decide +kernel
theorem d_M_sum_61 : decode prog_12_method_31_code 61 = .ok (.iaload, 1) := by decide +kernel
theorem d_M_sum_62 : decode prog_12_method_31_code 62 = .ok (.ireturn, 1) := by decide +kernel
theorem d_M_sum_63 : decode prog_12_method_31_code 63 = .ok (.aload_n 0, 1) := by decide +kernel
theorem d_M_sum_64 : decode prog_12_method_31_code 64 = .ok (.iload_n 1, 1) := by decide +kernel
theorem d_M_sum_65 : decode prog_12_method_31_code 65 = .ok (.iload_n 2, 1) := by decide +kernel
theorem d_M_sum_66 : decode prog_12_method_31_code 66 = .ok (.invokevirtual 219, 3) := by decide +kernel
theorem d_M_sum_69 : decode prog_12_method_31_code 69 = .ok (.istore 5, 2) := by decide +kernel
theorem d_M_sum_71 : decode prog_12_method_31_code 71 = .ok (.iload 5, 2) := by decide +kernel
theorem d_M_sum_73 : decode prog_12_method_31_code 73 = .ok (.ifCond .ne 5, 3) := by decide +kernel
theorem d_M_sum_76 : decode prog_12_method_31_code 76 = .ok (.iconst 0, 1) := by decide +kernel
theorem d_M_sum_77 : decode prog_12_method_31_code 77 = .ok (.ireturn, 1) := by decide +kernel
theorem d_M_sum_78 : decode prog_12_method_31_code 78 = .ok (.aload_n 0, 1) := by decide +kernel
theorem d_M_sum_79 : decode prog_12_method_31_code 79 = .ok (.iload 5, 2) := by decide +kernel
theorem d_M_sum_81 : decode prog_12_method_31_code 81 = .ok (.ifCond .le 7, 3) := by decide +kernel
theorem d_M_sum_84 : decode prog_12_method_31_code 84 = .ok (.iload_n 1, 1) := by decide +kernel
theorem d_M_sum_85 : decode prog_12_method_31_code 85 = .ok (.goto 4, 3) := by decide +kernel
theorem d_M_sum_88 : decode prog_12_method_31_code 88 = .ok (.iload_n 2, 1) := by decide +kernel
theorem d_M_sum_89 : decode prog_12_method_31_code 89 = .ok (.iload 5, 2) := by decide +kernel
theorem d_M_sum_91 : decode prog_12_method_31_code 91 = .ok (.ifCond .le 7, 3) := by decide +kernel
theorem d_M_sum_94 : decode prog_12_method_31_code 94 = .ok (.iload_n 2, 1) := by decide +kernel
theorem d_M_sum_95 : decode prog_12_method_31_code 95 = .ok (.goto 4, 3) := by decide +kernel
theorem d_M_sum_98 : decode prog_12_method_31_code 98 = .ok (.iload_n 1, 1) := by decide +kernel
theorem d_M_sum_99 : decode prog_12_method_31_code 99 = .ok (.iconst (-1), 1) := by decide +kernel
theorem d_M_sum_100 : decode prog_12_method_31_code 100 = .ok (.invokevirtual 215, 3) := by decide +kernel
theorem d_M_sum_103 : decode prog_12_method_31_code 103 = .ok (.iload 5, 2) := by decide +kernel
theorem d_M_sum_105 : decode prog_12_method_31_code 105 = .ok (.ifCond .le 12, 3) := by decide +kernel
theorem d_M_sum_108 : decode prog_12_method_31_code 108 = .ok (.aload_n 0, 1) := by decide +kernel
theorem d_M_sum_109 : decode prog_12_method_31_code 109 = .ok (.getfield 82, 3) := by decide +kernel
theorem d_M_sum_112 : decode prog_12_method_31_code 112 = .ok (.iload_n 1, 1) := by decide +kernel
theorem d_M_sum_113 : decode prog_12_method_31_code 113 = .ok (.iaload, 1) := by decide +kernel
theorem d_M_sum_114 : decode prog_12_method_31_code 114 = .ok (.goto 5, 3) := by decide +kernel
theorem d_M_sum_117 : decode prog_12_method_31_code 117 = .ok (.iload 4, 2) := by decide +kernel
theorem d_M_sum_119 : decode prog_12_method_31_code 119 = .ok (.ireturn, 1) := by decide +kernel

