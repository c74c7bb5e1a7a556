theorem wd_948 {U : State} (h : TB U) (args : Array Value) : (Cond.fieldLink "BigRunnerModel" 7 "BigRunnerModel" "text" "[C").before args U = true := h.w 948 (by decide +kernel) rfl args
theorem wd_949 {U : State} (h : TB U) (args : Array Value) : (Cond.fieldLink "BigRunnerModel" 101 "BigRunnerModel" "length" "I").before args U = true := h.w 949 (by decide +kernel) rfl args
theorem wd_1194 {U : State} (h : TB U) (args : Array Value) : (Cond.constant "BigRunnerModel" 280 (-1000000000)).before args U = true := h.w 1194 (by decide +kernel) rfl args
theorem wd_1195 {U : State} (h : TB U) (args : Array Value) : (Cond.constant "BigRunnerModel" 281 1000000000).before args U = true := h.w 1195 (by decide +kernel) rfl args
theorem wd_1278 {U : State} (h : TB U) (args : Array Value) : (Cond.methodLink "BigRunnerModel" 297 ⟨"BigRunnerModel", "told", "([IIII)I"⟩).before args U = true := h.w 1278 (by decide +kernel) rfl args
theorem wd_1279 {U : State} (h : TB U) (args : Array Value) : (Cond.static ⟨"BigRunnerModel", "told", "([IIII)I"⟩).before args U = true := h.w 1279 (by decide +kernel) rfl args
theorem wd_1280 {U : State} (h : TB U) (args : Array Value) : (Cond.code ⟨"BigRunnerModel", "told", "([IIII)I"⟩ prog_12_method_49_code 6 (some .int)).before args U = true := h.w 1280 (by decide +kernel) rfl args
theorem d_M_bound_0 : decode prog_12_method_47_code 0 = .ok (.iload_n 1, 1) := by decide +kernel
theorem d_M_bound_1 : decode prog_12_method_47_code 1 = .ok (.ifCond .lt 20, 3) := by decide +kernel
theorem d_M_bound_4 : decode prog_12_method_47_code 4 = .ok (.iload_n 1, 1) := by decide +kernel
theorem d_M_bound_5 : decode prog_12_method_47_code 5 = .ok (.bipush 10, 2) := by decide +kernel
theorem d_M_bound_7 : decode prog_12_method_47_code 7 = .ok (.if_icmp .ge 14, 3) := by decide +kernel
theorem d_M_bound_10 : decode prog_12_method_47_code 10 = .ok (.aload_n 0, 1) := by decide +kernel
theorem d_M_bound_11 : decode prog_12_method_47_code 11 = .ok (.getfield 270, 3) := by decide +kernel
theorem d_M_bound_14 : decode prog_12_method_47_code 14 = .ok (.ifCond .le 7, 3) := by decide +kernel
theorem d_M_bound_17 : decode prog_12_method_47_code 17 = .ok (.iconst 1, 1) := by decide +kernel
theorem d_M_bound_18 : decode prog_12_method_47_code 18 = .ok (.goto 4, 3) := by decide +kernel
theorem d_M_bound_21 : decode prog_12_method_47_code 21 = .ok (.iconst 0, 1) := by decide +kernel
theorem d_M_bound_22 : decode prog_12_method_47_code 22 = .ok (.istore_n 3, 1) := by decide +kernel
theorem d_M_bound_23 : decode prog_12_method_47_code 23 = .ok (.aload_n 0, 1) := by decide +kernel
theorem d_M_bound_24 : decode prog_12_method_47_code 24 = .ok (.iload_n 3, 1) := by decide +kernel
theorem d_M_bound_25 : decode prog_12_method_47_code 25 = .ok (.ifCond .eq 7, 3) := by decide +kernel
theorem d_M_bound_28 : decode prog_12_method_47_code 28 = .ok (.iconst 0, 1) := by decide +kernel
theorem d_M_bound_29 : decode prog_12_method_47_code 29 = .ok (.goto 4, 3) := by decide +kernel
theorem d_M_bound_32 : decode prog_12_method_47_code 32 = .ok (.iconst 1, 1) := by decide +kernel
theorem d_M_bound_33 : decode prog_12_method_47_code 33 = .ok (.putfield 94, 3) := by decide +kernel
theorem d_M_bound_36 : decode prog_12_method_47_code 36 = .ok (.iload_n 3, 1) := by decide +kernel
theorem d_M_bound_37 : decode prog_12_method_47_code 37 = .ok (.ifCond .ne 5, 3) := by decide +kernel
theorem d_M_bound_40 : decode prog_12_method_47_code 40 = .ok (.lconst 0, 1) := by decide +kernel
theorem d_M_bound_41 : decode prog_12_method_47_code 41 = .ok (.lreturn, 1) := by decide +kernel
theorem d_M_bound_42 : decode prog_12_method_47_code 42 = .ok (.aload_n 0, 1) := by decide +kernel
theorem d_M_bound_43 : decode prog_12_method_47_code 43 = .ok (.iload_n 2, 1) := by decide +kernel
theorem d_M_bound_44 : decode prog_12_method_47_code 44 = .ok (.ifCond .eq 15, 3) := by decide +kernel
theorem d_M_bound_47 : decode prog_12_method_47_code 47 = .ok (.aload_n 0, 1) := by decide +kernel
theorem d_M_bound_48 : decode prog_12_method_47_code 48 = .ok (.getfield 49, 3) := by decide +kernel
theorem d_M_bound_51 : decode prog_12_method_47_code 51 = .ok (.iload_n 1, 1) := by decide +kernel
theorem d_M_bound_52 : decode prog_12_method_47_code 52 = .ok (.baload, 1) := by decide +kernel
theorem d_M_bound_53 : decode prog_12_method_47_code 53 = .ok (.ifCond .eq 19, 3) := by decide +kernel
theorem d_M_bound_56 : decode prog_12_method_47_code 56 = .ok (.goto 12, 3) := by decide +kernel
theorem d_M_bound_59 : decode prog_12_method_47_code 59 = .ok (.aload_n 0, 1) := by decide +kernel
theorem d_M_bound_60 : decode prog_12_method_47_code 60 = .ok (.getfield 46, 3) := by decide +kernel
theorem d_M_bound_63 : decode prog_12_method_47_code 63 = .ok (.iload_n 1, 1) := by decide +kernel
theorem d_M_bound_64 : decode prog_12_method_47_code 64 = .ok (.baload, 1) := by decide +kernel
theorem d_M_bound_65 : decode prog_12_method_47_code 65 = .ok (.ifCond .eq 7, 3) := by decide +kernel
theorem d_M_bound_68 : decode prog_12_method_47_code 68 = .ok (.iconst 2, 1) := by decide +kernel
theorem d_M_bound_69 : decode prog_12_method_47_code 69 = .ok (.goto 4, 3) := by decide +kernel
theorem d_M_bound_72 : decode prog_12_method_47_code 72 = .ok (.iconst 0, 1) := by decide +kernel
theorem d_M_bound_73 : decode prog_12_method_47_code 73 = .ok (.putfield 94, 3) := by decide +kernel
theorem d_M_bound_76 : decode prog_12_method_47_code 76 = .ok (.aload_n 0, 1) := by decide +kernel
theorem d_M_bound_77 : decode prog_12_method_47_code 77 = .ok (.getfield 94, 3) := by decide +kernel
theorem d_M_bound_80 : decode prog_12_method_47_code 80 = .ok (.ifCond .le 7, 3) := by decide +kernel
theorem d_M_bound_83 : decode prog_12_method_47_code 83 = .ok (.lconst 0, 1) := by decide +kernel
theorem d_M_bound_84 : decode prog_12_method_47_code 84 = .ok (.goto 22, 3) := by decide +kernel
theorem d_M_bound_87 : decode prog_12_method_47_code 87 = .ok (.iload_n 2, 1) := by decide +kernel
theorem d_M_bound_88 : decode prog_12_method_47_code 88 = .ok (.ifCond .eq 12, 3) := by decide +kernel
theorem d_M_bound_91 : decode prog_12_method_47_code 91 = .ok (.aload_n 0, 1) := by decide +kernel
theorem d_M_bound_92 : decode prog_12_method_47_code 92 = .ok (.getfield 43, 3) := by decide +kernel
theorem d_M_bound_95 : decode prog_12_method_47_code 95 = .ok (.iload_n 1, 1) := by decide +kernel
theorem d_M_bound_96 : decode prog_12_method_47_code 96 = .ok (.laload, 1) := by decide +kernel
theorem d_M_bound_97 : decode prog_12_method_47_code 97 = .ok (.goto 9, 3) := by decide +kernel
theorem d_M_bound_100 : decode prog_12_method_47_code 100 = .ok (.aload_n 0, 1) := by decide +kernel
theorem d_M_bound_101 : decode prog_12_method_47_code 101 = .ok (.getfield 39, 3) := by decide +kernel
theorem d_M_bound_104 : decode prog_12_method_47_code 104 = .ok (.iload_n 1, 1) := by decide +kernel
theorem d_M_bound_105 : decode prog_12_method_47_code 105 = .ok (.laload, 1) := by decide +kernel
theorem d_M_bound_106 : decode prog_12_method_47_code 106 = .ok (.lreturn, 1) := by decide +kernel
theorem d_M_give_0 : decode prog_12_method_41_code 0 = .ok (.aload_n 0, 1) := by decide +kernel
theorem d_M_give_1 : decode prog_12_method_41_code 1 = .ok (.iconst 0, 1) := by decide +kernel
theorem d_M_give_2 : decode prog_12_method_41_code 2 = .ok (.putfield 94, 3) := by decide +kernel
theorem d_M_give_5 : decode prog_12_method_41_code 5 = .ok (.iload_n 1, 1) := by decide +kernel
theorem d_M_give_6 : decode prog_12_method_41_code 6 = .ok (.ldc_w 280, 3) := by decide +kernel
theorem d_M_give_9 : decode prog_12_method_41_code 9 = .ok (.if_icmp .lt 19, 3) := by decide +kernel
theorem d_M_give_12 : decode prog_12_method_41_code 12 = .ok (.iload_n 1, 1) := by decide +kernel
theorem d_M_give_13 : decode prog_12_method_41_code 13 = .ok (.ldc_w 281, 3) := by decide +kernel
theorem d_M_give_16 : decode prog_12_method_41_code 16 = .ok (.if_icmp .gt 12, 3) := by decide +kernel
theorem d_M_give_19 : decode prog_12_method_41_code 19 = .ok (.aload_n 0, 1) := by decide +kernel
theorem d_M_give_20 : decode prog_12_method_41_code 20 = .ok (.getfield 282, 3) := by decide +kernel
theorem d_M_give_23 : decode prog_12_method_41_code 23 = .ok (.bipush 20, 2) := by decide +kernel
theorem d_M_give_25 : decode prog_12_method_41_code 25 = .ok (.if_icmp .ne 5, 3) := by decide +kernel
theorem d_M_give_28 : decode prog_12_method_41_code 28 = .ok (.iconst 0, 1) := by decide +kernel
theorem d_M_give_29 : decode prog_12_method_41_code 29 = .ok (.ireturn, 1) := by decide +kernel
theorem d_M_give_30 : decode prog_12_method_41_code 30 = .ok (.aload_n 0, 1) := by decide +kernel
theorem d_M_give_31 : decode prog_12_method_41_code 31 = .ok (.getfield 91, 3) := by decide +kernel
theorem d_M_give_34 : decode prog_12_method_41_code 34 = .ok (.aload_n 0, 1) := by decide +kernel
theorem d_M_give_35 : decode prog_12_method_41_code 35 = .ok (.getfield 282, 3) := by decide +kernel
theorem d_M_give_38 : decode prog_12_method_41_code 38 = .ok (.iload_n 1, 1) := by decide +kernel
theorem d_M_give_39 : decode prog_12_method_41_code 39 = .ok (.iastore, 1) := by decide +kernel
theorem d_M_give_40 : decode prog_12_method_41_code 40 = .ok (.aload_n 0, 1) := by decide +kernel
theorem d_M_give_41 : decode prog_12_method_41_code 41 = .ok (.dup, 1) := by decide +kernel
theorem d_M_give_42 : decode prog_12_method_41_code 42 = .ok (.getfield 282, 3) := by decide +kernel
theorem d_M_give_45 : decode prog_12_method_41_code 45 = .ok (.iconst 1, 1) := by decide +kernel
theorem d_M_give_46 : decode prog_12_method_41_code 46 = .ok (.iadd, 1) := by decide +kernel
theorem d_M_give_47 : decode prog_12_method_41_code 47 = .ok (.putfield 282, 3) := by decide +kernel
theorem d_M_give_50 : decode prog_12_method_41_code 50 = .ok (.iconst 1, 1) := by decide +kernel
theorem d_M_give_51 : decode prog_12_method_41_code 51 = .ok (.ireturn, 1) := by decide +kernel
theorem d_M_look_0 : decode prog_12_method_46_code 0 = .ok (.aload_n 0, 1) := by decide +kernel
theorem d_M_look_1 : decode prog_12_method_46_code 1 = .ok (.iconst 0, 1) := by decide +kernel
theorem d_M_look_2 : decode prog_12_method_46_code 2 = .ok (.putfield 94, 3) := by decide +kernel
theorem d_M_look_5 : decode prog_12_method_46_code 5 = .ok (.iload_n 1, 1) := by decide +kernel
theorem d_M_look_6 : decode prog_12_method_46_code 6 = .ok (.iconst 4, 1) := by decide +kernel
theorem d_M_look_7 : decode prog_12_method_46_code 7 = .ok (.if_icmp .ge 52, 3) := by decide +kernel
theorem d_M_look_10 : decode prog_12_method_46_code 10 = .ok (.iload_n 1, 1) := by decide +kernel
theorem d_M_look_11 : decode prog_12_method_46_code 11 = .ok (.ifCond .ne 10, 3) := by decide +kernel
theorem d_M_look_14 : decode prog_12_method_46_code 14 = .ok (.aload_n 0, 1) := by decide +kernel
theorem d_M_look_15 : decode prog_12_method_46_code 15 = .ok (.getfield 270, 3) := by decide +kernel
theorem d_M_look_18 : decode prog_12_method_46_code 18 = .ok (.goto 40, 3) := by decide +kernel
theorem d_M_look_21 : decode prog_12_method_46_code 21 = .ok (.iload_n 1, 1) := by decide +kernel
theorem d_M_look_22 : decode prog_12_method_46_code 22 = .ok (.iconst 1, 1) := by decide +kernel
theorem d_M_look_23 : decode prog_12_method_46_code 23 = .ok (.if_icmp .ne 10, 3) := by decide +kernel
theorem d_M_look_26 : decode prog_12_method_46_code 26 = .ok (.aload_n 0, 1) := by decide +kernel
theorem d_M_look_27 : decode prog_12_method_46_code 27 = .ok (.getfield 238, 3) := by decide +kernel
theorem d_M_look_30 : decode prog_12_method_46_code 30 = .ok (.goto 28, 3) := by decide +kernel
theorem d_M_look_33 : decode prog_12_method_46_code 33 = .ok (.iload_n 1, 1) := by decide +kernel
theorem d_M_look_34 : decode prog_12_method_46_code 34 = .ok (.iconst 2, 1) := by decide +kernel
theorem d_M_look_35 : decode prog_12_method_46_code 35 = .ok (.if_icmp .ne 10, 3) := by decide +kernel
theorem d_M_look_38 : decode prog_12_method_46_code 38 = .ok (.aload_n 0, 1) := by decide +kernel
theorem d_M_look_39 : decode prog_12_method_46_code 39 = .ok (.getfield 273, 3) := by decide +kernel
theorem d_M_look_42 : decode prog_12_method_46_code 42 = .ok (.goto 16, 3) := by decide +kernel
theorem d_M_look_45 : decode prog_12_method_46_code 45 = .ok (.iload_n 1, 1) := by decide +kernel
theorem d_M_look_46 : decode prog_12_method_46_code 46 = .ok (.iconst 3, 1) := by decide +kernel
theorem d_M_look_47 : decode prog_12_method_46_code 47 = .ok (.if_icmp .ne 10, 3) := by decide +kernel
theorem d_M_look_50 : decode prog_12_method_46_code 50 = .ok (.aload_n 0, 1) := by decide +kernel
theorem d_M_look_51 : decode prog_12_method_46_code 51 = .ok (.getfield 232, 3) := by decide +kernel
theorem d_M_look_54 : decode prog_12_method_46_code 54 = .ok (.goto 4, 3) := by decide +kernel
theorem d_M_look_57 : decode prog_12_method_46_code 57 = .ok (.iconst (-1), 1) := by decide +kernel
theorem d_M_look_58 : decode prog_12_method_46_code 58 = .ok (.ireturn, 1) := by decide +kernel
theorem d_M_look_59 : decode prog_12_method_46_code 59 = .ok (.iload_n 1, 1) := by decide +kernel
theorem d_M_look_60 : decode prog_12_method_46_code 60 = .ok (.iconst 4, 1) := by decide +kernel
theorem d_M_look_61 : decode prog_12_method_46_code 61 = .ok (.if_icmp .ne 10, 3) := by decide +kernel
theorem d_M_look_64 : decode prog_12_method_46_code 64 = .ok (.aload_n 0, 1) := by decide +kernel
theorem d_M_look_65 : decode prog_12_method_46_code 65 = .ok (.getfield 235, 3) := by decide +kernel
theorem d_M_look_68 : decode prog_12_method_46_code 68 = .ok (.goto 29, 3) := by decide +kernel
theorem d_M_look_71 : decode prog_12_method_46_code 71 = .ok (.iload_n 1, 1) := by decide +kernel
theorem d_M_look_72 : decode prog_12_method_46_code 72 = .ok (.iconst 5, 1) := by decide +kernel
theorem d_M_look_73 : decode prog_12_method_46_code 73 = .ok (.if_icmp .ne 10, 3) := by decide +kernel
theorem d_M_look_76 : decode prog_12_method_46_code 76 = .ok (.aload_n 0, 1) := by decide +kernel
theorem d_M_look_77 : decode prog_12_method_46_code 77 = .ok (.getfield 264, 3) := by decide +kernel
theorem d_M_look_80 : decode prog_12_method_46_code 80 = .ok (.goto 17, 3) := by decide +kernel
theorem d_M_look_83 : decode prog_12_method_46_code 83 = .ok (.iload_n 1, 1) := by decide +kernel
theorem d_M_look_84 : decode prog_12_method_46_code 84 = .ok (.bipush 6, 2) := by decide +kernel
theorem d_M_look_86 : decode prog_12_method_46_code 86 = .ok (.if_icmp .ne 10, 3) := by decide +kernel
theorem d_M_look_89 : decode prog_12_method_46_code 89 = .ok (.aload_n 0, 1) := by decide +kernel
theorem d_M_look_90 : decode prog_12_method_46_code 90 = .ok (.getfield 282, 3) := by decide +kernel
theorem d_M_look_93 : decode prog_12_method_46_code 93 = .ok (.goto 4, 3) := by decide +kernel
theorem d_M_look_96 : decode prog_12_method_46_code 96 = .ok (.iconst (-1), 1) := by decide +kernel
theorem d_M_look_97 : decode prog_12_method_46_code 97 = .ok (.ireturn, 1) := by decide +kernel
theorem d_M_output_0 : decode prog_12_method_51_code 0 = .ok (.iload_n 1, 1) := by decide +kernel
theorem d_M_output_1 : decode prog_12_method_51_code 1 = .ok (.ifCond .lt 27, 3) := by decide +kernel
theorem d_M_output_4 : decode prog_12_method_51_code 4 = .ok (.iload_n 1, 1) := by decide +kernel
theorem d_M_output_5 : decode prog_12_method_51_code 5 = .ok (.aload_n 0, 1) := by decide +kernel
theorem d_M_output_6 : decode prog_12_method_51_code 6 = .ok (.getfield 264, 3) := by decide +kernel
theorem d_M_output_9 : decode prog_12_method_51_code 9 = .ok (.if_icmp .ge 19, 3) := by decide +kernel
theorem d_M_output_12 : decode prog_12_method_51_code 12 = .ok (.iload_n 1, 1) := by decide +kernel
theorem d_M_output_13 : decode prog_12_method_51_code 13 = .ok (.bipush 12, 2) := by decide +kernel
theorem d_M_output_15 : decode prog_12_method_51_code 15 = .ok (.if_icmp .ge 13, 3) := by decide +kernel
theorem d_M_output_18 : decode prog_12_method_51_code 18 = .ok (.iload_n 2, 1) := by decide +kernel
theorem d_M_output_19 : decode prog_12_method_51_code 19 = .ok (.bipush (-2), 2) := by decide +kernel
theorem d_M_output_21 : decode prog_12_method_51_code 21 = .ok (.if_icmp .lt 7, 3) := by decide +kernel
theorem d_M_output_24 : decode prog_12_method_51_code 24 = .ok (.iconst 1, 1) := by decide +kernel
theorem d_M_output_25 : decode prog_12_method_51_code 25 = .ok (.goto 4, 3) := by decide +kernel
theorem d_M_output_28 : decode prog_12_method_51_code 28 = .ok (.iconst 0, 1) := by decide +kernel
theorem d_M_output_29 : decode prog_12_method_51_code 29 = .ok (.istore_n 3, 1) := by decide +kernel
theorem d_M_output_30 : decode prog_12_method_51_code 30 = .ok (.aload_n 0, 1) := by decide +kernel
theorem d_M_output_31 : decode prog_12_method_51_code 31 = .ok (.iload_n 3, 1) := by decide +kernel
theorem d_M_output_32 : decode prog_12_method_51_code 32 = .ok (.ifCond .eq 7, 3) := by decide +kernel
theorem d_M_output_35 : decode prog_12_method_51_code 35 = .ok (.iconst 0, 1) := by decide +kernel
theorem d_M_output_36 : decode prog_12_method_51_code 36 = .ok (.goto 4, 3) := by decide +kernel
theorem d_M_output_39 : decode prog_12_method_51_code 39 = .ok (.iconst 1, 1) := by decide +kernel
theorem d_M_output_40 : decode prog_12_method_51_code 40 = .ok (.putfield 94, 3) := by decide +kernel
theorem d_M_output_43 : decode prog_12_method_51_code 43 = .ok (.iload_n 3, 1) := by decide +kernel
theorem d_M_output_44 : decode prog_12_method_51_code 44 = .ok (.ifCond .eq 24, 3) := by decide +kernel
theorem d_M_output_47 : decode prog_12_method_51_code 47 = .ok (.aload_n 0, 1) := by decide +kernel
theorem d_M_output_48 : decode prog_12_method_51_code 48 = .ok (.getfield 73, 3) := by decide +kernel
theorem d_M_output_51 : decode prog_12_method_51_code 51 = .ok (.bipush 20, 2) := by decide +kernel
theorem d_M_output_53 : decode prog_12_method_51_code 53 = .ok (.iload_n 1, 1) := by decide +kernel
theorem d_M_output_54 : decode prog_12_method_51_code 54 = .ok (.imul, 1) := by decide +kernel
theorem d_M_output_55 : decode prog_12_method_51_code 55 = .ok (.aload_n 0, 1) := by decide +kernel
theorem d_M_output_56 : decode prog_12_method_51_code 56 = .ok (.getfield 76, 3) := by decide +kernel
theorem d_M_output_59 : decode prog_12_method_51_code 59 = .ok (.iload_n 1, 1) := by decide +kernel
theorem d_M_output_60 : decode prog_12_method_51_code 60 = .ok (.iaload, 1) := by decide +kernel
theorem d_M_output_61 : decode prog_12_method_51_code 61 = .ok (.iload_n 2, 1) := by decide +kernel
theorem d_M_output_62 : decode prog_12_method_51_code 62 = .ok (.invokestatic 297, 3) := by decide +kernel
theorem d_M_output_65 : decode prog_12_method_51_code 65 = .ok (.goto 4, 3) := by decide +kernel
theorem d_M_output_68 : decode prog_12_method_51_code 68 = .ok (.iconst 0, 1) := by decide +kernel
theorem d_M_output_69 : decode prog_12_method_51_code 69 = .ok (.ireturn, 1) := by decide +kernel
theorem d_M_small_0 : decode prog_12_method_48_code 0 = .ok (.aload_n 0, 1) := by decide +kernel
theorem d_M_small_1 : decode prog_12_method_48_code 1 = .ok (.iconst 0, 1) := by decide +kernel
theorem d_M_small_2 : decode prog_12_method_48_code 2 = .ok (.putfield 94, 3) := by decide +kernel
theorem d_M_small_5 : decode prog_12_method_48_code 5 = .ok (.iload_n 1, 1) := by decide +kernel
theorem d_M_small_6 : decode prog_12_method_48_code 6 = .ok (.ifCond .lt 38, 3) := by decide +kernel
theorem d_M_small_9 : decode prog_12_method_48_code 9 = .ok (.iload_n 1, 1) := by decide +kernel
theorem d_M_small_10 : decode prog_12_method_48_code 10 = .ok (.bipush 10, 2) := by decide +kernel
theorem d_M_small_12 : decode prog_12_method_48_code 12 = .ok (.if_icmp .ge 32, 3) := by decide +kernel
theorem d_M_small_15 : decode prog_12_method_48_code 15 = .ok (.aload_n 0, 1) := by decide +kernel
theorem d_M_small_16 : decode prog_12_method_48_code 16 = .ok (.getfield 270, 3) := by decide +kernel
theorem d_M_small_19 : decode prog_12_method_48_code 19 = .ok (.ifCond .le 25, 3) := by decide +kernel
theorem d_M_small_22 : decode prog_12_method_48_code 22 = .ok (.aload_n 0, 1) := by decide +kernel
theorem d_M_small_23 : decode prog_12_method_48_code 23 = .ok (.getfield 46, 3) := by decide +kernel
theorem d_M_small_26 : decode prog_12_method_48_code 26 = .ok (.iload_n 1, 1) := by decide +kernel
theorem d_M_small_27 : decode prog_12_method_48_code 27 = .ok (.baload, 1) := by decide +kernel
theorem d_M_small_28 : decode prog_12_method_48_code 28 = .ok (.ifCond .ne 16, 3) := by decide +kernel
theorem d_M_small_31 : decode prog_12_method_48_code 31 = .ok (.aload_n 0, 1) := by decide +kernel
theorem d_M_small_32 : decode prog_12_method_48_code 32 = .ok (.getfield 49, 3) := by decide +kernel
theorem d_M_small_35 : decode prog_12_method_48_code 35 = .ok (.iload_n 1, 1) := by decide +kernel
theorem d_M_small_36 : decode prog_12_method_48_code 36 = .ok (.baload, 1) := by decide +kernel
theorem d_M_small_37 : decode prog_12_method_48_code 37 = .ok (.ifCond .ne 7, 3) := by decide +kernel
theorem d_M_small_40 : decode prog_12_method_48_code 40 = .ok (.iconst 1, 1) := by decide +kernel
theorem d_M_small_41 : decode prog_12_method_48_code 41 = .ok (.goto 4, 3) := by decide +kernel
theorem d_M_small_44 : decode prog_12_method_48_code 44 = .ok (.iconst 0, 1) := by decide +kernel
theorem d_M_small_45 : decode prog_12_method_48_code 45 = .ok (.ireturn, 1) := by decide +kernel
theorem d_M_told_0 : decode prog_12_method_49_code 0 = .ok (.iload_n 3, 1) := by decide +kernel
theorem d_M_told_1 : decode prog_12_method_49_code 1 = .ok (.ifCond .ge 20, 3) := by decide +kernel
theorem d_M_told_4 : decode prog_12_method_49_code 4 = .ok (.iload_n 3, 1) := by decide +kernel
theorem d_M_told_5 : decode prog_12_method_49_code 5 = .ok (.iconst (-1), 1) := by decide +kernel
theorem d_M_told_6 : decode prog_12_method_49_code 6 = .ok (.if_icmp .ne 7, 3) := by decide +kernel
theorem d_M_told_9 : decode prog_12_method_49_code 9 = .ok (.iload_n 2, 1) := by decide +kernel
theorem d_M_told_10 : decode prog_12_method_49_code 10 = .ok (.goto 10, 3) := by decide +kernel
theorem d_M_told_13 : decode prog_12_method_49_code 13 = .ok (.aload_n 0, 1) := by decide +kernel
theorem d_M_told_14 : decode prog_12_method_49_code 14 = .ok (.iload_n 1, 1) := by decide +kernel
theorem d_M_told_15 : decode prog_12_method_49_code 15 = .ok (.bipush 20, 2) := by decide +kernel
theorem d_M_told_17 : decode prog_12_method_49_code 17 = .ok (.invokestatic 254, 3) := by decide +kernel
theorem d_M_told_20 : decode prog_12_method_49_code 20 = .ok (.ireturn, 1) := by decide +kernel
theorem d_M_told_21 : decode prog_12_method_49_code 21 = .ok (.iload_n 3, 1) := by decide +kernel
theorem d_M_told_22 : decode prog_12_method_49_code 22 = .ok (.bipush 120, 2) := by decide +kernel
theorem d_M_told_24 : decode prog_12_method_49_code 24 = .ok (.if_icmp .ge 14, 3) := by decide +kernel
theorem d_M_told_27 : decode prog_12_method_49_code 27 = .ok (.aload_n 0, 1) := by decide +kernel
theorem d_M_told_28 : decode prog_12_method_49_code 28 = .ok (.iload_n 1, 1) := by decide +kernel
theorem d_M_told_29 : decode prog_12_method_49_code 29 = .ok (.iload_n 3, 1) := by decide +kernel
theorem d_M_told_30 : decode prog_12_method_49_code 30 = .ok (.bipush 6, 2) := by decide +kernel
theorem d_M_told_32 : decode prog_12_method_49_code 32 = .ok (.idiv, 1) := by decide +kernel
theorem d_M_told_33 : decode prog_12_method_49_code 33 = .ok (.iadd, 1) := by decide +kernel
theorem d_M_told_34 : decode prog_12_method_49_code 34 = .ok (.iaload, 1) := by decide +kernel
theorem d_M_told_35 : decode prog_12_method_49_code 35 = .ok (.goto 4, 3) := by decide +kernel
theorem d_M_told_38 : decode prog_12_method_49_code 38 = .ok (.iconst 0, 1) := by decide +kernel
theorem d_M_told_39 : decode prog_12_method_49_code 39 = .ok (.istore 4, 2) := by decide +kernel
theorem d_M_told_41 : decode prog_12_method_49_code 41 = .ok (.iconst 0, 1) := by decide +kernel
theorem d_M_told_42 : decode prog_12_method_49_code 42 = .ok (.istore 5, 2) := by decide +kernel
theorem d_M_told_44 : decode prog_12_method_49_code 44 = .ok (.iload 5, 2) := by decide +kernel
theorem d_M_told_46 : decode prog_12_method_49_code 46 = .ok (.iload_n 3, 1) := by decide +kernel
theorem d_M_told_47 : decode prog_12_method_49_code 47 = .ok (.bipush 6, 2) := by decide +kernel
theorem d_M_told_49 : decode prog_12_method_49_code 49 = .ok (.irem, 1) := by decide +kernel
theorem d_M_told_50 : decode prog_12_method_49_code 50 = .ok (.if_icmp .ge 16, 3) := by decide +kernel
theorem d_M_told_53 : decode prog_12_method_49_code 53 = .ok (.iload 4, 2) := by decide +kernel
theorem d_M_told_55 : decode prog_12_method_49_code 55 = .ok (.bipush 10, 2) := by decide +kernel
theorem d_M_told_57 : decode prog_12_method_49_code 57 = .ok (.idiv, 1) := by decide +kernel
theorem d_M_told_58 : decode prog_12_method_49_code 58 = .ok (.istore 4, 2) := by decide +kernel
theorem d_M_told_60 : decode prog_12_method_49_code 60 = .ok (.iinc 5 1, 3) := by decide +kernel
theorem d_M_told_63 : decode prog_12_method_49_code 63 = .ok (.goto (-19), 3) := by decide +kernel
theorem d_M_told_66 : decode prog_12_method_49_code 66 = .ok (.iload 4, 2) := by decide +kernel
theorem d_M_told_68 : decode prog_12_method_49_code 68 = .ok (.bipush 10, 2) := by decide +kernel
theorem d_M_told_70 : decode prog_12_method_49_code 70 = .ok (.irem, 1) := by decide +kernel
theorem d_M_told_71 : decode prog_12_method_49_code 71 = .ok (.ireturn, 1) := by decide +kernel
theorem d_M_type_0 : decode prog_12_method_38_code 0 = .ok (.aload_n 0, 1) := by decide +kernel
theorem d_M_type_1 : decode prog_12_method_38_code 1 = .ok (.iconst 0, 1) := by decide +kernel
theorem d_M_type_2 : decode prog_12_method_38_code 2 = .ok (.putfield 94, 3) := by decide +kernel
theorem d_M_type_5 : decode prog_12_method_38_code 5 = .ok (.iload_n 1, 1) := by decide +kernel
theorem d_M_type_6 : decode prog_12_method_38_code 6 = .ok (.bipush 33, 2) := by decide +kernel
theorem d_M_type_8 : decode prog_12_method_38_code 8 = .ok (.if_icmp .lt 18, 3) := by decide +kernel
theorem d_M_type_11 : decode prog_12_method_38_code 11 = .ok (.iload_n 1, 1) := by decide +kernel
theorem d_M_type_12 : decode prog_12_method_38_code 12 = .ok (.bipush 126, 2) := by decide +kernel
theorem d_M_type_14 : decode prog_12_method_38_code 14 = .ok (.if_icmp .gt 12, 3) := by decide +kernel
theorem d_M_type_17 : decode prog_12_method_38_code 17 = .ok (.aload_n 0, 1) := by decide +kernel
theorem d_M_type_18 : decode prog_12_method_38_code 18 = .ok (.getfield 101, 3) := by decide +kernel
theorem d_M_type_21 : decode prog_12_method_38_code 21 = .ok (.bipush 72, 2) := by decide +kernel
theorem d_M_type_23 : decode prog_12_method_38_code 23 = .ok (.if_icmp .ne 5, 3) := by decide +kernel
theorem d_M_type_26 : decode prog_12_method_38_code 26 = .ok (.iconst 0, 1) := by decide +kernel
theorem d_M_type_27 : decode prog_12_method_38_code 27 = .ok (.ireturn, 1) := by decide +kernel
theorem d_M_type_28 : decode prog_12_method_38_code 28 = .ok (.aload_n 0, 1) := by decide +kernel
theorem d_M_type_29 : decode prog_12_method_38_code 29 = .ok (.getfield 7, 3) := by decide +kernel
theorem d_M_type_32 : decode prog_12_method_38_code 32 = .ok (.aload_n 0, 1) := by decide +kernel
theorem d_M_type_33 : decode prog_12_method_38_code 33 = .ok (.getfield 101, 3) := by decide +kernel
theorem d_M_type_36 : decode prog_12_method_38_code 36 = .ok (.iload_n 1, 1) := by decide +kernel
theorem d_M_type_37 : decode prog_12_method_38_code 37 = .ok (.castore, 1) := by decide +kernel
theorem d_M_type_38 : decode prog_12_method_38_code 38 = .ok (.aload_n 0, 1) := by decide +kernel
theorem d_M_type_39 : decode prog_12_method_38_code 39 = .ok (.dup, 1) := by decide +kernel
theorem d_M_type_40 : decode prog_12_method_38_code 40 = .ok (.getfield 101, 3) := by decide +kernel
theorem d_M_type_43 : decode prog_12_method_38_code 43 = .ok (.iconst 1, 1) := by decide +kernel
theorem d_M_type_44 : decode prog_12_method_38_code 44 = .ok (.iadd, 1) := by decide +kernel
theorem d_M_type_45 : decode prog_12_method_38_code 45 = .ok (.putfield 101, 3) := by decide +kernel
theorem d_M_type_48 : decode prog_12_method_38_code 48 = .ok (.iconst 1, 1) := by decide +kernel
theorem d_M_type_49 : decode prog_12_method_38_code 49 = .ok (.ireturn, 1) := by decide +kernel
theorem d_M_variable_0 : decode prog_12_method_50_code 0 = .ok (.iload_n 1, 1) := by decide +kernel
theorem d_M_variable_1 : decode prog_12_method_50_code 1 = .ok (.ifCond .lt 26, 3) := by decide +kernel
theorem d_M_variable_4 : decode prog_12_method_50_code 4 = .ok (.iload_n 1, 1) := by decide +kernel
theorem d_M_variable_5 : decode prog_12_method_50_code 5 = .ok (.bipush 10, 2) := by decide +kernel
theorem d_M_variable_7 : decode prog_12_method_50_code 7 = .ok (.if_icmp .ge 20, 3) := by decide +kernel
theorem d_M_variable_10 : decode prog_12_method_50_code 10 = .ok (.aload_n 0, 1) := by decide +kernel
theorem d_M_variable_11 : decode prog_12_method_50_code 11 = .ok (.getfield 270, 3) := by decide +kernel
theorem d_M_variable_14 : decode prog_12_method_50_code 14 = .ok (.ifCond .le 13, 3) := by decide +kernel
theorem d_M_variable_17 : decode prog_12_method_50_code 17 = .ok (.iload_n 2, 1) := by decide +kernel
theorem d_M_variable_18 : decode prog_12_method_50_code 18 = .ok (.bipush (-2), 2) := by decide +kernel
theorem d_M_variable_20 : decode prog_12_method_50_code 20 = .ok (.if_icmp .lt 7, 3) := by decide +kernel
theorem d_M_variable_23 : decode prog_12_method_50_code 23 = .ok (.iconst 1, 1) := by decide +kernel
theorem d_M_variable_24 : decode prog_12_method_50_code 24 = .ok (.goto 4, 3) := by decide +kernel
theorem d_M_variable_27 : decode prog_12_method_50_code 27 = .ok (.iconst 0, 1) := by decide +kernel
theorem d_M_variable_28 : decode prog_12_method_50_code 28 = .ok (.istore_n 3, 1) := by decide +kernel
theorem d_M_variable_29 : decode prog_12_method_50_code 29 = .ok (.aload_n 0, 1) := by decide +kernel
theorem d_M_variable_30 : decode prog_12_method_50_code 30 = .ok (.iload_n 3, 1) := by decide +kernel
theorem d_M_variable_31 : decode prog_12_method_50_code 31 = .ok (.ifCond .eq 7, 3) := by decide +kernel
theorem d_M_variable_34 : decode prog_12_method_50_code 34 = .ok (.iconst 0, 1) := by decide +kernel
theorem d_M_variable_35 : decode prog_12_method_50_code 35 = .ok (.goto 4, 3) := by decide +kernel
theorem d_M_variable_38 : decode prog_12_method_50_code 38 = .ok (.iconst 1, 1) := by decide +kernel
theorem d_M_variable_39 : decode prog_12_method_50_code 39 = .ok (.putfield 94, 3) := by decide +kernel
theorem d_M_variable_42 : decode prog_12_method_50_code 42 = .ok (.iload_n 3, 1) := by decide +kernel
theorem d_M_variable_43 : decode prog_12_method_50_code 43 = .ok (.ifCond .eq 24, 3) := by decide +kernel
theorem d_M_variable_46 : decode prog_12_method_50_code 46 = .ok (.aload_n 0, 1) := by decide +kernel
theorem d_M_variable_47 : decode prog_12_method_50_code 47 = .ok (.getfield 67, 3) := by decide +kernel
theorem d_M_variable_50 : decode prog_12_method_50_code 50 = .ok (.bipush 20, 2) := by decide +kernel
theorem d_M_variable_52 : decode prog_12_method_50_code 52 = .ok (.iload_n 1, 1) := by decide +kernel
theorem d_M_variable_53 : decode prog_12_method_50_code 53 = .ok (.imul, 1) := by decide +kernel
theorem d_M_variable_54 : decode prog_12_method_50_code 54 = .ok (.aload_n 0, 1) := by decide +kernel
theorem d_M_variable_55 : decode prog_12_method_50_code 55 = .ok (.getfield 70, 3) := by decide +kernel
theorem d_M_variable_58 : decode prog_12_method_50_code 58 = .ok (.iload_n 1, 1) := by decide +kernel
theorem d_M_variable_59 : decode prog_12_method_50_code 59 = .ok (.iaload, 1) := by decide +kernel
theorem d_M_variable_60 : decode prog_12_method_50_code 60 = .ok (.iload_n 2, 1) := by decide +kernel
theorem d_M_variable_61 : decode prog_12_method_50_code 61 = .ok (.invokestatic 297, 3) := by decide +kernel
theorem d_M_variable_64 : decode prog_12_method_50_code 64 = .ok (.goto 4, 3) := by decide +kernel
theorem d_M_variable_67 : decode prog_12_method_50_code 67 = .ok (.iconst 0, 1) := by decide +kernel
theorem d_M_variable_68 : decode prog_12_method_50_code 68 = .ok (.ireturn, 1) := by decide +kernel
theorem d_M_wipe_0 : decode prog_12_method_39_code 0 = .ok (.aload_n 0, 1) := by decide +kernel
theorem d_M_wipe_1 : decode prog_12_method_39_code 1 = .ok (.iconst 0, 1) := by decide +kernel
theorem d_M_wipe_2 : decode prog_12_method_39_code 2 = .ok (.putfield 94, 3) := by decide +kernel
theorem d_M_wipe_5 : decode prog_12_method_39_code 5 = .ok (.aload_n 0, 1) := by decide +kernel
theorem d_M_wipe_6 : decode prog_12_method_39_code 6 = .ok (.iconst 0, 1) := by decide +kernel
theorem d_M_wipe_7 : decode prog_12_method_39_code 7 = .ok (.putfield 101, 3) := by decide +kernel
theorem d_M_wipe_10 : decode prog_12_method_39_code 10 = .ok (.return_, 1) := by decide +kernel

