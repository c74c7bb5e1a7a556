theorem wd_0 {U : State} (h : TB U) (args : Array Value) : (Cond.selects "BigRunner" ⟨"BigRunner", "state", "()I"⟩ ⟨"BigRunner", "state", "()I"⟩).before args U = true := h.w 0 (by decide +kernel) rfl args
theorem wd_1 {U : State} (h : TB U) (args : Array Value) : (Cond.selects "BigRunner" ⟨"BigRunner", "hasVariable", "(I)Z"⟩ ⟨"BigRunner", "hasVariable", "(I)Z"⟩).before args U = true := h.w 1 (by decide +kernel) rfl args
theorem wd_72 {U : State} (h : TB U) (args : Array Value) : (Cond.initialized "BigRunner").before args U = true := h.w 72 (by decide +kernel) rfl args
theorem wd_255 {U : State} (h : TB U) (args : Array Value) : (Cond.fieldLink "BigRunner" 127 "BigRunner$Program" "variables" "[LBigRunner$Interval;").before args U = true := h.w 255 (by decide +kernel) rfl args
theorem wd_302 {U : State} (h : TB U) (args : Array Value) : (Cond.fieldLink "BigRunner" 116 "BigRunner$Inputs" "waiting" "I").before args U = true := h.w 302 (by decide +kernel) rfl args
theorem wd_331 {U : State} (h : TB U) (args : Array Value) : (Cond.fieldLink "BigRunner" 50 "BigRunner$Runner" "program" "LBigRunner$Program;").before args U = true := h.w 331 (by decide +kernel) rfl args
theorem wd_333 {U : State} (h : TB U) (args : Array Value) : (Cond.fieldLink "BigRunner" 61 "BigRunner$Runner" "inputs" "LBigRunner$Inputs;").before args U = true := h.w 333 (by decide +kernel) rfl args
theorem wd_342 {U : State} (h : TB U) (args : Array Value) : (Cond.fieldLink "BigRunner" 113 "BigRunner$Runner" "outputs" "I").before args U = true := h.w 342 (by decide +kernel) rfl args
theorem wd_344 {U : State} (h : TB U) (args : Array Value) : (Cond.fieldLink "BigRunner" 104 "BigRunner$Runner" "steps" "I").before args U = true := h.w 344 (by decide +kernel) rfl args
theorem wd_346 {U : State} (h : TB U) (args : Array Value) : (Cond.fieldLink "BigRunner" 107 "BigRunner$Runner" "machineOperations" "I").before args U = true := h.w 346 (by decide +kernel) rfl args
theorem wd_348 {U : State} (h : TB U) (args : Array Value) : (Cond.fieldLink "BigRunner" 110 "BigRunner$Runner" "longOperations" "I").before args U = true := h.w 348 (by decide +kernel) rfl args
theorem wd_350 {U : State} (h : TB U) (args : Array Value) : (Cond.fieldLink "BigRunner" 75 "BigRunner$Runner" "trap" "I").before args U = true := h.w 350 (by decide +kernel) rfl args
theorem wd_378 {U : State} (h : TB U) (args : Array Value) : (Cond.fieldLink "BigRunner" 9 "BigRunner" "line" "[C").before args U = true := h.w 378 (by decide +kernel) rfl args
theorem wd_379 {U : State} (h : TB U) (args : Array Value) : (Cond.fieldLink "BigRunner" 13 "BigRunner" "lineLength" "I").before args U = true := h.w 379 (by decide +kernel) rfl args
theorem wd_381 {U : State} (h : TB U) (args : Array Value) : (Cond.fieldLink "BigRunner" 27 "BigRunner" "runner" "LBigRunner$Runner;").before args U = true := h.w 381 (by decide +kernel) rfl args
theorem wd_382 {U : State} (h : TB U) (args : Array Value) : (Cond.fieldLink "BigRunner" 31 "BigRunner" "loaded" "Z").before args U = true := h.w 382 (by decide +kernel) rfl args
theorem wd_406 {U : State} (h : TB U) (args : Array Value) : (Cond.methodLink "BigRunner" 65 ⟨"BigRunner$Inputs", "append", "(I)Z"⟩).before args U = true := h.w 406 (by decide +kernel) rfl args
theorem wd_407 {U : State} (h : TB U) (args : Array Value) : (Cond.instanceMethod ⟨"BigRunner$Inputs", "append", "(I)Z"⟩).before args U = true := h.w 407 (by decide +kernel) rfl args
theorem wd_408 {U : State} (h : TB U) (args : Array Value) : (Cond.selects "BigRunner$Inputs" ⟨"BigRunner$Inputs", "append", "(I)Z"⟩ ⟨"BigRunner$Inputs", "append", "(I)Z"⟩).before args U = true := h.w 408 (by decide +kernel) rfl args
theorem wd_409 {U : State} (h : TB U) (args : Array Value) : (Cond.code ⟨"BigRunner$Inputs", "append", "(I)Z"⟩ prog_2_method_2_code 2 (some .boolean)).before args U = true := h.w 409 (by decide +kernel) rfl args
theorem wd_416 {U : State} (h : TB U) (args : Array Value) : (Cond.methodLink "BigRunner" 101 ⟨"BigRunner", "state", "()I"⟩).before args U = true := h.w 416 (by decide +kernel) rfl args
theorem wd_418 {U : State} (h : TB U) (args : Array Value) : (Cond.instanceMethod ⟨"BigRunner", "state", "()I"⟩).before args U = true := h.w 418 (by decide +kernel) rfl args
theorem wd_419 {U : State} (h : TB U) (args : Array Value) : (Cond.code ⟨"BigRunner", "state", "()I"⟩ prog_1_method_13_code 1 (some .int)).before args U = true := h.w 419 (by decide +kernel) rfl args
theorem wd_420 {U : State} (h : TB U) (args : Array Value) : (Cond.methodLink "BigRunner" 71 ⟨"BigRunner$Runner", "hasEnded", "()Z"⟩).before args U = true := h.w 420 (by decide +kernel) rfl args
theorem wd_424 {U : State} (h : TB U) (args : Array Value) : (Cond.methodLink "BigRunner" 170 ⟨"BigRunner$Runner", "lacksInput", "()Z"⟩).before args U = true := h.w 424 (by decide +kernel) rfl args
theorem wd_433 {U : State} (h : TB U) (args : Array Value) : (Cond.methodLink "BigRunner" 119 ⟨"BigRunner", "hasVariable", "(I)Z"⟩).before args U = true := h.w 433 (by decide +kernel) rfl args
theorem wd_435 {U : State} (h : TB U) (args : Array Value) : (Cond.instanceMethod ⟨"BigRunner", "hasVariable", "(I)Z"⟩).before args U = true := h.w 435 (by decide +kernel) rfl args
theorem wd_436 {U : State} (h : TB U) (args : Array Value) : (Cond.code ⟨"BigRunner", "hasVariable", "(I)Z"⟩ prog_1_method_12_code 2 (some .boolean)).before args U = true := h.w 436 (by decide +kernel) rfl args
theorem wd_437 {U : State} (h : TB U) (args : Array Value) : (Cond.methodLink "BigRunner" 146 ⟨"BigRunner$Interval", "isBounded", "()Z"⟩).before args U = true := h.w 437 (by decide +kernel) rfl args
theorem d_B_give_0 : decode prog_1_method_5_code 0 = .ok (.aload_n 0, 1) := by decide +kernel
theorem d_B_give_1 : decode prog_1_method_5_code 1 = .ok (.getfield 27, 3) := by decide +kernel
theorem d_B_give_4 : decode prog_1_method_5_code 4 = .ok (.getfield 61, 3) := by decide +kernel
theorem d_B_give_7 : decode prog_1_method_5_code 7 = .ok (.iload_n 1, 1) := by decide +kernel
theorem d_B_give_8 : decode prog_1_method_5_code 8 = .ok (.invokevirtual 65, 3) := by decide +kernel
theorem d_B_give_11 : decode prog_1_method_5_code 11 = .ok (.ireturn, 1) := by decide +kernel
theorem d_B_hasVariable_0 : decode prog_1_method_12_code 0 = .ok (.aload_n 0, 1) := by decide +kernel
theorem d_B_hasVariable_1 : decode prog_1_method_12_code 1 = .ok (.getfield 31, 3) := by decide +kernel
theorem d_B_hasVariable_4 : decode prog_1_method_12_code 4 = .ok (.ifCond .eq 17, 3) := by decide +kernel
theorem d_B_hasVariable_7 : decode prog_1_method_12_code 7 = .ok (.iload_n 1, 1) := by decide +kernel
theorem d_B_hasVariable_8 : decode prog_1_method_12_code 8 = .ok (.ifCond .lt 13, 3) := by decide +kernel
theorem d_B_hasVariable_11 : decode prog_1_method_12_code 11 = .ok (.iload_n 1, 1) := by decide +kernel
theorem d_B_hasVariable_12 : decode prog_1_method_12_code 12 = .ok (.bipush 10, 2) := by decide +kernel
theorem d_B_hasVariable_14 : decode prog_1_method_12_code 14 = .ok (.if_icmp .ge 7, 3) := by decide +kernel
theorem d_B_hasVariable_17 : decode prog_1_method_12_code 17 = .ok (.iconst 1, 1) := by decide +kernel
theorem d_B_hasVariable_18 : decode prog_1_method_12_code 18 = .ok (.goto 4, 3) := by decide +kernel
theorem d_B_hasVariable_21 : decode prog_1_method_12_code 21 = .ok (.iconst 0, 1) := by decide +kernel
theorem d_B_hasVariable_22 : decode prog_1_method_12_code 22 = .ok (.ireturn, 1) := by decide +kernel
theorem d_B_look_0 : decode prog_1_method_7_code 0 = .ok (.iload_n 1, 1) := by decide +kernel
theorem d_B_look_1 : decode prog_1_method_7_code 1 = .ok (.tableswitch 99 0 6 #[43, 48, 56, 64, 72, 80, 88], 43) := by decide +kernel
theorem d_B_look_44 : decode prog_1_method_7_code 44 = .ok (.aload_n 0, 1) := by decide +kernel
theorem d_B_look_45 : decode prog_1_method_7_code 45 = .ok (.invokevirtual 101, 3) := by decide +kernel
theorem d_B_look_48 : decode prog_1_method_7_code 48 = .ok (.ireturn, 1) := by decide +kernel
theorem d_B_look_49 : decode prog_1_method_7_code 49 = .ok (.aload_n 0, 1) := by decide +kernel
theorem d_B_look_50 : decode prog_1_method_7_code 50 = .ok (.getfield 27, 3) := by decide +kernel
theorem d_B_look_53 : decode prog_1_method_7_code 53 = .ok (.getfield 75, 3) := by decide +kernel
theorem d_B_look_56 : decode prog_1_method_7_code 56 = .ok (.ireturn, 1) := by decide +kernel
theorem d_B_look_57 : decode prog_1_method_7_code 57 = .ok (.aload_n 0, 1) := by decide +kernel
theorem d_B_look_58 : decode prog_1_method_7_code 58 = .ok (.getfield 27, 3) := by decide +kernel
theorem d_B_look_61 : decode prog_1_method_7_code 61 = .ok (.getfield 104, 3) := by decide +kernel
theorem d_B_look_64 : decode prog_1_method_7_code 64 = .ok (.ireturn, 1) := by decide +kernel
theorem d_B_look_65 : decode prog_1_method_7_code 65 = .ok (.aload_n 0, 1) := by decide +kernel
theorem d_B_look_66 : decode prog_1_method_7_code 66 = .ok (.getfield 27, 3) := by decide +kernel
theorem d_B_look_69 : decode prog_1_method_7_code 69 = .ok (.getfield 107, 3) := by decide +kernel
theorem d_B_look_72 : decode prog_1_method_7_code 72 = .ok (.ireturn, 1) := by decide +kernel
theorem d_B_look_73 : decode prog_1_method_7_code 73 = .ok (.aload_n 0, 1) := by decide +kernel
theorem d_B_look_74 : decode prog_1_method_7_code 74 = .ok (.getfield 27, 3) := by decide +kernel
theorem d_B_look_77 : decode prog_1_method_7_code 77 = .ok (.getfield 110, 3) := by decide +kernel
theorem d_B_look_80 : decode prog_1_method_7_code 80 = .ok (.ireturn, 1) := by decide +kernel
theorem d_B_look_81 : decode prog_1_method_7_code 81 = .ok (.aload_n 0, 1) := by decide +kernel
theorem d_B_look_82 : decode prog_1_method_7_code 82 = .ok (.getfield 27, 3) := by decide +kernel
theorem d_B_look_85 : decode prog_1_method_7_code 85 = .ok (.getfield 113, 3) := by decide +kernel
theorem d_B_look_88 : decode prog_1_method_7_code 88 = .ok (.ireturn, 1) := by decide +kernel
theorem d_B_look_89 : decode prog_1_method_7_code 89 = .ok (.aload_n 0, 1) := by decide +kernel
theorem d_B_look_90 : decode prog_1_method_7_code 90 = .ok (.getfield 27, 3) := by decide +kernel
theorem d_B_look_93 : decode prog_1_method_7_code 93 = .ok (.getfield 61, 3) := by decide +kernel
theorem d_B_look_96 : decode prog_1_method_7_code 96 = .ok (.getfield 116, 3) := by decide +kernel
theorem d_B_look_99 : decode prog_1_method_7_code 99 = .ok (.ireturn, 1) := by decide +kernel
theorem d_B_look_100 : decode prog_1_method_7_code 100 = .ok (.iconst (-1), 1) := by decide +kernel
theorem d_B_look_101 : decode prog_1_method_7_code 101 = .ok (.ireturn, 1) := by decide +kernel
theorem d_B_small_0 : decode prog_1_method_9_code 0 = .ok (.aload_n 0, 1) := by decide +kernel
theorem d_B_small_1 : decode prog_1_method_9_code 1 = .ok (.iload_n 1, 1) := by decide +kernel
theorem d_B_small_2 : decode prog_1_method_9_code 2 = .ok (.invokevirtual 119, 3) := by decide +kernel
theorem d_B_small_5 : decode prog_1_method_9_code 5 = .ok (.ifCond .eq 25, 3) := by decide +kernel
theorem d_B_small_8 : decode prog_1_method_9_code 8 = .ok (.aload_n 0, 1) := by decide +kernel
theorem d_B_small_9 : decode prog_1_method_9_code 9 = .ok (.getfield 27, 3) := by decide +kernel
theorem d_B_small_12 : decode prog_1_method_9_code 12 = .ok (.getfield 50, 3) := by decide +kernel
theorem d_B_small_15 : decode prog_1_method_9_code 15 = .ok (.getfield 127, 3) := by decide +kernel
theorem d_B_small_18 : decode prog_1_method_9_code 18 = .ok (.iload_n 1, 1) := by decide +kernel
theorem d_B_small_19 : decode prog_1_method_9_code 19 = .ok (.aaload, 1) := by decide +kernel
theorem d_B_small_20 : decode prog_1_method_9_code 20 = .ok (.invokevirtual 146, 3) := by decide +kernel
theorem d_B_small_23 : decode prog_1_method_9_code 23 = .ok (.ifCond .eq 7, 3) := by decide +kernel
theorem d_B_small_26 : decode prog_1_method_9_code 26 = .ok (.iconst 1, 1) := by decide +kernel
theorem d_B_small_27 : decode prog_1_method_9_code 27 = .ok (.goto 4, 3) := by decide +kernel
theorem d_B_small_30 : decode prog_1_method_9_code 30 = .ok (.iconst 0, 1) := by decide +kernel
theorem d_B_small_31 : decode prog_1_method_9_code 31 = .ok (.ireturn, 1) := by decide +kernel
theorem d_B_state_0 : decode prog_1_method_13_code 0 = .ok (.aload_n 0, 1) := by decide +kernel
theorem d_B_state_1 : decode prog_1_method_13_code 1 = .ok (.getfield 31, 3) := by decide +kernel
theorem d_B_state_4 : decode prog_1_method_13_code 4 = .ok (.ifCond .ne 5, 3) := by decide +kernel
theorem d_B_state_7 : decode prog_1_method_13_code 7 = .ok (.iconst 0, 1) := by decide +kernel
theorem d_B_state_8 : decode prog_1_method_13_code 8 = .ok (.ireturn, 1) := by decide +kernel
theorem d_B_state_9 : decode prog_1_method_13_code 9 = .ok (.aload_n 0, 1) := by decide +kernel
theorem d_B_state_10 : decode prog_1_method_13_code 10 = .ok (.getfield 27, 3) := by decide +kernel
theorem d_B_state_13 : decode prog_1_method_13_code 13 = .ok (.getfield 75, 3) := by decide +kernel
theorem d_B_state_16 : decode prog_1_method_13_code 16 = .ok (.ifCond .eq 5, 3) := by decide +kernel
theorem d_B_state_19 : decode prog_1_method_13_code 19 = .ok (.iconst 4, 1) := by decide +kernel
theorem d_B_state_20 : decode prog_1_method_13_code 20 = .ok (.ireturn, 1) := by decide +kernel
theorem d_B_state_21 : decode prog_1_method_13_code 21 = .ok (.aload_n 0, 1) := by decide +kernel
theorem d_B_state_22 : decode prog_1_method_13_code 22 = .ok (.getfield 27, 3) := by decide +kernel
theorem d_B_state_25 : decode prog_1_method_13_code 25 = .ok (.invokevirtual 71, 3) := by decide +kernel
theorem d_B_state_28 : decode prog_1_method_13_code 28 = .ok (.ifCond .eq 5, 3) := by decide +kernel
theorem d_B_state_31 : decode prog_1_method_13_code 31 = .ok (.iconst 3, 1) := by decide +kernel
theorem d_B_state_32 : decode prog_1_method_13_code 32 = .ok (.ireturn, 1) := by decide +kernel
theorem d_B_state_33 : decode prog_1_method_13_code 33 = .ok (.aload_n 0, 1) := by decide +kernel
theorem d_B_state_34 : decode prog_1_method_13_code 34 = .ok (.getfield 27, 3) := by decide +kernel
theorem d_B_state_37 : decode prog_1_method_13_code 37 = .ok (.invokevirtual 170, 3) := by decide +kernel
theorem d_B_state_40 : decode prog_1_method_13_code 40 = .ok (.ifCond .eq 7, 3) := by decide +kernel
theorem d_B_state_43 : decode prog_1_method_13_code 43 = .ok (.iconst 2, 1) := by decide +kernel
theorem d_B_state_44 : decode prog_1_method_13_code 44 = .ok (.goto 4, 3) := by decide +kernel
theorem d_B_state_47 : decode prog_1_method_13_code 47 = .ok (.iconst 1, 1) := by decide +kernel
theorem d_B_state_48 : decode prog_1_method_13_code 48 = .ok (.ireturn, 1) := by decide +kernel
theorem d_B_type_0 : decode prog_1_method_2_code 0 = .ok (.iload_n 1, 1) := by decide +kernel
theorem d_B_type_1 : decode prog_1_method_2_code 1 = .ok (.bipush 33, 2) := by decide +kernel
theorem d_B_type_3 : decode prog_1_method_2_code 3 = .ok (.if_icmp .lt 18, 3) := by decide +kernel
theorem d_B_type_6 : decode prog_1_method_2_code 6 = .ok (.iload_n 1, 1) := by decide +kernel
theorem d_B_type_7 : decode prog_1_method_2_code 7 = .ok (.bipush 126, 2) := by decide +kernel
theorem d_B_type_9 : decode prog_1_method_2_code 9 = .ok (.if_icmp .gt 12, 3) := by decide +kernel
theorem d_B_type_12 : decode prog_1_method_2_code 12 = .ok (.aload_n 0, 1) := by decide +kernel
theorem d_B_type_13 : decode prog_1_method_2_code 13 = .ok (.getfield 13, 3) := by decide +kernel
theorem d_B_type_16 : decode prog_1_method_2_code 16 = .ok (.bipush 72, 2) := by decide +kernel
theorem d_B_type_18 : decode prog_1_method_2_code 18 = .ok (.if_icmp .lt 5, 3) := by decide +kernel
theorem d_B_type_21 : decode prog_1_method_2_code 21 = .ok (.iconst 0, 1) := by decide +kernel
theorem d_B_type_22 : decode prog_1_method_2_code 22 = .ok (.ireturn, 1) := by decide +kernel
theorem d_B_type_23 : decode prog_1_method_2_code 23 = .ok (.aload_n 0, 1) := by decide +kernel
theorem d_B_type_24 : decode prog_1_method_2_code 24 = .ok (.getfield 9, 3) := by decide +kernel
theorem d_B_type_27 : decode prog_1_method_2_code 27 = .ok (.aload_n 0, 1) := by decide +kernel
theorem d_B_type_28 : decode prog_1_method_2_code 28 = .ok (.getfield 13, 3) := by decide +kernel
theorem d_B_type_31 : decode prog_1_method_2_code 31 = .ok (.iload_n 1, 1) := by decide +kernel
theorem d_B_type_32 : decode prog_1_method_2_code 32 = .ok (.castore, 1) := by decide +kernel
theorem d_B_type_33 : decode prog_1_method_2_code 33 = .ok (.aload_n 0, 1) := by decide +kernel
theorem d_B_type_34 : decode prog_1_method_2_code 34 = .ok (.dup, 1) := by decide +kernel
theorem d_B_type_35 : decode prog_1_method_2_code 35 = .ok (.getfield 13, 3) := by decide +kernel
theorem d_B_type_38 : decode prog_1_method_2_code 38 = .ok (.iconst 1, 1) := by decide +kernel
theorem d_B_type_39 : decode prog_1_method_2_code 39 = .ok (.iadd, 1) := by decide +kernel
theorem d_B_type_40 : decode prog_1_method_2_code 40 = .ok (.putfield 13, 3) := by decide +kernel
theorem d_B_type_43 : decode prog_1_method_2_code 43 = .ok (.iconst 1, 1) := by decide +kernel
theorem d_B_type_44 : decode prog_1_method_2_code 44 = .ok (.ireturn, 1) := by decide +kernel
theorem d_B_wipe_0 : decode prog_1_method_3_code 0 = .ok (.aload_n 0, 1) := by decide +kernel
theorem d_B_wipe_1 : decode prog_1_method_3_code 1 = .ok (.iconst 0, 1) := by decide +kernel
theorem d_B_wipe_2 : decode prog_1_method_3_code 2 = .ok (.putfield 13, 3) := by decide +kernel
theorem d_B_wipe_5 : decode prog_1_method_3_code 5 = .ok (.return_, 1) := by decide +kernel

