section
-- ===== PART A: goes FIRST, ahead of the names: the tables' words, and 'selects' of the private methods out of them =====
/-- a private method of a class that the tables say can be made, by its rows of tables_1 -/
def lw_okq (q : MethodName × Nat) : Prop := (q.1.cls ≠ "java/lang/invoke/MethodHandle" ∧ q.1.cls ≠ "java/lang/invoke/VarHandle") ∧ Cond.instantiable q.1.cls q.2 ∈ tables_1 ∧ Cond.privateMethod q.1 ∈ tables_1 ∧ Cond.instanceMethod q.1 ∈ tables_1
theorem lw_p0 : lw_okq (⟨"BigRunner", "state", "()I"⟩, 5) := ⟨⟨by decide +kernel, by decide +kernel⟩, List.mem_of_getElem? (i := 25) (by decide +kernel), List.mem_of_getElem? (i := 346) (by decide +kernel), List.mem_of_getElem? (i := 347) (by decide +kernel)⟩
theorem lw_p1 : lw_okq (⟨"BigRunner", "hasVariable", "(I)Z"⟩, 5) := ⟨⟨by decide +kernel, by decide +kernel⟩, List.mem_of_getElem? (i := 25) (by decide +kernel), List.mem_of_getElem? (i := 363) (by decide +kernel), List.mem_of_getElem? (i := 364) (by decide +kernel)⟩
theorem lw_p2 : lw_okq (⟨"BigRunner$Reader", "readProgram", "(I)Z"⟩, 4) := ⟨⟨by decide +kernel, by decide +kernel⟩, List.mem_of_getElem? (i := 33) (by decide +kernel), List.mem_of_getElem? (i := 391) (by decide +kernel), List.mem_of_getElem? (i := 392) (by decide +kernel)⟩
theorem lw_p3 : lw_okq (⟨"BigRunner$Reader", "readStatement", "(I)Z"⟩, 4) := ⟨⟨by decide +kernel, by decide +kernel⟩, List.mem_of_getElem? (i := 33) (by decide +kernel), List.mem_of_getElem? (i := 395) (by decide +kernel), List.mem_of_getElem? (i := 396) (by decide +kernel)⟩
theorem lw_p4 : lw_okq (⟨"BigRunner$Reader", "accept", "(C)Z"⟩, 4) := ⟨⟨by decide +kernel, by decide +kernel⟩, List.mem_of_getElem? (i := 33) (by decide +kernel), List.mem_of_getElem? (i := 399) (by decide +kernel), List.mem_of_getElem? (i := 400) (by decide +kernel)⟩
theorem lw_p5 : lw_okq (⟨"BigRunner$Reader", "next", "()C"⟩, 4) := ⟨⟨by decide +kernel, by decide +kernel⟩, List.mem_of_getElem? (i := 33) (by decide +kernel), List.mem_of_getElem? (i := 403) (by decide +kernel), List.mem_of_getElem? (i := 404) (by decide +kernel)⟩
theorem lw_p6 : lw_okq (⟨"BigRunner$Reader", "addStatement", "(I)I"⟩, 4) := ⟨⟨by decide +kernel, by decide +kernel⟩, List.mem_of_getElem? (i := 33) (by decide +kernel), List.mem_of_getElem? (i := 407) (by decide +kernel), List.mem_of_getElem? (i := 408) (by decide +kernel)⟩
theorem lw_p7 : lw_okq (⟨"BigRunner$Reader", "readName", "(I)Z"⟩, 4) := ⟨⟨by decide +kernel, by decide +kernel⟩, List.mem_of_getElem? (i := 33) (by decide +kernel), List.mem_of_getElem? (i := 411) (by decide +kernel), List.mem_of_getElem? (i := 412) (by decide +kernel)⟩
theorem lw_p8 : lw_okq (⟨"BigRunner$Reader", "readExprOf", "(II)Z"⟩, 4) := ⟨⟨by decide +kernel, by decide +kernel⟩, List.mem_of_getElem? (i := 33) (by decide +kernel), List.mem_of_getElem? (i := 415) (by decide +kernel), List.mem_of_getElem? (i := 416) (by decide +kernel)⟩
theorem lw_p9 : lw_okq (⟨"BigRunner$Reader", "readExpr", "(I)I"⟩, 4) := ⟨⟨by decide +kernel, by decide +kernel⟩, List.mem_of_getElem? (i := 33) (by decide +kernel), List.mem_of_getElem? (i := 419) (by decide +kernel), List.mem_of_getElem? (i := 420) (by decide +kernel)⟩
theorem lw_p10 : lw_okq (⟨"BigRunner$Reader", "readTerm", "(I)I"⟩, 4) := ⟨⟨by decide +kernel, by decide +kernel⟩, List.mem_of_getElem? (i := 33) (by decide +kernel), List.mem_of_getElem? (i := 423) (by decide +kernel), List.mem_of_getElem? (i := 424) (by decide +kernel)⟩
theorem lw_p11 : lw_okq (⟨"BigRunner$Reader", "readFactor", "(I)I"⟩, 4) := ⟨⟨by decide +kernel, by decide +kernel⟩, List.mem_of_getElem? (i := 33) (by decide +kernel), List.mem_of_getElem? (i := 427) (by decide +kernel), List.mem_of_getElem? (i := 428) (by decide +kernel)⟩
theorem lw_p12 : lw_okq (⟨"BigRunner$Reader", "addOperation", "(III)I"⟩, 4) := ⟨⟨by decide +kernel, by decide +kernel⟩, List.mem_of_getElem? (i := 33) (by decide +kernel), List.mem_of_getElem? (i := 431) (by decide +kernel), List.mem_of_getElem? (i := 432) (by decide +kernel)⟩
theorem lw_p13 : lw_okq (⟨"BigRunner$Reader", "readNumber", "()I"⟩, 4) := ⟨⟨by decide +kernel, by decide +kernel⟩, List.mem_of_getElem? (i := 33) (by decide +kernel), List.mem_of_getElem? (i := 435) (by decide +kernel), List.mem_of_getElem? (i := 436) (by decide +kernel)⟩
theorem lw_p14 : lw_okq (⟨"BigRunner$Reader", "readLoop", "(I)Z"⟩, 4) := ⟨⟨by decide +kernel, by decide +kernel⟩, List.mem_of_getElem? (i := 33) (by decide +kernel), List.mem_of_getElem? (i := 439) (by decide +kernel), List.mem_of_getElem? (i := 440) (by decide +kernel)⟩
theorem lw_p15 : lw_okq (⟨"BigRunner$Reader", "aim", "(II)Z"⟩, 4) := ⟨⟨by decide +kernel, by decide +kernel⟩, List.mem_of_getElem? (i := 33) (by decide +kernel), List.mem_of_getElem? (i := 443) (by decide +kernel), List.mem_of_getElem? (i := 444) (by decide +kernel)⟩
def lw_privs_1 : List (MethodName × Nat) := [(⟨"BigRunner", "state", "()I"⟩, 5), (⟨"BigRunner", "hasVariable", "(I)Z"⟩, 5), (⟨"BigRunner$Reader", "readProgram", "(I)Z"⟩, 4), (⟨"BigRunner$Reader", "readStatement", "(I)Z"⟩, 4), (⟨"BigRunner$Reader", "accept", "(C)Z"⟩, 4), (⟨"BigRunner$Reader", "next", "()C"⟩, 4), (⟨"BigRunner$Reader", "addStatement", "(I)I"⟩, 4), (⟨"BigRunner$Reader", "readName", "(I)Z"⟩, 4), (⟨"BigRunner$Reader", "readExprOf", "(II)Z"⟩, 4), (⟨"BigRunner$Reader", "readExpr", "(I)I"⟩, 4), (⟨"BigRunner$Reader", "readTerm", "(I)I"⟩, 4), (⟨"BigRunner$Reader", "readFactor", "(I)I"⟩, 4), (⟨"BigRunner$Reader", "addOperation", "(III)I"⟩, 4), (⟨"BigRunner$Reader", "readNumber", "()I"⟩, 4), (⟨"BigRunner$Reader", "readLoop", "(I)Z"⟩, 4), (⟨"BigRunner$Reader", "aim", "(II)Z"⟩, 4)]
theorem lw_r1 : ∀ q ∈ lw_privs_1, lw_okq q := List.forall_mem_cons.mpr ⟨lw_p0, List.forall_mem_cons.mpr ⟨lw_p1, List.forall_mem_cons.mpr ⟨lw_p2, List.forall_mem_cons.mpr ⟨lw_p3, List.forall_mem_cons.mpr ⟨lw_p4, List.forall_mem_cons.mpr ⟨lw_p5, List.forall_mem_cons.mpr ⟨lw_p6, List.forall_mem_cons.mpr ⟨lw_p7, List.forall_mem_cons.mpr ⟨lw_p8, List.forall_mem_cons.mpr ⟨lw_p9, List.forall_mem_cons.mpr ⟨lw_p10, List.forall_mem_cons.mpr ⟨lw_p11, List.forall_mem_cons.mpr ⟨lw_p12, List.forall_mem_cons.mpr ⟨lw_p13, List.forall_mem_cons.mpr ⟨lw_p14, List.forall_mem_cons.mpr ⟨lw_p15, fun _ h => absurd h List.not_mem_nil⟩⟩⟩⟩⟩⟩⟩⟩⟩⟩⟩⟩⟩⟩⟩⟩
theorem lw_p16 : lw_okq (⟨"BigRunner$Reader", "readChoice", "(I)Z"⟩, 4) := ⟨⟨by decide +kernel, by decide +kernel⟩, List.mem_of_getElem? (i := 33) (by decide +kernel), List.mem_of_getElem? (i := 447) (by decide +kernel), List.mem_of_getElem? (i := 448) (by decide +kernel)⟩
theorem lw_p17 : lw_okq (⟨"java/lang/Throwable", "fillInStackTrace", "(I)Ljava/lang/Throwable;"⟩, 6) := ⟨⟨by decide +kernel, by decide +kernel⟩, List.mem_of_getElem? (i := 491) (by decide +kernel), List.mem_of_getElem? (i := 489) (by decide +kernel), List.mem_of_getElem? (i := 490) (by decide +kernel)⟩
theorem lw_p18 : lw_okq (⟨"BigRunner$Program", "makeRound", "(Z)Z"⟩, 6) := ⟨⟨by decide +kernel, by decide +kernel⟩, List.mem_of_getElem? (i := 39) (by decide +kernel), List.mem_of_getElem? (i := 531) (by decide +kernel), List.mem_of_getElem? (i := 532) (by decide +kernel)⟩
theorem lw_p19 : lw_okq (⟨"BigRunner$Program", "intervalOfExpr", "(LBigRunner$Statement;)LBigRunner$Interval;"⟩, 6) := ⟨⟨by decide +kernel, by decide +kernel⟩, List.mem_of_getElem? (i := 39) (by decide +kernel), List.mem_of_getElem? (i := 539) (by decide +kernel), List.mem_of_getElem? (i := 540) (by decide +kernel)⟩
theorem lw_p20 : lw_okq (⟨"BigRunner$Program", "findInterval", "(LBigRunner$Node;)V"⟩, 6) := ⟨⟨by decide +kernel, by decide +kernel⟩, List.mem_of_getElem? (i := 39) (by decide +kernel), List.mem_of_getElem? (i := 543) (by decide +kernel), List.mem_of_getElem? (i := 544) (by decide +kernel)⟩
theorem lw_p21 : lw_okq (⟨"BigRunner$Interval", "isZero", "()Z"⟩, 2) := ⟨⟨by decide +kernel, by decide +kernel⟩, List.mem_of_getElem? (i := 50) (by decide +kernel), List.mem_of_getElem? (i := 568) (by decide +kernel), List.mem_of_getElem? (i := 569) (by decide +kernel)⟩
theorem lw_p22 : lw_okq (⟨"BigRunner$Interval", "farthest", "()J"⟩, 2) := ⟨⟨by decide +kernel, by decide +kernel⟩, List.mem_of_getElem? (i := 50) (by decide +kernel), List.mem_of_getElem? (i := 590) (by decide +kernel), List.mem_of_getElem? (i := 591) (by decide +kernel)⟩
theorem lw_p23 : lw_okq (⟨"BigRunner$Program", "judge", "(LBigRunner$Node;)V"⟩, 6) := ⟨⟨by decide +kernel, by decide +kernel⟩, List.mem_of_getElem? (i := 39) (by decide +kernel), List.mem_of_getElem? (i := 598) (by decide +kernel), List.mem_of_getElem? (i := 599) (by decide +kernel)⟩
theorem lw_p24 : lw_okq (⟨"BigRunner$Runner", "store", "(IJ)V"⟩, 13) := ⟨⟨by decide +kernel, by decide +kernel⟩, List.mem_of_getElem? (i := 214) (by decide +kernel), List.mem_of_getElem? (i := 656) (by decide +kernel), List.mem_of_getElem? (i := 657) (by decide +kernel)⟩
theorem lw_p25 : lw_okq (⟨"BigRunner$Runner", "proceed", "(I)V"⟩, 13) := ⟨⟨by decide +kernel, by decide +kernel⟩, List.mem_of_getElem? (i := 214) (by decide +kernel), List.mem_of_getElem? (i := 661) (by decide +kernel), List.mem_of_getElem? (i := 662) (by decide +kernel)⟩
theorem lw_p26 : lw_okq (⟨"BigRunner$Runner", "workOut", "(LBigRunner$Statement;)I"⟩, 13) := ⟨⟨by decide +kernel, by decide +kernel⟩, List.mem_of_getElem? (i := 214) (by decide +kernel), List.mem_of_getElem? (i := 665) (by decide +kernel), List.mem_of_getElem? (i := 666) (by decide +kernel)⟩
theorem lw_p27 : lw_okq (⟨"BigRunner$Runner", "fetch", "(LBigRunner$Node;)V"⟩, 13) := ⟨⟨by decide +kernel, by decide +kernel⟩, List.mem_of_getElem? (i := 214) (by decide +kernel), List.mem_of_getElem? (i := 669) (by decide +kernel), List.mem_of_getElem? (i := 670) (by decide +kernel)⟩
theorem lw_p28 : lw_okq (⟨"BigRunner$Runner", "operate", "(LBigRunner$Node;)I"⟩, 13) := ⟨⟨by decide +kernel, by decide +kernel⟩, List.mem_of_getElem? (i := 214) (by decide +kernel), List.mem_of_getElem? (i := 680) (by decide +kernel), List.mem_of_getElem? (i := 681) (by decide +kernel)⟩
theorem lw_p29 : lw_okq (⟨"BigRunner$Runner", "operateLong", "(LBigRunner$Node;)I"⟩, 13) := ⟨⟨by decide +kernel, by decide +kernel⟩, List.mem_of_getElem? (i := 214) (by decide +kernel), List.mem_of_getElem? (i := 684) (by decide +kernel), List.mem_of_getElem? (i := 685) (by decide +kernel)⟩
theorem lw_p30 : lw_okq (⟨"BigRunner$LongNumber", "addLimbs", "(LBigRunner$LongNumber;LBigRunner$LongNumber;I)V"⟩, 3) := ⟨⟨by decide +kernel, by decide +kernel⟩, List.mem_of_getElem? (i := 110) (by decide +kernel), List.mem_of_getElem? (i := 698) (by decide +kernel), List.mem_of_getElem? (i := 699) (by decide +kernel)⟩
theorem lw_p31 : lw_okq (⟨"BigRunner$LongNumber", "limb", "(I)I"⟩, 3) := ⟨⟨by decide +kernel, by decide +kernel⟩, List.mem_of_getElem? (i := 110) (by decide +kernel), List.mem_of_getElem? (i := 706) (by decide +kernel), List.mem_of_getElem? (i := 707) (by decide +kernel)⟩
def lw_privs_2 : List (MethodName × Nat) := [(⟨"BigRunner$Reader", "readChoice", "(I)Z"⟩, 4), (⟨"java/lang/Throwable", "fillInStackTrace", "(I)Ljava/lang/Throwable;"⟩, 6), (⟨"BigRunner$Program", "makeRound", "(Z)Z"⟩, 6), (⟨"BigRunner$Program", "intervalOfExpr", "(LBigRunner$Statement;)LBigRunner$Interval;"⟩, 6), (⟨"BigRunner$Program", "findInterval", "(LBigRunner$Node;)V"⟩, 6), (⟨"BigRunner$Interval", "isZero", "()Z"⟩, 2), (⟨"BigRunner$Interval", "farthest", "()J"⟩, 2), (⟨"BigRunner$Program", "judge", "(LBigRunner$Node;)V"⟩, 6), (⟨"BigRunner$Runner", "store", "(IJ)V"⟩, 13), (⟨"BigRunner$Runner", "proceed", "(I)V"⟩, 13), (⟨"BigRunner$Runner", "workOut", "(LBigRunner$Statement;)I"⟩, 13), (⟨"BigRunner$Runner", "fetch", "(LBigRunner$Node;)V"⟩, 13), (⟨"BigRunner$Runner", "operate", "(LBigRunner$Node;)I"⟩, 13), (⟨"BigRunner$Runner", "operateLong", "(LBigRunner$Node;)I"⟩, 13), (⟨"BigRunner$LongNumber", "addLimbs", "(LBigRunner$LongNumber;LBigRunner$LongNumber;I)V"⟩, 3), (⟨"BigRunner$LongNumber", "limb", "(I)I"⟩, 3)]
theorem lw_r2 : ∀ q ∈ lw_privs_2, lw_okq q := List.forall_mem_cons.mpr ⟨lw_p16, List.forall_mem_cons.mpr ⟨lw_p17, List.forall_mem_cons.mpr ⟨lw_p18, List.forall_mem_cons.mpr ⟨lw_p19, List.forall_mem_cons.mpr ⟨lw_p20, List.forall_mem_cons.mpr ⟨lw_p21, List.forall_mem_cons.mpr ⟨lw_p22, List.forall_mem_cons.mpr ⟨lw_p23, List.forall_mem_cons.mpr ⟨lw_p24, List.forall_mem_cons.mpr ⟨lw_p25, List.forall_mem_cons.mpr ⟨lw_p26, List.forall_mem_cons.mpr ⟨lw_p27, List.forall_mem_cons.mpr ⟨lw_p28, List.forall_mem_cons.mpr ⟨lw_p29, List.forall_mem_cons.mpr ⟨lw_p30, List.forall_mem_cons.mpr ⟨lw_p31, fun _ h => absurd h List.not_mem_nil⟩⟩⟩⟩⟩⟩⟩⟩⟩⟩⟩⟩⟩⟩⟩⟩
theorem lw_p32 : lw_okq (⟨"BigRunner$LongNumber", "subtractLimbs", "(LBigRunner$LongNumber;LBigRunner$LongNumber;I)V"⟩, 3) := ⟨⟨by decide +kernel, by decide +kernel⟩, List.mem_of_getElem? (i := 110) (by decide +kernel), List.mem_of_getElem? (i := 718) (by decide +kernel), List.mem_of_getElem? (i := 719) (by decide +kernel)⟩
theorem lw_p33 : lw_okq (⟨"BigRunner$LongNumber", "fits", "()Z"⟩, 3) := ⟨⟨by decide +kernel, by decide +kernel⟩, List.mem_of_getElem? (i := 110) (by decide +kernel), List.mem_of_getElem? (i := 722) (by decide +kernel), List.mem_of_getElem? (i := 723) (by decide +kernel)⟩
theorem lw_p34 : lw_okq (⟨"BigRunner$LongDivision", "guess", "(I)J"⟩, 3) := ⟨⟨by decide +kernel, by decide +kernel⟩, List.mem_of_getElem? (i := 243) (by decide +kernel), List.mem_of_getElem? (i := 744) (by decide +kernel), List.mem_of_getElem? (i := 745) (by decide +kernel)⟩
theorem lw_p35 : lw_okq (⟨"BigRunner$LongDivision", "takeAway", "(JI)I"⟩, 3) := ⟨⟨by decide +kernel, by decide +kernel⟩, List.mem_of_getElem? (i := 243) (by decide +kernel), List.mem_of_getElem? (i := 748) (by decide +kernel), List.mem_of_getElem? (i := 749) (by decide +kernel)⟩
theorem lw_p36 : lw_okq (⟨"BigRunner$LongDivision", "putBack", "(I)V"⟩, 3) := ⟨⟨by decide +kernel, by decide +kernel⟩, List.mem_of_getElem? (i := 243) (by decide +kernel), List.mem_of_getElem? (i := 752) (by decide +kernel), List.mem_of_getElem? (i := 753) (by decide +kernel)⟩
theorem lw_p37 : lw_okq (⟨"BigRunner$LongDivision", "reduce", "(ILBigRunner$LongNumber;)V"⟩, 3) := ⟨⟨by decide +kernel, by decide +kernel⟩, List.mem_of_getElem? (i := 243) (by decide +kernel), List.mem_of_getElem? (i := 756) (by decide +kernel), List.mem_of_getElem? (i := 757) (by decide +kernel)⟩
theorem lw_p38 : lw_okq (⟨"BigRunner$Runner", "assign", "(ILBigRunner$Node;)V"⟩, 13) := ⟨⟨by decide +kernel, by decide +kernel⟩, List.mem_of_getElem? (i := 214) (by decide +kernel), List.mem_of_getElem? (i := 761) (by decide +kernel), List.mem_of_getElem? (i := 762) (by decide +kernel)⟩
theorem lw_p39 : lw_okq (⟨"BigRunner$Runner", "keep", "(LBigRunner$Node;)V"⟩, 13) := ⟨⟨by decide +kernel, by decide +kernel⟩, List.mem_of_getElem? (i := 214) (by decide +kernel), List.mem_of_getElem? (i := 769) (by decide +kernel), List.mem_of_getElem? (i := 770) (by decide +kernel)⟩
theorem lw_p40 : lw_okq (⟨"BigRunner$LongNumber", "digits", "()I"⟩, 3) := ⟨⟨by decide +kernel, by decide +kernel⟩, List.mem_of_getElem? (i := 110) (by decide +kernel), List.mem_of_getElem? (i := 852) (by decide +kernel), List.mem_of_getElem? (i := 853) (by decide +kernel)⟩
theorem lw_p41 : lw_okq (⟨"BigRunnerModel", "reads", "()Z"⟩, 45) := ⟨⟨by decide +kernel, by decide +kernel⟩, List.mem_of_getElem? (i := 871) (by decide +kernel), List.mem_of_getElem? (i := 1030) (by decide +kernel), List.mem_of_getElem? (i := 1031) (by decide +kernel)⟩
theorem lw_p42 : lw_okq (⟨"BigRunnerModel", "statement", "()Z"⟩, 45) := ⟨⟨by decide +kernel, by decide +kernel⟩, List.mem_of_getElem? (i := 871) (by decide +kernel), List.mem_of_getElem? (i := 1034) (by decide +kernel), List.mem_of_getElem? (i := 1035) (by decide +kernel)⟩
theorem lw_p43 : lw_okq (⟨"BigRunnerModel", "here", "()C"⟩, 45) := ⟨⟨by decide +kernel, by decide +kernel⟩, List.mem_of_getElem? (i := 871) (by decide +kernel), List.mem_of_getElem? (i := 1038) (by decide +kernel), List.mem_of_getElem? (i := 1039) (by decide +kernel)⟩
theorem lw_p44 : lw_okq (⟨"BigRunnerModel", "put", "(II)V"⟩, 45) := ⟨⟨by decide +kernel, by decide +kernel⟩, List.mem_of_getElem? (i := 871) (by decide +kernel), List.mem_of_getElem? (i := 1042) (by decide +kernel), List.mem_of_getElem? (i := 1043) (by decide +kernel)⟩
theorem lw_p45 : lw_okq (⟨"BigRunnerModel", "expr", "()Z"⟩, 45) := ⟨⟨by decide +kernel, by decide +kernel⟩, List.mem_of_getElem? (i := 871) (by decide +kernel), List.mem_of_getElem? (i := 1049) (by decide +kernel), List.mem_of_getElem? (i := 1050) (by decide +kernel)⟩
theorem lw_p46 : lw_okq (⟨"BigRunnerModel", "negate", "()V"⟩, 45) := ⟨⟨by decide +kernel, by decide +kernel⟩, List.mem_of_getElem? (i := 871) (by decide +kernel), List.mem_of_getElem? (i := 1053) (by decide +kernel), List.mem_of_getElem? (i := 1054) (by decide +kernel)⟩
theorem lw_p47 : lw_okq (⟨"BigRunnerModel", "number", "()Z"⟩, 45) := ⟨⟨by decide +kernel, by decide +kernel⟩, List.mem_of_getElem? (i := 871) (by decide +kernel), List.mem_of_getElem? (i := 1060) (by decide +kernel), List.mem_of_getElem? (i := 1061) (by decide +kernel)⟩
def lw_privs_3 : List (MethodName × Nat) := [(⟨"BigRunner$LongNumber", "subtractLimbs", "(LBigRunner$LongNumber;LBigRunner$LongNumber;I)V"⟩, 3), (⟨"BigRunner$LongNumber", "fits", "()Z"⟩, 3), (⟨"BigRunner$LongDivision", "guess", "(I)J"⟩, 3), (⟨"BigRunner$LongDivision", "takeAway", "(JI)I"⟩, 3), (⟨"BigRunner$LongDivision", "putBack", "(I)V"⟩, 3), (⟨"BigRunner$LongDivision", "reduce", "(ILBigRunner$LongNumber;)V"⟩, 3), (⟨"BigRunner$Runner", "assign", "(ILBigRunner$Node;)V"⟩, 13), (⟨"BigRunner$Runner", "keep", "(LBigRunner$Node;)V"⟩, 13), (⟨"BigRunner$LongNumber", "digits", "()I"⟩, 3), (⟨"BigRunnerModel", "reads", "()Z"⟩, 45), (⟨"BigRunnerModel", "statement", "()Z"⟩, 45), (⟨"BigRunnerModel", "here", "()C"⟩, 45), (⟨"BigRunnerModel", "put", "(II)V"⟩, 45), (⟨"BigRunnerModel", "expr", "()Z"⟩, 45), (⟨"BigRunnerModel", "negate", "()V"⟩, 45), (⟨"BigRunnerModel", "number", "()Z"⟩, 45)]
theorem lw_r3 : ∀ q ∈ lw_privs_3, lw_okq q := List.forall_mem_cons.mpr ⟨lw_p32, List.forall_mem_cons.mpr ⟨lw_p33, List.forall_mem_cons.mpr ⟨lw_p34, List.forall_mem_cons.mpr ⟨lw_p35, List.forall_mem_cons.mpr ⟨lw_p36, List.forall_mem_cons.mpr ⟨lw_p37, List.forall_mem_cons.mpr ⟨lw_p38, List.forall_mem_cons.mpr ⟨lw_p39, List.forall_mem_cons.mpr ⟨lw_p40, List.forall_mem_cons.mpr ⟨lw_p41, List.forall_mem_cons.mpr ⟨lw_p42, List.forall_mem_cons.mpr ⟨lw_p43, List.forall_mem_cons.mpr ⟨lw_p44, List.forall_mem_cons.mpr ⟨lw_p45, List.forall_mem_cons.mpr ⟨lw_p46, List.forall_mem_cons.mpr ⟨lw_p47, fun _ h => absurd h List.not_mem_nil⟩⟩⟩⟩⟩⟩⟩⟩⟩⟩⟩⟩⟩⟩⟩⟩
theorem lw_p48 : lw_okq (⟨"BigRunnerModel", "release", "(I)V"⟩, 45) := ⟨⟨by decide +kernel, by decide +kernel⟩, List.mem_of_getElem? (i := 871) (by decide +kernel), List.mem_of_getElem? (i := 1067) (by decide +kernel), List.mem_of_getElem? (i := 1068) (by decide +kernel)⟩
theorem lw_p49 : lw_okq (⟨"BigRunnerModel", "closes", "(C)Z"⟩, 45) := ⟨⟨by decide +kernel, by decide +kernel⟩, List.mem_of_getElem? (i := 871) (by decide +kernel), List.mem_of_getElem? (i := 1071) (by decide +kernel), List.mem_of_getElem? (i := 1072) (by decide +kernel)⟩
theorem lw_p50 : lw_okq (⟨"BigRunnerModel", "settle", "()I"⟩, 45) := ⟨⟨by decide +kernel, by decide +kernel⟩, List.mem_of_getElem? (i := 871) (by decide +kernel), List.mem_of_getElem? (i := 1075) (by decide +kernel), List.mem_of_getElem? (i := 1076) (by decide +kernel)⟩
theorem lw_p51 : lw_okq (⟨"BigRunnerModel", "round", "(I)Z"⟩, 45) := ⟨⟨by decide +kernel, by decide +kernel⟩, List.mem_of_getElem? (i := 871) (by decide +kernel), List.mem_of_getElem? (i := 1079) (by decide +kernel), List.mem_of_getElem? (i := 1080) (by decide +kernel)⟩
theorem lw_p52 : lw_okq (⟨"BigRunnerModel", "spanOf", "(I)V"⟩, 45) := ⟨⟨by decide +kernel, by decide +kernel⟩, List.mem_of_getElem? (i := 871) (by decide +kernel), List.mem_of_getElem? (i := 1083) (by decide +kernel), List.mem_of_getElem? (i := 1084) (by decide +kernel)⟩
theorem lw_p53 : lw_okq (⟨"BigRunnerModel", "interval", "(IJJZZ)V"⟩, 45) := ⟨⟨by decide +kernel, by decide +kernel⟩, List.mem_of_getElem? (i := 871) (by decide +kernel), List.mem_of_getElem? (i := 1087) (by decide +kernel), List.mem_of_getElem? (i := 1088) (by decide +kernel)⟩
theorem lw_p54 : lw_okq (⟨"BigRunnerModel", "spanProduct", "(I)V"⟩, 45) := ⟨⟨by decide +kernel, by decide +kernel⟩, List.mem_of_getElem? (i := 871) (by decide +kernel), List.mem_of_getElem? (i := 1093) (by decide +kernel), List.mem_of_getElem? (i := 1094) (by decide +kernel)⟩
theorem lw_p55 : lw_okq (⟨"BigRunnerModel", "spanQuotient", "(IZ)V"⟩, 45) := ⟨⟨by decide +kernel, by decide +kernel⟩, List.mem_of_getElem? (i := 871) (by decide +kernel), List.mem_of_getElem? (i := 1110) (by decide +kernel), List.mem_of_getElem? (i := 1111) (by decide +kernel)⟩
theorem lw_p56 : lw_okq (⟨"BigRunnerModel", "joined", "(IZ)Z"⟩, 45) := ⟨⟨by decide +kernel, by decide +kernel⟩, List.mem_of_getElem? (i := 871) (by decide +kernel), List.mem_of_getElem? (i := 1116) (by decide +kernel), List.mem_of_getElem? (i := 1117) (by decide +kernel)⟩
theorem lw_p57 : lw_okq (⟨"BigRunnerModel", "step", "()V"⟩, 45) := ⟨⟨by decide +kernel, by decide +kernel⟩, List.mem_of_getElem? (i := 871) (by decide +kernel), List.mem_of_getElem? (i := 1130) (by decide +kernel), List.mem_of_getElem? (i := 1131) (by decide +kernel)⟩
theorem lw_p58 : lw_okq (⟨"BigRunnerModel", "takeInput", "(I)V"⟩, 45) := ⟨⟨by decide +kernel, by decide +kernel⟩, List.mem_of_getElem? (i := 871) (by decide +kernel), List.mem_of_getElem? (i := 1134) (by decide +kernel), List.mem_of_getElem? (i := 1135) (by decide +kernel)⟩
theorem lw_p59 : lw_okq (⟨"BigRunnerModel", "setNumber", "(II)V"⟩, 45) := ⟨⟨by decide +kernel, by decide +kernel⟩, List.mem_of_getElem? (i := 871) (by decide +kernel), List.mem_of_getElem? (i := 1138) (by decide +kernel), List.mem_of_getElem? (i := 1139) (by decide +kernel)⟩
theorem lw_p60 : lw_okq (⟨"BigRunnerModel", "assign", "(I)V"⟩, 45) := ⟨⟨by decide +kernel, by decide +kernel⟩, List.mem_of_getElem? (i := 871) (by decide +kernel), List.mem_of_getElem? (i := 1143) (by decide +kernel), List.mem_of_getElem? (i := 1144) (by decide +kernel)⟩
theorem lw_p61 : lw_okq (⟨"BigRunnerModel", "work", "(I)V"⟩, 45) := ⟨⟨by decide +kernel, by decide +kernel⟩, List.mem_of_getElem? (i := 871) (by decide +kernel), List.mem_of_getElem? (i := 1147) (by decide +kernel), List.mem_of_getElem? (i := 1148) (by decide +kernel)⟩
theorem lw_p62 : lw_okq (⟨"BigRunnerModel", "clear", "()V"⟩, 45) := ⟨⟨by decide +kernel, by decide +kernel⟩, List.mem_of_getElem? (i := 871) (by decide +kernel), List.mem_of_getElem? (i := 1151) (by decide +kernel), List.mem_of_getElem? (i := 1152) (by decide +kernel)⟩
theorem lw_p63 : lw_okq (⟨"BigRunnerModel", "product", "(II)I"⟩, 45) := ⟨⟨by decide +kernel, by decide +kernel⟩, List.mem_of_getElem? (i := 871) (by decide +kernel), List.mem_of_getElem? (i := 1155) (by decide +kernel), List.mem_of_getElem? (i := 1156) (by decide +kernel)⟩
def lw_privs_4 : List (MethodName × Nat) := [(⟨"BigRunnerModel", "release", "(I)V"⟩, 45), (⟨"BigRunnerModel", "closes", "(C)Z"⟩, 45), (⟨"BigRunnerModel", "settle", "()I"⟩, 45), (⟨"BigRunnerModel", "round", "(I)Z"⟩, 45), (⟨"BigRunnerModel", "spanOf", "(I)V"⟩, 45), (⟨"BigRunnerModel", "interval", "(IJJZZ)V"⟩, 45), (⟨"BigRunnerModel", "spanProduct", "(I)V"⟩, 45), (⟨"BigRunnerModel", "spanQuotient", "(IZ)V"⟩, 45), (⟨"BigRunnerModel", "joined", "(IZ)Z"⟩, 45), (⟨"BigRunnerModel", "step", "()V"⟩, 45), (⟨"BigRunnerModel", "takeInput", "(I)V"⟩, 45), (⟨"BigRunnerModel", "setNumber", "(II)V"⟩, 45), (⟨"BigRunnerModel", "assign", "(I)V"⟩, 45), (⟨"BigRunnerModel", "work", "(I)V"⟩, 45), (⟨"BigRunnerModel", "clear", "()V"⟩, 45), (⟨"BigRunnerModel", "product", "(II)I"⟩, 45)]
theorem lw_r4 : ∀ q ∈ lw_privs_4, lw_okq q := List.forall_mem_cons.mpr ⟨lw_p48, List.forall_mem_cons.mpr ⟨lw_p49, List.forall_mem_cons.mpr ⟨lw_p50, List.forall_mem_cons.mpr ⟨lw_p51, List.forall_mem_cons.mpr ⟨lw_p52, List.forall_mem_cons.mpr ⟨lw_p53, List.forall_mem_cons.mpr ⟨lw_p54, List.forall_mem_cons.mpr ⟨lw_p55, List.forall_mem_cons.mpr ⟨lw_p56, List.forall_mem_cons.mpr ⟨lw_p57, List.forall_mem_cons.mpr ⟨lw_p58, List.forall_mem_cons.mpr ⟨lw_p59, List.forall_mem_cons.mpr ⟨lw_p60, List.forall_mem_cons.mpr ⟨lw_p61, List.forall_mem_cons.mpr ⟨lw_p62, List.forall_mem_cons.mpr ⟨lw_p63, fun _ h => absurd h List.not_mem_nil⟩⟩⟩⟩⟩⟩⟩⟩⟩⟩⟩⟩⟩⟩⟩⟩
theorem lw_p64 : lw_okq (⟨"BigRunnerModel", "limb", "(II)I"⟩, 45) := ⟨⟨by decide +kernel, by decide +kernel⟩, List.mem_of_getElem? (i := 871) (by decide +kernel), List.mem_of_getElem? (i := 1159) (by decide +kernel), List.mem_of_getElem? (i := 1160) (by decide +kernel)⟩
theorem lw_p65 : lw_okq (⟨"BigRunnerModel", "sum", "(III)I"⟩, 45) := ⟨⟨by decide +kernel, by decide +kernel⟩, List.mem_of_getElem? (i := 871) (by decide +kernel), List.mem_of_getElem? (i := 1164) (by decide +kernel), List.mem_of_getElem? (i := 1165) (by decide +kernel)⟩
theorem lw_p66 : lw_okq (⟨"BigRunnerModel", "addUp", "(III)V"⟩, 45) := ⟨⟨by decide +kernel, by decide +kernel⟩, List.mem_of_getElem? (i := 871) (by decide +kernel), List.mem_of_getElem? (i := 1168) (by decide +kernel), List.mem_of_getElem? (i := 1169) (by decide +kernel)⟩
theorem lw_p67 : lw_okq (⟨"BigRunnerModel", "order", "(II)I"⟩, 45) := ⟨⟨by decide +kernel, by decide +kernel⟩, List.mem_of_getElem? (i := 871) (by decide +kernel), List.mem_of_getElem? (i := 1172) (by decide +kernel), List.mem_of_getElem? (i := 1173) (by decide +kernel)⟩
theorem lw_p68 : lw_okq (⟨"BigRunnerModel", "divide", "(II)V"⟩, 45) := ⟨⟨by decide +kernel, by decide +kernel⟩, List.mem_of_getElem? (i := 871) (by decide +kernel), List.mem_of_getElem? (i := 1176) (by decide +kernel), List.mem_of_getElem? (i := 1177) (by decide +kernel)⟩
theorem lw_p69 : lw_okq (⟨"BigRunnerModel", "holds", "(IIZ)Z"⟩, 45) := ⟨⟨by decide +kernel, by decide +kernel⟩, List.mem_of_getElem? (i := 871) (by decide +kernel), List.mem_of_getElem? (i := 1181) (by decide +kernel), List.mem_of_getElem? (i := 1182) (by decide +kernel)⟩
theorem lw_p70 : lw_okq (⟨"BigRunnerModel", "keep", "(II)V"⟩, 45) := ⟨⟨by decide +kernel, by decide +kernel⟩, List.mem_of_getElem? (i := 871) (by decide +kernel), List.mem_of_getElem? (i := 1188) (by decide +kernel), List.mem_of_getElem? (i := 1189) (by decide +kernel)⟩
def lw_privs_5 : List (MethodName × Nat) := [(⟨"BigRunnerModel", "limb", "(II)I"⟩, 45), (⟨"BigRunnerModel", "sum", "(III)I"⟩, 45), (⟨"BigRunnerModel", "addUp", "(III)V"⟩, 45), (⟨"BigRunnerModel", "order", "(II)I"⟩, 45), (⟨"BigRunnerModel", "divide", "(II)V"⟩, 45), (⟨"BigRunnerModel", "holds", "(IIZ)Z"⟩, 45), (⟨"BigRunnerModel", "keep", "(II)V"⟩, 45)]
theorem lw_r5 : ∀ q ∈ lw_privs_5, lw_okq q := List.forall_mem_cons.mpr ⟨lw_p64, List.forall_mem_cons.mpr ⟨lw_p65, List.forall_mem_cons.mpr ⟨lw_p66, List.forall_mem_cons.mpr ⟨lw_p67, List.forall_mem_cons.mpr ⟨lw_p68, List.forall_mem_cons.mpr ⟨lw_p69, List.forall_mem_cons.mpr ⟨lw_p70, fun _ h => absurd h List.not_mem_nil⟩⟩⟩⟩⟩⟩⟩
def lw_privs : List (MethodName × Nat) := lw_privs_1 ++ (lw_privs_2 ++ (lw_privs_3 ++ (lw_privs_4 ++ (lw_privs_5))))
def lw_tbl : List Cond := k2_sels lw_privs ++ tables_1
theorem lw_privs_ok : ∀ q ∈ lw_privs, lw_okq q := by
  show ∀ q ∈ lw_privs_1 ++ (lw_privs_2 ++ (lw_privs_3 ++ (lw_privs_4 ++ (lw_privs_5)))), lw_okq q
  exact List.forall_mem_append.mpr ⟨lw_r1, List.forall_mem_append.mpr ⟨lw_r2, List.forall_mem_append.mpr ⟨lw_r3, List.forall_mem_append.mpr ⟨lw_r4, lw_r5⟩⟩⟩⟩
end
section
/-! ===== the tables' words, carried along as a fact of the state ===== -/
/-- a word that stays true when the tables grow warmer, whatever the arguments -/
def tb_rides : Cond → Bool
  | .fieldLinkNest .. => true
  | .methodLinkNest .. => true
  | .castable .. => true
  | .declares _ => true
  | .arrayClass _ => true
  | .arrayOver (.object _) => true
  | w => w.onTables && w.keeps
theorem tb_ride {w : Cond} (hw : tb_rides w = true) {s U : State} (hW : s.WarmedH U.vm) (args : Array Value) (h : w.before #[] s = true) : w.before args U = true := by
  cases w with
  | fieldLinkNest a i b n d q => exact va_Nw.use rfl (va_Nw.warmF hW h)
  | methodLinkNest a i x q => exact va_Nw.use rfl (va_Nw.warmM hW h)
  | castable a b => exact va_Nw.use rfl (va_Nw.warmC hW h)
  | declares x => exact va_Nw.use rfl (va_Nw.warmD hW h)
  | arrayClass ty => exact word_at hW (Or.inr ⟨ty, rfl⟩) h
  | arrayOver ty =>
    cases ty with
    | object n => exact va_AO.use (va_AO.moved hW.alike h)
    | _ => exact word_at hW (Or.inl hw) h
  | _ => exact word_at hW (Or.inl hw) h
def TB (U : State) : Prop := ∀ w ∈ lw_tbl, tb_rides w = true → w.before #[] U = true
theorem TB.moved {s U : State} (hW : s.WarmedH U.vm) (h : TB s) : TB U := fun w hw hr => tb_ride hr hW #[] (h w hw hr)
theorem TB.same {s U : State} (hv : U.vm = s.vm) (h : TB s) : TB U := TB.moved (by rw [hv]; exact State.WarmedH.refl s) h
theorem TB.w {U : State} (h : TB U) {w : Cond} (i : Nat) (hi : lw_tbl[i]? = some w) (hr : tb_rides w = true) (args : Array Value) : w.before args U = true := tb_ride hr (State.WarmedH.refl U) args (h w (List.mem_of_getElem? hi) hr)
theorem TB.all {U : State} (h : TB U) (ws : List Cond) (is : List Nat) (hp : ws = is.filterMap (fun i => lw_tbl[i]?)) (hr : ws.all tb_rides = true) (args : Array Value) : ∀ w ∈ ws, w.before args U = true := by
  intro w hw
  have h1 := List.all_eq_true.mp hr w hw
  rw [hp] at hw
  obtain ⟨i, -, hi⟩ := List.mem_filterMap.mp hw
  exact h.w i hi h1 args
theorem tb_nil {args : Array Value} {s : State} : ∀ w ∈ ([] : List Cond), w.before args s = true := fun _ h => by cases h
theorem tb_one {w : Cond} {args : Array Value} {s : State} (h : w.before args s = true) : ∀ v ∈ [w], v.before args s = true := fun v hv => by rw [List.mem_singleton.mp hv]; exact h
theorem tb_good1 {y : MethodName} {b : ByteArray} {n : Nat} {r : Option FieldType} : GoodIn [Cond.code y b n r] [Cond.code y b n r] := fun w hw => ⟨hw, by rw [List.mem_singleton.mp hw]; exact Or.inl rfl⟩
end
section
def FT0 : u_T := fun k => match k with
  | 0 => ("BigRunner", "line", "[C", true)
  | 1 => ("BigRunner", "lineLength", "I", false)
  | 2 => ("BigRunner", "reader", "LBigRunner$Reader;", true)
  | 3 => ("BigRunner", "runner", "LBigRunner$Runner;", true)
  | _ => ("BigRunner", "loaded", "Z", false)
def TY0 : Nat → FieldType := fun k => match k with
  | 0 => (.array .char)
  | 1 => .int
  | 2 => (.object "BigRunner$Reader")
  | 3 => (.object "BigRunner$Runner")
  | _ => .boolean
theorem nm0 : ∀ a, a < 5 → ∀ b, b < 5 → a ≠ b → (FT0 a).2.1 ≠ (FT0 b).2.1 := by decide +kernel
theorem ok0 : ∀ k, k < 5 → parseFieldDescriptor (FT0 k).2.2.1 = some (TY0 k) := by decide +kernel
theorem hw0 {U : State} (h : TB U) (args : Array Value) : ∀ w ∈ u_ws "BigRunner" FT0 5, w.before args U = true := h.all _ [383, 385, 387, 389, 391] (by decide +kernel) (by decide +kernel) args
def FT1 : u_T := fun k => match k with
  | 0 => ("BigRunner$Inputs", "ring", "[I", true)
  | 1 => ("BigRunner$Inputs", "first", "I", false)
  | _ => ("BigRunner$Inputs", "waiting", "I", false)
def TY1 : Nat → FieldType := fun k => match k with
  | 0 => (.array .int)
  | 1 => .int
  | _ => .int
theorem nm1 : ∀ a, a < 3 → ∀ b, b < 3 → a ≠ b → (FT1 a).2.1 ≠ (FT1 b).2.1 := by decide +kernel
theorem ok1 : ∀ k, k < 3 → parseFieldDescriptor (FT1 k).2.2.1 = some (TY1 k) := by decide +kernel
theorem hw1 {U : State} (h : TB U) (args : Array Value) : ∀ w ∈ u_ws "BigRunner$Inputs" FT1 3, w.before args U = true := h.all _ [303, 305, 307] (by decide +kernel) (by decide +kernel) args
def FT2 : u_T := fun k => match k with
  | 0 => ("BigRunner$Interval", "least", "J", false)
  | _ => ("BigRunner$Interval", "greatest", "J", false)
def TY2 : Nat → FieldType := fun k => match k with
  | 0 => .long
  | _ => .long
theorem nm2 : ∀ a, a < 2 → ∀ b, b < 2 → a ≠ b → (FT2 a).2.1 ≠ (FT2 b).2.1 := by decide +kernel
theorem ok2 : ∀ k, k < 2 → parseFieldDescriptor (FT2 k).2.2.1 = some (TY2 k) := by decide +kernel
theorem hw2 {U : State} (h : TB U) (args : Array Value) : ∀ w ∈ u_ws "BigRunner$Interval" FT2 2, w.before args U = true := h.all _ [132, 134] (by decide +kernel) (by decide +kernel) args
def FT3 : u_T := fun k => match k with
  | 0 => ("BigRunner$LongDivision", "dividend", "[I", true)
  | 1 => ("BigRunner$LongDivision", "divisor", "[I", true)
  | _ => ("BigRunner$LongDivision", "size", "I", false)
def TY3 : Nat → FieldType := fun k => match k with
  | 0 => (.array .int)
  | 1 => (.array .int)
  | _ => .int
theorem nm3 : ∀ a, a < 3 → ∀ b, b < 3 → a ≠ b → (FT3 a).2.1 ≠ (FT3 b).2.1 := by decide +kernel
theorem ok3 : ∀ k, k < 3 → parseFieldDescriptor (FT3 k).2.2.1 = some (TY3 k) := by decide +kernel
theorem hw3 {U : State} (h : TB U) (args : Array Value) : ∀ w ∈ u_ws "BigRunner$LongDivision" FT3 3, w.before args U = true := h.all _ [322, 324, 326] (by decide +kernel) (by decide +kernel) args
def FT4 : u_T := fun k => match k with
  | 0 => ("BigRunner$LongNumber", "sign", "I", false)
  | 1 => ("BigRunner$LongNumber", "size", "I", false)
  | _ => ("BigRunner$LongNumber", "limbs", "[I", true)
def TY4 : Nat → FieldType := fun k => match k with
  | 0 => .int
  | 1 => .int
  | _ => (.array .int)
theorem nm4 : ∀ a, a < 3 → ∀ b, b < 3 → a ≠ b → (FT4 a).2.1 ≠ (FT4 b).2.1 := by decide +kernel
theorem ok4 : ∀ k, k < 3 → parseFieldDescriptor (FT4 k).2.2.1 = some (TY4 k) := by decide +kernel
theorem hw4 {U : State} (h : TB U) (args : Array Value) : ∀ w ∈ u_ws "BigRunner$LongNumber" FT4 3, w.before args U = true := h.all _ [194, 196, 198] (by decide +kernel) (by decide +kernel) args
def FT5 : u_T := fun k => match k with
  | 0 => ("BigRunner$Node", "kind", "I", false)
  | 1 => ("BigRunner$Node", "left", "I", false)
  | 2 => ("BigRunner$Node", "right", "I", false)
  | 3 => ("BigRunner$Node", "interval", "LBigRunner$Interval;", true)
  | 4 => ("BigRunner$Node", "isSmall", "Z", false)
  | 5 => ("BigRunner$Node", "machine", "J", false)
  | _ => ("BigRunner$Node", "wide", "LBigRunner$LongNumber;", true)
def TY5 : Nat → FieldType := fun k => match k with
  | 0 => .int
  | 1 => .int
  | 2 => .int
  | 3 => (.object "BigRunner$Interval")
  | 4 => .boolean
  | 5 => .long
  | _ => (.object "BigRunner$LongNumber")
theorem nm5 : ∀ a, a < 7 → ∀ b, b < 7 → a ≠ b → (FT5 a).2.1 ≠ (FT5 b).2.1 := by decide +kernel
theorem ok5 : ∀ k, k < 7 → parseFieldDescriptor (FT5 k).2.2.1 = some (TY5 k) := by decide +kernel
theorem hw5 {U : State} (h : TB U) (args : Array Value) : ∀ w ∈ u_ws "BigRunner$Node" FT5 7, w.before args U = true := h.all _ [225, 227, 229, 231, 233, 235, 237] (by decide +kernel) (by decide +kernel) args
def FT6 : u_T := fun k => match k with
  | 0 => ("BigRunner$Program", "statements", "[LBigRunner$Statement;", true)
  | 1 => ("BigRunner$Program", "statementCount", "I", false)
  | 2 => ("BigRunner$Program", "nodes", "[LBigRunner$Node;", true)
  | 3 => ("BigRunner$Program", "nodeCount", "I", false)
  | 4 => ("BigRunner$Program", "variables", "[LBigRunner$Interval;", true)
  | _ => ("BigRunner$Program", "ofInput", "LBigRunner$Interval;", true)
def TY6 : Nat → FieldType := fun k => match k with
  | 0 => (.array (.object "BigRunner$Statement"))
  | 1 => .int
  | 2 => (.array (.object "BigRunner$Node"))
  | 3 => .int
  | 4 => (.array (.object "BigRunner$Interval"))
  | _ => (.object "BigRunner$Interval")
theorem nm6 : ∀ a, a < 6 → ∀ b, b < 6 → a ≠ b → (FT6 a).2.1 ≠ (FT6 b).2.1 := by decide +kernel
theorem ok6 : ∀ k, k < 6 → parseFieldDescriptor (FT6 k).2.2.1 = some (TY6 k) := by decide +kernel
theorem hw6 {U : State} (h : TB U) (args : Array Value) : ∀ w ∈ u_ws "BigRunner$Program" FT6 6, w.before args U = true := h.all _ [257, 259, 261, 263, 265, 267] (by decide +kernel) (by decide +kernel) args
def FT7 : u_T := fun k => match k with
  | 0 => ("BigRunner$Reader", "text", "[C", false)
  | 1 => ("BigRunner$Reader", "length", "I", false)
  | 2 => ("BigRunner$Reader", "at", "I", false)
  | _ => ("BigRunner$Reader", "program", "LBigRunner$Program;", false)
def TY7 : Nat → FieldType := fun k => match k with
  | 0 => (.array .char)
  | 1 => .int
  | 2 => .int
  | _ => (.object "BigRunner$Program")
theorem nm7 : ∀ a, a < 4 → ∀ b, b < 4 → a ≠ b → (FT7 a).2.1 ≠ (FT7 b).2.1 := by decide +kernel
theorem ok7 : ∀ k, k < 4 → parseFieldDescriptor (FT7 k).2.2.1 = some (TY7 k) := by decide +kernel
theorem hw7 {U : State} (h : TB U) (args : Array Value) : ∀ w ∈ u_ws "BigRunner$Reader" FT7 4, w.before args U = true := h.all _ [275, 277, 279, 281] (by decide +kernel) (by decide +kernel) args
def FT8 : u_T := fun k => match k with
  | 0 => ("BigRunner$Runner", "program", "LBigRunner$Program;", false)
  | 1 => ("BigRunner$Runner", "inputs", "LBigRunner$Inputs;", true)
  | 2 => ("BigRunner$Runner", "at", "I", false)
  | 3 => ("BigRunner$Runner", "machine", "[J", true)
  | 4 => ("BigRunner$Runner", "wide", "[LBigRunner$LongNumber;", true)
  | 5 => ("BigRunner$Runner", "shown", "LBigRunner$LongNumber;", true)
  | 6 => ("BigRunner$Runner", "division", "LBigRunner$LongDivision;", true)
  | 7 => ("BigRunner$Runner", "kept", "[LBigRunner$LongNumber;", true)
  | 8 => ("BigRunner$Runner", "outputs", "I", false)
  | 9 => ("BigRunner$Runner", "steps", "I", false)
  | 10 => ("BigRunner$Runner", "machineOperations", "I", false)
  | 11 => ("BigRunner$Runner", "longOperations", "I", false)
  | _ => ("BigRunner$Runner", "trap", "I", false)
def TY8 : Nat → FieldType := fun k => match k with
  | 0 => (.object "BigRunner$Program")
  | 1 => (.object "BigRunner$Inputs")
  | 2 => .int
  | 3 => (.array .long)
  | 4 => (.array (.object "BigRunner$LongNumber"))
  | 5 => (.object "BigRunner$LongNumber")
  | 6 => (.object "BigRunner$LongDivision")
  | 7 => (.array (.object "BigRunner$LongNumber"))
  | 8 => .int
  | 9 => .int
  | 10 => .int
  | 11 => .int
  | _ => .int
theorem nm8 : ∀ a, a < 13 → ∀ b, b < 13 → a ≠ b → (FT8 a).2.1 ≠ (FT8 b).2.1 := by decide +kernel
theorem ok8 : ∀ k, k < 13 → parseFieldDescriptor (FT8 k).2.2.1 = some (TY8 k) := by decide +kernel
theorem hw8 {U : State} (h : TB U) (args : Array Value) : ∀ w ∈ u_ws "BigRunner$Runner" FT8 13, w.before args U = true := h.all _ [351, 353, 355, 357, 359, 361, 363, 365, 367, 369, 371, 373, 375] (by decide +kernel) (by decide +kernel) args
def FT9 : u_T := fun k => match k with
  | 0 => ("BigRunner$Statement", "kind", "I", false)
  | 1 => ("BigRunner$Statement", "name", "I", false)
  | 2 => ("BigRunner$Statement", "firstNode", "I", false)
  | 3 => ("BigRunner$Statement", "lastNode", "I", false)
  | _ => ("BigRunner$Statement", "target", "I", false)
def TY9 : Nat → FieldType := fun k => match k with
  | 0 => .int
  | 1 => .int
  | 2 => .int
  | 3 => .int
  | _ => .int
theorem nm9 : ∀ a, a < 5 → ∀ b, b < 5 → a ≠ b → (FT9 a).2.1 ≠ (FT9 b).2.1 := by decide +kernel
theorem ok9 : ∀ k, k < 5 → parseFieldDescriptor (FT9 k).2.2.1 = some (TY9 k) := by decide +kernel
theorem hw9 {U : State} (h : TB U) (args : Array Value) : ∀ w ∈ u_ws "BigRunner$Statement" FT9 5, w.before args U = true := h.all _ [162, 164, 166, 168, 170] (by decide +kernel) (by decide +kernel) args
def FT10 : u_T := fun k => match k with
  | 0 => ("BigRunnerModel", "thrown", "I", false)
  | 1 => ("BigRunnerModel", "text", "[C", true)
  | 2 => ("BigRunnerModel", "length", "I", false)
  | 3 => ("BigRunnerModel", "draft", "[I", true)
  | 4 => ("BigRunnerModel", "draftArg", "[I", true)
  | 5 => ("BigRunnerModel", "drafts", "I", false)
  | 6 => ("BigRunnerModel", "code", "[I", true)
  | 7 => ("BigRunnerModel", "arg", "[I", true)
  | 8 => ("BigRunnerModel", "machineSign", "[Z", true)
  | 9 => ("BigRunnerModel", "size", "I", false)
  | 10 => ("BigRunnerModel", "at", "I", false)
  | 11 => ("BigRunnerModel", "depth", "I", false)
  | 12 => ("BigRunnerModel", "wait", "[C", true)
  | 13 => ("BigRunnerModel", "waits", "I", false)
  | 14 => ("BigRunnerModel", "begins", "[I", true)
  | 15 => ("BigRunnerModel", "kinds", "[I", true)
  | 16 => ("BigRunnerModel", "opened", "I", false)
  | 17 => ("BigRunnerModel", "low", "[J", true)
  | 18 => ("BigRunnerModel", "high", "[J", true)
  | 19 => ("BigRunnerModel", "under", "[Z", true)
  | 20 => ("BigRunnerModel", "over", "[Z", true)
  | 21 => ("BigRunnerModel", "a", "[J", true)
  | 22 => ("BigRunnerModel", "b", "[J", true)
  | 23 => ("BigRunnerModel", "ua", "[Z", true)
  | 24 => ("BigRunnerModel", "ub", "[Z", true)
  | 25 => ("BigRunnerModel", "bounded", "[Z", true)
  | 26 => ("BigRunnerModel", "varLimbs", "[I", true)
  | 27 => ("BigRunnerModel", "varSign", "[I", true)
  | 28 => ("BigRunnerModel", "outLimbs", "[I", true)
  | 29 => ("BigRunnerModel", "outSign", "[I", true)
  | 30 => ("BigRunnerModel", "limbs", "[I", true)
  | 31 => ("BigRunnerModel", "sign", "[I", true)
  | 32 => ("BigRunnerModel", "top", "I", false)
  | 33 => ("BigRunnerModel", "result", "[I", true)
  | 34 => ("BigRunnerModel", "rest", "[I", true)
  | 35 => ("BigRunnerModel", "inputs", "[I", true)
  | 36 => ("BigRunnerModel", "waiting", "I", false)
  | 37 => ("BigRunnerModel", "given", "I", false)
  | 38 => ("BigRunnerModel", "pc", "I", false)
  | 39 => ("BigRunnerModel", "state", "I", false)
  | 40 => ("BigRunnerModel", "trap", "I", false)
  | 41 => ("BigRunnerModel", "steps", "I", false)
  | 42 => ("BigRunnerModel", "machine", "I", false)
  | 43 => ("BigRunnerModel", "longs", "I", false)
  | _ => ("BigRunnerModel", "dueStatement", "Z", false)
def TY10 : Nat → FieldType := fun k => match k with
  | 0 => .int
  | 1 => (.array .char)
  | 2 => .int
  | 3 => (.array .int)
  | 4 => (.array .int)
  | 5 => .int
  | 6 => (.array .int)
  | 7 => (.array .int)
  | 8 => (.array .boolean)
  | 9 => .int
  | 10 => .int
  | 11 => .int
  | 12 => (.array .char)
  | 13 => .int
  | 14 => (.array .int)
  | 15 => (.array .int)
  | 16 => .int
  | 17 => (.array .long)
  | 18 => (.array .long)
  | 19 => (.array .boolean)
  | 20 => (.array .boolean)
  | 21 => (.array .long)
  | 22 => (.array .long)
  | 23 => (.array .boolean)
  | 24 => (.array .boolean)
  | 25 => (.array .boolean)
  | 26 => (.array .int)
  | 27 => (.array .int)
  | 28 => (.array .int)
  | 29 => (.array .int)
  | 30 => (.array .int)
  | 31 => (.array .int)
  | 32 => .int
  | 33 => (.array .int)
  | 34 => (.array .int)
  | 35 => (.array .int)
  | 36 => .int
  | 37 => .int
  | 38 => .int
  | 39 => .int
  | 40 => .int
  | 41 => .int
  | 42 => .int
  | 43 => .int
  | _ => .boolean
theorem nm10 : ∀ a, a < 45 → ∀ b, b < 45 → a ≠ b → (FT10 a).2.1 ≠ (FT10 b).2.1 := by decide +kernel
theorem ok10 : ∀ k, k < 45 → parseFieldDescriptor (FT10 k).2.2.1 = some (TY10 k) := by decide +kernel
theorem hw10 {U : State} (h : TB U) (args : Array Value) : ∀ w ∈ u_ws "BigRunnerModel" FT10 45, w.before args U = true := h.all _ [992, 994, 996, 998, 1000, 1002, 1004, 1006, 1008, 1010, 1012, 1014, 1016, 1018, 1020, 1022, 1024, 1026, 1028, 1030, 1032, 1034, 1036, 1038, 1040, 1042, 1044, 1046, 1048, 1050, 1052, 1054, 1056, 1058, 1060, 1062, 1064, 1066, 1068, 1070, 1072, 1074, 1076, 1078, 1080] (by decide +kernel) (by decide +kernel) args
abbrev vcl : List vw_C := [("BigRunner", FT0, 5), ("BigRunner$Inputs", FT1, 3), ("BigRunner$Interval", FT2, 2), ("BigRunner$LongDivision", FT3, 3), ("BigRunner$LongNumber", FT4, 3), ("BigRunner$Node", FT5, 7), ("BigRunner$Program", FT6, 6), ("BigRunner$Reader", FT7, 4), ("BigRunner$Runner", FT8, 13), ("BigRunner$Statement", FT9, 5), ("BigRunnerModel", FT10, 45)]
theorem wd_75 {U : State} (h : TB U) (args : Array Value) : (Cond.initialized "BigRunner$Interval").before args U = true := h.w 75 (by decide +kernel) rfl args
theorem wd_78 {U : State} (h : TB U) (args : Array Value) : (Cond.initialized "BigRunner$LongNumber").before args U = true := h.w 78 (by decide +kernel) rfl args
theorem wd_101 {U : State} (h : TB U) (args : Array Value) : (Cond.instanceMethod ⟨"java/lang/Object", "<init>", "()V"⟩).before args U = true := h.w 101 (by decide +kernel) rfl args
theorem wd_102 {U : State} (h : TB U) (args : Array Value) : (Cond.code ⟨"java/lang/Object", "<init>", "()V"⟩ ⟨#[0xb1]⟩ 1 none).before args U = true := h.w 102 (by decide +kernel) rfl args
theorem wd_121 {U : State} (h : TB U) (args : Array Value) : (Cond.instantiable "BigRunner$Interval" 2).before args U = true := h.w 121 (by decide +kernel) rfl args
theorem wd_123 {U : State} (h : TB U) (args : Array Value) : (Cond.instanceMethod ⟨"BigRunner$Interval", "<init>", "()V"⟩).before args U = true := h.w 123 (by decide +kernel) rfl args
theorem wd_124 {U : State} (h : TB U) (args : Array Value) : (Cond.code ⟨"BigRunner$Interval", "<init>", "()V"⟩ prog_3_method_1_code 1 none).before args U = true := h.w 124 (by decide +kernel) rfl args
theorem wd_125 {U : State} (h : TB U) (args : Array Value) : (Cond.methodLink "BigRunner$Interval" 5 ⟨"java/lang/Object", "<init>", "()V"⟩).before args U = true := h.w 125 (by decide +kernel) rfl args
theorem wd_126 {U : State} (h : TB U) (args : Array Value) : (Cond.fieldLink "BigRunner$Interval" 11 "BigRunner$Interval" "least" "J").before args U = true := h.w 126 (by decide +kernel) rfl args
theorem wd_129 {U : State} (h : TB U) (args : Array Value) : (Cond.fieldLink "BigRunner$Interval" 15 "BigRunner$Interval" "greatest" "J").before args U = true := h.w 129 (by decide +kernel) rfl args
theorem wd_142 {U : State} (h : TB U) (args : Array Value) : (Cond.methodLink "BigRunner$Statement" 1 ⟨"java/lang/Object", "<init>", "()V"⟩).before args U = true := h.w 142 (by decide +kernel) rfl args
theorem wd_143 {U : State} (h : TB U) (args : Array Value) : (Cond.fieldLink "BigRunner$Statement" 9 "BigRunner$Statement" "kind" "I").before args U = true := h.w 143 (by decide +kernel) rfl args
theorem wd_147 {U : State} (h : TB U) (args : Array Value) : (Cond.fieldLink "BigRunner$Statement" 13 "BigRunner$Statement" "name" "I").before args U = true := h.w 147 (by decide +kernel) rfl args
theorem wd_151 {U : State} (h : TB U) (args : Array Value) : (Cond.fieldLink "BigRunner$Statement" 16 "BigRunner$Statement" "firstNode" "I").before args U = true := h.w 151 (by decide +kernel) rfl args
theorem wd_155 {U : State} (h : TB U) (args : Array Value) : (Cond.fieldLink "BigRunner$Statement" 19 "BigRunner$Statement" "lastNode" "I").before args U = true := h.w 155 (by decide +kernel) rfl args
theorem wd_159 {U : State} (h : TB U) (args : Array Value) : (Cond.fieldLink "BigRunner$Statement" 22 "BigRunner$Statement" "target" "I").before args U = true := h.w 159 (by decide +kernel) rfl args
theorem wd_177 {U : State} (h : TB U) (args : Array Value) : (Cond.methodLink "BigRunner$Node" 1 ⟨"java/lang/Object", "<init>", "()V"⟩).before args U = true := h.w 177 (by decide +kernel) rfl args
theorem wd_178 {U : State} (h : TB U) (args : Array Value) : (Cond.classLink "BigRunner$Node" 19 "BigRunner$Interval").before args U = true := h.w 178 (by decide +kernel) rfl args
theorem wd_179 {U : State} (h : TB U) (args : Array Value) : (Cond.methodLinkNest "BigRunner$Node" 21 ⟨"BigRunner$Interval", "<init>", "()V"⟩ "BigRunner").before args U = true := h.w 179 (by decide +kernel) rfl args
theorem wd_180 {U : State} (h : TB U) (args : Array Value) : (Cond.classLink "BigRunner$Node" 34 "BigRunner$LongNumber").before args U = true := h.w 180 (by decide +kernel) rfl args
theorem wd_181 {U : State} (h : TB U) (args : Array Value) : (Cond.instantiable "BigRunner$LongNumber" 3).before args U = true := h.w 181 (by decide +kernel) rfl args
theorem wd_182 {U : State} (h : TB U) (args : Array Value) : (Cond.methodLinkNest "BigRunner$Node" 36 ⟨"BigRunner$LongNumber", "<init>", "()V"⟩ "BigRunner").before args U = true := h.w 182 (by decide +kernel) rfl args
theorem wd_183 {U : State} (h : TB U) (args : Array Value) : (Cond.instanceMethod ⟨"BigRunner$LongNumber", "<init>", "()V"⟩).before args U = true := h.w 183 (by decide +kernel) rfl args
theorem wd_184 {U : State} (h : TB U) (args : Array Value) : (Cond.code ⟨"BigRunner$LongNumber", "<init>", "()V"⟩ prog_5_method_1_code 1 none).before args U = true := h.w 184 (by decide +kernel) rfl args
theorem wd_185 {U : State} (h : TB U) (args : Array Value) : (Cond.methodLink "BigRunner$LongNumber" 1 ⟨"java/lang/Object", "<init>", "()V"⟩).before args U = true := h.w 185 (by decide +kernel) rfl args
theorem wd_186 {U : State} (h : TB U) (args : Array Value) : (Cond.fieldLink "BigRunner$LongNumber" 7 "BigRunner$LongNumber" "sign" "I").before args U = true := h.w 186 (by decide +kernel) rfl args
theorem wd_190 {U : State} (h : TB U) (args : Array Value) : (Cond.fieldLink "BigRunner$LongNumber" 13 "BigRunner$LongNumber" "size" "I").before args U = true := h.w 190 (by decide +kernel) rfl args
theorem wd_192 {U : State} (h : TB U) (args : Array Value) : (Cond.fieldLink "BigRunner$LongNumber" 16 "BigRunner$LongNumber" "limbs" "[I").before args U = true := h.w 192 (by decide +kernel) rfl args
theorem wd_201 {U : State} (h : TB U) (args : Array Value) : (Cond.arrayClass .int).before args U = true := h.w 201 (by decide +kernel) rfl args
theorem wd_202 {U : State} (h : TB U) (args : Array Value) : (Cond.fieldLink "BigRunner$Node" 9 "BigRunner$Node" "kind" "I").before args U = true := h.w 202 (by decide +kernel) rfl args
theorem wd_206 {U : State} (h : TB U) (args : Array Value) : (Cond.fieldLink "BigRunner$Node" 13 "BigRunner$Node" "left" "I").before args U = true := h.w 206 (by decide +kernel) rfl args
theorem wd_210 {U : State} (h : TB U) (args : Array Value) : (Cond.fieldLink "BigRunner$Node" 16 "BigRunner$Node" "right" "I").before args U = true := h.w 210 (by decide +kernel) rfl args
theorem wd_214 {U : State} (h : TB U) (args : Array Value) : (Cond.fieldLink "BigRunner$Node" 22 "BigRunner$Node" "interval" "LBigRunner$Interval;").before args U = true := h.w 214 (by decide +kernel) rfl args
theorem wd_216 {U : State} (h : TB U) (args : Array Value) : (Cond.fieldLink "BigRunner$Node" 26 "BigRunner$Node" "isSmall" "Z").before args U = true := h.w 216 (by decide +kernel) rfl args
theorem wd_219 {U : State} (h : TB U) (args : Array Value) : (Cond.fieldLink "BigRunner$Node" 30 "BigRunner$Node" "machine" "J").before args U = true := h.w 219 (by decide +kernel) rfl args
theorem wd_223 {U : State} (h : TB U) (args : Array Value) : (Cond.fieldLink "BigRunner$Node" 37 "BigRunner$Node" "wide" "LBigRunner$LongNumber;").before args U = true := h.w 223 (by decide +kernel) rfl args
theorem wd_297 {U : State} (h : TB U) (args : Array Value) : (Cond.methodLink "BigRunner$Inputs" 1 ⟨"java/lang/Object", "<init>", "()V"⟩).before args U = true := h.w 297 (by decide +kernel) rfl args
theorem wd_298 {U : State} (h : TB U) (args : Array Value) : (Cond.fieldLink "BigRunner$Inputs" 9 "BigRunner$Inputs" "ring" "[I").before args U = true := h.w 298 (by decide +kernel) rfl args
theorem wd_299 {U : State} (h : TB U) (args : Array Value) : (Cond.fieldLink "BigRunner$Inputs" 13 "BigRunner$Inputs" "first" "I").before args U = true := h.w 299 (by decide +kernel) rfl args
theorem wd_300 {U : State} (h : TB U) (args : Array Value) : (Cond.fieldLink "BigRunner$Inputs" 17 "BigRunner$Inputs" "waiting" "I").before args U = true := h.w 300 (by decide +kernel) rfl args
theorem wd_318 {U : State} (h : TB U) (args : Array Value) : (Cond.methodLink "BigRunner$LongDivision" 3 ⟨"java/lang/Object", "<init>", "()V"⟩).before args U = true := h.w 318 (by decide +kernel) rfl args
theorem wd_319 {U : State} (h : TB U) (args : Array Value) : (Cond.fieldLink "BigRunner$LongDivision" 9 "BigRunner$LongDivision" "dividend" "[I").before args U = true := h.w 319 (by decide +kernel) rfl args
theorem wd_320 {U : State} (h : TB U) (args : Array Value) : (Cond.fieldLink "BigRunner$LongDivision" 15 "BigRunner$LongDivision" "divisor" "[I").before args U = true := h.w 320 (by decide +kernel) rfl args
theorem wd_321 {U : State} (h : TB U) (args : Array Value) : (Cond.fieldLink "BigRunner$LongDivision" 18 "BigRunner$LongDivision" "size" "I").before args U = true := h.w 321 (by decide +kernel) rfl args
theorem d_NInputs_init_0 : decode prog_2_method_1_code 0 = .ok (.aload_n 0, 1) := by decide +kernel
theorem d_NInputs_init_1 : decode prog_2_method_1_code 1 = .ok (.invokespecial 1, 3) := by decide +kernel
theorem d_NInputs_init_4 : decode prog_2_method_1_code 4 = .ok (.aload_n 0, 1) := by decide +kernel
theorem d_NInputs_init_5 : decode prog_2_method_1_code 5 = .ok (.bipush 20, 2) := by decide +kernel
theorem d_NInputs_init_7 : decode prog_2_method_1_code 7 = .ok (.newarray .int, 2) := by decide +kernel
theorem d_NInputs_init_9 : decode prog_2_method_1_code 9 = .ok (.putfield 9, 3) := by decide +kernel
theorem d_NInputs_init_12 : decode prog_2_method_1_code 12 = .ok (.aload_n 0, 1) := by decide +kernel
theorem d_NInputs_init_13 : decode prog_2_method_1_code 13 = .ok (.iconst 0, 1) := by decide +kernel
theorem d_NInputs_init_14 : decode prog_2_method_1_code 14 = .ok (.putfield 13, 3) := by decide +kernel
theorem d_NInputs_init_17 : decode prog_2_method_1_code 17 = .ok (.aload_n 0, 1) := by decide +kernel
theorem d_NInputs_init_18 : decode prog_2_method_1_code 18 = .ok (.iconst 0, 1) := by decide +kernel
theorem d_NInputs_init_19 : decode prog_2_method_1_code 19 = .ok (.putfield 17, 3) := by decide +kernel
theorem d_NInputs_init_22 : decode prog_2_method_1_code 22 = .ok (.return_, 1) := by decide +kernel
theorem d_NInterval_init_0 : decode prog_3_method_1_code 0 = .ok (.aload_n 0, 1) := by decide +kernel
theorem d_NInterval_init_1 : decode prog_3_method_1_code 1 = .ok (.invokespecial 5, 3) := by decide +kernel
theorem d_NInterval_init_4 : decode prog_3_method_1_code 4 = .ok (.aload_n 0, 1) := by decide +kernel
theorem d_NInterval_init_5 : decode prog_3_method_1_code 5 = .ok (.lconst 0, 1) := by decide +kernel
theorem d_NInterval_init_6 : decode prog_3_method_1_code 6 = .ok (.putfield 11, 3) := by decide +kernel
theorem d_NInterval_init_9 : decode prog_3_method_1_code 9 = .ok (.aload_n 0, 1) := by decide +kernel
theorem d_NInterval_init_10 : decode prog_3_method_1_code 10 = .ok (.lconst 0, 1) := by decide +kernel
theorem d_NInterval_init_11 : decode prog_3_method_1_code 11 = .ok (.putfield 15, 3) := by decide +kernel
theorem d_NInterval_init_14 : decode prog_3_method_1_code 14 = .ok (.return_, 1) := by decide +kernel
theorem d_NLongDivision_init_0 : decode prog_4_method_1_code 0 = .ok (.aload_n 0, 1) := by decide +kernel
theorem d_NLongDivision_init_1 : decode prog_4_method_1_code 1 = .ok (.invokespecial 3, 3) := by decide +kernel
theorem d_NLongDivision_init_4 : decode prog_4_method_1_code 4 = .ok (.aload_n 0, 1) := by decide +kernel
theorem d_NLongDivision_init_5 : decode prog_4_method_1_code 5 = .ok (.bipush 16, 2) := by decide +kernel
theorem d_NLongDivision_init_7 : decode prog_4_method_1_code 7 = .ok (.newarray .int, 2) := by decide +kernel
theorem d_NLongDivision_init_9 : decode prog_4_method_1_code 9 = .ok (.putfield 9, 3) := by decide +kernel
theorem d_NLongDivision_init_12 : decode prog_4_method_1_code 12 = .ok (.aload_n 0, 1) := by decide +kernel
theorem d_NLongDivision_init_13 : decode prog_4_method_1_code 13 = .ok (.bipush 16, 2) := by decide +kernel
theorem d_NLongDivision_init_15 : decode prog_4_method_1_code 15 = .ok (.newarray .int, 2) := by decide +kernel
theorem d_NLongDivision_init_17 : decode prog_4_method_1_code 17 = .ok (.putfield 15, 3) := by decide +kernel
theorem d_NLongDivision_init_20 : decode prog_4_method_1_code 20 = .ok (.aload_n 0, 1) := by decide +kernel
theorem d_NLongDivision_init_21 : decode prog_4_method_1_code 21 = .ok (.iconst 0, 1) := by decide +kernel
theorem d_NLongDivision_init_22 : decode prog_4_method_1_code 22 = .ok (.putfield 18, 3) := by decide +kernel
theorem d_NLongDivision_init_25 : decode prog_4_method_1_code 25 = .ok (.return_, 1) := by decide +kernel
theorem d_NLongNumber_init_0 : decode prog_5_method_1_code 0 = .ok (.aload_n 0, 1) := by decide +kernel
theorem d_NLongNumber_init_1 : decode prog_5_method_1_code 1 = .ok (.invokespecial 1, 3) := by decide +kernel
theorem d_NLongNumber_init_4 : decode prog_5_method_1_code 4 = .ok (.aload_n 0, 1) := by decide +kernel
theorem d_NLongNumber_init_5 : decode prog_5_method_1_code 5 = .ok (.iconst 0, 1) := by decide +kernel
theorem d_NLongNumber_init_6 : decode prog_5_method_1_code 6 = .ok (.putfield 7, 3) := by decide +kernel
theorem d_NLongNumber_init_9 : decode prog_5_method_1_code 9 = .ok (.aload_n 0, 1) := by decide +kernel
theorem d_NLongNumber_init_10 : decode prog_5_method_1_code 10 = .ok (.iconst 0, 1) := by decide +kernel
theorem d_NLongNumber_init_11 : decode prog_5_method_1_code 11 = .ok (.putfield 13, 3) := by decide +kernel
theorem d_NLongNumber_init_14 : decode prog_5_method_1_code 14 = .ok (.aload_n 0, 1) := by decide +kernel
theorem d_NLongNumber_init_15 : decode prog_5_method_1_code 15 = .ok (.bipush 15, 2) := by decide +kernel
theorem d_NLongNumber_init_17 : decode prog_5_method_1_code 17 = .ok (.newarray .int, 2) := by decide +kernel
theorem d_NLongNumber_init_19 : decode prog_5_method_1_code 19 = .ok (.putfield 16, 3) := by decide +kernel
theorem d_NLongNumber_init_22 : decode prog_5_method_1_code 22 = .ok (.return_, 1) := by decide +kernel
theorem d_NNode_init_0 : decode prog_6_method_1_code 0 = .ok (.aload_n 0, 1) := by decide +kernel
theorem d_NNode_init_1 : decode prog_6_method_1_code 1 = .ok (.invokespecial 1, 3) := by decide +kernel
theorem d_NNode_init_4 : decode prog_6_method_1_code 4 = .ok (.aload_n 0, 1) := by decide +kernel
theorem d_NNode_init_5 : decode prog_6_method_1_code 5 = .ok (.iconst 0, 1) := by decide +kernel
theorem d_NNode_init_6 : decode prog_6_method_1_code 6 = .ok (.putfield 9, 3) := by decide +kernel
theorem d_NNode_init_9 : decode prog_6_method_1_code 9 = .ok (.aload_n 0, 1) := by decide +kernel
theorem d_NNode_init_10 : decode prog_6_method_1_code 10 = .ok (.iconst 0, 1) := by decide +kernel
theorem d_NNode_init_11 : decode prog_6_method_1_code 11 = .ok (.putfield 13, 3) := by decide +kernel
theorem d_NNode_init_14 : decode prog_6_method_1_code 14 = .ok (.aload_n 0, 1) := by decide +kernel
theorem d_NNode_init_15 : decode prog_6_method_1_code 15 = .ok (.iconst 0, 1) := by decide +kernel
theorem d_NNode_init_16 : decode prog_6_method_1_code 16 = .ok (.putfield 16, 3) := by decide +kernel
theorem d_NNode_init_19 : decode prog_6_method_1_code 19 = .ok (.aload_n 0, 1) := by decide +kernel
theorem d_NNode_init_20 : decode prog_6_method_1_code 20 = .ok (.new 19, 3) := by decide +kernel
theorem d_NNode_init_23 : decode prog_6_method_1_code 23 = .ok (.dup, 1) := by decide +kernel
theorem d_NNode_init_24 : decode prog_6_method_1_code 24 = .ok (.invokespecial 21, 3) := by decide +kernel
theorem d_NNode_init_27 : decode prog_6_method_1_code 27 = .ok (.putfield 22, 3) := by decide +kernel
theorem d_NNode_init_30 : decode prog_6_method_1_code 30 = .ok (.aload_n 0, 1) := by decide +kernel
theorem d_NNode_init_31 : decode prog_6_method_1_code 31 = .ok (.iconst 1, 1) := by decide +kernel
theorem d_NNode_init_32 : decode prog_6_method_1_code 32 = .ok (.putfield 26, 3) := by decide +kernel
theorem d_NNode_init_35 : decode prog_6_method_1_code 35 = .ok (.aload_n 0, 1) := by decide +kernel
theorem d_NNode_init_36 : decode prog_6_method_1_code 36 = .ok (.lconst 0, 1) := by decide +kernel
theorem d_NNode_init_37 : decode prog_6_method_1_code 37 = .ok (.putfield 30, 3) := by decide +kernel
theorem d_NNode_init_40 : decode prog_6_method_1_code 40 = .ok (.aload_n 0, 1) := by decide +kernel
theorem d_NNode_init_41 : decode prog_6_method_1_code 41 = .ok (.new 34, 3) := by decide +kernel
theorem d_NNode_init_44 : decode prog_6_method_1_code 44 = .ok (.dup, 1) := by decide +kernel
theorem d_NNode_init_45 : decode prog_6_method_1_code 45 = .ok (.invokespecial 36, 3) := by decide +kernel
theorem d_NNode_init_48 : decode prog_6_method_1_code 48 = .ok (.putfield 37, 3) := by decide +kernel
theorem d_NNode_init_51 : decode prog_6_method_1_code 51 = .ok (.return_, 1) := by decide +kernel
theorem d_NStatement_init_0 : decode prog_10_method_1_code 0 = .ok (.aload_n 0, 1) := by decide +kernel
theorem d_NStatement_init_1 : decode prog_10_method_1_code 1 = .ok (.invokespecial 1, 3) := by decide +kernel
theorem d_NStatement_init_4 : decode prog_10_method_1_code 4 = .ok (.aload_n 0, 1) := by decide +kernel
theorem d_NStatement_init_5 : decode prog_10_method_1_code 5 = .ok (.iconst 5, 1) := by decide +kernel
theorem d_NStatement_init_6 : decode prog_10_method_1_code 6 = .ok (.putfield 9, 3) := by decide +kernel
theorem d_NStatement_init_9 : decode prog_10_method_1_code 9 = .ok (.aload_n 0, 1) := by decide +kernel
theorem d_NStatement_init_10 : decode prog_10_method_1_code 10 = .ok (.iconst 0, 1) := by decide +kernel
theorem d_NStatement_init_11 : decode prog_10_method_1_code 11 = .ok (.putfield 13, 3) := by decide +kernel
theorem d_NStatement_init_14 : decode prog_10_method_1_code 14 = .ok (.aload_n 0, 1) := by decide +kernel
theorem d_NStatement_init_15 : decode prog_10_method_1_code 15 = .ok (.iconst 0, 1) := by decide +kernel
theorem d_NStatement_init_16 : decode prog_10_method_1_code 16 = .ok (.putfield 16, 3) := by decide +kernel
theorem d_NStatement_init_19 : decode prog_10_method_1_code 19 = .ok (.aload_n 0, 1) := by decide +kernel
theorem d_NStatement_init_20 : decode prog_10_method_1_code 20 = .ok (.iconst (-1), 1) := by decide +kernel
theorem d_NStatement_init_21 : decode prog_10_method_1_code 21 = .ok (.putfield 19, 3) := by decide +kernel
theorem d_NStatement_init_24 : decode prog_10_method_1_code 24 = .ok (.aload_n 0, 1) := by decide +kernel
theorem d_NStatement_init_25 : decode prog_10_method_1_code 25 = .ok (.iconst 0, 1) := by decide +kernel
theorem d_NStatement_init_26 : decode prog_10_method_1_code 26 = .ok (.putfield 22, 3) := by decide +kernel
theorem d_NStatement_init_29 : decode prog_10_method_1_code 29 = .ok (.return_, 1) := by decide +kernel
end
section
set_option maxHeartbeats 4000000 in
set_option maxRecDepth 100000 in
/-- Interval(): both bounds 0 -/
theorem c_Interval_init (l : Launch) (dC : Nat → ClassId) (dI : Nat → Nat → Nat) (sz : Nat) (h0 : Nat) : Met l ⟨"BigRunner$Interval", "<init>", "()V"⟩ [Cond.code ⟨"BigRunner$Interval", "<init>", "()V"⟩ prog_3_method_1_code 1 none] ({ frames := 1, cells := 0, slots := 0, locals := 12 }) (va_Pc [.ref h0] (fun U => U.heap.size = sz ∧ TB U ∧ va_P (dC, dI) vcl [(h0, .inr (2, [.long 0, .long 0]))] U.heap ∧ va_K (dC, dI) vcl [] U ∧ va_D (fun _ => True) [(h0, .inr (2, [.long 0, .long 0]))])) (va_Qv (fun (u : Unit) => match u with | _ => True) (fun (u : Unit) (t : State) => match u with | _ => va_P (dC, dI) vcl [(h0, .inr (2, [.long 0, .long 0]))] t.heap ∧ va_K (dC, dI) vcl [] t ∧ va_D (va_A [(h0, .inr (2, [.long 0, .long 0]))] sz) [(h0, .inr (2, [.long 0, .long 0]))]) (va_A [(h0, .inr (2, [.long 0, .long 0]))] sz)) 0 0 (va_A [(h0, .inr (2, [.long 0, .long 0]))] sz) := by
  refine Met.ofW (cc := prog_3_method_1_code) (maxL := 1) (ret := none) (by decide) rfl ?_
  intro p e s m args below meth c s₁ B hml hv
  obtain ⟨rfl, hsz, hB, hP, hK, hD0⟩ := hv
  have hx := B.exec
  have hb := B.bytes
  have hr := B.returns
  have hown : s.vm.findClass "BigRunner$Interval" = some m.cls := findClass_of_methodNamed B.named
  have hlocks := B.notSynchronized
  have hin : meth.name = "<init>" := (name_of_methodNamed B.named B.method).1
  subst hsz
  have hD := hD0.self (sz := s.heap.size)
  generalize hAe : va_A [(h0, .inr (2, [.long 0, .long 0]))] s.heap.size = A at hD ⊢
  have hA : ∀ q : Nat, s.heap.size ≤ q → A q := fun q h => by rw [← hAe]; exact Or.inr h
  have hS : va_S A s.heap s.heap [] := va_S.rf
  have hP : va_P (dC, dI) vcl [(h0, .inr (2, [.long 0, .long 0]))] s.heap := hP
  have hl := lv_entry ([.ref h0]) (n := 1) (Nat.le_of_ble_eq_true rfl)
  rw [lg_entry_eq]
  generalize (lg_sl ([.ref h0]) ++ List.replicate (1 - (lg_sl ([.ref h0])).length) Slot.unset).toArray = ls at hl ⊢
  have hl : lv_has ls 1 [(0, .ref h0)] := hl
  refine lv_aload_n hx hb d_NInterval_init_0 rfl (lv_at hl 0 rfl) ?_
  refine W.objInit hx hb hown (wd_125 hB _) (wd_101 hB _) (wd_102 hB _) rfl (by rw [hml]; exact hl.1) rfl d_NInterval_init_1 (Nat.le_of_ble_eq_true rfl) (Nat.le_of_ble_eq_true rfl) ?_
  refine W.eq (g2 := F0 m 4 ls []) rfl ?_
  refine lv_aload_n hx hb d_NInterval_init_4 rfl (lv_at hl 0 rfl) ?_
  refine lv_lconst (v := 0) hx hb d_NInterval_init_5 (by decide) ?_
  refine va_put (D := (dC, dI)) (ci := 2) (v := .long 0) (ty := .long) (C := "BigRunner$Interval") (T := FT2) (N := 2) hx hb (hw2 hB _) (fun _ h9 => h9) TY2 ok2 nm2 hown hK hP hD hS 0 rfl rfl 0 (by decide) (wd_126 hB _) (fun _ h9 => h9) rfl (by decide +kernel) rfl rfl (Nat.le_of_ble_eq_true rfl) d_NInterval_init_6 (fun H locs hP hD hS => ?_)
  have hP : va_P (dC, dI) vcl [(h0, .inr (2, [.long 0, .long 0]))] H := hP
  have hD : va_D A [(h0, .inr (2, [.long 0, .long 0]))] := hD
  refine lv_aload_n hx hb d_NInterval_init_9 rfl (lv_at hl 0 rfl) ?_
  refine lv_lconst (v := 0) hx hb d_NInterval_init_10 (by decide) ?_
  refine va_put (D := (dC, dI)) (ci := 2) (v := .long 0) (ty := .long) (C := "BigRunner$Interval") (T := FT2) (N := 2) hx hb (hw2 hB _) (fun _ h9 => h9) TY2 ok2 nm2 hown hK hP hD hS 0 rfl rfl 1 (by decide) (wd_129 hB _) (fun _ h9 => h9) rfl (by decide +kernel) rfl rfl (Nat.le_of_ble_eq_true rfl) d_NInterval_init_11 (fun H locs hP hD hS => ?_)
  have hP : va_P (dC, dI) vcl [(h0, .inr (2, [.long 0, .long 0]))] H := hP
  have hD : va_D A [(h0, .inr (2, [.long 0, .long 0]))] := hD
  have hP9 := hP.sub (ws' := [(h0, .inr (2, [.long 0, .long 0]))]) [0] rfl
  have hD9 := hD.sub (ws' := [(h0, .inr (2, [.long 0, .long 0]))]) [0] (by decide) rfl
  have hK9 := hK.sub (tys' := []) [] rfl
  refine W.widen (k := 0) (n := 0) (by omega) (by omega) ?_
  exact W.vret hx hb hr (fun t ht hW => ⟨⟨(), rfl, trivial, by rw [ht]; exact hP9, va_K.moved hW.alike hK9, hD9⟩, hS.F ht⟩) hS.2.2 d_NInterval_init_14
set_option maxHeartbeats 4000000 in
set_option maxRecDepth 100000 in
theorem c_Statement_init (l : Launch) (dC : Nat → ClassId) (dI : Nat → Nat → Nat) (sz : Nat) (h0 : Nat) : Met l ⟨"BigRunner$Statement", "<init>", "()V"⟩ [Cond.code ⟨"BigRunner$Statement", "<init>", "()V"⟩ prog_10_method_1_code 1 none] ({ frames := 1, cells := 0, slots := 0, locals := 12 }) (va_Pc [.ref h0] (fun U => U.heap.size = sz ∧ TB U ∧ va_P (dC, dI) vcl [(h0, .inr (9, [.int 0, .int 0, .int 0, .int 0, .int 0]))] U.heap ∧ va_K (dC, dI) vcl [] U ∧ va_D (fun _ => True) [(h0, .inr (9, [.int 0, .int 0, .int 0, .int 0, .int 0]))])) (va_Qv (fun (u : Unit) => match u with | _ => True) (fun (u : Unit) (t : State) => match u with | _ => va_P (dC, dI) vcl [(h0, .inr (9, [.int 5, .int 0, .int 0, .int (-1), .int 0]))] t.heap ∧ va_K (dC, dI) vcl [] t ∧ va_D (va_A [(h0, .inr (9, [.int 0, .int 0, .int 0, .int 0, .int 0]))] sz) [(h0, .inr (9, [.int 5, .int 0, .int 0, .int (-1), .int 0]))]) (va_A [(h0, .inr (9, [.int 0, .int 0, .int 0, .int 0, .int 0]))] sz)) 0 0 (va_A [(h0, .inr (9, [.int 0, .int 0, .int 0, .int 0, .int 0]))] sz) := by
  refine Met.ofW (cc := prog_10_method_1_code) (maxL := 1) (ret := none) (by decide) rfl ?_
  intro p e s m args below meth c s₁ B hml hv
  obtain ⟨rfl, hsz, hB, hP, hK, hD0⟩ := hv
  have hx := B.exec
  have hb := B.bytes
  have hr := B.returns
  have hown : s.vm.findClass "BigRunner$Statement" = some m.cls := findClass_of_methodNamed B.named
  have hlocks := B.notSynchronized
  have hin : meth.name = "<init>" := (name_of_methodNamed B.named B.method).1
  subst hsz
  have hD := hD0.self (sz := s.heap.size)
  generalize hAe : va_A [(h0, .inr (9, [.int 0, .int 0, .int 0, .int 0, .int 0]))] s.heap.size = A at hD ⊢
  have hA : ∀ q : Nat, s.heap.size ≤ q → A q := fun q h => by rw [← hAe]; exact Or.inr h
  have hS : va_S A s.heap s.heap [] := va_S.rf
  have hP : va_P (dC, dI) vcl [(h0, .inr (9, [.int 0, .int 0, .int 0, .int 0, .int 0]))] s.heap := hP
  have hl := lv_entry ([.ref h0]) (n := 1) (Nat.le_of_ble_eq_true rfl)
  rw [lg_entry_eq]
  generalize (lg_sl ([.ref h0]) ++ List.replicate (1 - (lg_sl ([.ref h0])).length) Slot.unset).toArray = ls at hl ⊢
  have hl : lv_has ls 1 [(0, .ref h0)] := hl
  refine lv_aload_n hx hb d_NStatement_init_0 rfl (lv_at hl 0 rfl) ?_
  refine W.objInit hx hb hown (wd_142 hB _) (wd_101 hB _) (wd_102 hB _) rfl (by rw [hml]; exact hl.1) rfl d_NStatement_init_1 (Nat.le_of_ble_eq_true rfl) (Nat.le_of_ble_eq_true rfl) ?_
  refine W.eq (g2 := F0 m 4 ls []) rfl ?_
  refine lv_aload_n hx hb d_NStatement_init_4 rfl (lv_at hl 0 rfl) ?_
  refine lv_iconst (v := 5) hx hb d_NStatement_init_5 (by decide) ?_
  refine va_put (D := (dC, dI)) (ci := 9) (v := .int 5) (ty := .int) (C := "BigRunner$Statement") (T := FT9) (N := 5) hx hb (hw9 hB _) (fun _ h9 => h9) TY9 ok9 nm9 hown hK hP hD hS 0 rfl rfl 0 (by decide) (wd_143 hB _) (fun _ h9 => h9) rfl (by decide +kernel) rfl rfl (Nat.le_of_ble_eq_true rfl) d_NStatement_init_6 (fun H locs hP hD hS => ?_)
  have hP : va_P (dC, dI) vcl [(h0, .inr (9, [.int 5, .int 0, .int 0, .int 0, .int 0]))] H := hP
  have hD : va_D A [(h0, .inr (9, [.int 5, .int 0, .int 0, .int 0, .int 0]))] := hD
  refine lv_aload_n hx hb d_NStatement_init_9 rfl (lv_at hl 0 rfl) ?_
  refine lv_iconst (v := 0) hx hb d_NStatement_init_10 (by decide) ?_
  refine va_put (D := (dC, dI)) (ci := 9) (v := .int 0) (ty := .int) (C := "BigRunner$Statement") (T := FT9) (N := 5) hx hb (hw9 hB _) (fun _ h9 => h9) TY9 ok9 nm9 hown hK hP hD hS 0 rfl rfl 1 (by decide) (wd_147 hB _) (fun _ h9 => h9) rfl (by decide +kernel) rfl rfl (Nat.le_of_ble_eq_true rfl) d_NStatement_init_11 (fun H locs hP hD hS => ?_)
  have hP : va_P (dC, dI) vcl [(h0, .inr (9, [.int 5, .int 0, .int 0, .int 0, .int 0]))] H := hP
  have hD : va_D A [(h0, .inr (9, [.int 5, .int 0, .int 0, .int 0, .int 0]))] := hD
  refine lv_aload_n hx hb d_NStatement_init_14 rfl (lv_at hl 0 rfl) ?_
  refine lv_iconst (v := 0) hx hb d_NStatement_init_15 (by decide) ?_
  refine va_put (D := (dC, dI)) (ci := 9) (v := .int 0) (ty := .int) (C := "BigRunner$Statement") (T := FT9) (N := 5) hx hb (hw9 hB _) (fun _ h9 => h9) TY9 ok9 nm9 hown hK hP hD hS 0 rfl rfl 2 (by decide) (wd_151 hB _) (fun _ h9 => h9) rfl (by decide +kernel) rfl rfl (Nat.le_of_ble_eq_true rfl) d_NStatement_init_16 (fun H locs hP hD hS => ?_)
  have hP : va_P (dC, dI) vcl [(h0, .inr (9, [.int 5, .int 0, .int 0, .int 0, .int 0]))] H := hP
  have hD : va_D A [(h0, .inr (9, [.int 5, .int 0, .int 0, .int 0, .int 0]))] := hD
  refine lv_aload_n hx hb d_NStatement_init_19 rfl (lv_at hl 0 rfl) ?_
  refine lv_iconst (v := (-1)) hx hb d_NStatement_init_20 (by decide) ?_
  refine va_put (D := (dC, dI)) (ci := 9) (v := .int (-1)) (ty := .int) (C := "BigRunner$Statement") (T := FT9) (N := 5) hx hb (hw9 hB _) (fun _ h9 => h9) TY9 ok9 nm9 hown hK hP hD hS 0 rfl rfl 3 (by decide) (wd_155 hB _) (fun _ h9 => h9) rfl (by decide +kernel) rfl rfl (Nat.le_of_ble_eq_true rfl) d_NStatement_init_21 (fun H locs hP hD hS => ?_)
  have hP : va_P (dC, dI) vcl [(h0, .inr (9, [.int 5, .int 0, .int 0, .int (-1), .int 0]))] H := hP
  have hD : va_D A [(h0, .inr (9, [.int 5, .int 0, .int 0, .int (-1), .int 0]))] := hD
  refine lv_aload_n hx hb d_NStatement_init_24 rfl (lv_at hl 0 rfl) ?_
  refine lv_iconst (v := 0) hx hb d_NStatement_init_25 (by decide) ?_
  refine va_put (D := (dC, dI)) (ci := 9) (v := .int 0) (ty := .int) (C := "BigRunner$Statement") (T := FT9) (N := 5) hx hb (hw9 hB _) (fun _ h9 => h9) TY9 ok9 nm9 hown hK hP hD hS 0 rfl rfl 4 (by decide) (wd_159 hB _) (fun _ h9 => h9) rfl (by decide +kernel) rfl rfl (Nat.le_of_ble_eq_true rfl) d_NStatement_init_26 (fun H locs hP hD hS => ?_)
  have hP : va_P (dC, dI) vcl [(h0, .inr (9, [.int 5, .int 0, .int 0, .int (-1), .int 0]))] H := hP
  have hD : va_D A [(h0, .inr (9, [.int 5, .int 0, .int 0, .int (-1), .int 0]))] := hD
  have hP9 := hP.sub (ws' := [(h0, .inr (9, [.int 5, .int 0, .int 0, .int (-1), .int 0]))]) [0] rfl
  have hD9 := hD.sub (ws' := [(h0, .inr (9, [.int 5, .int 0, .int 0, .int (-1), .int 0]))]) [0] (by decide) rfl
  have hK9 := hK.sub (tys' := []) [] rfl
  refine W.widen (k := 0) (n := 0) (by omega) (by omega) ?_
  exact W.vret hx hb hr (fun t ht hW => ⟨⟨(), rfl, trivial, by rw [ht]; exact hP9, va_K.moved hW.alike hK9, hD9⟩, hS.F ht⟩) hS.2.2 d_NStatement_init_29
set_option maxHeartbeats 4000000 in
set_option maxRecDepth 100000 in
theorem c_LongNumber_init (l : Launch) (dC : Nat → ClassId) (dI : Nat → Nat → Nat) (sz : Nat) (h0 : Nat) : Met l ⟨"BigRunner$LongNumber", "<init>", "()V"⟩ [Cond.code ⟨"BigRunner$LongNumber", "<init>", "()V"⟩ prog_5_method_1_code 1 none] ({ frames := 1, cells := 1, slots := 15, locals := 12 }) (va_Pc [.ref h0] (fun U => U.heap.size = sz ∧ TB U ∧ va_P (dC, dI) vcl [(h0, .inr (4, [.int 0, .int 0, .null]))] U.heap ∧ va_K (dC, dI) vcl [] U ∧ va_D (fun _ => True) [(h0, .inr (4, [.int 0, .int 0, .null]))])) (va_Qv (fun (u : Nat) => match u with | qa => True) (fun (u : Nat) (t : State) => match u with | qa => va_P (dC, dI) vcl [(h0, .inr (4, [.int 0, .int 0, .ref qa]))] t.heap ∧ va_K (dC, dI) vcl [] t ∧ va_D (va_A [(h0, .inr (4, [.int 0, .int 0, .null]))] sz) [(h0, .inr (4, [.int 0, .int 0, .ref qa]))]) (va_A [(h0, .inr (4, [.int 0, .int 0, .null]))] sz)) 1 15 (va_A [(h0, .inr (4, [.int 0, .int 0, .null]))] sz) := by
  refine Met.ofW (cc := prog_5_method_1_code) (maxL := 1) (ret := none) (by decide) rfl ?_
  intro p e s m args below meth c s₁ B hml hv
  obtain ⟨rfl, hsz, hB, hP, hK, hD0⟩ := hv
  have hx := B.exec
  have hb := B.bytes
  have hr := B.returns
  have hown : s.vm.findClass "BigRunner$LongNumber" = some m.cls := findClass_of_methodNamed B.named
  have hlocks := B.notSynchronized
  have hin : meth.name = "<init>" := (name_of_methodNamed B.named B.method).1
  subst hsz
  have hD := hD0.self (sz := s.heap.size)
  generalize hAe : va_A [(h0, .inr (4, [.int 0, .int 0, .null]))] s.heap.size = A at hD ⊢
  have hA : ∀ q : Nat, s.heap.size ≤ q → A q := fun q h => by rw [← hAe]; exact Or.inr h
  have hS : va_S A s.heap s.heap [] := va_S.rf
  have hP : va_P (dC, dI) vcl [(h0, .inr (4, [.int 0, .int 0, .null]))] s.heap := hP
  have hl := lv_entry ([.ref h0]) (n := 1) (Nat.le_of_ble_eq_true rfl)
  rw [lg_entry_eq]
  generalize (lg_sl ([.ref h0]) ++ List.replicate (1 - (lg_sl ([.ref h0])).length) Slot.unset).toArray = ls at hl ⊢
  have hl : lv_has ls 1 [(0, .ref h0)] := hl
  refine lv_aload_n hx hb d_NLongNumber_init_0 rfl (lv_at hl 0 rfl) ?_
  refine W.objInit hx hb hown (wd_185 hB _) (wd_101 hB _) (wd_102 hB _) rfl (by rw [hml]; exact hl.1) rfl d_NLongNumber_init_1 (Nat.le_of_ble_eq_true rfl) (Nat.le_of_ble_eq_true rfl) ?_
  refine W.eq (g2 := F0 m 4 ls []) rfl ?_
  refine lv_aload_n hx hb d_NLongNumber_init_4 rfl (lv_at hl 0 rfl) ?_
  refine lv_iconst (v := 0) hx hb d_NLongNumber_init_5 (by decide) ?_
  refine va_put (D := (dC, dI)) (ci := 4) (v := .int 0) (ty := .int) (C := "BigRunner$LongNumber") (T := FT4) (N := 3) hx hb (hw4 hB _) (fun _ h9 => h9) TY4 ok4 nm4 hown hK hP hD hS 0 rfl rfl 0 (by decide) (wd_186 hB _) (fun _ h9 => h9) rfl (by decide +kernel) rfl rfl (Nat.le_of_ble_eq_true rfl) d_NLongNumber_init_6 (fun H locs hP hD hS => ?_)
  have hP : va_P (dC, dI) vcl [(h0, .inr (4, [.int 0, .int 0, .null]))] H := hP
  have hD : va_D A [(h0, .inr (4, [.int 0, .int 0, .null]))] := hD
  refine lv_aload_n hx hb d_NLongNumber_init_9 rfl (lv_at hl 0 rfl) ?_
  refine lv_iconst (v := 0) hx hb d_NLongNumber_init_10 (by decide) ?_
  refine va_put (D := (dC, dI)) (ci := 4) (v := .int 0) (ty := .int) (C := "BigRunner$LongNumber") (T := FT4) (N := 3) hx hb (hw4 hB _) (fun _ h9 => h9) TY4 ok4 nm4 hown hK hP hD hS 0 rfl rfl 1 (by decide) (wd_190 hB _) (fun _ h9 => h9) rfl (by decide +kernel) rfl rfl (Nat.le_of_ble_eq_true rfl) d_NLongNumber_init_11 (fun H locs hP hD hS => ?_)
  have hP : va_P (dC, dI) vcl [(h0, .inr (4, [.int 0, .int 0, .null]))] H := hP
  have hD : va_D A [(h0, .inr (4, [.int 0, .int 0, .null]))] := hD
  refine lv_aload_n hx hb d_NLongNumber_init_14 rfl (lv_at hl 0 rfl) ?_
  refine lv_bipush (v := 15) hx hb d_NLongNumber_init_15 (by decide) ?_
  refine va_newa (atype := .int) (a0 := (15, .inl (fun _ => 0))) (N' := 15) (ty := .int) hx hb (wd_201 hB _) rfl hK hP hD hS hA (fun _ => rfl) (by decide +kernel) (by decide +kernel) (by decide +kernel) (Nat.le_of_ble_eq_true rfl) (Nat.le_of_ble_eq_true rfl) d_NLongNumber_init_17 (fun q17_1 cA17_2 H hK hP hD hS => ?_)
  have hP : va_P (dC, dI) vcl [(h0, .inr (4, [.int 0, .int 0, .null])), (q17_1, .inl (cA17_2, 15, .inl (fun _ => 0)))] H := hP
  have hD : va_D A [(h0, .inr (4, [.int 0, .int 0, .null])), (q17_1, .inl (cA17_2, 15, .inl (fun _ => 0)))] := hD
  have hK : va_K (dC, dI) vcl [(cA17_2, .int)] s := hK
  refine W.widen (k := 1) (n := 15) (by omega) (by omega) ?_
  refine va_putF (D := (dC, dI)) (ci := 4) (v := .ref q17_1) (ty := (.array .int)) (C := "BigRunner$LongNumber") (T := FT4) (N := 3) hx hb (hw4 hB _) (fun _ h9 => h9) TY4 ok4 nm4 hown hK hP hD hS 0 rfl rfl 2 (by decide) (wd_192 hB _) (fun _ h9 => h9) rfl hin rfl (by decide +kernel) rfl rfl (Nat.le_of_ble_eq_true rfl) d_NLongNumber_init_19 (fun H locs hP hD hS => ?_)
  have hP : va_P (dC, dI) vcl [(h0, .inr (4, [.int 0, .int 0, .ref q17_1])), (q17_1, .inl (cA17_2, 15, .inl (fun _ => 0)))] H := hP
  have hD : va_D A [(h0, .inr (4, [.int 0, .int 0, .ref q17_1])), (q17_1, .inl (cA17_2, 15, .inl (fun _ => 0)))] := hD
  have hP9 := hP.sub (ws' := [(h0, .inr (4, [.int 0, .int 0, .ref q17_1]))]) [0] rfl
  have hD9 := hD.sub (ws' := [(h0, .inr (4, [.int 0, .int 0, .ref q17_1]))]) [0] (by decide) rfl
  have hK9 := hK.sub (tys' := []) [] rfl
  refine W.widen (k := 1) (n := 15) (by omega) (by omega) ?_
  exact W.vret hx hb hr (fun t ht hW => ⟨⟨(q17_1), rfl, trivial, by rw [ht]; exact hP9, va_K.moved hW.alike hK9, hD9⟩, hS.F ht⟩) hS.2.2 d_NLongNumber_init_22
set_option maxHeartbeats 4000000 in
set_option maxRecDepth 100000 in
theorem c_Inputs_init (l : Launch) (dC : Nat → ClassId) (dI : Nat → Nat → Nat) (sz : Nat) (h0 : Nat) : Met l ⟨"BigRunner$Inputs", "<init>", "()V"⟩ [Cond.code ⟨"BigRunner$Inputs", "<init>", "()V"⟩ prog_2_method_1_code 1 none] ({ frames := 1, cells := 1, slots := 20, locals := 12 }) (va_Pc [.ref h0] (fun U => U.heap.size = sz ∧ TB U ∧ va_P (dC, dI) vcl [(h0, .inr (1, [.null, .int 0, .int 0]))] U.heap ∧ va_K (dC, dI) vcl [] U ∧ va_D (fun _ => True) [(h0, .inr (1, [.null, .int 0, .int 0]))])) (va_Qv (fun (u : Nat × ClassId) => match u with | (qr, cr) => True) (fun (u : Nat × ClassId) (t : State) => match u with | (qr, cr) => va_P (dC, dI) vcl [(h0, .inr (1, [.ref qr, .int 0, .int 0])), (qr, .inl (cr, 20, .inl (fun _ => 0)))] t.heap ∧ va_K (dC, dI) vcl [(cr, .int)] t ∧ va_D (va_A [(h0, .inr (1, [.null, .int 0, .int 0]))] sz) [(h0, .inr (1, [.ref qr, .int 0, .int 0])), (qr, .inl (cr, 20, .inl (fun _ => 0)))]) (va_A [(h0, .inr (1, [.null, .int 0, .int 0]))] sz)) 1 20 (va_A [(h0, .inr (1, [.null, .int 0, .int 0]))] sz) := by
  refine Met.ofW (cc := prog_2_method_1_code) (maxL := 1) (ret := none) (by decide) rfl ?_
  intro p e s m args below meth c s₁ B hml hv
  obtain ⟨rfl, hsz, hB, hP, hK, hD0⟩ := hv
  have hx := B.exec
  have hb := B.bytes
  have hr := B.returns
  have hown : s.vm.findClass "BigRunner$Inputs" = some m.cls := findClass_of_methodNamed B.named
  have hlocks := B.notSynchronized
  have hin : meth.name = "<init>" := (name_of_methodNamed B.named B.method).1
  subst hsz
  have hD := hD0.self (sz := s.heap.size)
  generalize hAe : va_A [(h0, .inr (1, [.null, .int 0, .int 0]))] s.heap.size = A at hD ⊢
  have hA : ∀ q : Nat, s.heap.size ≤ q → A q := fun q h => by rw [← hAe]; exact Or.inr h
  have hS : va_S A s.heap s.heap [] := va_S.rf
  have hP : va_P (dC, dI) vcl [(h0, .inr (1, [.null, .int 0, .int 0]))] s.heap := hP
  have hl := lv_entry ([.ref h0]) (n := 1) (Nat.le_of_ble_eq_true rfl)
  rw [lg_entry_eq]
  generalize (lg_sl ([.ref h0]) ++ List.replicate (1 - (lg_sl ([.ref h0])).length) Slot.unset).toArray = ls at hl ⊢
  have hl : lv_has ls 1 [(0, .ref h0)] := hl
  refine lv_aload_n hx hb d_NInputs_init_0 rfl (lv_at hl 0 rfl) ?_
  refine W.objInit hx hb hown (wd_297 hB _) (wd_101 hB _) (wd_102 hB _) rfl (by rw [hml]; exact hl.1) rfl d_NInputs_init_1 (Nat.le_of_ble_eq_true rfl) (Nat.le_of_ble_eq_true rfl) ?_
  refine W.eq (g2 := F0 m 4 ls []) rfl ?_
  refine lv_aload_n hx hb d_NInputs_init_4 rfl (lv_at hl 0 rfl) ?_
  refine lv_bipush (v := 20) hx hb d_NInputs_init_5 (by decide) ?_
  refine va_newa (atype := .int) (a0 := (20, .inl (fun _ => 0))) (N' := 20) (ty := .int) hx hb (wd_201 hB _) rfl hK hP hD hS hA (fun _ => rfl) (by decide +kernel) (by decide +kernel) (by decide +kernel) (Nat.le_of_ble_eq_true rfl) (Nat.le_of_ble_eq_true rfl) d_NInputs_init_7 (fun q7_1 cA7_2 H hK hP hD hS => ?_)
  have hP : va_P (dC, dI) vcl [(h0, .inr (1, [.null, .int 0, .int 0])), (q7_1, .inl (cA7_2, 20, .inl (fun _ => 0)))] H := hP
  have hD : va_D A [(h0, .inr (1, [.null, .int 0, .int 0])), (q7_1, .inl (cA7_2, 20, .inl (fun _ => 0)))] := hD
  have hK : va_K (dC, dI) vcl [(cA7_2, .int)] s := hK
  refine W.widen (k := 1) (n := 20) (by omega) (by omega) ?_
  refine va_putF (D := (dC, dI)) (ci := 1) (v := .ref q7_1) (ty := (.array .int)) (C := "BigRunner$Inputs") (T := FT1) (N := 3) hx hb (hw1 hB _) (fun _ h9 => h9) TY1 ok1 nm1 hown hK hP hD hS 0 rfl rfl 0 (by decide) (wd_298 hB _) (fun _ h9 => h9) rfl hin rfl (by decide +kernel) rfl rfl (Nat.le_of_ble_eq_true rfl) d_NInputs_init_9 (fun H locs hP hD hS => ?_)
  have hP : va_P (dC, dI) vcl [(h0, .inr (1, [.ref q7_1, .int 0, .int 0])), (q7_1, .inl (cA7_2, 20, .inl (fun _ => 0)))] H := hP
  have hD : va_D A [(h0, .inr (1, [.ref q7_1, .int 0, .int 0])), (q7_1, .inl (cA7_2, 20, .inl (fun _ => 0)))] := hD
  refine lv_aload_n hx hb d_NInputs_init_12 rfl (lv_at hl 0 rfl) ?_
  refine lv_iconst (v := 0) hx hb d_NInputs_init_13 (by decide) ?_
  refine va_put (D := (dC, dI)) (ci := 1) (v := .int 0) (ty := .int) (C := "BigRunner$Inputs") (T := FT1) (N := 3) hx hb (hw1 hB _) (fun _ h9 => h9) TY1 ok1 nm1 hown hK hP hD hS 0 rfl rfl 1 (by decide) (wd_299 hB _) (fun _ h9 => h9) rfl (by decide +kernel) rfl rfl (Nat.le_of_ble_eq_true rfl) d_NInputs_init_14 (fun H locs hP hD hS => ?_)
  have hP : va_P (dC, dI) vcl [(h0, .inr (1, [.ref q7_1, .int 0, .int 0])), (q7_1, .inl (cA7_2, 20, .inl (fun _ => 0)))] H := hP
  have hD : va_D A [(h0, .inr (1, [.ref q7_1, .int 0, .int 0])), (q7_1, .inl (cA7_2, 20, .inl (fun _ => 0)))] := hD
  refine lv_aload_n hx hb d_NInputs_init_17 rfl (lv_at hl 0 rfl) ?_
  refine lv_iconst (v := 0) hx hb d_NInputs_init_18 (by decide) ?_
  refine va_put (D := (dC, dI)) (ci := 1) (v := .int 0) (ty := .int) (C := "BigRunner$Inputs") (T := FT1) (N := 3) hx hb (hw1 hB _) (fun _ h9 => h9) TY1 ok1 nm1 hown hK hP hD hS 0 rfl rfl 2 (by decide) (wd_300 hB _) (fun _ h9 => h9) rfl (by decide +kernel) rfl rfl (Nat.le_of_ble_eq_true rfl) d_NInputs_init_19 (fun H locs hP hD hS => ?_)
  have hP : va_P (dC, dI) vcl [(h0, .inr (1, [.ref q7_1, .int 0, .int 0])), (q7_1, .inl (cA7_2, 20, .inl (fun _ => 0)))] H := hP
  have hD : va_D A [(h0, .inr (1, [.ref q7_1, .int 0, .int 0])), (q7_1, .inl (cA7_2, 20, .inl (fun _ => 0)))] := hD
  have hP9 := hP.sub (ws' := [(h0, .inr (1, [.ref q7_1, .int 0, .int 0])), (q7_1, .inl (cA7_2, 20, .inl (fun _ => 0)))]) [0, 1] rfl
  have hD9 := hD.sub (ws' := [(h0, .inr (1, [.ref q7_1, .int 0, .int 0])), (q7_1, .inl (cA7_2, 20, .inl (fun _ => 0)))]) [0, 1] (by decide) rfl
  have hK9 := hK.sub (tys' := [(cA7_2, .int)]) [0] rfl
  refine W.widen (k := 1) (n := 20) (by omega) (by omega) ?_
  exact W.vret hx hb hr (fun t ht hW => ⟨⟨(q7_1, cA7_2), rfl, trivial, by rw [ht]; exact hP9, va_K.moved hW.alike hK9, hD9⟩, hS.F ht⟩) hS.2.2 d_NInputs_init_22
set_option maxHeartbeats 4000000 in
set_option maxRecDepth 100000 in
theorem c_LongDivision_init (l : Launch) (dC : Nat → ClassId) (dI : Nat → Nat → Nat) (sz : Nat) (h0 : Nat) : Met l ⟨"BigRunner$LongDivision", "<init>", "()V"⟩ [Cond.code ⟨"BigRunner$LongDivision", "<init>", "()V"⟩ prog_4_method_1_code 1 none] ({ frames := 1, cells := 2, slots := 32, locals := 12 }) (va_Pc [.ref h0] (fun U => U.heap.size = sz ∧ TB U ∧ va_P (dC, dI) vcl [(h0, .inr (3, [.null, .null, .int 0]))] U.heap ∧ va_K (dC, dI) vcl [] U ∧ va_D (fun _ => True) [(h0, .inr (3, [.null, .null, .int 0]))])) (va_Qv (fun (u : Nat × Nat) => match u with | (qa, qb) => True) (fun (u : Nat × Nat) (t : State) => match u with | (qa, qb) => va_P (dC, dI) vcl [(h0, .inr (3, [.ref qa, .ref qb, .int 0]))] t.heap ∧ va_K (dC, dI) vcl [] t ∧ va_D (va_A [(h0, .inr (3, [.null, .null, .int 0]))] sz) [(h0, .inr (3, [.ref qa, .ref qb, .int 0]))]) (va_A [(h0, .inr (3, [.null, .null, .int 0]))] sz)) 2 32 (va_A [(h0, .inr (3, [.null, .null, .int 0]))] sz) := by
  refine Met.ofW (cc := prog_4_method_1_code) (maxL := 1) (ret := none) (by decide) rfl ?_
  intro p e s m args below meth c s₁ B hml hv
  obtain ⟨rfl, hsz, hB, hP, hK, hD0⟩ := hv
  have hx := B.exec
  have hb := B.bytes
  have hr := B.returns
  have hown : s.vm.findClass "BigRunner$LongDivision" = some m.cls := findClass_of_methodNamed B.named
  have hlocks := B.notSynchronized
  have hin : meth.name = "<init>" := (name_of_methodNamed B.named B.method).1
  subst hsz
  have hD := hD0.self (sz := s.heap.size)
  generalize hAe : va_A [(h0, .inr (3, [.null, .null, .int 0]))] s.heap.size = A at hD ⊢
  have hA : ∀ q : Nat, s.heap.size ≤ q → A q := fun q h => by rw [← hAe]; exact Or.inr h
  have hS : va_S A s.heap s.heap [] := va_S.rf
  have hP : va_P (dC, dI) vcl [(h0, .inr (3, [.null, .null, .int 0]))] s.heap := hP
  have hl := lv_entry ([.ref h0]) (n := 1) (Nat.le_of_ble_eq_true rfl)
  rw [lg_entry_eq]
  generalize (lg_sl ([.ref h0]) ++ List.replicate (1 - (lg_sl ([.ref h0])).length) Slot.unset).toArray = ls at hl ⊢
  have hl : lv_has ls 1 [(0, .ref h0)] := hl
  refine lv_aload_n hx hb d_NLongDivision_init_0 rfl (lv_at hl 0 rfl) ?_
  refine W.objInit hx hb hown (wd_318 hB _) (wd_101 hB _) (wd_102 hB _) rfl (by rw [hml]; exact hl.1) rfl d_NLongDivision_init_1 (Nat.le_of_ble_eq_true rfl) (Nat.le_of_ble_eq_true rfl) ?_
  refine W.eq (g2 := F0 m 4 ls []) rfl ?_
  refine lv_aload_n hx hb d_NLongDivision_init_4 rfl (lv_at hl 0 rfl) ?_
  refine lv_bipush (v := 16) hx hb d_NLongDivision_init_5 (by decide) ?_
  refine va_newa (atype := .int) (a0 := (16, .inl (fun _ => 0))) (N' := 16) (ty := .int) hx hb (wd_201 hB _) rfl hK hP hD hS hA (fun _ => rfl) (by decide +kernel) (by decide +kernel) (by decide +kernel) (Nat.le_of_ble_eq_true rfl) (Nat.le_of_ble_eq_true rfl) d_NLongDivision_init_7 (fun q7_1 cA7_2 H hK hP hD hS => ?_)
  have hP : va_P (dC, dI) vcl [(h0, .inr (3, [.null, .null, .int 0])), (q7_1, .inl (cA7_2, 16, .inl (fun _ => 0)))] H := hP
  have hD : va_D A [(h0, .inr (3, [.null, .null, .int 0])), (q7_1, .inl (cA7_2, 16, .inl (fun _ => 0)))] := hD
  have hK : va_K (dC, dI) vcl [(cA7_2, .int)] s := hK
  refine W.widen (k := 1) (n := 16) (by omega) (by omega) ?_
  refine va_putF (D := (dC, dI)) (ci := 3) (v := .ref q7_1) (ty := (.array .int)) (C := "BigRunner$LongDivision") (T := FT3) (N := 3) hx hb (hw3 hB _) (fun _ h9 => h9) TY3 ok3 nm3 hown hK hP hD hS 0 rfl rfl 0 (by decide) (wd_319 hB _) (fun _ h9 => h9) rfl hin rfl (by decide +kernel) rfl rfl (Nat.le_of_ble_eq_true rfl) d_NLongDivision_init_9 (fun H locs hP hD hS => ?_)
  have hP : va_P (dC, dI) vcl [(h0, .inr (3, [.ref q7_1, .null, .int 0])), (q7_1, .inl (cA7_2, 16, .inl (fun _ => 0)))] H := hP
  have hD : va_D A [(h0, .inr (3, [.ref q7_1, .null, .int 0])), (q7_1, .inl (cA7_2, 16, .inl (fun _ => 0)))] := hD
  refine lv_aload_n hx hb d_NLongDivision_init_12 rfl (lv_at hl 0 rfl) ?_
  refine lv_bipush (v := 16) hx hb d_NLongDivision_init_13 (by decide) ?_
  refine va_newa (atype := .int) (a0 := (16, .inl (fun _ => 0))) (N' := 16) (ty := .int) hx hb (wd_201 hB _) rfl hK hP hD hS hA (fun _ => rfl) (by decide +kernel) (by decide +kernel) (by decide +kernel) (Nat.le_of_ble_eq_true rfl) (Nat.le_of_ble_eq_true rfl) d_NLongDivision_init_15 (fun q15_3 cA15_4 H hK hP hD hS => ?_)
  have hP : va_P (dC, dI) vcl [(h0, .inr (3, [.ref q7_1, .null, .int 0])), (q7_1, .inl (cA7_2, 16, .inl (fun _ => 0))), (q15_3, .inl (cA15_4, 16, .inl (fun _ => 0)))] H := hP
  have hD : va_D A [(h0, .inr (3, [.ref q7_1, .null, .int 0])), (q7_1, .inl (cA7_2, 16, .inl (fun _ => 0))), (q15_3, .inl (cA15_4, 16, .inl (fun _ => 0)))] := hD
  have hK : va_K (dC, dI) vcl [(cA7_2, .int), (cA15_4, .int)] s := hK
  refine W.widen (k := 2) (n := 32) (by omega) (by omega) ?_
  refine va_putF (D := (dC, dI)) (ci := 3) (v := .ref q15_3) (ty := (.array .int)) (C := "BigRunner$LongDivision") (T := FT3) (N := 3) hx hb (hw3 hB _) (fun _ h9 => h9) TY3 ok3 nm3 hown hK hP hD hS 0 rfl rfl 1 (by decide) (wd_320 hB _) (fun _ h9 => h9) rfl hin rfl (by decide +kernel) rfl rfl (Nat.le_of_ble_eq_true rfl) d_NLongDivision_init_17 (fun H locs hP hD hS => ?_)
  have hP : va_P (dC, dI) vcl [(h0, .inr (3, [.ref q7_1, .ref q15_3, .int 0])), (q7_1, .inl (cA7_2, 16, .inl (fun _ => 0))), (q15_3, .inl (cA15_4, 16, .inl (fun _ => 0)))] H := hP
  have hD : va_D A [(h0, .inr (3, [.ref q7_1, .ref q15_3, .int 0])), (q7_1, .inl (cA7_2, 16, .inl (fun _ => 0))), (q15_3, .inl (cA15_4, 16, .inl (fun _ => 0)))] := hD
  refine lv_aload_n hx hb d_NLongDivision_init_20 rfl (lv_at hl 0 rfl) ?_
  refine lv_iconst (v := 0) hx hb d_NLongDivision_init_21 (by decide) ?_
  refine va_put (D := (dC, dI)) (ci := 3) (v := .int 0) (ty := .int) (C := "BigRunner$LongDivision") (T := FT3) (N := 3) hx hb (hw3 hB _) (fun _ h9 => h9) TY3 ok3 nm3 hown hK hP hD hS 0 rfl rfl 2 (by decide) (wd_321 hB _) (fun _ h9 => h9) rfl (by decide +kernel) rfl rfl (Nat.le_of_ble_eq_true rfl) d_NLongDivision_init_22 (fun H locs hP hD hS => ?_)
  have hP : va_P (dC, dI) vcl [(h0, .inr (3, [.ref q7_1, .ref q15_3, .int 0])), (q7_1, .inl (cA7_2, 16, .inl (fun _ => 0))), (q15_3, .inl (cA15_4, 16, .inl (fun _ => 0)))] H := hP
  have hD : va_D A [(h0, .inr (3, [.ref q7_1, .ref q15_3, .int 0])), (q7_1, .inl (cA7_2, 16, .inl (fun _ => 0))), (q15_3, .inl (cA15_4, 16, .inl (fun _ => 0)))] := hD
  have hP9 := hP.sub (ws' := [(h0, .inr (3, [.ref q7_1, .ref q15_3, .int 0]))]) [0] rfl
  have hD9 := hD.sub (ws' := [(h0, .inr (3, [.ref q7_1, .ref q15_3, .int 0]))]) [0] (by decide) rfl
  have hK9 := hK.sub (tys' := []) [] rfl
  refine W.widen (k := 2) (n := 32) (by omega) (by omega) ?_
  exact W.vret hx hb hr (fun t ht hW => ⟨⟨(q7_1, q15_3), rfl, trivial, by rw [ht]; exact hP9, va_K.moved hW.alike hK9, hD9⟩, hS.F ht⟩) hS.2.2 d_NLongDivision_init_25
set_option maxHeartbeats 4000000 in
set_option maxRecDepth 100000 in
theorem c_Node_init (l : Launch) (dC : Nat → ClassId) (dI : Nat → Nat → Nat) (sz : Nat) (h0 : Nat) : Met l ⟨"BigRunner$Node", "<init>", "()V"⟩ [Cond.code ⟨"BigRunner$Node", "<init>", "()V"⟩ prog_6_method_1_code 1 none] ({ frames := 2, cells := 3, slots := 20, locals := 32 }) (va_Pc [.ref h0] (fun U => U.heap.size = sz ∧ TB U ∧ va_P (dC, dI) vcl [(h0, .inr (5, [.int 0, .int 0, .int 0, .null, .int 0, .long 0, .null]))] U.heap ∧ va_K (dC, dI) vcl [] U ∧ va_D (fun _ => True) [(h0, .inr (5, [.int 0, .int 0, .int 0, .null, .int 0, .long 0, .null]))])) (va_Qv (fun (u : Nat × Nat) => match u with | (qi, ql) => True) (fun (u : Nat × Nat) (t : State) => match u with | (qi, ql) => va_P (dC, dI) vcl [(h0, .inr (5, [.int 0, .int 0, .int 0, .ref qi, .int 1, .long 0, .ref ql]))] t.heap ∧ va_K (dC, dI) vcl [] t ∧ va_D (va_A [(h0, .inr (5, [.int 0, .int 0, .int 0, .null, .int 0, .long 0, .null]))] sz) [(h0, .inr (5, [.int 0, .int 0, .int 0, .ref qi, .int 1, .long 0, .ref ql]))]) (va_A [(h0, .inr (5, [.int 0, .int 0, .int 0, .null, .int 0, .long 0, .null]))] sz)) 3 20 (va_A [(h0, .inr (5, [.int 0, .int 0, .int 0, .null, .int 0, .long 0, .null]))] sz) := by
  refine Met.ofW (cc := prog_6_method_1_code) (maxL := 1) (ret := none) (by decide) rfl ?_
  intro p e s m args below meth c s₁ B hml hv
  obtain ⟨rfl, hsz, hB, hP, hK, hD0⟩ := hv
  have hx := B.exec
  have hb := B.bytes
  have hr := B.returns
  have hown : s.vm.findClass "BigRunner$Node" = some m.cls := findClass_of_methodNamed B.named
  have hlocks := B.notSynchronized
  have hin : meth.name = "<init>" := (name_of_methodNamed B.named B.method).1
  subst hsz
  have hD := hD0.self (sz := s.heap.size)
  generalize hAe : va_A [(h0, .inr (5, [.int 0, .int 0, .int 0, .null, .int 0, .long 0, .null]))] s.heap.size = A at hD ⊢
  have hA : ∀ q : Nat, s.heap.size ≤ q → A q := fun q h => by rw [← hAe]; exact Or.inr h
  have hS : va_S A s.heap s.heap [] := va_S.rf
  have hP : va_P (dC, dI) vcl [(h0, .inr (5, [.int 0, .int 0, .int 0, .null, .int 0, .long 0, .null]))] s.heap := hP
  have hl := lv_entry ([.ref h0]) (n := 1) (Nat.le_of_ble_eq_true rfl)
  rw [lg_entry_eq]
  generalize (lg_sl ([.ref h0]) ++ List.replicate (1 - (lg_sl ([.ref h0])).length) Slot.unset).toArray = ls at hl ⊢
  have hl : lv_has ls 1 [(0, .ref h0)] := hl
  refine lv_aload_n hx hb d_NNode_init_0 rfl (lv_at hl 0 rfl) ?_
  refine W.objInit hx hb hown (wd_177 hB _) (wd_101 hB _) (wd_102 hB _) rfl (by rw [hml]; exact hl.1) rfl d_NNode_init_1 (Nat.le_of_ble_eq_true rfl) (Nat.le_of_ble_eq_true rfl) ?_
  refine W.eq (g2 := F0 m 4 ls []) rfl ?_
  refine lv_aload_n hx hb d_NNode_init_4 rfl (lv_at hl 0 rfl) ?_
  refine lv_iconst (v := 0) hx hb d_NNode_init_5 (by decide) ?_
  refine va_put (D := (dC, dI)) (ci := 5) (v := .int 0) (ty := .int) (C := "BigRunner$Node") (T := FT5) (N := 7) hx hb (hw5 hB _) (fun _ h9 => h9) TY5 ok5 nm5 hown hK hP hD hS 0 rfl rfl 0 (by decide) (wd_202 hB _) (fun _ h9 => h9) rfl (by decide +kernel) rfl rfl (Nat.le_of_ble_eq_true rfl) d_NNode_init_6 (fun H locs hP hD hS => ?_)
  have hP : va_P (dC, dI) vcl [(h0, .inr (5, [.int 0, .int 0, .int 0, .null, .int 0, .long 0, .null]))] H := hP
  have hD : va_D A [(h0, .inr (5, [.int 0, .int 0, .int 0, .null, .int 0, .long 0, .null]))] := hD
  refine lv_aload_n hx hb d_NNode_init_9 rfl (lv_at hl 0 rfl) ?_
  refine lv_iconst (v := 0) hx hb d_NNode_init_10 (by decide) ?_
  refine va_put (D := (dC, dI)) (ci := 5) (v := .int 0) (ty := .int) (C := "BigRunner$Node") (T := FT5) (N := 7) hx hb (hw5 hB _) (fun _ h9 => h9) TY5 ok5 nm5 hown hK hP hD hS 0 rfl rfl 1 (by decide) (wd_206 hB _) (fun _ h9 => h9) rfl (by decide +kernel) rfl rfl (Nat.le_of_ble_eq_true rfl) d_NNode_init_11 (fun H locs hP hD hS => ?_)
  have hP : va_P (dC, dI) vcl [(h0, .inr (5, [.int 0, .int 0, .int 0, .null, .int 0, .long 0, .null]))] H := hP
  have hD : va_D A [(h0, .inr (5, [.int 0, .int 0, .int 0, .null, .int 0, .long 0, .null]))] := hD
  refine lv_aload_n hx hb d_NNode_init_14 rfl (lv_at hl 0 rfl) ?_
  refine lv_iconst (v := 0) hx hb d_NNode_init_15 (by decide) ?_
  refine va_put (D := (dC, dI)) (ci := 5) (v := .int 0) (ty := .int) (C := "BigRunner$Node") (T := FT5) (N := 7) hx hb (hw5 hB _) (fun _ h9 => h9) TY5 ok5 nm5 hown hK hP hD hS 0 rfl rfl 2 (by decide) (wd_210 hB _) (fun _ h9 => h9) rfl (by decide +kernel) rfl rfl (Nat.le_of_ble_eq_true rfl) d_NNode_init_16 (fun H locs hP hD hS => ?_)
  have hP : va_P (dC, dI) vcl [(h0, .inr (5, [.int 0, .int 0, .int 0, .null, .int 0, .long 0, .null]))] H := hP
  have hD : va_D A [(h0, .inr (5, [.int 0, .int 0, .int 0, .null, .int 0, .long 0, .null]))] := hD
  refine lv_aload_n hx hb d_NNode_init_19 rfl (lv_at hl 0 rfl) ?_
  refine va_new (ci := 2) (fs := [.long 0, .long 0]) (C := "BigRunner$Interval") (T := FT2) (N := 2) hx hb (hw2 hB _) (fun _ h9 => h9) TY2 ok2 hown (wd_178 hB _) (wd_121 hB _) (wd_75 hB _) hK hP hD hS hA rfl (fun j hj => by rcases (show j = 0 ∨ j = 1 by omega) with rfl | rfl <;> rfl) (Nat.le_of_ble_eq_true rfl) (Nat.le_of_ble_eq_true rfl) d_NNode_init_20 (fun q20_1 H hP hD hS => ?_)
  have hP : va_P (dC, dI) vcl [(h0, .inr (5, [.int 0, .int 0, .int 0, .null, .int 0, .long 0, .null])), (q20_1, .inr (2, [.long 0, .long 0]))] H := hP
  have hD : va_D A [(h0, .inr (5, [.int 0, .int 0, .int 0, .null, .int 0, .long 0, .null])), (q20_1, .inr (2, [.long 0, .long 0]))] := hD
  refine W.widen (k := 1) (n := 2) (by omega) (by omega) ?_
  refine lv_dup hx hb d_NNode_init_23 rfl ?_
  have hPc := hP.sub (ws' := [(q20_1, .inr (2, [.long 0, .long 0]))]) [1] rfl
  have hDc := hD.sub (ws' := [(q20_1, .inr (2, [.long 0, .long 0]))]) [1] (by decide) rfl
  have hKc := hK.sub (tys' := []) [] rfl
  have hFc := va_free (wc := [(q20_1, .inr (2, [.long 0, .long 0]))]) hD hS hA [1] rfl
  refine va_callv (va_runIN (As := []) (rest := [.ref q20_1, .ref h0]) ⟨hx, hb, hml, hown, tb_nil⟩ (c_Interval_init l dC dI H.size q20_1) ⟨(va_cnB 0 (tb_one (wd_124 hB _)) tb_good1 rfl rfl rfl (va_Nw.of (A := #[]) rfl (wd_179 hB _)) (wd_75 hB _) (by decide +kernel) ⟨Nat.le_of_ble_eq_true rfl, Nat.le_of_ble_eq_true rfl⟩), rfl, (wd_123 hB _)⟩ ⟨fun a U g mk q => by obtain ⟨q0, q1, qB, qP, qK, qD⟩ := q; exact ⟨q0, q1, TB.same (s := U) (U := U.calling g mk a) rfl qB, qP, va_K.moved (u := U) (U := U.calling g mk a) (Vm.Alike.refl U.vm) qK, qD⟩, fun U hU hW => ⟨rfl, by rw [hU], hB.moved hW, by rw [hU]; exact hPc, va_K.moved hW.alike hKc, hDc.weaken (fun _ _ _ _ => trivial)⟩⟩ rfl rfl hl.1 rfl (lv_room (Nat.le_of_ble_eq_true rfl)) d_NNode_init_24 ⟨(Nat.le_of_ble_eq_true rfl), (Nat.le_of_ble_eq_true rfl)⟩) hS (fun q _ h => hFc q h) hFc (fun u_ t H1 locs ht hvm hw_ hB1 hz1 hk1 hS => ?_)
  obtain ⟨hP1, hK1, hD1⟩ := hB1
  rw [ht] at hP1
  have hK1 := va_K.moved hvm.symm hK1
  try dsimp only at hw_
  obtain ⟨hP, hD⟩ := va_join (wr := [(h0, .inr (5, [.int 0, .int 0, .int 0, .null, .int 0, .long 0, .null]))]) (w1 := [(q20_1, .inr (2, [.long 0, .long 0]))]) hP hD [1] [0] rfl rfl (by decide) (by decide) hk1 hFc hP1 hD1
  have hK := (hK.sub (tys' := []) [] rfl).app hK1
  clear hk1 hFc hPc hDc hKc hP1 hD1 hK1 hz1 ht hvm
  generalize H1 = H at hP hS ⊢
  have hP : va_P (dC, dI) vcl [(h0, .inr (5, [.int 0, .int 0, .int 0, .null, .int 0, .long 0, .null])), (q20_1, .inr (2, [.long 0, .long 0]))] H := hP
  have hD : va_D A [(h0, .inr (5, [.int 0, .int 0, .int 0, .null, .int 0, .long 0, .null])), (q20_1, .inr (2, [.long 0, .long 0]))] := hD
  have hK : va_K (dC, dI) vcl [] s := hK
  refine W.widen (k := 1) (n := 2) (by omega) (by omega) ?_
  refine va_putF (D := (dC, dI)) (ci := 5) (v := .ref q20_1) (ty := (.object "BigRunner$Interval")) (C := "BigRunner$Node") (T := FT5) (N := 7) hx hb (hw5 hB _) (fun _ h9 => h9) TY5 ok5 nm5 hown hK hP hD hS 0 rfl rfl 3 (by decide) (wd_214 hB _) (fun _ h9 => h9) rfl hin rfl (by decide +kernel) rfl rfl (Nat.le_of_ble_eq_true rfl) d_NNode_init_27 (fun H locs hP hD hS => ?_)
  have hP : va_P (dC, dI) vcl [(h0, .inr (5, [.int 0, .int 0, .int 0, .ref q20_1, .int 0, .long 0, .null])), (q20_1, .inr (2, [.long 0, .long 0]))] H := hP
  have hD : va_D A [(h0, .inr (5, [.int 0, .int 0, .int 0, .ref q20_1, .int 0, .long 0, .null])), (q20_1, .inr (2, [.long 0, .long 0]))] := hD
  refine lv_aload_n hx hb d_NNode_init_30 rfl (lv_at hl 0 rfl) ?_
  refine lv_iconst (v := 1) hx hb d_NNode_init_31 (by decide) ?_
  refine va_put (D := (dC, dI)) (ci := 5) (v := .int 1) (ty := .boolean) (C := "BigRunner$Node") (T := FT5) (N := 7) hx hb (hw5 hB _) (fun _ h9 => h9) TY5 ok5 nm5 hown hK hP hD hS 0 rfl rfl 4 (by decide) (wd_216 hB _) (fun _ h9 => h9) rfl (by decide +kernel) rfl rfl (Nat.le_of_ble_eq_true rfl) d_NNode_init_32 (fun H locs hP hD hS => ?_)
  have hP : va_P (dC, dI) vcl [(h0, .inr (5, [.int 0, .int 0, .int 0, .ref q20_1, .int 1, .long 0, .null])), (q20_1, .inr (2, [.long 0, .long 0]))] H := hP
  have hD : va_D A [(h0, .inr (5, [.int 0, .int 0, .int 0, .ref q20_1, .int 1, .long 0, .null])), (q20_1, .inr (2, [.long 0, .long 0]))] := hD
  refine lv_aload_n hx hb d_NNode_init_35 rfl (lv_at hl 0 rfl) ?_
  refine lv_lconst (v := 0) hx hb d_NNode_init_36 (by decide) ?_
  refine va_put (D := (dC, dI)) (ci := 5) (v := .long 0) (ty := .long) (C := "BigRunner$Node") (T := FT5) (N := 7) hx hb (hw5 hB _) (fun _ h9 => h9) TY5 ok5 nm5 hown hK hP hD hS 0 rfl rfl 5 (by decide) (wd_219 hB _) (fun _ h9 => h9) rfl (by decide +kernel) rfl rfl (Nat.le_of_ble_eq_true rfl) d_NNode_init_37 (fun H locs hP hD hS => ?_)
  have hP : va_P (dC, dI) vcl [(h0, .inr (5, [.int 0, .int 0, .int 0, .ref q20_1, .int 1, .long 0, .null])), (q20_1, .inr (2, [.long 0, .long 0]))] H := hP
  have hD : va_D A [(h0, .inr (5, [.int 0, .int 0, .int 0, .ref q20_1, .int 1, .long 0, .null])), (q20_1, .inr (2, [.long 0, .long 0]))] := hD
  refine lv_aload_n hx hb d_NNode_init_40 rfl (lv_at hl 0 rfl) ?_
  refine va_new (ci := 4) (fs := [.int 0, .int 0, .null]) (C := "BigRunner$LongNumber") (T := FT4) (N := 3) hx hb (hw4 hB _) (fun _ h9 => h9) TY4 ok4 hown (wd_180 hB _) (wd_181 hB _) (wd_78 hB _) hK hP hD hS hA rfl (fun j hj => by rcases (show j = 0 ∨ j = 1 ∨ j = 2 by omega) with rfl | rfl | rfl <;> rfl) (Nat.le_of_ble_eq_true rfl) (Nat.le_of_ble_eq_true rfl) d_NNode_init_41 (fun q41_2 H hP hD hS => ?_)
  have hP : va_P (dC, dI) vcl [(h0, .inr (5, [.int 0, .int 0, .int 0, .ref q20_1, .int 1, .long 0, .null])), (q20_1, .inr (2, [.long 0, .long 0])), (q41_2, .inr (4, [.int 0, .int 0, .null]))] H := hP
  have hD : va_D A [(h0, .inr (5, [.int 0, .int 0, .int 0, .ref q20_1, .int 1, .long 0, .null])), (q20_1, .inr (2, [.long 0, .long 0])), (q41_2, .inr (4, [.int 0, .int 0, .null]))] := hD
  refine W.widen (k := 2) (n := 5) (by omega) (by omega) ?_
  refine lv_dup hx hb d_NNode_init_44 rfl ?_
  have hPc := hP.sub (ws' := [(q41_2, .inr (4, [.int 0, .int 0, .null]))]) [2] rfl
  have hDc := hD.sub (ws' := [(q41_2, .inr (4, [.int 0, .int 0, .null]))]) [2] (by decide) rfl
  have hKc := hK.sub (tys' := []) [] rfl
  have hFc := va_free (wc := [(q41_2, .inr (4, [.int 0, .int 0, .null]))]) hD hS hA [2] rfl
  refine va_callv (va_runIN (As := []) (rest := [.ref q41_2, .ref h0]) ⟨hx, hb, hml, hown, tb_nil⟩ (c_LongNumber_init l dC dI H.size q41_2) ⟨(va_cnB 0 (tb_one (wd_184 hB _)) tb_good1 rfl rfl rfl (va_Nw.of (A := #[]) rfl (wd_182 hB _)) (wd_78 hB _) (by decide +kernel) ⟨Nat.le_of_ble_eq_true rfl, Nat.le_of_ble_eq_true rfl⟩), rfl, (wd_183 hB _)⟩ ⟨fun a U g mk q => by obtain ⟨q0, q1, qB, qP, qK, qD⟩ := q; exact ⟨q0, q1, TB.same (s := U) (U := U.calling g mk a) rfl qB, qP, va_K.moved (u := U) (U := U.calling g mk a) (Vm.Alike.refl U.vm) qK, qD⟩, fun U hU hW => ⟨rfl, by rw [hU], hB.moved hW, by rw [hU]; exact hPc, va_K.moved hW.alike hKc, hDc.weaken (fun _ _ _ _ => trivial)⟩⟩ rfl rfl hl.1 rfl (lv_room (Nat.le_of_ble_eq_true rfl)) d_NNode_init_45 ⟨(Nat.le_of_ble_eq_true rfl), (Nat.le_of_ble_eq_true rfl)⟩) hS (fun q _ h => hFc q h) hFc (fun u_ t H1 locs ht hvm hw_ hB1 hz1 hk1 hS => ?_)
  obtain ⟨u45_3, rfl⟩ : ∃ z, z = u_ := ⟨_, rfl⟩
  obtain ⟨hP1, hK1, hD1⟩ := hB1
  rw [ht] at hP1
  have hK1 := va_K.moved hvm.symm hK1
  try dsimp only at hw_
  obtain ⟨hP, hD⟩ := va_join (wr := [(h0, .inr (5, [.int 0, .int 0, .int 0, .ref q20_1, .int 1, .long 0, .null])), (q20_1, .inr (2, [.long 0, .long 0]))]) (w1 := [(q41_2, .inr (4, [.int 0, .int 0, .ref u45_3]))]) hP hD [2] [0, 1] rfl rfl (by decide) (by decide) hk1 hFc hP1 hD1
  have hK := (hK.sub (tys' := []) [] rfl).app hK1
  clear hk1 hFc hPc hDc hKc hP1 hD1 hK1 hz1 ht hvm
  generalize H1 = H at hP hS ⊢
  have hP : va_P (dC, dI) vcl [(h0, .inr (5, [.int 0, .int 0, .int 0, .ref q20_1, .int 1, .long 0, .null])), (q20_1, .inr (2, [.long 0, .long 0])), (q41_2, .inr (4, [.int 0, .int 0, .ref u45_3]))] H := hP
  have hD : va_D A [(h0, .inr (5, [.int 0, .int 0, .int 0, .ref q20_1, .int 1, .long 0, .null])), (q20_1, .inr (2, [.long 0, .long 0])), (q41_2, .inr (4, [.int 0, .int 0, .ref u45_3]))] := hD
  have hK : va_K (dC, dI) vcl [] s := hK
  refine W.widen (k := 3) (n := 20) (by omega) (by omega) ?_
  refine va_putF (D := (dC, dI)) (ci := 5) (v := .ref q41_2) (ty := (.object "BigRunner$LongNumber")) (C := "BigRunner$Node") (T := FT5) (N := 7) hx hb (hw5 hB _) (fun _ h9 => h9) TY5 ok5 nm5 hown hK hP hD hS 0 rfl rfl 6 (by decide) (wd_223 hB _) (fun _ h9 => h9) rfl hin rfl (by decide +kernel) rfl rfl (Nat.le_of_ble_eq_true rfl) d_NNode_init_48 (fun H locs hP hD hS => ?_)
  have hP : va_P (dC, dI) vcl [(h0, .inr (5, [.int 0, .int 0, .int 0, .ref q20_1, .int 1, .long 0, .ref q41_2])), (q20_1, .inr (2, [.long 0, .long 0])), (q41_2, .inr (4, [.int 0, .int 0, .ref u45_3]))] H := hP
  have hD : va_D A [(h0, .inr (5, [.int 0, .int 0, .int 0, .ref q20_1, .int 1, .long 0, .ref q41_2])), (q20_1, .inr (2, [.long 0, .long 0])), (q41_2, .inr (4, [.int 0, .int 0, .ref u45_3]))] := hD
  have hP9 := hP.sub (ws' := [(h0, .inr (5, [.int 0, .int 0, .int 0, .ref q20_1, .int 1, .long 0, .ref q41_2]))]) [0] rfl
  have hD9 := hD.sub (ws' := [(h0, .inr (5, [.int 0, .int 0, .int 0, .ref q20_1, .int 1, .long 0, .ref q41_2]))]) [0] (by decide) rfl
  have hK9 := hK.sub (tys' := []) [] rfl
  refine W.widen (k := 3) (n := 20) (by omega) (by omega) ?_
  exact W.vret hx hb hr (fun t ht hW => ⟨⟨(q20_1, q41_2), rfl, trivial, by rw [ht]; exact hP9, va_K.moved hW.alike hK9, hD9⟩, hS.F ht⟩) hS.2.2 d_NNode_init_51
end
