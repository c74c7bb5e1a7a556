section
-- ===== PART A: goes FIRST, ahead of the names: the tables' words, and 'selects' of the private methods out of them =====
/-- a private method of a class that the tables say can be made, by its rows of tables_1 -/
def lw_okq (q : MethodName × Nat) : Prop := (q.1.cls ≠ "java/lang/invoke/MethodHandle" ∧ q.1.cls ≠ "java/lang/invoke/VarHandle") ∧ Cond.instantiable q.1.cls q.2 ∈ tables_1 ∧ Cond.privateMethod q.1 ∈ tables_1 ∧ Cond.instanceMethod q.1 ∈ tables_1
theorem lw_p0 : lw_okq (⟨"BigRunner", "state", "()I"⟩, 5) := ⟨⟨by decide +kernel, by decide +kernel⟩, List.mem_of_getElem? (i := 25) (by decide +kernel), List.mem_of_getElem? (i := 346) (by decide +kernel), List.mem_of_getElem? (i := 347) (by decide +kernel)⟩
theorem lw_p1 : lw_okq (⟨"BigRunner", "hasVariable", "(I)Z"⟩, 5) := ⟨⟨by decide +kernel, by decide +kernel⟩, List.mem_of_getElem? (i := 25) (by decide +kernel), List.mem_of_getElem? (i := 363) (by decide +kernel), List.mem_of_getElem? (i := 364) (by decide +kernel)⟩
theorem lw_p2 : lw_okq (⟨"BigRunner$Reader", "readProgram", "(I)Z"⟩, 4) := ⟨⟨by decide +kernel, by decide +kernel⟩, List.mem_of_getElem? (i := 33) (by decide +kernel), List.mem_of_getElem? (i := 391) (by decide +kernel), List.mem_of_getElem? (i := 392) (by decide +kernel)⟩
theorem lw_p3 : lw_okq (⟨"BigRunner$Reader", "readStatement", "(I)Z"⟩, 4) := ⟨⟨by decide +kernel, by decide +kernel⟩, List.mem_of_getElem? (i := 33) (by decide +kernel), List.mem_of_getElem? (i := 395) (by decide +kernel), List.mem_of_getElem? (i := 396) (by decide +kernel)⟩
theorem lw_p4 : lw_okq (⟨"BigRunner$Reader", "accept", "(C)Z"⟩, 4) := ⟨⟨by decide +kernel, by decide +kernel⟩, List.mem_of_getElem? (i := 33) (by decide +kernel), List.mem_of_getElem? (i := 399) (by decide +kernel), List.mem_of_getElem? (i := 400) (by decide +kernel)⟩
theorem lw_p5 : lw_okq (⟨"BigRunner$Reader", "next", "()C"⟩, 4) := ⟨⟨by decide +kernel, by decide +kernel⟩, List.mem_of_getElem? (i := 33) (by decide +kernel), List.mem_of_getElem? (i := 403) (by decide +kernel), List.mem_of_getElem? (i := 404) (by decide +kernel)⟩
theorem lw_p6 : lw_okq (⟨"BigRunner$Reader", "addStatement", "(I)I"⟩, 4) := ⟨⟨by decide +kernel, by decide +kernel⟩, List.mem_of_getElem? (i := 33) (by decide +kernel), List.mem_of_getElem? (i := 407) (by decide +kernel), List.mem_of_getElem? (i := 408) (by decide +kernel)⟩
theorem lw_p7 : lw_okq (⟨"BigRunner$Reader", "readName", "(I)Z"⟩, 4) := ⟨⟨by decide +kernel, by decide +kernel⟩, List.mem_of_getElem? (i := 33) (by decide +kernel), List.mem_of_getElem? (i := 411) (by decide +kernel), List.mem_of_getElem? (i := 412) (by decide +kernel)⟩
theorem lw_p8 : lw_okq (⟨"BigRunner$Reader", "readExprOf", "(II)Z"⟩, 4) := ⟨⟨by decide +kernel, by decide +kernel⟩, List.mem_of_getElem? (i := 33) (by decide +kernel), List.mem_of_getElem? (i := 415) (by decide +kernel), List.mem_of_getElem? (i := 416) (by decide +kernel)⟩
theorem lw_p9 : lw_okq (⟨"BigRunner$Reader", "readExpr", "(I)I"⟩, 4) := ⟨⟨by decide +kernel, by decide +kernel⟩, List.mem_of_getElem? (i := 33) (by decide +kernel), List.mem_of_getElem? (i := 419) (by decide +kernel), List.mem_of_getElem? (i := 420) (by decide +kernel)⟩
theorem lw_p10 : lw_okq (⟨"BigRunner$Reader", "readTerm", "(I)I"⟩, 4) := ⟨⟨by decide +kernel, by decide +kernel⟩, List.mem_of_getElem? (i := 33) (by decide +kernel), List.mem_of_getElem? (i := 423) (by decide +kernel), List.mem_of_getElem? (i := 424) (by decide +kernel)⟩
theorem lw_p11 : lw_okq (⟨"BigRunner$Reader", "readFactor", "(I)I"⟩, 4) := ⟨⟨by decide +kernel, by decide +kernel⟩, List.mem_of_getElem? (i := 33) (by decide +kernel), List.mem_of_getElem? (i := 427) (by decide +kernel), List.mem_of_getElem? (i := 428) (by decide +kernel)⟩
theorem lw_p12 : lw_okq (⟨"BigRunner$Reader", "addOperation", "(III)I"⟩, 4) := ⟨⟨by decide +kernel, by decide +kernel⟩, List.mem_of_getElem? (i := 33) (by decide +kernel), List.mem_of_getElem? (i := 431) (by decide +kernel), List.mem_of_getElem? (i := 432) (by decide +kernel)⟩
theorem lw_p13 : lw_okq (⟨"BigRunner$Reader", "readNumber", "()I"⟩, 4) := ⟨⟨by decide +kernel, by decide +kernel⟩, List.mem_of_getElem? (i := 33) (by decide +kernel), List.mem_of_getElem? (i := 435) (by decide +kernel), List.mem_of_getElem? (i := 436) (by decide +kernel)⟩
theorem lw_p14 : lw_okq (⟨"BigRunner$Reader", "readLoop", "(I)Z"⟩, 4) := ⟨⟨by decide +kernel, by decide +kernel⟩, List.mem_of_getElem? (i := 33) (by decide +kernel), List.mem_of_getElem? (i := 439) (by decide +kernel), List.mem_of_getElem? (i := 440) (by decide +kernel)⟩
theorem lw_p15 : lw_okq (⟨"BigRunner$Reader", "aim", "(II)Z"⟩, 4) := ⟨⟨by decide +kernel, by decide +kernel⟩, List.mem_of_getElem? (i := 33) (by decide +kernel), List.mem_of_getElem? (i := 443) (by decide +kernel), List.mem_of_getElem? (i := 444) (by decide +kernel)⟩
def lw_privs_1 : List (MethodName × Nat) := [(⟨"BigRunner", "state", "()I"⟩, 5), (⟨"BigRunner", "hasVariable", "(I)Z"⟩, 5), (⟨"BigRunner$Reader", "readProgram", "(I)Z"⟩, 4), (⟨"BigRunner$Reader", "readStatement", "(I)Z"⟩, 4), (⟨"BigRunner$Reader", "accept", "(C)Z"⟩, 4), (⟨"BigRunner$Reader", "next", "()C"⟩, 4), (⟨"BigRunner$Reader", "addStatement", "(I)I"⟩, 4), (⟨"BigRunner$Reader", "readName", "(I)Z"⟩, 4), (⟨"BigRunner$Reader", "readExprOf", "(II)Z"⟩, 4), (⟨"BigRunner$Reader", "readExpr", "(I)I"⟩, 4), (⟨"BigRunner$Reader", "readTerm", "(I)I"⟩, 4), (⟨"BigRunner$Reader", "readFactor", "(I)I"⟩, 4), (⟨"BigRunner$Reader", "addOperation", "(III)I"⟩, 4), (⟨"BigRunner$Reader", "readNumber", "()I"⟩, 4), (⟨"BigRunner$Reader", "readLoop", "(I)Z"⟩, 4), (⟨"BigRunner$Reader", "aim", "(II)Z"⟩, 4)]
theorem lw_r1 : ∀ q ∈ lw_privs_1, lw_okq q := List.forall_mem_cons.mpr ⟨lw_p0, List.forall_mem_cons.mpr ⟨lw_p1, List.forall_mem_cons.mpr ⟨lw_p2, List.forall_mem_cons.mpr ⟨lw_p3, List.forall_mem_cons.mpr ⟨lw_p4, List.forall_mem_cons.mpr ⟨lw_p5, List.forall_mem_cons.mpr ⟨lw_p6, List.forall_mem_cons.mpr ⟨lw_p7, List.forall_mem_cons.mpr ⟨lw_p8, List.forall_mem_cons.mpr ⟨lw_p9, List.forall_mem_cons.mpr ⟨lw_p10, List.forall_mem_cons.mpr ⟨lw_p11, List.forall_mem_cons.mpr ⟨lw_p12, List.forall_mem_cons.mpr ⟨lw_p13, List.forall_mem_cons.mpr ⟨lw_p14, List.forall_mem_cons.mpr ⟨lw_p15, fun _ h => absurd h List.not_mem_nil⟩⟩⟩⟩⟩⟩⟩⟩⟩⟩⟩⟩⟩⟩⟩⟩
theorem lw_p16 : lw_okq (⟨"BigRunner$Reader", "readChoice", "(I)Z"⟩, 4) := ⟨⟨by decide +kernel, by decide +kernel⟩, List.mem_of_getElem? (i := 33) (by decide +kernel), List.mem_of_getElem? (i := 447) (by decide +kernel), List.mem_of_getElem? (i := 448) (by decide +kernel)⟩
theorem lw_p17 : lw_okq (⟨"java/lang/Throwable", "fillInStackTrace", "(I)Ljava/lang/Throwable;"⟩, 6) := ⟨⟨by decide +kernel, by decide +kernel⟩, List.mem_of_getElem? (i := 491) (by decide +kernel), List.mem_of_getElem? (i := 489) (by decide +kernel), List.mem_of_getElem? (i := 490) (by decide +kernel)⟩
theorem lw_p18 : lw_okq (⟨"BigRunner$Program", "makeRound", "(Z)Z"⟩, 6) := ⟨⟨by decide +kernel, by decide +kernel⟩, List.mem_of_getElem? (i := 39) (by decide +kernel), List.mem_of_getElem? (i := 531) (by decide +kernel), List.mem_of_getElem? (i := 532) (by decide +kernel)⟩
theorem lw_p19 : lw_okq (⟨"BigRunner$Program", "intervalOfExpr", "(LBigRunner$Statement;)LBigRunner$Interval;"⟩, 6) := ⟨⟨by decide +kernel, by decide +kernel⟩, List.mem_of_getElem? (i := 39) (by decide +kernel), List.mem_of_getElem? (i := 539) (by decide +kernel), List.mem_of_getElem? (i := 540) (by decide +kernel)⟩
theorem lw_p20 : lw_okq (⟨"BigRunner$Program", "findInterval", "(LBigRunner$Node;)V"⟩, 6) := ⟨⟨by decide +kernel, by decide +kernel⟩, List.mem_of_getElem? (i := 39) (by decide +kernel), List.mem_of_getElem? (i := 543) (by decide +kernel), List.mem_of_getElem? (i := 544) (by decide +kernel)⟩
theorem lw_p21 : lw_okq (⟨"BigRunner$Interval", "isZero", "()Z"⟩, 2) := ⟨⟨by decide +kernel, by decide +kernel⟩, List.mem_of_getElem? (i := 50) (by decide +kernel), List.mem_of_getElem? (i := 568) (by decide +kernel), List.mem_of_getElem? (i := 569) (by decide +kernel)⟩
theorem lw_p22 : lw_okq (⟨"BigRunner$Interval", "farthest", "()J"⟩, 2) := ⟨⟨by decide +kernel, by decide +kernel⟩, List.mem_of_getElem? (i := 50) (by decide +kernel), List.mem_of_getElem? (i := 590) (by decide +kernel), List.mem_of_getElem? (i := 591) (by decide +kernel)⟩
theorem lw_p23 : lw_okq (⟨"BigRunner$Program", "judge", "(LBigRunner$Node;)V"⟩, 6) := ⟨⟨by decide +kernel, by decide +kernel⟩, List.mem_of_getElem? (i := 39) (by decide +kernel), List.mem_of_getElem? (i := 598) (by decide +kernel), List.mem_of_getElem? (i := 599) (by decide +kernel)⟩
theorem lw_p24 : lw_okq (⟨"BigRunner$Runner", "store", "(IJ)V"⟩, 13) := ⟨⟨by decide +kernel, by decide +kernel⟩, List.mem_of_getElem? (i := 214) (by decide +kernel), List.mem_of_getElem? (i := 656) (by decide +kernel), List.mem_of_getElem? (i := 657) (by decide +kernel)⟩
theorem lw_p25 : lw_okq (⟨"BigRunner$Runner", "proceed", "(I)V"⟩, 13) := ⟨⟨by decide +kernel, by decide +kernel⟩, List.mem_of_getElem? (i := 214) (by decide +kernel), List.mem_of_getElem? (i := 661) (by decide +kernel), List.mem_of_getElem? (i := 662) (by decide +kernel)⟩
theorem lw_p26 : lw_okq (⟨"BigRunner$Runner", "workOut", "(LBigRunner$Statement;)I"⟩, 13) := ⟨⟨by decide +kernel, by decide +kernel⟩, List.mem_of_getElem? (i := 214) (by decide +kernel), List.mem_of_getElem? (i := 665) (by decide +kernel), List.mem_of_getElem? (i := 666) (by decide +kernel)⟩
theorem lw_p27 : lw_okq (⟨"BigRunner$Runner", "fetch", "(LBigRunner$Node;)V"⟩, 13) := ⟨⟨by decide +kernel, by decide +kernel⟩, List.mem_of_getElem? (i := 214) (by decide +kernel), List.mem_of_getElem? (i := 669) (by decide +kernel), List.mem_of_getElem? (i := 670) (by decide +kernel)⟩
theorem lw_p28 : lw_okq (⟨"BigRunner$Runner", "operate", "(LBigRunner$Node;)I"⟩, 13) := ⟨⟨by decide +kernel, by decide +kernel⟩, List.mem_of_getElem? (i := 214) (by decide +kernel), List.mem_of_getElem? (i := 680) (by decide +kernel), List.mem_of_getElem? (i := 681) (by decide +kernel)⟩
theorem lw_p29 : lw_okq (⟨"BigRunner$Runner", "operateLong", "(LBigRunner$Node;)I"⟩, 13) := ⟨⟨by decide +kernel, by decide +kernel⟩, List.mem_of_getElem? (i := 214) (by decide +kernel), List.mem_of_getElem? (i := 684) (by decide +kernel), List.mem_of_getElem? (i := 685) (by decide +kernel)⟩
theorem lw_p30 : lw_okq (⟨"BigRunner$LongNumber", "addLimbs", "(LBigRunner$LongNumber;LBigRunner$LongNumber;I)V"⟩, 3) := ⟨⟨by decide +kernel, by decide +kernel⟩, List.mem_of_getElem? (i := 110) (by decide +kernel), List.mem_of_getElem? (i := 698) (by decide +kernel), List.mem_of_getElem? (i := 699) (by decide +kernel)⟩
theorem lw_p31 : lw_okq (⟨"BigRunner$LongNumber", "limb", "(I)I"⟩, 3) := ⟨⟨by decide +kernel, by decide +kernel⟩, List.mem_of_getElem? (i := 110) (by decide +kernel), List.mem_of_getElem? (i := 706) (by decide +kernel), List.mem_of_getElem? (i := 707) (by decide +kernel)⟩
def lw_privs_2 : List (MethodName × Nat) := [(⟨"BigRunner$Reader", "readChoice", "(I)Z"⟩, 4), (⟨"java/lang/Throwable", "fillInStackTrace", "(I)Ljava/lang/Throwable;"⟩, 6), (⟨"BigRunner$Program", "makeRound", "(Z)Z"⟩, 6), (⟨"BigRunner$Program", "intervalOfExpr", "(LBigRunner$Statement;)LBigRunner$Interval;"⟩, 6), (⟨"BigRunner$Program", "findInterval", "(LBigRunner$Node;)V"⟩, 6), (⟨"BigRunner$Interval", "isZero", "()Z"⟩, 2), (⟨"BigRunner$Interval", "farthest", "()J"⟩, 2), (⟨"BigRunner$Program", "judge", "(LBigRunner$Node;)V"⟩, 6), (⟨"BigRunner$Runner", "store", "(IJ)V"⟩, 13), (⟨"BigRunner$Runner", "proceed", "(I)V"⟩, 13), (⟨"BigRunner$Runner", "workOut", "(LBigRunner$Statement;)I"⟩, 13), (⟨"BigRunner$Runner", "fetch", "(LBigRunner$Node;)V"⟩, 13), (⟨"BigRunner$Runner", "operate", "(LBigRunner$Node;)I"⟩, 13), (⟨"BigRunner$Runner", "operateLong", "(LBigRunner$Node;)I"⟩, 13), (⟨"BigRunner$LongNumber", "addLimbs", "(LBigRunner$LongNumber;LBigRunner$LongNumber;I)V"⟩, 3), (⟨"BigRunner$LongNumber", "limb", "(I)I"⟩, 3)]
theorem lw_r2 : ∀ q ∈ lw_privs_2, lw_okq q := List.forall_mem_cons.mpr ⟨lw_p16, List.forall_mem_cons.mpr ⟨lw_p17, List.forall_mem_cons.mpr ⟨lw_p18, List.forall_mem_cons.mpr ⟨lw_p19, List.forall_mem_cons.mpr ⟨lw_p20, List.forall_mem_cons.mpr ⟨lw_p21, List.forall_mem_cons.mpr ⟨lw_p22, List.forall_mem_cons.mpr ⟨lw_p23, List.forall_mem_cons.mpr ⟨lw_p24, List.forall_mem_cons.mpr ⟨lw_p25, List.forall_mem_cons.mpr ⟨lw_p26, List.forall_mem_cons.mpr ⟨lw_p27, List.forall_mem_cons.mpr ⟨lw_p28, List.forall_mem_cons.mpr ⟨lw_p29, List.forall_mem_cons.mpr ⟨lw_p30, List.forall_mem_cons.mpr ⟨lw_p31, fun _ h => absurd h List.not_mem_nil⟩⟩⟩⟩⟩⟩⟩⟩⟩⟩⟩⟩⟩⟩⟩⟩
theorem lw_p32 : lw_okq (⟨"BigRunner$LongNumber", "subtractLimbs", "(LBigRunner$LongNumber;LBigRunner$LongNumber;I)V"⟩, 3) := ⟨⟨by decide +kernel, by decide +kernel⟩, List.mem_of_getElem? (i := 110) (by decide +kernel), List.mem_of_getElem? (i := 718) (by decide +kernel), List.mem_of_getElem? (i := 719) (by decide +kernel)⟩
theorem lw_p33 : lw_okq (⟨"BigRunner$LongNumber", "fits", "()Z"⟩, 3) := ⟨⟨by decide +kernel, by decide +kernel⟩, List.mem_of_getElem? (i := 110) (by decide +kernel), List.mem_of_getElem? (i := 722) (by decide +kernel), List.mem_of_getElem? (i := 723) (by decide +kernel)⟩
theorem lw_p34 : lw_okq (⟨"BigRunner$LongDivision", "guess", "(I)J"⟩, 3) := ⟨⟨by decide +kernel, by decide +kernel⟩, List.mem_of_getElem? (i := 243) (by decide +kernel), List.mem_of_getElem? (i := 744) (by decide +kernel), List.mem_of_getElem? (i := 745) (by decide +kernel)⟩
theorem lw_p35 : lw_okq (⟨"BigRunner$LongDivision", "takeAway", "(JI)I"⟩, 3) := ⟨⟨by decide +kernel, by decide +kernel⟩, List.mem_of_getElem? (i := 243) (by decide +kernel), List.mem_of_getElem? (i := 748) (by decide +kernel), List.mem_of_getElem? (i := 749) (by decide +kernel)⟩
theorem lw_p36 : lw_okq (⟨"BigRunner$LongDivision", "putBack", "(I)V"⟩, 3) := ⟨⟨by decide +kernel, by decide +kernel⟩, List.mem_of_getElem? (i := 243) (by decide +kernel), List.mem_of_getElem? (i := 752) (by decide +kernel), List.mem_of_getElem? (i := 753) (by decide +kernel)⟩
theorem lw_p37 : lw_okq (⟨"BigRunner$LongDivision", "reduce", "(ILBigRunner$LongNumber;)V"⟩, 3) := ⟨⟨by decide +kernel, by decide +kernel⟩, List.mem_of_getElem? (i := 243) (by decide +kernel), List.mem_of_getElem? (i := 756) (by decide +kernel), List.mem_of_getElem? (i := 757) (by decide +kernel)⟩
theorem lw_p38 : lw_okq (⟨"BigRunner$Runner", "assign", "(ILBigRunner$Node;)V"⟩, 13) := ⟨⟨by decide +kernel, by decide +kernel⟩, List.mem_of_getElem? (i := 214) (by decide +kernel), List.mem_of_getElem? (i := 761) (by decide +kernel), List.mem_of_getElem? (i := 762) (by decide +kernel)⟩
theorem lw_p39 : lw_okq (⟨"BigRunner$Runner", "keep", "(LBigRunner$Node;)V"⟩, 13) := ⟨⟨by decide +kernel, by decide +kernel⟩, List.mem_of_getElem? (i := 214) (by decide +kernel), List.mem_of_getElem? (i := 769) (by decide +kernel), List.mem_of_getElem? (i := 770) (by decide +kernel)⟩
theorem lw_p40 : lw_okq (⟨"BigRunner$LongNumber", "digits", "()I"⟩, 3) := ⟨⟨by decide +kernel, by decide +kernel⟩, List.mem_of_getElem? (i := 110) (by decide +kernel), List.mem_of_getElem? (i := 852) (by decide +kernel), List.mem_of_getElem? (i := 853) (by decide +kernel)⟩
theorem lw_p41 : lw_okq (⟨"BigRunnerModel", "reads", "()Z"⟩, 45) := ⟨⟨by decide +kernel, by decide +kernel⟩, List.mem_of_getElem? (i := 871) (by decide +kernel), List.mem_of_getElem? (i := 1030) (by decide +kernel), List.mem_of_getElem? (i := 1031) (by decide +kernel)⟩
theorem lw_p42 : lw_okq (⟨"BigRunnerModel", "statement", "()Z"⟩, 45) := ⟨⟨by decide +kernel, by decide +kernel⟩, List.mem_of_getElem? (i := 871) (by decide +kernel), List.mem_of_getElem? (i := 1034) (by decide +kernel), List.mem_of_getElem? (i := 1035) (by decide +kernel)⟩
theorem lw_p43 : lw_okq (⟨"BigRunnerModel", "here", "()C"⟩, 45) := ⟨⟨by decide +kernel, by decide +kernel⟩, List.mem_of_getElem? (i := 871) (by decide +kernel), List.mem_of_getElem? (i := 1038) (by decide +kernel), List.mem_of_getElem? (i := 1039) (by decide +kernel)⟩
theorem lw_p44 : lw_okq (⟨"BigRunnerModel", "put", "(II)V"⟩, 45) := ⟨⟨by decide +kernel, by decide +kernel⟩, List.mem_of_getElem? (i := 871) (by decide +kernel), List.mem_of_getElem? (i := 1042) (by decide +kernel), List.mem_of_getElem? (i := 1043) (by decide +kernel)⟩
theorem lw_p45 : lw_okq (⟨"BigRunnerModel", "expr", "()Z"⟩, 45) := ⟨⟨by decide +kernel, by decide +kernel⟩, List.mem_of_getElem? (i := 871) (by decide +kernel), List.mem_of_getElem? (i := 1049) (by decide +kernel), List.mem_of_getElem? (i := 1050) (by decide +kernel)⟩
theorem lw_p46 : lw_okq (⟨"BigRunnerModel", "negate", "()V"⟩, 45) := ⟨⟨by decide +kernel, by decide +kernel⟩, List.mem_of_getElem? (i := 871) (by decide +kernel), List.mem_of_getElem? (i := 1053) (by decide +kernel), List.mem_of_getElem? (i := 1054) (by decide +kernel)⟩
theorem lw_p47 : lw_okq (⟨"BigRunnerModel", "number", "()Z"⟩, 45) := ⟨⟨by decide +kernel, by decide +kernel⟩, List.mem_of_getElem? (i := 871) (by decide +kernel), List.mem_of_getElem? (i := 1060) (by decide +kernel), List.mem_of_getElem? (i := 1061) (by decide +kernel)⟩
def lw_privs_3 : List (MethodName × Nat) := [(⟨"BigRunner$LongNumber", "subtractLimbs", "(LBigRunner$LongNumber;LBigRunner$LongNumber;I)V"⟩, 3), (⟨"BigRunner$LongNumber", "fits", "()Z"⟩, 3), (⟨"BigRunner$LongDivision", "guess", "(I)J"⟩, 3), (⟨"BigRunner$LongDivision", "takeAway", "(JI)I"⟩, 3), (⟨"BigRunner$LongDivision", "putBack", "(I)V"⟩, 3), (⟨"BigRunner$LongDivision", "reduce", "(ILBigRunner$LongNumber;)V"⟩, 3), (⟨"BigRunner$Runner", "assign", "(ILBigRunner$Node;)V"⟩, 13), (⟨"BigRunner$Runner", "keep", "(LBigRunner$Node;)V"⟩, 13), (⟨"BigRunner$LongNumber", "digits", "()I"⟩, 3), (⟨"BigRunnerModel", "reads", "()Z"⟩, 45), (⟨"BigRunnerModel", "statement", "()Z"⟩, 45), (⟨"BigRunnerModel", "here", "()C"⟩, 45), (⟨"BigRunnerModel", "put", "(II)V"⟩, 45), (⟨"BigRunnerModel", "expr", "()Z"⟩, 45), (⟨"BigRunnerModel", "negate", "()V"⟩, 45), (⟨"BigRunnerModel", "number", "()Z"⟩, 45)]
theorem lw_r3 : ∀ q ∈ lw_privs_3, lw_okq q := List.forall_mem_cons.mpr ⟨lw_p32, List.forall_mem_cons.mpr ⟨lw_p33, List.forall_mem_cons.mpr ⟨lw_p34, List.forall_mem_cons.mpr ⟨lw_p35, List.forall_mem_cons.mpr ⟨lw_p36, List.forall_mem_cons.mpr ⟨lw_p37, List.forall_mem_cons.mpr ⟨lw_p38, List.forall_mem_cons.mpr ⟨lw_p39, List.forall_mem_cons.mpr ⟨lw_p40, List.forall_mem_cons.mpr ⟨lw_p41, List.forall_mem_cons.mpr ⟨lw_p42, List.forall_mem_cons.mpr ⟨lw_p43, List.forall_mem_cons.mpr ⟨lw_p44, List.forall_mem_cons.mpr ⟨lw_p45, List.forall_mem_cons.mpr ⟨lw_p46, List.forall_mem_cons.mpr ⟨lw_p47, fun _ h => absurd h List.not_mem_nil⟩⟩⟩⟩⟩⟩⟩⟩⟩⟩⟩⟩⟩⟩⟩⟩
theorem lw_p48 : lw_okq (⟨"BigRunnerModel", "release", "(I)V"⟩, 45) := ⟨⟨by decide +kernel, by decide +kernel⟩, List.mem_of_getElem? (i := 871) (by decide +kernel), List.mem_of_getElem? (i := 1067) (by decide +kernel), List.mem_of_getElem? (i := 1068) (by decide +kernel)⟩
theorem lw_p49 : lw_okq (⟨"BigRunnerModel", "closes", "(C)Z"⟩, 45) := ⟨⟨by decide +kernel, by decide +kernel⟩, List.mem_of_getElem? (i := 871) (by decide +kernel), List.mem_of_getElem? (i := 1071) (by decide +kernel), List.mem_of_getElem? (i := 1072) (by decide +kernel)⟩
theorem lw_p50 : lw_okq (⟨"BigRunnerModel", "settle", "()I"⟩, 45) := ⟨⟨by decide +kernel, by decide +kernel⟩, List.mem_of_getElem? (i := 871) (by decide +kernel), List.mem_of_getElem? (i := 1075) (by decide +kernel), List.mem_of_getElem? (i := 1076) (by decide +kernel)⟩
theorem lw_p51 : lw_okq (⟨"BigRunnerModel", "round", "(I)Z"⟩, 45) := ⟨⟨by decide +kernel, by decide +kernel⟩, List.mem_of_getElem? (i := 871) (by decide +kernel), List.mem_of_getElem? (i := 1079) (by decide +kernel), List.mem_of_getElem? (i := 1080) (by decide +kernel)⟩
theorem lw_p52 : lw_okq (⟨"BigRunnerModel", "spanOf", "(I)V"⟩, 45) := ⟨⟨by decide +kernel, by decide +kernel⟩, List.mem_of_getElem? (i := 871) (by decide +kernel), List.mem_of_getElem? (i := 1083) (by decide +kernel), List.mem_of_getElem? (i := 1084) (by decide +kernel)⟩
theorem lw_p53 : lw_okq (⟨"BigRunnerModel", "interval", "(IJJZZ)V"⟩, 45) := ⟨⟨by decide +kernel, by decide +kernel⟩, List.mem_of_getElem? (i := 871) (by decide +kernel), List.mem_of_getElem? (i := 1087) (by decide +kernel), List.mem_of_getElem? (i := 1088) (by decide +kernel)⟩
theorem lw_p54 : lw_okq (⟨"BigRunnerModel", "spanProduct", "(I)V"⟩, 45) := ⟨⟨by decide +kernel, by decide +kernel⟩, List.mem_of_getElem? (i := 871) (by decide +kernel), List.mem_of_getElem? (i := 1093) (by decide +kernel), List.mem_of_getElem? (i := 1094) (by decide +kernel)⟩
theorem lw_p55 : lw_okq (⟨"BigRunnerModel", "spanQuotient", "(IZ)V"⟩, 45) := ⟨⟨by decide +kernel, by decide +kernel⟩, List.mem_of_getElem? (i := 871) (by decide +kernel), List.mem_of_getElem? (i := 1110) (by decide +kernel), List.mem_of_getElem? (i := 1111) (by decide +kernel)⟩
theorem lw_p56 : lw_okq (⟨"BigRunnerModel", "joined", "(IZ)Z"⟩, 45) := ⟨⟨by decide +kernel, by decide +kernel⟩, List.mem_of_getElem? (i := 871) (by decide +kernel), List.mem_of_getElem? (i := 1116) (by decide +kernel), List.mem_of_getElem? (i := 1117) (by decide +kernel)⟩
theorem lw_p57 : lw_okq (⟨"BigRunnerModel", "step", "()V"⟩, 45) := ⟨⟨by decide +kernel, by decide +kernel⟩, List.mem_of_getElem? (i := 871) (by decide +kernel), List.mem_of_getElem? (i := 1130) (by decide +kernel), List.mem_of_getElem? (i := 1131) (by decide +kernel)⟩
theorem lw_p58 : lw_okq (⟨"BigRunnerModel", "takeInput", "(I)V"⟩, 45) := ⟨⟨by decide +kernel, by decide +kernel⟩, List.mem_of_getElem? (i := 871) (by decide +kernel), List.mem_of_getElem? (i := 1134) (by decide +kernel), List.mem_of_getElem? (i := 1135) (by decide +kernel)⟩
theorem lw_p59 : lw_okq (⟨"BigRunnerModel", "setNumber", "(II)V"⟩, 45) := ⟨⟨by decide +kernel, by decide +kernel⟩, List.mem_of_getElem? (i := 871) (by decide +kernel), List.mem_of_getElem? (i := 1138) (by decide +kernel), List.mem_of_getElem? (i := 1139) (by decide +kernel)⟩
theorem lw_p60 : lw_okq (⟨"BigRunnerModel", "assign", "(I)V"⟩, 45) := ⟨⟨by decide +kernel, by decide +kernel⟩, List.mem_of_getElem? (i := 871) (by decide +kernel), List.mem_of_getElem? (i := 1143) (by decide +kernel), List.mem_of_getElem? (i := 1144) (by decide +kernel)⟩
theorem lw_p61 : lw_okq (⟨"BigRunnerModel", "work", "(I)V"⟩, 45) := ⟨⟨by decide +kernel, by decide +kernel⟩, List.mem_of_getElem? (i := 871) (by decide +kernel), List.mem_of_getElem? (i := 1147) (by decide +kernel), List.mem_of_getElem? (i := 1148) (by decide +kernel)⟩
theorem lw_p62 : lw_okq (⟨"BigRunnerModel", "clear", "()V"⟩, 45) := ⟨⟨by decide +kernel, by decide +kernel⟩, List.mem_of_getElem? (i := 871) (by decide +kernel), List.mem_of_getElem? (i := 1151) (by decide +kernel), List.mem_of_getElem? (i := 1152) (by decide +kernel)⟩
theorem lw_p63 : lw_okq (⟨"BigRunnerModel", "product", "(II)I"⟩, 45) := ⟨⟨by decide +kernel, by decide +kernel⟩, List.mem_of_getElem? (i := 871) (by decide +kernel), List.mem_of_getElem? (i := 1155) (by decide +kernel), List.mem_of_getElem? (i := 1156) (by decide +kernel)⟩
def lw_privs_4 : List (MethodName × Nat) := [(⟨"BigRunnerModel", "release", "(I)V"⟩, 45), (⟨"BigRunnerModel", "closes", "(C)Z"⟩, 45), (⟨"BigRunnerModel", "settle", "()I"⟩, 45), (⟨"BigRunnerModel", "round", "(I)Z"⟩, 45), (⟨"BigRunnerModel", "spanOf", "(I)V"⟩, 45), (⟨"BigRunnerModel", "interval", "(IJJZZ)V"⟩, 45), (⟨"BigRunnerModel", "spanProduct", "(I)V"⟩, 45), (⟨"BigRunnerModel", "spanQuotient", "(IZ)V"⟩, 45), (⟨"BigRunnerModel", "joined", "(IZ)Z"⟩, 45), (⟨"BigRunnerModel", "step", "()V"⟩, 45), (⟨"BigRunnerModel", "takeInput", "(I)V"⟩, 45), (⟨"BigRunnerModel", "setNumber", "(II)V"⟩, 45), (⟨"BigRunnerModel", "assign", "(I)V"⟩, 45), (⟨"BigRunnerModel", "work", "(I)V"⟩, 45), (⟨"BigRunnerModel", "clear", "()V"⟩, 45), (⟨"BigRunnerModel", "product", "(II)I"⟩, 45)]
theorem lw_r4 : ∀ q ∈ lw_privs_4, lw_okq q := List.forall_mem_cons.mpr ⟨lw_p48, List.forall_mem_cons.mpr ⟨lw_p49, List.forall_mem_cons.mpr ⟨lw_p50, List.forall_mem_cons.mpr ⟨lw_p51, List.forall_mem_cons.mpr ⟨lw_p52, List.forall_mem_cons.mpr ⟨lw_p53, List.forall_mem_cons.mpr ⟨lw_p54, List.forall_mem_cons.mpr ⟨lw_p55, List.forall_mem_cons.mpr ⟨lw_p56, List.forall_mem_cons.mpr ⟨lw_p57, List.forall_mem_cons.mpr ⟨lw_p58, List.forall_mem_cons.mpr ⟨lw_p59, List.forall_mem_cons.mpr ⟨lw_p60, List.forall_mem_cons.mpr ⟨lw_p61, List.forall_mem_cons.mpr ⟨lw_p62, List.forall_mem_cons.mpr ⟨lw_p63, fun _ h => absurd h List.not_mem_nil⟩⟩⟩⟩⟩⟩⟩⟩⟩⟩⟩⟩⟩⟩⟩⟩
theorem lw_p64 : lw_okq (⟨"BigRunnerModel", "limb", "(II)I"⟩, 45) := ⟨⟨by decide +kernel, by decide +kernel⟩, List.mem_of_getElem? (i := 871) (by decide +kernel), List.mem_of_getElem? (i := 1159) (by decide +kernel), List.mem_of_getElem? (i := 1160) (by decide +kernel)⟩
theorem lw_p65 : lw_okq (⟨"BigRunnerModel", "sum", "(III)I"⟩, 45) := ⟨⟨by decide +kernel, by decide +kernel⟩, List.mem_of_getElem? (i := 871) (by decide +kernel), List.mem_of_getElem? (i := 1164) (by decide +kernel), List.mem_of_getElem? (i := 1165) (by decide +kernel)⟩
theorem lw_p66 : lw_okq (⟨"BigRunnerModel", "addUp", "(III)V"⟩, 45) := ⟨⟨by decide +kernel, by decide +kernel⟩, List.mem_of_getElem? (i := 871) (by decide +kernel), List.mem_of_getElem? (i := 1168) (by decide +kernel), List.mem_of_getElem? (i := 1169) (by decide +kernel)⟩
theorem lw_p67 : lw_okq (⟨"BigRunnerModel", "order", "(II)I"⟩, 45) := ⟨⟨by decide +kernel, by decide +kernel⟩, List.mem_of_getElem? (i := 871) (by decide +kernel), List.mem_of_getElem? (i := 1172) (by decide +kernel), List.mem_of_getElem? (i := 1173) (by decide +kernel)⟩
theorem lw_p68 : lw_okq (⟨"BigRunnerModel", "divide", "(II)V"⟩, 45) := ⟨⟨by decide +kernel, by decide +kernel⟩, List.mem_of_getElem? (i := 871) (by decide +kernel), List.mem_of_getElem? (i := 1176) (by decide +kernel), List.mem_of_getElem? (i := 1177) (by decide +kernel)⟩
theorem lw_p69 : lw_okq (⟨"BigRunnerModel", "holds", "(IIZ)Z"⟩, 45) := ⟨⟨by decide +kernel, by decide +kernel⟩, List.mem_of_getElem? (i := 871) (by decide +kernel), List.mem_of_getElem? (i := 1181) (by decide +kernel), List.mem_of_getElem? (i := 1182) (by decide +kernel)⟩
theorem lw_p70 : lw_okq (⟨"BigRunnerModel", "keep", "(II)V"⟩, 45) := ⟨⟨by decide +kernel, by decide +kernel⟩, List.mem_of_getElem? (i := 871) (by decide +kernel), List.mem_of_getElem? (i := 1188) (by decide +kernel), List.mem_of_getElem? (i := 1189) (by decide +kernel)⟩
def lw_privs_5 : List (MethodName × Nat) := [(⟨"BigRunnerModel", "limb", "(II)I"⟩, 45), (⟨"BigRunnerModel", "sum", "(III)I"⟩, 45), (⟨"BigRunnerModel", "addUp", "(III)V"⟩, 45), (⟨"BigRunnerModel", "order", "(II)I"⟩, 45), (⟨"BigRunnerModel", "divide", "(II)V"⟩, 45), (⟨"BigRunnerModel", "holds", "(IIZ)Z"⟩, 45), (⟨"BigRunnerModel", "keep", "(II)V"⟩, 45)]
theorem lw_r5 : ∀ q ∈ lw_privs_5, lw_okq q := List.forall_mem_cons.mpr ⟨lw_p64, List.forall_mem_cons.mpr ⟨lw_p65, List.forall_mem_cons.mpr ⟨lw_p66, List.forall_mem_cons.mpr ⟨lw_p67, List.forall_mem_cons.mpr ⟨lw_p68, List.forall_mem_cons.mpr ⟨lw_p69, List.forall_mem_cons.mpr ⟨lw_p70, fun _ h => absurd h List.not_mem_nil⟩⟩⟩⟩⟩⟩⟩
def lw_privs : List (MethodName × Nat) := lw_privs_1 ++ (lw_privs_2 ++ (lw_privs_3 ++ (lw_privs_4 ++ (lw_privs_5))))
def lw_tbl : List Cond := k2_sels lw_privs ++ tables_1
theorem lw_privs_ok : ∀ q ∈ lw_privs, lw_okq q := by
  show ∀ q ∈ lw_privs_1 ++ (lw_privs_2 ++ (lw_privs_3 ++ (lw_privs_4 ++ (lw_privs_5)))), lw_okq q
  exact List.forall_mem_append.mpr ⟨lw_r1, List.forall_mem_append.mpr ⟨lw_r2, List.forall_mem_append.mpr ⟨lw_r3, List.forall_mem_append.mpr ⟨lw_r4, lw_r5⟩⟩⟩⟩
end
section
/-! ===== the tables' words, carried along as a fact of the state ===== -/
/-- a word that stays true when the tables grow warmer, whatever the arguments -/
def tb_rides : Cond → Bool
  | .fieldLinkNest .. => true
  | .methodLinkNest .. => true
  | .castable .. => true
  | .declares _ => true
  | .arrayClass _ => true
  | .arrayOver (.object _) => true
  | .stringRef .. => true
  | w => w.onTables && w.keeps
theorem tb_ride {w : Cond} (hw : tb_rides w = true) {s U : State} (hW : s.WarmedH U.vm) (args : Array Value) (h : w.before #[] s = true) : w.before args U = true := by
  cases w with
  | fieldLinkNest a i b n d q => exact va_Nw.use rfl (va_Nw.warmF hW h)
  | methodLinkNest a i x q => exact va_Nw.use rfl (va_Nw.warmM hW h)
  | castable a b => exact va_Nw.use rfl (va_Nw.warmC hW h)
  | declares x => exact va_Nw.use rfl (va_Nw.warmD hW h)
  | arrayClass ty => exact word_at hW (Or.inr ⟨ty, rfl⟩) h
  | stringRef a i t => exact Cond.stringRef_warmed (args := args) hW h
  | arrayOver ty =>
    cases ty with
    | object n => exact va_AO.use (va_AO.moved hW.alike h)
    | _ => exact word_at hW (Or.inl hw) h
  | _ => exact word_at hW (Or.inl hw) h
def TB (U : State) : Prop := ∀ w ∈ lw_tbl, tb_rides w = true → w.before #[] U = true
theorem TB.moved {s U : State} (hW : s.WarmedH U.vm) (h : TB s) : TB U := fun w hw hr => tb_ride hr hW #[] (h w hw hr)
theorem TB.same {s U : State} (hv : U.vm = s.vm) (h : TB s) : TB U := TB.moved (by rw [hv]; exact State.WarmedH.refl s) h
theorem TB.w {U : State} (h : TB U) {w : Cond} (i : Nat) (hi : lw_tbl[i]? = some w) (hr : tb_rides w = true) (args : Array Value) : w.before args U = true := tb_ride hr (State.WarmedH.refl U) args (h w (List.mem_of_getElem? hi) hr)
theorem TB.all {U : State} (h : TB U) (ws : List Cond) (is : List Nat) (hp : ws = is.filterMap (fun i => lw_tbl[i]?)) (hr : ws.all tb_rides = true) (args : Array Value) : ∀ w ∈ ws, w.before args U = true := by
  intro w hw
  have h1 := List.all_eq_true.mp hr w hw
  rw [hp] at hw
  obtain ⟨i, -, hi⟩ := List.mem_filterMap.mp hw
  exact h.w i hi h1 args
theorem tb_nil {args : Array Value} {s : State} : ∀ w ∈ ([] : List Cond), w.before args s = true := fun _ h => by cases h
theorem tb_one {w : Cond} {args : Array Value} {s : State} (h : w.before args s = true) : ∀ v ∈ [w], v.before args s = true := fun v hv => by rw [List.mem_singleton.mp hv]; exact h
theorem tb_good1 {y : MethodName} {b : ByteArray} {n : Nat} {r : Option FieldType} : GoodIn [Cond.code y b n r] [Cond.code y b n r] := fun w hw => ⟨hw, by rw [List.mem_singleton.mp hw]; exact Or.inl rfl⟩
end
section
def FT0 : u_T := fun k => match k with
  | 0 => ("BigRunner", "line", "[C", true)
  | 1 => ("BigRunner", "lineLength", "I", false)
  | 2 => ("BigRunner", "reader", "LBigRunner$Reader;", true)
  | 3 => ("BigRunner", "runner", "LBigRunner$Runner;", true)
  | _ => ("BigRunner", "loaded", "Z", false)
def TY0 : Nat → FieldType := fun k => match k with
  | 0 => (.array .char)
  | 1 => .int
  | 2 => (.object "BigRunner$Reader")
  | 3 => (.object "BigRunner$Runner")
  | _ => .boolean
theorem nm0 : ∀ a, a < 5 → ∀ b, b < 5 → a ≠ b → (FT0 a).2.1 ≠ (FT0 b).2.1 := by decide +kernel
theorem ok0 : ∀ k, k < 5 → parseFieldDescriptor (FT0 k).2.2.1 = some (TY0 k) := by decide +kernel
theorem hw0 {U : State} (h : TB U) (args : Array Value) : ∀ w ∈ u_ws "BigRunner" FT0 5, w.before args U = true := h.all _ [383, 385, 387, 389, 391] (by decide +kernel) (by decide +kernel) args
def FT1 : u_T := fun k => match k with
  | 0 => ("BigRunner$Inputs", "ring", "[I", true)
  | 1 => ("BigRunner$Inputs", "first", "I", false)
  | _ => ("BigRunner$Inputs", "waiting", "I", false)
def TY1 : Nat → FieldType := fun k => match k with
  | 0 => (.array .int)
  | 1 => .int
  | _ => .int
theorem nm1 : ∀ a, a < 3 → ∀ b, b < 3 → a ≠ b → (FT1 a).2.1 ≠ (FT1 b).2.1 := by decide +kernel
theorem ok1 : ∀ k, k < 3 → parseFieldDescriptor (FT1 k).2.2.1 = some (TY1 k) := by decide +kernel
theorem hw1 {U : State} (h : TB U) (args : Array Value) : ∀ w ∈ u_ws "BigRunner$Inputs" FT1 3, w.before args U = true := h.all _ [303, 305, 307] (by decide +kernel) (by decide +kernel) args
def FT2 : u_T := fun k => match k with
  | 0 => ("BigRunner$Interval", "least", "J", false)
  | _ => ("BigRunner$Interval", "greatest", "J", false)
def TY2 : Nat → FieldType := fun k => match k with
  | 0 => .long
  | _ => .long
theorem nm2 : ∀ a, a < 2 → ∀ b, b < 2 → a ≠ b → (FT2 a).2.1 ≠ (FT2 b).2.1 := by decide +kernel
theorem ok2 : ∀ k, k < 2 → parseFieldDescriptor (FT2 k).2.2.1 = some (TY2 k) := by decide +kernel
theorem hw2 {U : State} (h : TB U) (args : Array Value) : ∀ w ∈ u_ws "BigRunner$Interval" FT2 2, w.before args U = true := h.all _ [132, 134] (by decide +kernel) (by decide +kernel) args
def FT3 : u_T := fun k => match k with
  | 0 => ("BigRunner$LongDivision", "dividend", "[I", true)
  | 1 => ("BigRunner$LongDivision", "divisor", "[I", true)
  | _ => ("BigRunner$LongDivision", "size", "I", false)
def TY3 : Nat → FieldType := fun k => match k with
  | 0 => (.array .int)
  | 1 => (.array .int)
  | _ => .int
theorem nm3 : ∀ a, a < 3 → ∀ b, b < 3 → a ≠ b → (FT3 a).2.1 ≠ (FT3 b).2.1 := by decide +kernel
theorem ok3 : ∀ k, k < 3 → parseFieldDescriptor (FT3 k).2.2.1 = some (TY3 k) := by decide +kernel
theorem hw3 {U : State} (h : TB U) (args : Array Value) : ∀ w ∈ u_ws "BigRunner$LongDivision" FT3 3, w.before args U = true := h.all _ [322, 324, 326] (by decide +kernel) (by decide +kernel) args
def FT4 : u_T := fun k => match k with
  | 0 => ("BigRunner$LongNumber", "sign", "I", false)
  | 1 => ("BigRunner$LongNumber", "size", "I", false)
  | _ => ("BigRunner$LongNumber", "limbs", "[I", true)
def TY4 : Nat → FieldType := fun k => match k with
  | 0 => .int
  | 1 => .int
  | _ => (.array .int)
theorem nm4 : ∀ a, a < 3 → ∀ b, b < 3 → a ≠ b → (FT4 a).2.1 ≠ (FT4 b).2.1 := by decide +kernel
theorem ok4 : ∀ k, k < 3 → parseFieldDescriptor (FT4 k).2.2.1 = some (TY4 k) := by decide +kernel
theorem hw4 {U : State} (h : TB U) (args : Array Value) : ∀ w ∈ u_ws "BigRunner$LongNumber" FT4 3, w.before args U = true := h.all _ [194, 196, 198] (by decide +kernel) (by decide +kernel) args
def FT5 : u_T := fun k => match k with
  | 0 => ("BigRunner$Node", "kind", "I", false)
  | 1 => ("BigRunner$Node", "left", "I", false)
  | 2 => ("BigRunner$Node", "right", "I", false)
  | 3 => ("BigRunner$Node", "interval", "LBigRunner$Interval;", true)
  | 4 => ("BigRunner$Node", "isSmall", "Z", false)
  | 5 => ("BigRunner$Node", "machine", "J", false)
  | _ => ("BigRunner$Node", "wide", "LBigRunner$LongNumber;", true)
def TY5 : Nat → FieldType := fun k => match k with
  | 0 => .int
  | 1 => .int
  | 2 => .int
  | 3 => (.object "BigRunner$Interval")
  | 4 => .boolean
  | 5 => .long
  | _ => (.object "BigRunner$LongNumber")
theorem nm5 : ∀ a, a < 7 → ∀ b, b < 7 → a ≠ b → (FT5 a).2.1 ≠ (FT5 b).2.1 := by decide +kernel
theorem ok5 : ∀ k, k < 7 → parseFieldDescriptor (FT5 k).2.2.1 = some (TY5 k) := by decide +kernel
theorem hw5 {U : State} (h : TB U) (args : Array Value) : ∀ w ∈ u_ws "BigRunner$Node" FT5 7, w.before args U = true := h.all _ [225, 227, 229, 231, 233, 235, 237] (by decide +kernel) (by decide +kernel) args
def FT6 : u_T := fun k => match k with
  | 0 => ("BigRunner$Program", "statements", "[LBigRunner$Statement;", true)
  | 1 => ("BigRunner$Program", "statementCount", "I", false)
  | 2 => ("BigRunner$Program", "nodes", "[LBigRunner$Node;", true)
  | 3 => ("BigRunner$Program", "nodeCount", "I", false)
  | 4 => ("BigRunner$Program", "variables", "[LBigRunner$Interval;", true)
  | _ => ("BigRunner$Program", "ofInput", "LBigRunner$Interval;", true)
def TY6 : Nat → FieldType := fun k => match k with
  | 0 => (.array (.object "BigRunner$Statement"))
  | 1 => .int
  | 2 => (.array (.object "BigRunner$Node"))
  | 3 => .int
  | 4 => (.array (.object "BigRunner$Interval"))
  | _ => (.object "BigRunner$Interval")
theorem nm6 : ∀ a, a < 6 → ∀ b, b < 6 → a ≠ b → (FT6 a).2.1 ≠ (FT6 b).2.1 := by decide +kernel
theorem ok6 : ∀ k, k < 6 → parseFieldDescriptor (FT6 k).2.2.1 = some (TY6 k) := by decide +kernel
theorem hw6 {U : State} (h : TB U) (args : Array Value) : ∀ w ∈ u_ws "BigRunner$Program" FT6 6, w.before args U = true := h.all _ [257, 259, 261, 263, 265, 267] (by decide +kernel) (by decide +kernel) args
def FT7 : u_T := fun k => match k with
  | 0 => ("BigRunner$Reader", "text", "[C", false)
  | 1 => ("BigRunner$Reader", "length", "I", false)
  | 2 => ("BigRunner$Reader", "at", "I", false)
  | _ => ("BigRunner$Reader", "program", "LBigRunner$Program;", false)
def TY7 : Nat → FieldType := fun k => match k with
  | 0 => (.array .char)
  | 1 => .int
  | 2 => .int
  | _ => (.object "BigRunner$Program")
theorem nm7 : ∀ a, a < 4 → ∀ b, b < 4 → a ≠ b → (FT7 a).2.1 ≠ (FT7 b).2.1 := by decide +kernel
theorem ok7 : ∀ k, k < 4 → parseFieldDescriptor (FT7 k).2.2.1 = some (TY7 k) := by decide +kernel
theorem hw7 {U : State} (h : TB U) (args : Array Value) : ∀ w ∈ u_ws "BigRunner$Reader" FT7 4, w.before args U = true := h.all _ [275, 277, 279, 281] (by decide +kernel) (by decide +kernel) args
def FT8 : u_T := fun k => match k with
  | 0 => ("BigRunner$Runner", "program", "LBigRunner$Program;", false)
  | 1 => ("BigRunner$Runner", "inputs", "LBigRunner$Inputs;", true)
  | 2 => ("BigRunner$Runner", "at", "I", false)
  | 3 => ("BigRunner$Runner", "machine", "[J", true)
  | 4 => ("BigRunner$Runner", "wide", "[LBigRunner$LongNumber;", true)
  | 5 => ("BigRunner$Runner", "shown", "LBigRunner$LongNumber;", true)
  | 6 => ("BigRunner$Runner", "division", "LBigRunner$LongDivision;", true)
  | 7 => ("BigRunner$Runner", "kept", "[LBigRunner$LongNumber;", true)
  | 8 => ("BigRunner$Runner", "outputs", "I", false)
  | 9 => ("BigRunner$Runner", "steps", "I", false)
  | 10 => ("BigRunner$Runner", "machineOperations", "I", false)
  | 11 => ("BigRunner$Runner", "longOperations", "I", false)
  | _ => ("BigRunner$Runner", "trap", "I", false)
def TY8 : Nat → FieldType := fun k => match k with
  | 0 => (.object "BigRunner$Program")
  | 1 => (.object "BigRunner$Inputs")
  | 2 => .int
  | 3 => (.array .long)
  | 4 => (.array (.object "BigRunner$LongNumber"))
  | 5 => (.object "BigRunner$LongNumber")
  | 6 => (.object "BigRunner$LongDivision")
  | 7 => (.array (.object "BigRunner$LongNumber"))
  | 8 => .int
  | 9 => .int
  | 10 => .int
  | 11 => .int
  | _ => .int
theorem nm8 : ∀ a, a < 13 → ∀ b, b < 13 → a ≠ b → (FT8 a).2.1 ≠ (FT8 b).2.1 := by decide +kernel
theorem ok8 : ∀ k, k < 13 → parseFieldDescriptor (FT8 k).2.2.1 = some (TY8 k) := by decide +kernel
theorem hw8 {U : State} (h : TB U) (args : Array Value) : ∀ w ∈ u_ws "BigRunner$Runner" FT8 13, w.before args U = true := h.all _ [351, 353, 355, 357, 359, 361, 363, 365, 367, 369, 371, 373, 375] (by decide +kernel) (by decide +kernel) args
def FT9 : u_T := fun k => match k with
  | 0 => ("BigRunner$Statement", "kind", "I", false)
  | 1 => ("BigRunner$Statement", "name", "I", false)
  | 2 => ("BigRunner$Statement", "firstNode", "I", false)
  | 3 => ("BigRunner$Statement", "lastNode", "I", false)
  | _ => ("BigRunner$Statement", "target", "I", false)
def TY9 : Nat → FieldType := fun k => match k with
  | 0 => .int
  | 1 => .int
  | 2 => .int
  | 3 => .int
  | _ => .int
theorem nm9 : ∀ a, a < 5 → ∀ b, b < 5 → a ≠ b → (FT9 a).2.1 ≠ (FT9 b).2.1 := by decide +kernel
theorem ok9 : ∀ k, k < 5 → parseFieldDescriptor (FT9 k).2.2.1 = some (TY9 k) := by decide +kernel
theorem hw9 {U : State} (h : TB U) (args : Array Value) : ∀ w ∈ u_ws "BigRunner$Statement" FT9 5, w.before args U = true := h.all _ [162, 164, 166, 168, 170] (by decide +kernel) (by decide +kernel) args
def FT10 : u_T := fun k => match k with
  | 0 => ("BigRunnerModel", "thrown", "I", false)
  | 1 => ("BigRunnerModel", "text", "[C", true)
  | 2 => ("BigRunnerModel", "length", "I", false)
  | 3 => ("BigRunnerModel", "draft", "[I", true)
  | 4 => ("BigRunnerModel", "draftArg", "[I", true)
  | 5 => ("BigRunnerModel", "drafts", "I", false)
  | 6 => ("BigRunnerModel", "code", "[I", true)
  | 7 => ("BigRunnerModel", "arg", "[I", true)
  | 8 => ("BigRunnerModel", "machineSign", "[Z", true)
  | 9 => ("BigRunnerModel", "size", "I", false)
  | 10 => ("BigRunnerModel", "at", "I", false)
  | 11 => ("BigRunnerModel", "depth", "I", false)
  | 12 => ("BigRunnerModel", "wait", "[C", true)
  | 13 => ("BigRunnerModel", "waits", "I", false)
  | 14 => ("BigRunnerModel", "begins", "[I", true)
  | 15 => ("BigRunnerModel", "kinds", "[I", true)
  | 16 => ("BigRunnerModel", "opened", "I", false)
  | 17 => ("BigRunnerModel", "low", "[J", true)
  | 18 => ("BigRunnerModel", "high", "[J", true)
  | 19 => ("BigRunnerModel", "under", "[Z", true)
  | 20 => ("BigRunnerModel", "over", "[Z", true)
  | 21 => ("BigRunnerModel", "a", "[J", true)
  | 22 => ("BigRunnerModel", "b", "[J", true)
  | 23 => ("BigRunnerModel", "ua", "[Z", true)
  | 24 => ("BigRunnerModel", "ub", "[Z", true)
  | 25 => ("BigRunnerModel", "bounded", "[Z", true)
  | 26 => ("BigRunnerModel", "varLimbs", "[I", true)
  | 27 => ("BigRunnerModel", "varSign", "[I", true)
  | 28 => ("BigRunnerModel", "outLimbs", "[I", true)
  | 29 => ("BigRunnerModel", "outSign", "[I", true)
  | 30 => ("BigRunnerModel", "limbs", "[I", true)
  | 31 => ("BigRunnerModel", "sign", "[I", true)
  | 32 => ("BigRunnerModel", "top", "I", false)
  | 33 => ("BigRunnerModel", "result", "[I", true)
  | 34 => ("BigRunnerModel", "rest", "[I", true)
  | 35 => ("BigRunnerModel", "inputs", "[I", true)
  | 36 => ("BigRunnerModel", "waiting", "I", false)
  | 37 => ("BigRunnerModel", "given", "I", false)
  | 38 => ("BigRunnerModel", "pc", "I", false)
  | 39 => ("BigRunnerModel", "state", "I", false)
  | 40 => ("BigRunnerModel", "trap", "I", false)
  | 41 => ("BigRunnerModel", "steps", "I", false)
  | 42 => ("BigRunnerModel", "machine", "I", false)
  | 43 => ("BigRunnerModel", "longs", "I", false)
  | _ => ("BigRunnerModel", "dueStatement", "Z", false)
def TY10 : Nat → FieldType := fun k => match k with
  | 0 => .int
  | 1 => (.array .char)
  | 2 => .int
  | 3 => (.array .int)
  | 4 => (.array .int)
  | 5 => .int
  | 6 => (.array .int)
  | 7 => (.array .int)
  | 8 => (.array .boolean)
  | 9 => .int
  | 10 => .int
  | 11 => .int
  | 12 => (.array .char)
  | 13 => .int
  | 14 => (.array .int)
  | 15 => (.array .int)
  | 16 => .int
  | 17 => (.array .long)
  | 18 => (.array .long)
  | 19 => (.array .boolean)
  | 20 => (.array .boolean)
  | 21 => (.array .long)
  | 22 => (.array .long)
  | 23 => (.array .boolean)
  | 24 => (.array .boolean)
  | 25 => (.array .boolean)
  | 26 => (.array .int)
  | 27 => (.array .int)
  | 28 => (.array .int)
  | 29 => (.array .int)
  | 30 => (.array .int)
  | 31 => (.array .int)
  | 32 => .int
  | 33 => (.array .int)
  | 34 => (.array .int)
  | 35 => (.array .int)
  | 36 => .int
  | 37 => .int
  | 38 => .int
  | 39 => .int
  | 40 => .int
  | 41 => .int
  | 42 => .int
  | 43 => .int
  | _ => .boolean
theorem nm10 : ∀ a, a < 45 → ∀ b, b < 45 → a ≠ b → (FT10 a).2.1 ≠ (FT10 b).2.1 := by decide +kernel
theorem ok10 : ∀ k, k < 45 → parseFieldDescriptor (FT10 k).2.2.1 = some (TY10 k) := by decide +kernel
theorem hw10 {U : State} (h : TB U) (args : Array Value) : ∀ w ∈ u_ws "BigRunnerModel" FT10 45, w.before args U = true := h.all _ [992, 994, 996, 998, 1000, 1002, 1004, 1006, 1008, 1010, 1012, 1014, 1016, 1018, 1020, 1022, 1024, 1026, 1028, 1030, 1032, 1034, 1036, 1038, 1040, 1042, 1044, 1046, 1048, 1050, 1052, 1054, 1056, 1058, 1060, 1062, 1064, 1066, 1068, 1070, 1072, 1074, 1076, 1078, 1080] (by decide +kernel) (by decide +kernel) args
abbrev vcl : List vw_C := [("BigRunner", FT0, 5), ("BigRunner$Inputs", FT1, 3), ("BigRunner$Interval", FT2, 2), ("BigRunner$LongDivision", FT3, 3), ("BigRunner$LongNumber", FT4, 3), ("BigRunner$Node", FT5, 7), ("BigRunner$Program", FT6, 6), ("BigRunner$Reader", FT7, 4), ("BigRunner$Runner", FT8, 13), ("BigRunner$Statement", FT9, 5), ("BigRunnerModel", FT10, 45)]
theorem wd_0 {U : State} (h : TB U) (args : Array Value) : (Cond.selects "BigRunner" ⟨"BigRunner", "state", "()I"⟩ ⟨"BigRunner", "state", "()I"⟩).before args U = true := h.w 0 (by decide +kernel) rfl args
theorem wd_1 {U : State} (h : TB U) (args : Array Value) : (Cond.selects "BigRunner" ⟨"BigRunner", "hasVariable", "(I)Z"⟩ ⟨"BigRunner", "hasVariable", "(I)Z"⟩).before args U = true := h.w 1 (by decide +kernel) rfl args
theorem wd_2 {U : State} (h : TB U) (args : Array Value) : (Cond.selects "BigRunner$Reader" ⟨"BigRunner$Reader", "readProgram", "(I)Z"⟩ ⟨"BigRunner$Reader", "readProgram", "(I)Z"⟩).before args U = true := h.w 2 (by decide +kernel) rfl args
theorem wd_3 {U : State} (h : TB U) (args : Array Value) : (Cond.selects "BigRunner$Reader" ⟨"BigRunner$Reader", "readStatement", "(I)Z"⟩ ⟨"BigRunner$Reader", "readStatement", "(I)Z"⟩).before args U = true := h.w 3 (by decide +kernel) rfl args
theorem wd_4 {U : State} (h : TB U) (args : Array Value) : (Cond.selects "BigRunner$Reader" ⟨"BigRunner$Reader", "accept", "(C)Z"⟩ ⟨"BigRunner$Reader", "accept", "(C)Z"⟩).before args U = true := h.w 4 (by decide +kernel) rfl args
theorem wd_5 {U : State} (h : TB U) (args : Array Value) : (Cond.selects "BigRunner$Reader" ⟨"BigRunner$Reader", "next", "()C"⟩ ⟨"BigRunner$Reader", "next", "()C"⟩).before args U = true := h.w 5 (by decide +kernel) rfl args
theorem wd_6 {U : State} (h : TB U) (args : Array Value) : (Cond.selects "BigRunner$Reader" ⟨"BigRunner$Reader", "addStatement", "(I)I"⟩ ⟨"BigRunner$Reader", "addStatement", "(I)I"⟩).before args U = true := h.w 6 (by decide +kernel) rfl args
theorem wd_7 {U : State} (h : TB U) (args : Array Value) : (Cond.selects "BigRunner$Reader" ⟨"BigRunner$Reader", "readName", "(I)Z"⟩ ⟨"BigRunner$Reader", "readName", "(I)Z"⟩).before args U = true := h.w 7 (by decide +kernel) rfl args
theorem wd_72 {U : State} (h : TB U) (args : Array Value) : (Cond.initialized "BigRunner").before args U = true := h.w 72 (by decide +kernel) rfl args
theorem wd_73 {U : State} (h : TB U) (args : Array Value) : (Cond.initialized "BigRunner$Reader").before args U = true := h.w 73 (by decide +kernel) rfl args
theorem wd_74 {U : State} (h : TB U) (args : Array Value) : (Cond.initialized "BigRunner$Program").before args U = true := h.w 74 (by decide +kernel) rfl args
theorem wd_75 {U : State} (h : TB U) (args : Array Value) : (Cond.initialized "BigRunner$Interval").before args U = true := h.w 75 (by decide +kernel) rfl args
theorem wd_76 {U : State} (h : TB U) (args : Array Value) : (Cond.initialized "BigRunner$Statement").before args U = true := h.w 76 (by decide +kernel) rfl args
theorem wd_77 {U : State} (h : TB U) (args : Array Value) : (Cond.initialized "BigRunner$Node").before args U = true := h.w 77 (by decide +kernel) rfl args
theorem wd_78 {U : State} (h : TB U) (args : Array Value) : (Cond.initialized "BigRunner$LongNumber").before args U = true := h.w 78 (by decide +kernel) rfl args
theorem wd_79 {U : State} (h : TB U) (args : Array Value) : (Cond.initialized "BigRunner$Runner").before args U = true := h.w 79 (by decide +kernel) rfl args
theorem wd_80 {U : State} (h : TB U) (args : Array Value) : (Cond.initialized "BigRunner$Inputs").before args U = true := h.w 80 (by decide +kernel) rfl args
theorem wd_81 {U : State} (h : TB U) (args : Array Value) : (Cond.initialized "BigRunner$LongDivision").before args U = true := h.w 81 (by decide +kernel) rfl args
theorem wd_83 {U : State} (h : TB U) (args : Array Value) : (Cond.initialized "java/lang/Math").before args U = true := h.w 83 (by decide +kernel) rfl args
theorem wd_100 {U : State} (h : TB U) (args : Array Value) : (Cond.methodLink "BigRunner" 1 ⟨"java/lang/Object", "<init>", "()V"⟩).before args U = true := h.w 100 (by decide +kernel) rfl args
theorem wd_101 {U : State} (h : TB U) (args : Array Value) : (Cond.instanceMethod ⟨"java/lang/Object", "<init>", "()V"⟩).before args U = true := h.w 101 (by decide +kernel) rfl args
theorem wd_102 {U : State} (h : TB U) (args : Array Value) : (Cond.code ⟨"java/lang/Object", "<init>", "()V"⟩ ⟨#[0xb1]⟩ 1 none).before args U = true := h.w 102 (by decide +kernel) rfl args
theorem wd_103 {U : State} (h : TB U) (args : Array Value) : (Cond.classLink "BigRunner" 17 "BigRunner$Reader").before args U = true := h.w 103 (by decide +kernel) rfl args
theorem wd_104 {U : State} (h : TB U) (args : Array Value) : (Cond.instantiable "BigRunner$Reader" 4).before args U = true := h.w 104 (by decide +kernel) rfl args
theorem wd_105 {U : State} (h : TB U) (args : Array Value) : (Cond.methodLinkNest "BigRunner" 19 ⟨"BigRunner$Reader", "<init>", "()V"⟩ "BigRunner").before args U = true := h.w 105 (by decide +kernel) rfl args
theorem wd_106 {U : State} (h : TB U) (args : Array Value) : (Cond.instanceMethod ⟨"BigRunner$Reader", "<init>", "()V"⟩).before args U = true := h.w 106 (by decide +kernel) rfl args
theorem wd_107 {U : State} (h : TB U) (args : Array Value) : (Cond.code ⟨"BigRunner$Reader", "<init>", "()V"⟩ prog_8_method_1_code 1 none).before args U = true := h.w 107 (by decide +kernel) rfl args
theorem wd_108 {U : State} (h : TB U) (args : Array Value) : (Cond.methodLink "BigRunner$Reader" 3 ⟨"java/lang/Object", "<init>", "()V"⟩).before args U = true := h.w 108 (by decide +kernel) rfl args
theorem wd_109 {U : State} (h : TB U) (args : Array Value) : (Cond.classLink "BigRunner$Reader" 22 "BigRunner$Program").before args U = true := h.w 109 (by decide +kernel) rfl args
theorem wd_110 {U : State} (h : TB U) (args : Array Value) : (Cond.instantiable "BigRunner$Program" 6).before args U = true := h.w 110 (by decide +kernel) rfl args
theorem wd_111 {U : State} (h : TB U) (args : Array Value) : (Cond.methodLink "BigRunner$Reader" 24 ⟨"BigRunner$Program", "<init>", "()V"⟩).before args U = true := h.w 111 (by decide +kernel) rfl args
theorem wd_112 {U : State} (h : TB U) (args : Array Value) : (Cond.instanceMethod ⟨"BigRunner$Program", "<init>", "()V"⟩).before args U = true := h.w 112 (by decide +kernel) rfl args
theorem wd_113 {U : State} (h : TB U) (args : Array Value) : (Cond.code ⟨"BigRunner$Program", "<init>", "()V"⟩ prog_7_method_1_code 2 none).before args U = true := h.w 113 (by decide +kernel) rfl args
theorem wd_114 {U : State} (h : TB U) (args : Array Value) : (Cond.methodLink "BigRunner$Program" 5 ⟨"java/lang/Object", "<init>", "()V"⟩).before args U = true := h.w 114 (by decide +kernel) rfl args
theorem wd_115 {U : State} (h : TB U) (args : Array Value) : (Cond.classLink "BigRunner$Program" 11 "BigRunner$Statement").before args U = true := h.w 115 (by decide +kernel) rfl args
theorem wd_116 {U : State} (h : TB U) (args : Array Value) : (Cond.arrayOver (.object "BigRunner$Statement")).before args U = true := h.w 116 (by decide +kernel) rfl args
theorem wd_117 {U : State} (h : TB U) (args : Array Value) : (Cond.classLink "BigRunner$Program" 21 "BigRunner$Node").before args U = true := h.w 117 (by decide +kernel) rfl args
theorem wd_118 {U : State} (h : TB U) (args : Array Value) : (Cond.arrayOver (.object "BigRunner$Node")).before args U = true := h.w 118 (by decide +kernel) rfl args
theorem wd_119 {U : State} (h : TB U) (args : Array Value) : (Cond.classLink "BigRunner$Program" 30 "BigRunner$Interval").before args U = true := h.w 119 (by decide +kernel) rfl args
theorem wd_120 {U : State} (h : TB U) (args : Array Value) : (Cond.arrayOver (.object "BigRunner$Interval")).before args U = true := h.w 120 (by decide +kernel) rfl args
theorem wd_121 {U : State} (h : TB U) (args : Array Value) : (Cond.instantiable "BigRunner$Interval" 2).before args U = true := h.w 121 (by decide +kernel) rfl args
theorem wd_122 {U : State} (h : TB U) (args : Array Value) : (Cond.methodLinkNest "BigRunner$Program" 36 ⟨"BigRunner$Interval", "<init>", "()V"⟩ "BigRunner").before args U = true := h.w 122 (by decide +kernel) rfl args
theorem wd_123 {U : State} (h : TB U) (args : Array Value) : (Cond.instanceMethod ⟨"BigRunner$Interval", "<init>", "()V"⟩).before args U = true := h.w 123 (by decide +kernel) rfl args
theorem wd_124 {U : State} (h : TB U) (args : Array Value) : (Cond.code ⟨"BigRunner$Interval", "<init>", "()V"⟩ prog_3_method_1_code 1 none).before args U = true := h.w 124 (by decide +kernel) rfl args
theorem wd_125 {U : State} (h : TB U) (args : Array Value) : (Cond.methodLink "BigRunner$Interval" 5 ⟨"java/lang/Object", "<init>", "()V"⟩).before args U = true := h.w 125 (by decide +kernel) rfl args
theorem wd_126 {U : State} (h : TB U) (args : Array Value) : (Cond.fieldLink "BigRunner$Interval" 11 "BigRunner$Interval" "least" "J").before args U = true := h.w 126 (by decide +kernel) rfl args
theorem wd_127 {U : State} (h : TB U) (args : Array Value) : (Cond.fieldLink "BigRunner$Program" 47 "BigRunner$Interval" "least" "J").before args U = true := h.w 127 (by decide +kernel) rfl args
theorem wd_129 {U : State} (h : TB U) (args : Array Value) : (Cond.fieldLink "BigRunner$Interval" 15 "BigRunner$Interval" "greatest" "J").before args U = true := h.w 129 (by decide +kernel) rfl args
theorem wd_130 {U : State} (h : TB U) (args : Array Value) : (Cond.fieldLink "BigRunner$Program" 53 "BigRunner$Interval" "greatest" "J").before args U = true := h.w 130 (by decide +kernel) rfl args
theorem wd_137 {U : State} (h : TB U) (args : Array Value) : (Cond.arrayClass .char).before args U = true := h.w 137 (by decide +kernel) rfl args
theorem wd_138 {U : State} (h : TB U) (args : Array Value) : (Cond.instantiable "BigRunner$Statement" 5).before args U = true := h.w 138 (by decide +kernel) rfl args
theorem wd_139 {U : State} (h : TB U) (args : Array Value) : (Cond.methodLinkNest "BigRunner$Program" 41 ⟨"BigRunner$Statement", "<init>", "()V"⟩ "BigRunner").before args U = true := h.w 139 (by decide +kernel) rfl args
theorem wd_140 {U : State} (h : TB U) (args : Array Value) : (Cond.instanceMethod ⟨"BigRunner$Statement", "<init>", "()V"⟩).before args U = true := h.w 140 (by decide +kernel) rfl args
theorem wd_141 {U : State} (h : TB U) (args : Array Value) : (Cond.code ⟨"BigRunner$Statement", "<init>", "()V"⟩ prog_10_method_1_code 1 none).before args U = true := h.w 141 (by decide +kernel) rfl args
theorem wd_142 {U : State} (h : TB U) (args : Array Value) : (Cond.methodLink "BigRunner$Statement" 1 ⟨"java/lang/Object", "<init>", "()V"⟩).before args U = true := h.w 142 (by decide +kernel) rfl args
theorem wd_143 {U : State} (h : TB U) (args : Array Value) : (Cond.fieldLink "BigRunner$Statement" 9 "BigRunner$Statement" "kind" "I").before args U = true := h.w 143 (by decide +kernel) rfl args
theorem wd_146 {U : State} (h : TB U) (args : Array Value) : (Cond.fieldLink "BigRunner$Reader" 127 "BigRunner$Statement" "kind" "I").before args U = true := h.w 146 (by decide +kernel) rfl args
theorem wd_147 {U : State} (h : TB U) (args : Array Value) : (Cond.fieldLink "BigRunner$Statement" 13 "BigRunner$Statement" "name" "I").before args U = true := h.w 147 (by decide +kernel) rfl args
theorem wd_151 {U : State} (h : TB U) (args : Array Value) : (Cond.fieldLink "BigRunner$Statement" 16 "BigRunner$Statement" "firstNode" "I").before args U = true := h.w 151 (by decide +kernel) rfl args
theorem wd_155 {U : State} (h : TB U) (args : Array Value) : (Cond.fieldLink "BigRunner$Statement" 19 "BigRunner$Statement" "lastNode" "I").before args U = true := h.w 155 (by decide +kernel) rfl args
theorem wd_159 {U : State} (h : TB U) (args : Array Value) : (Cond.fieldLink "BigRunner$Statement" 22 "BigRunner$Statement" "target" "I").before args U = true := h.w 159 (by decide +kernel) rfl args
theorem wd_173 {U : State} (h : TB U) (args : Array Value) : (Cond.instantiable "BigRunner$Node" 7).before args U = true := h.w 173 (by decide +kernel) rfl args
theorem wd_174 {U : State} (h : TB U) (args : Array Value) : (Cond.methodLinkNest "BigRunner$Program" 42 ⟨"BigRunner$Node", "<init>", "()V"⟩ "BigRunner").before args U = true := h.w 174 (by decide +kernel) rfl args
theorem wd_175 {U : State} (h : TB U) (args : Array Value) : (Cond.instanceMethod ⟨"BigRunner$Node", "<init>", "()V"⟩).before args U = true := h.w 175 (by decide +kernel) rfl args
theorem wd_176 {U : State} (h : TB U) (args : Array Value) : (Cond.code ⟨"BigRunner$Node", "<init>", "()V"⟩ prog_6_method_1_code 1 none).before args U = true := h.w 176 (by decide +kernel) rfl args
theorem wd_177 {U : State} (h : TB U) (args : Array Value) : (Cond.methodLink "BigRunner$Node" 1 ⟨"java/lang/Object", "<init>", "()V"⟩).before args U = true := h.w 177 (by decide +kernel) rfl args
theorem wd_178 {U : State} (h : TB U) (args : Array Value) : (Cond.classLink "BigRunner$Node" 19 "BigRunner$Interval").before args U = true := h.w 178 (by decide +kernel) rfl args
theorem wd_179 {U : State} (h : TB U) (args : Array Value) : (Cond.methodLinkNest "BigRunner$Node" 21 ⟨"BigRunner$Interval", "<init>", "()V"⟩ "BigRunner").before args U = true := h.w 179 (by decide +kernel) rfl args
theorem wd_180 {U : State} (h : TB U) (args : Array Value) : (Cond.classLink "BigRunner$Node" 34 "BigRunner$LongNumber").before args U = true := h.w 180 (by decide +kernel) rfl args
theorem wd_181 {U : State} (h : TB U) (args : Array Value) : (Cond.instantiable "BigRunner$LongNumber" 3).before args U = true := h.w 181 (by decide +kernel) rfl args
theorem wd_182 {U : State} (h : TB U) (args : Array Value) : (Cond.methodLinkNest "BigRunner$Node" 36 ⟨"BigRunner$LongNumber", "<init>", "()V"⟩ "BigRunner").before args U = true := h.w 182 (by decide +kernel) rfl args
theorem wd_183 {U : State} (h : TB U) (args : Array Value) : (Cond.instanceMethod ⟨"BigRunner$LongNumber", "<init>", "()V"⟩).before args U = true := h.w 183 (by decide +kernel) rfl args
theorem wd_184 {U : State} (h : TB U) (args : Array Value) : (Cond.code ⟨"BigRunner$LongNumber", "<init>", "()V"⟩ prog_5_method_1_code 1 none).before args U = true := h.w 184 (by decide +kernel) rfl args
theorem wd_185 {U : State} (h : TB U) (args : Array Value) : (Cond.methodLink "BigRunner$LongNumber" 1 ⟨"java/lang/Object", "<init>", "()V"⟩).before args U = true := h.w 185 (by decide +kernel) rfl args
theorem wd_186 {U : State} (h : TB U) (args : Array Value) : (Cond.fieldLink "BigRunner$LongNumber" 7 "BigRunner$LongNumber" "sign" "I").before args U = true := h.w 186 (by decide +kernel) rfl args
theorem wd_190 {U : State} (h : TB U) (args : Array Value) : (Cond.fieldLink "BigRunner$LongNumber" 13 "BigRunner$LongNumber" "size" "I").before args U = true := h.w 190 (by decide +kernel) rfl args
theorem wd_192 {U : State} (h : TB U) (args : Array Value) : (Cond.fieldLink "BigRunner$LongNumber" 16 "BigRunner$LongNumber" "limbs" "[I").before args U = true := h.w 192 (by decide +kernel) rfl args
theorem wd_201 {U : State} (h : TB U) (args : Array Value) : (Cond.arrayClass .int).before args U = true := h.w 201 (by decide +kernel) rfl args
theorem wd_202 {U : State} (h : TB U) (args : Array Value) : (Cond.fieldLink "BigRunner$Node" 9 "BigRunner$Node" "kind" "I").before args U = true := h.w 202 (by decide +kernel) rfl args
theorem wd_206 {U : State} (h : TB U) (args : Array Value) : (Cond.fieldLink "BigRunner$Node" 13 "BigRunner$Node" "left" "I").before args U = true := h.w 206 (by decide +kernel) rfl args
theorem wd_210 {U : State} (h : TB U) (args : Array Value) : (Cond.fieldLink "BigRunner$Node" 16 "BigRunner$Node" "right" "I").before args U = true := h.w 210 (by decide +kernel) rfl args
theorem wd_214 {U : State} (h : TB U) (args : Array Value) : (Cond.fieldLink "BigRunner$Node" 22 "BigRunner$Node" "interval" "LBigRunner$Interval;").before args U = true := h.w 214 (by decide +kernel) rfl args
theorem wd_216 {U : State} (h : TB U) (args : Array Value) : (Cond.fieldLink "BigRunner$Node" 26 "BigRunner$Node" "isSmall" "Z").before args U = true := h.w 216 (by decide +kernel) rfl args
theorem wd_219 {U : State} (h : TB U) (args : Array Value) : (Cond.fieldLink "BigRunner$Node" 30 "BigRunner$Node" "machine" "J").before args U = true := h.w 219 (by decide +kernel) rfl args
theorem wd_223 {U : State} (h : TB U) (args : Array Value) : (Cond.fieldLink "BigRunner$Node" 37 "BigRunner$Node" "wide" "LBigRunner$LongNumber;").before args U = true := h.w 223 (by decide +kernel) rfl args
theorem wd_240 {U : State} (h : TB U) (args : Array Value) : (Cond.constantLong "BigRunner$Program" 45 (-1000000000)).before args U = true := h.w 240 (by decide +kernel) rfl args
theorem wd_241 {U : State} (h : TB U) (args : Array Value) : (Cond.constantLong "BigRunner$Program" 51 1000000000).before args U = true := h.w 241 (by decide +kernel) rfl args
theorem wd_242 {U : State} (h : TB U) (args : Array Value) : (Cond.fieldLink "BigRunner$Program" 13 "BigRunner$Program" "statements" "[LBigRunner$Statement;").before args U = true := h.w 242 (by decide +kernel) rfl args
theorem wd_244 {U : State} (h : TB U) (args : Array Value) : (Cond.fieldLink "BigRunner$Reader" 78 "BigRunner$Program" "statements" "[LBigRunner$Statement;").before args U = true := h.w 244 (by decide +kernel) rfl args
theorem wd_245 {U : State} (h : TB U) (args : Array Value) : (Cond.fieldLink "BigRunner$Program" 17 "BigRunner$Program" "statementCount" "I").before args U = true := h.w 245 (by decide +kernel) rfl args
theorem wd_246 {U : State} (h : TB U) (args : Array Value) : (Cond.fieldLink "BigRunner$Reader" 35 "BigRunner$Program" "statementCount" "I").before args U = true := h.w 246 (by decide +kernel) rfl args
theorem wd_248 {U : State} (h : TB U) (args : Array Value) : (Cond.fieldLink "BigRunner$Program" 23 "BigRunner$Program" "nodes" "[LBigRunner$Node;").before args U = true := h.w 248 (by decide +kernel) rfl args
theorem wd_251 {U : State} (h : TB U) (args : Array Value) : (Cond.fieldLink "BigRunner$Program" 27 "BigRunner$Program" "nodeCount" "I").before args U = true := h.w 251 (by decide +kernel) rfl args
theorem wd_252 {U : State} (h : TB U) (args : Array Value) : (Cond.fieldLink "BigRunner$Reader" 38 "BigRunner$Program" "nodeCount" "I").before args U = true := h.w 252 (by decide +kernel) rfl args
theorem wd_253 {U : State} (h : TB U) (args : Array Value) : (Cond.fieldLink "BigRunner$Program" 32 "BigRunner$Program" "variables" "[LBigRunner$Interval;").before args U = true := h.w 253 (by decide +kernel) rfl args
theorem wd_256 {U : State} (h : TB U) (args : Array Value) : (Cond.fieldLink "BigRunner$Program" 37 "BigRunner$Program" "ofInput" "LBigRunner$Interval;").before args U = true := h.w 256 (by decide +kernel) rfl args
theorem wd_270 {U : State} (h : TB U) (args : Array Value) : (Cond.fieldLink "BigRunner$Reader" 9 "BigRunner$Reader" "text" "[C").before args U = true := h.w 270 (by decide +kernel) rfl args
theorem wd_271 {U : State} (h : TB U) (args : Array Value) : (Cond.fieldLink "BigRunner$Reader" 15 "BigRunner$Reader" "length" "I").before args U = true := h.w 271 (by decide +kernel) rfl args
theorem wd_272 {U : State} (h : TB U) (args : Array Value) : (Cond.fieldLink "BigRunner$Reader" 19 "BigRunner$Reader" "at" "I").before args U = true := h.w 272 (by decide +kernel) rfl args
theorem wd_273 {U : State} (h : TB U) (args : Array Value) : (Cond.fieldLink "BigRunner$Reader" 25 "BigRunner$Reader" "program" "LBigRunner$Program;").before args U = true := h.w 273 (by decide +kernel) rfl args
theorem wd_284 {U : State} (h : TB U) (args : Array Value) : (Cond.classLink "BigRunner" 24 "BigRunner$Runner").before args U = true := h.w 284 (by decide +kernel) rfl args
theorem wd_285 {U : State} (h : TB U) (args : Array Value) : (Cond.instantiable "BigRunner$Runner" 13).before args U = true := h.w 285 (by decide +kernel) rfl args
theorem wd_286 {U : State} (h : TB U) (args : Array Value) : (Cond.methodLink "BigRunner" 26 ⟨"BigRunner$Runner", "<init>", "()V"⟩).before args U = true := h.w 286 (by decide +kernel) rfl args
theorem wd_287 {U : State} (h : TB U) (args : Array Value) : (Cond.instanceMethod ⟨"BigRunner$Runner", "<init>", "()V"⟩).before args U = true := h.w 287 (by decide +kernel) rfl args
theorem wd_288 {U : State} (h : TB U) (args : Array Value) : (Cond.code ⟨"BigRunner$Runner", "<init>", "()V"⟩ prog_9_method_1_code 2 none).before args U = true := h.w 288 (by decide +kernel) rfl args
theorem wd_289 {U : State} (h : TB U) (args : Array Value) : (Cond.methodLink "BigRunner$Runner" 3 ⟨"java/lang/Object", "<init>", "()V"⟩).before args U = true := h.w 289 (by decide +kernel) rfl args
theorem wd_290 {U : State} (h : TB U) (args : Array Value) : (Cond.classLink "BigRunner$Runner" 9 "BigRunner$Program").before args U = true := h.w 290 (by decide +kernel) rfl args
theorem wd_291 {U : State} (h : TB U) (args : Array Value) : (Cond.methodLink "BigRunner$Runner" 11 ⟨"BigRunner$Program", "<init>", "()V"⟩).before args U = true := h.w 291 (by decide +kernel) rfl args
theorem wd_292 {U : State} (h : TB U) (args : Array Value) : (Cond.classLink "BigRunner$Runner" 18 "BigRunner$Inputs").before args U = true := h.w 292 (by decide +kernel) rfl args
theorem wd_293 {U : State} (h : TB U) (args : Array Value) : (Cond.instantiable "BigRunner$Inputs" 3).before args U = true := h.w 293 (by decide +kernel) rfl args
theorem wd_294 {U : State} (h : TB U) (args : Array Value) : (Cond.methodLinkNest "BigRunner$Runner" 20 ⟨"BigRunner$Inputs", "<init>", "()V"⟩ "BigRunner").before args U = true := h.w 294 (by decide +kernel) rfl args
theorem wd_295 {U : State} (h : TB U) (args : Array Value) : (Cond.instanceMethod ⟨"BigRunner$Inputs", "<init>", "()V"⟩).before args U = true := h.w 295 (by decide +kernel) rfl args
theorem wd_296 {U : State} (h : TB U) (args : Array Value) : (Cond.code ⟨"BigRunner$Inputs", "<init>", "()V"⟩ prog_2_method_1_code 1 none).before args U = true := h.w 296 (by decide +kernel) rfl args
theorem wd_297 {U : State} (h : TB U) (args : Array Value) : (Cond.methodLink "BigRunner$Inputs" 1 ⟨"java/lang/Object", "<init>", "()V"⟩).before args U = true := h.w 297 (by decide +kernel) rfl args
theorem wd_298 {U : State} (h : TB U) (args : Array Value) : (Cond.fieldLink "BigRunner$Inputs" 9 "BigRunner$Inputs" "ring" "[I").before args U = true := h.w 298 (by decide +kernel) rfl args
theorem wd_299 {U : State} (h : TB U) (args : Array Value) : (Cond.fieldLink "BigRunner$Inputs" 13 "BigRunner$Inputs" "first" "I").before args U = true := h.w 299 (by decide +kernel) rfl args
theorem wd_300 {U : State} (h : TB U) (args : Array Value) : (Cond.fieldLink "BigRunner$Inputs" 17 "BigRunner$Inputs" "waiting" "I").before args U = true := h.w 300 (by decide +kernel) rfl args
theorem wd_302 {U : State} (h : TB U) (args : Array Value) : (Cond.fieldLink "BigRunner" 116 "BigRunner$Inputs" "waiting" "I").before args U = true := h.w 302 (by decide +kernel) rfl args
theorem wd_310 {U : State} (h : TB U) (args : Array Value) : (Cond.classLink "BigRunner$Runner" 33 "BigRunner$LongNumber").before args U = true := h.w 310 (by decide +kernel) rfl args
theorem wd_311 {U : State} (h : TB U) (args : Array Value) : (Cond.arrayOver (.object "BigRunner$LongNumber")).before args U = true := h.w 311 (by decide +kernel) rfl args
theorem wd_312 {U : State} (h : TB U) (args : Array Value) : (Cond.methodLinkNest "BigRunner$Runner" 39 ⟨"BigRunner$LongNumber", "<init>", "()V"⟩ "BigRunner").before args U = true := h.w 312 (by decide +kernel) rfl args
theorem wd_313 {U : State} (h : TB U) (args : Array Value) : (Cond.classLink "BigRunner$Runner" 44 "BigRunner$LongDivision").before args U = true := h.w 313 (by decide +kernel) rfl args
theorem wd_314 {U : State} (h : TB U) (args : Array Value) : (Cond.instantiable "BigRunner$LongDivision" 3).before args U = true := h.w 314 (by decide +kernel) rfl args
theorem wd_315 {U : State} (h : TB U) (args : Array Value) : (Cond.methodLinkNest "BigRunner$Runner" 46 ⟨"BigRunner$LongDivision", "<init>", "()V"⟩ "BigRunner").before args U = true := h.w 315 (by decide +kernel) rfl args
theorem wd_316 {U : State} (h : TB U) (args : Array Value) : (Cond.instanceMethod ⟨"BigRunner$LongDivision", "<init>", "()V"⟩).before args U = true := h.w 316 (by decide +kernel) rfl args
theorem wd_317 {U : State} (h : TB U) (args : Array Value) : (Cond.code ⟨"BigRunner$LongDivision", "<init>", "()V"⟩ prog_4_method_1_code 1 none).before args U = true := h.w 317 (by decide +kernel) rfl args
theorem wd_318 {U : State} (h : TB U) (args : Array Value) : (Cond.methodLink "BigRunner$LongDivision" 3 ⟨"java/lang/Object", "<init>", "()V"⟩).before args U = true := h.w 318 (by decide +kernel) rfl args
theorem wd_319 {U : State} (h : TB U) (args : Array Value) : (Cond.fieldLink "BigRunner$LongDivision" 9 "BigRunner$LongDivision" "dividend" "[I").before args U = true := h.w 319 (by decide +kernel) rfl args
theorem wd_320 {U : State} (h : TB U) (args : Array Value) : (Cond.fieldLink "BigRunner$LongDivision" 15 "BigRunner$LongDivision" "divisor" "[I").before args U = true := h.w 320 (by decide +kernel) rfl args
theorem wd_321 {U : State} (h : TB U) (args : Array Value) : (Cond.fieldLink "BigRunner$LongDivision" 18 "BigRunner$LongDivision" "size" "I").before args U = true := h.w 321 (by decide +kernel) rfl args
theorem wd_329 {U : State} (h : TB U) (args : Array Value) : (Cond.arrayClass .long).before args U = true := h.w 329 (by decide +kernel) rfl args
theorem wd_330 {U : State} (h : TB U) (args : Array Value) : (Cond.fieldLink "BigRunner$Runner" 12 "BigRunner$Runner" "program" "LBigRunner$Program;").before args U = true := h.w 330 (by decide +kernel) rfl args
theorem wd_332 {U : State} (h : TB U) (args : Array Value) : (Cond.fieldLink "BigRunner$Runner" 21 "BigRunner$Runner" "inputs" "LBigRunner$Inputs;").before args U = true := h.w 332 (by decide +kernel) rfl args
theorem wd_333 {U : State} (h : TB U) (args : Array Value) : (Cond.fieldLink "BigRunner" 61 "BigRunner$Runner" "inputs" "LBigRunner$Inputs;").before args U = true := h.w 333 (by decide +kernel) rfl args
theorem wd_334 {U : State} (h : TB U) (args : Array Value) : (Cond.fieldLink "BigRunner$Runner" 25 "BigRunner$Runner" "at" "I").before args U = true := h.w 334 (by decide +kernel) rfl args
theorem wd_335 {U : State} (h : TB U) (args : Array Value) : (Cond.fieldLink "BigRunner$Runner" 29 "BigRunner$Runner" "machine" "[J").before args U = true := h.w 335 (by decide +kernel) rfl args
theorem wd_336 {U : State} (h : TB U) (args : Array Value) : (Cond.fieldLink "BigRunner$Runner" 35 "BigRunner$Runner" "wide" "[LBigRunner$LongNumber;").before args U = true := h.w 336 (by decide +kernel) rfl args
theorem wd_337 {U : State} (h : TB U) (args : Array Value) : (Cond.fieldLink "BigRunner$Runner" 40 "BigRunner$Runner" "shown" "LBigRunner$LongNumber;").before args U = true := h.w 337 (by decide +kernel) rfl args
theorem wd_338 {U : State} (h : TB U) (args : Array Value) : (Cond.fieldLink "BigRunner$Runner" 47 "BigRunner$Runner" "division" "LBigRunner$LongDivision;").before args U = true := h.w 338 (by decide +kernel) rfl args
theorem wd_339 {U : State} (h : TB U) (args : Array Value) : (Cond.fieldLink "BigRunner$Runner" 51 "BigRunner$Runner" "kept" "[LBigRunner$LongNumber;").before args U = true := h.w 339 (by decide +kernel) rfl args
theorem wd_341 {U : State} (h : TB U) (args : Array Value) : (Cond.fieldLink "BigRunner$Runner" 54 "BigRunner$Runner" "outputs" "I").before args U = true := h.w 341 (by decide +kernel) rfl args
theorem wd_342 {U : State} (h : TB U) (args : Array Value) : (Cond.fieldLink "BigRunner" 113 "BigRunner$Runner" "outputs" "I").before args U = true := h.w 342 (by decide +kernel) rfl args
theorem wd_343 {U : State} (h : TB U) (args : Array Value) : (Cond.fieldLink "BigRunner$Runner" 57 "BigRunner$Runner" "steps" "I").before args U = true := h.w 343 (by decide +kernel) rfl args
theorem wd_344 {U : State} (h : TB U) (args : Array Value) : (Cond.fieldLink "BigRunner" 104 "BigRunner$Runner" "steps" "I").before args U = true := h.w 344 (by decide +kernel) rfl args
theorem wd_345 {U : State} (h : TB U) (args : Array Value) : (Cond.fieldLink "BigRunner$Runner" 60 "BigRunner$Runner" "machineOperations" "I").before args U = true := h.w 345 (by decide +kernel) rfl args
theorem wd_346 {U : State} (h : TB U) (args : Array Value) : (Cond.fieldLink "BigRunner" 107 "BigRunner$Runner" "machineOperations" "I").before args U = true := h.w 346 (by decide +kernel) rfl args
theorem wd_347 {U : State} (h : TB U) (args : Array Value) : (Cond.fieldLink "BigRunner$Runner" 63 "BigRunner$Runner" "longOperations" "I").before args U = true := h.w 347 (by decide +kernel) rfl args
theorem wd_348 {U : State} (h : TB U) (args : Array Value) : (Cond.fieldLink "BigRunner" 110 "BigRunner$Runner" "longOperations" "I").before args U = true := h.w 348 (by decide +kernel) rfl args
theorem wd_349 {U : State} (h : TB U) (args : Array Value) : (Cond.fieldLink "BigRunner$Runner" 66 "BigRunner$Runner" "trap" "I").before args U = true := h.w 349 (by decide +kernel) rfl args
theorem wd_350 {U : State} (h : TB U) (args : Array Value) : (Cond.fieldLink "BigRunner" 75 "BigRunner$Runner" "trap" "I").before args U = true := h.w 350 (by decide +kernel) rfl args
theorem wd_378 {U : State} (h : TB U) (args : Array Value) : (Cond.fieldLink "BigRunner" 9 "BigRunner" "line" "[C").before args U = true := h.w 378 (by decide +kernel) rfl args
theorem wd_379 {U : State} (h : TB U) (args : Array Value) : (Cond.fieldLink "BigRunner" 13 "BigRunner" "lineLength" "I").before args U = true := h.w 379 (by decide +kernel) rfl args
theorem wd_380 {U : State} (h : TB U) (args : Array Value) : (Cond.fieldLink "BigRunner" 20 "BigRunner" "reader" "LBigRunner$Reader;").before args U = true := h.w 380 (by decide +kernel) rfl args
theorem wd_381 {U : State} (h : TB U) (args : Array Value) : (Cond.fieldLink "BigRunner" 27 "BigRunner" "runner" "LBigRunner$Runner;").before args U = true := h.w 381 (by decide +kernel) rfl args
theorem wd_382 {U : State} (h : TB U) (args : Array Value) : (Cond.fieldLink "BigRunner" 31 "BigRunner" "loaded" "Z").before args U = true := h.w 382 (by decide +kernel) rfl args
theorem wd_406 {U : State} (h : TB U) (args : Array Value) : (Cond.methodLink "BigRunner" 65 ⟨"BigRunner$Inputs", "append", "(I)Z"⟩).before args U = true := h.w 406 (by decide +kernel) rfl args
theorem wd_407 {U : State} (h : TB U) (args : Array Value) : (Cond.instanceMethod ⟨"BigRunner$Inputs", "append", "(I)Z"⟩).before args U = true := h.w 407 (by decide +kernel) rfl args
theorem wd_408 {U : State} (h : TB U) (args : Array Value) : (Cond.selects "BigRunner$Inputs" ⟨"BigRunner$Inputs", "append", "(I)Z"⟩ ⟨"BigRunner$Inputs", "append", "(I)Z"⟩).before args U = true := h.w 408 (by decide +kernel) rfl args
theorem wd_409 {U : State} (h : TB U) (args : Array Value) : (Cond.code ⟨"BigRunner$Inputs", "append", "(I)Z"⟩ prog_2_method_2_code 2 (some .boolean)).before args U = true := h.w 409 (by decide +kernel) rfl args
theorem wd_410 {U : State} (h : TB U) (args : Array Value) : (Cond.constant "BigRunner$Inputs" 20 (-1000000000)).before args U = true := h.w 410 (by decide +kernel) rfl args
theorem wd_411 {U : State} (h : TB U) (args : Array Value) : (Cond.constant "BigRunner$Inputs" 21 1000000000).before args U = true := h.w 411 (by decide +kernel) rfl args
theorem wd_416 {U : State} (h : TB U) (args : Array Value) : (Cond.methodLink "BigRunner" 101 ⟨"BigRunner", "state", "()I"⟩).before args U = true := h.w 416 (by decide +kernel) rfl args
theorem wd_418 {U : State} (h : TB U) (args : Array Value) : (Cond.instanceMethod ⟨"BigRunner", "state", "()I"⟩).before args U = true := h.w 418 (by decide +kernel) rfl args
theorem wd_419 {U : State} (h : TB U) (args : Array Value) : (Cond.code ⟨"BigRunner", "state", "()I"⟩ prog_1_method_13_code 1 (some .int)).before args U = true := h.w 419 (by decide +kernel) rfl args
theorem wd_433 {U : State} (h : TB U) (args : Array Value) : (Cond.methodLink "BigRunner" 119 ⟨"BigRunner", "hasVariable", "(I)Z"⟩).before args U = true := h.w 433 (by decide +kernel) rfl args
theorem wd_435 {U : State} (h : TB U) (args : Array Value) : (Cond.instanceMethod ⟨"BigRunner", "hasVariable", "(I)Z"⟩).before args U = true := h.w 435 (by decide +kernel) rfl args
theorem wd_436 {U : State} (h : TB U) (args : Array Value) : (Cond.code ⟨"BigRunner", "hasVariable", "(I)Z"⟩ prog_1_method_12_code 2 (some .boolean)).before args U = true := h.w 436 (by decide +kernel) rfl args
theorem wd_458 {U : State} (h : TB U) (args : Array Value) : (Cond.methodLink "BigRunner$Reader" 29 ⟨"java/lang/Math", "min", "(II)I"⟩).before args U = true := h.w 458 (by decide +kernel) rfl args
theorem wd_459 {U : State} (h : TB U) (args : Array Value) : (Cond.static ⟨"java/lang/Math", "min", "(II)I"⟩).before args U = true := h.w 459 (by decide +kernel) rfl args
theorem wd_460 {U : State} (h : TB U) (args : Array Value) : (Cond.code Lib.Math.min.name Lib.Math.min.code 2 (some .int)).before args U = true := h.w 460 (by decide +kernel) rfl args
theorem wd_461 {U : State} (h : TB U) (args : Array Value) : (Cond.methodLink "BigRunner$Reader" 41 ⟨"BigRunner$Reader", "readProgram", "(I)Z"⟩).before args U = true := h.w 461 (by decide +kernel) rfl args
theorem wd_463 {U : State} (h : TB U) (args : Array Value) : (Cond.instanceMethod ⟨"BigRunner$Reader", "readProgram", "(I)Z"⟩).before args U = true := h.w 463 (by decide +kernel) rfl args
theorem wd_464 {U : State} (h : TB U) (args : Array Value) : (Cond.code ⟨"BigRunner$Reader", "readProgram", "(I)Z"⟩ prog_8_method_5_code 3 (some .boolean)).before args U = true := h.w 464 (by decide +kernel) rfl args
theorem wd_465 {U : State} (h : TB U) (args : Array Value) : (Cond.methodLink "BigRunner$Reader" 49 ⟨"BigRunner$Reader", "readStatement", "(I)Z"⟩).before args U = true := h.w 465 (by decide +kernel) rfl args
theorem wd_467 {U : State} (h : TB U) (args : Array Value) : (Cond.instanceMethod ⟨"BigRunner$Reader", "readStatement", "(I)Z"⟩).before args U = true := h.w 467 (by decide +kernel) rfl args
theorem wd_468 {U : State} (h : TB U) (args : Array Value) : (Cond.code ⟨"BigRunner$Reader", "readStatement", "(I)Z"⟩ prog_8_method_6_code 3 (some .boolean)).before args U = true := h.w 468 (by decide +kernel) rfl args
theorem wd_469 {U : State} (h : TB U) (args : Array Value) : (Cond.methodLink "BigRunner$Reader" 52 ⟨"BigRunner$Reader", "accept", "(C)Z"⟩).before args U = true := h.w 469 (by decide +kernel) rfl args
theorem wd_471 {U : State} (h : TB U) (args : Array Value) : (Cond.instanceMethod ⟨"BigRunner$Reader", "accept", "(C)Z"⟩).before args U = true := h.w 471 (by decide +kernel) rfl args
theorem wd_472 {U : State} (h : TB U) (args : Array Value) : (Cond.code ⟨"BigRunner$Reader", "accept", "(C)Z"⟩ prog_8_method_4_code 2 (some .boolean)).before args U = true := h.w 472 (by decide +kernel) rfl args
theorem wd_473 {U : State} (h : TB U) (args : Array Value) : (Cond.methodLink "BigRunner$Reader" 45 ⟨"BigRunner$Reader", "next", "()C"⟩).before args U = true := h.w 473 (by decide +kernel) rfl args
theorem wd_475 {U : State} (h : TB U) (args : Array Value) : (Cond.instanceMethod ⟨"BigRunner$Reader", "next", "()C"⟩).before args U = true := h.w 475 (by decide +kernel) rfl args
theorem wd_476 {U : State} (h : TB U) (args : Array Value) : (Cond.code ⟨"BigRunner$Reader", "next", "()C"⟩ prog_8_method_3_code 1 (some .char)).before args U = true := h.w 476 (by decide +kernel) rfl args
theorem wd_477 {U : State} (h : TB U) (args : Array Value) : (Cond.methodLink "BigRunner$Reader" 58 ⟨"BigRunner$Reader", "addStatement", "(I)I"⟩).before args U = true := h.w 477 (by decide +kernel) rfl args
theorem wd_479 {U : State} (h : TB U) (args : Array Value) : (Cond.instanceMethod ⟨"BigRunner$Reader", "addStatement", "(I)I"⟩).before args U = true := h.w 479 (by decide +kernel) rfl args
theorem wd_480 {U : State} (h : TB U) (args : Array Value) : (Cond.code ⟨"BigRunner$Reader", "addStatement", "(I)I"⟩ prog_8_method_16_code 2 (some .int)).before args U = true := h.w 480 (by decide +kernel) rfl args
theorem wd_481 {U : State} (h : TB U) (args : Array Value) : (Cond.methodLink "BigRunner$Reader" 62 ⟨"BigRunner$Reader", "readName", "(I)Z"⟩).before args U = true := h.w 481 (by decide +kernel) rfl args
theorem wd_483 {U : State} (h : TB U) (args : Array Value) : (Cond.instanceMethod ⟨"BigRunner$Reader", "readName", "(I)Z"⟩).before args U = true := h.w 483 (by decide +kernel) rfl args
theorem wd_484 {U : State} (h : TB U) (args : Array Value) : (Cond.code ⟨"BigRunner$Reader", "readName", "(I)Z"⟩ prog_8_method_9_code 3 (some .boolean)).before args U = true := h.w 484 (by decide +kernel) rfl args
theorem wd_939 {U : State} (h : TB U) (args : Array Value) : (Cond.methodLink "BigRunner$Runner" 92 ⟨"java/lang/Math", "min", "(II)I"⟩).before args U = true := h.w 939 (by decide +kernel) rfl args
theorem d_B_init_0 : decode prog_1_method_1_code 0 = .ok (.aload_n 0, 1) := by decide +kernel
theorem d_B_init_1 : decode prog_1_method_1_code 1 = .ok (.invokespecial 1, 3) := by decide +kernel
theorem d_B_init_4 : decode prog_1_method_1_code 4 = .ok (.aload_n 0, 1) := by decide +kernel
theorem d_B_init_5 : decode prog_1_method_1_code 5 = .ok (.bipush 72, 2) := by decide +kernel
theorem d_B_init_7 : decode prog_1_method_1_code 7 = .ok (.newarray .char, 2) := by decide +kernel
theorem d_B_init_9 : decode prog_1_method_1_code 9 = .ok (.putfield 9, 3) := by decide +kernel
theorem d_B_init_12 : decode prog_1_method_1_code 12 = .ok (.aload_n 0, 1) := by decide +kernel
theorem d_B_init_13 : decode prog_1_method_1_code 13 = .ok (.iconst 0, 1) := by decide +kernel
theorem d_B_init_14 : decode prog_1_method_1_code 14 = .ok (.putfield 13, 3) := by decide +kernel
theorem d_B_init_17 : decode prog_1_method_1_code 17 = .ok (.aload_n 0, 1) := by decide +kernel
theorem d_B_init_18 : decode prog_1_method_1_code 18 = .ok (.new 17, 3) := by decide +kernel
theorem d_B_init_21 : decode prog_1_method_1_code 21 = .ok (.dup, 1) := by decide +kernel
theorem d_B_init_22 : decode prog_1_method_1_code 22 = .ok (.invokespecial 19, 3) := by decide +kernel
theorem d_B_init_25 : decode prog_1_method_1_code 25 = .ok (.putfield 20, 3) := by decide +kernel
theorem d_B_init_28 : decode prog_1_method_1_code 28 = .ok (.aload_n 0, 1) := by decide +kernel
theorem d_B_init_29 : decode prog_1_method_1_code 29 = .ok (.new 24, 3) := by decide +kernel
theorem d_B_init_32 : decode prog_1_method_1_code 32 = .ok (.dup, 1) := by decide +kernel
theorem d_B_init_33 : decode prog_1_method_1_code 33 = .ok (.invokespecial 26, 3) := by decide +kernel
theorem d_B_init_36 : decode prog_1_method_1_code 36 = .ok (.putfield 27, 3) := by decide +kernel
theorem d_B_init_39 : decode prog_1_method_1_code 39 = .ok (.aload_n 0, 1) := by decide +kernel
theorem d_B_init_40 : decode prog_1_method_1_code 40 = .ok (.iconst 0, 1) := by decide +kernel
theorem d_B_init_41 : decode prog_1_method_1_code 41 = .ok (.putfield 31, 3) := by decide +kernel
theorem d_B_init_44 : decode prog_1_method_1_code 44 = .ok (.return_, 1) := by decide +kernel
theorem d_B_give_0 : decode prog_1_method_5_code 0 = .ok (.aload_n 0, 1) := by decide +kernel
theorem d_B_give_1 : decode prog_1_method_5_code 1 = .ok (.getfield 27, 3) := by decide +kernel
theorem d_B_give_4 : decode prog_1_method_5_code 4 = .ok (.getfield 61, 3) := by decide +kernel
theorem d_B_give_7 : decode prog_1_method_5_code 7 = .ok (.iload_n 1, 1) := by decide +kernel
theorem d_B_give_8 : decode prog_1_method_5_code 8 = .ok (.invokevirtual 65, 3) := by decide +kernel
theorem d_B_give_11 : decode prog_1_method_5_code 11 = .ok (.ireturn, 1) := by decide +kernel
theorem d_B_hasVariable_0 : decode prog_1_method_12_code 0 = .ok (.aload_n 0, 1) := by decide +kernel
theorem d_B_hasVariable_1 : decode prog_1_method_12_code 1 = .ok (.getfield 31, 3) := by decide +kernel
theorem d_B_hasVariable_4 : decode prog_1_method_12_code 4 = .ok (.ifCond .eq 17, 3) := by decide +kernel
theorem d_B_hasVariable_21 : decode prog_1_method_12_code 21 = .ok (.iconst 0, 1) := by decide +kernel
theorem d_B_hasVariable_22 : decode prog_1_method_12_code 22 = .ok (.ireturn, 1) := by decide +kernel
theorem d_B_look_0 : decode prog_1_method_7_code 0 = .ok (.iload_n 1, 1) := by decide +kernel
theorem d_B_look_1 : decode prog_1_method_7_code 1 = .ok (.tableswitch 99 0 6 #[43, 48, 56, 64, 72, 80, 88], 43) := by decide +kernel
theorem d_B_look_44 : decode prog_1_method_7_code 44 = .ok (.aload_n 0, 1) := by decide +kernel
theorem d_B_look_45 : decode prog_1_method_7_code 45 = .ok (.invokevirtual 101, 3) := by decide +kernel
theorem d_B_look_48 : decode prog_1_method_7_code 48 = .ok (.ireturn, 1) := by decide +kernel
theorem d_B_look_49 : decode prog_1_method_7_code 49 = .ok (.aload_n 0, 1) := by decide +kernel
theorem d_B_look_50 : decode prog_1_method_7_code 50 = .ok (.getfield 27, 3) := by decide +kernel
theorem d_B_look_53 : decode prog_1_method_7_code 53 = .ok (.getfield 75, 3) := by decide +kernel
theorem d_B_look_56 : decode prog_1_method_7_code 56 = .ok (.ireturn, 1) := by decide +kernel
theorem d_B_look_57 : decode prog_1_method_7_code 57 = .ok (.aload_n 0, 1) := by decide +kernel
theorem d_B_look_58 : decode prog_1_method_7_code 58 = .ok (.getfield 27, 3) := by decide +kernel
theorem d_B_look_61 : decode prog_1_method_7_code 61 = .ok (.getfield 104, 3) := by decide +kernel
theorem d_B_look_64 : decode prog_1_method_7_code 64 = .ok (.ireturn, 1) := by decide +kernel
theorem d_B_look_65 : decode prog_1_method_7_code 65 = .ok (.aload_n 0, 1) := by decide +kernel
theorem d_B_look_66 : decode prog_1_method_7_code 66 = .ok (.getfield 27, 3) := by decide +kernel
theorem d_B_look_69 : decode prog_1_method_7_code 69 = .ok (.getfield 107, 3) := by decide +kernel
theorem d_B_look_72 : decode prog_1_method_7_code 72 = .ok (.ireturn, 1) := by decide +kernel
theorem d_B_look_73 : decode prog_1_method_7_code 73 = .ok (.aload_n 0, 1) := by decide +kernel
theorem d_B_look_74 : decode prog_1_method_7_code 74 = .ok (.getfield 27, 3) := by decide +kernel
theorem d_B_look_77 : decode prog_1_method_7_code 77 = .ok (.getfield 110, 3) := by decide +kernel
theorem d_B_look_80 : decode prog_1_method_7_code 80 = .ok (.ireturn, 1) := by decide +kernel
theorem d_B_look_81 : decode prog_1_method_7_code 81 = .ok (.aload_n 0, 1) := by decide +kernel
theorem d_B_look_82 : decode prog_1_method_7_code 82 = .ok (.getfield 27, 3) := by decide +kernel
theorem d_B_look_85 : decode prog_1_method_7_code 85 = .ok (.getfield 113, 3) := by decide +kernel
theorem d_B_look_88 : decode prog_1_method_7_code 88 = .ok (.ireturn, 1) := by decide +kernel
theorem d_B_look_89 : decode prog_1_method_7_code 89 = .ok (.aload_n 0, 1) := by decide +kernel
theorem d_B_look_90 : decode prog_1_method_7_code 90 = .ok (.getfield 27, 3) := by decide +kernel
theorem d_B_look_93 : decode prog_1_method_7_code 93 = .ok (.getfield 61, 3) := by decide +kernel
theorem d_B_look_96 : decode prog_1_method_7_code 96 = .ok (.getfield 116, 3) := by decide +kernel
theorem d_B_look_99 : decode prog_1_method_7_code 99 = .ok (.ireturn, 1) := by decide +kernel
theorem d_B_look_100 : decode prog_1_method_7_code 100 = .ok (.iconst (-1), 1) := by decide +kernel
theorem d_B_look_101 : decode prog_1_method_7_code 101 = .ok (.ireturn, 1) := by decide +kernel
theorem d_B_small_0 : decode prog_1_method_9_code 0 = .ok (.aload_n 0, 1) := by decide +kernel
theorem d_B_small_1 : decode prog_1_method_9_code 1 = .ok (.iload_n 1, 1) := by decide +kernel
theorem d_B_small_2 : decode prog_1_method_9_code 2 = .ok (.invokevirtual 119, 3) := by decide +kernel
theorem d_B_small_5 : decode prog_1_method_9_code 5 = .ok (.ifCond .eq 25, 3) := by decide +kernel
theorem d_B_small_30 : decode prog_1_method_9_code 30 = .ok (.iconst 0, 1) := by decide +kernel
theorem d_B_small_31 : decode prog_1_method_9_code 31 = .ok (.ireturn, 1) := by decide +kernel
theorem d_B_state_0 : decode prog_1_method_13_code 0 = .ok (.aload_n 0, 1) := by decide +kernel
theorem d_B_state_1 : decode prog_1_method_13_code 1 = .ok (.getfield 31, 3) := by decide +kernel
theorem d_B_state_4 : decode prog_1_method_13_code 4 = .ok (.ifCond .ne 5, 3) := by decide +kernel
theorem d_B_state_7 : decode prog_1_method_13_code 7 = .ok (.iconst 0, 1) := by decide +kernel
theorem d_B_state_8 : decode prog_1_method_13_code 8 = .ok (.ireturn, 1) := by decide +kernel
theorem d_B_type_0 : decode prog_1_method_2_code 0 = .ok (.iload_n 1, 1) := by decide +kernel
theorem d_B_type_1 : decode prog_1_method_2_code 1 = .ok (.bipush 33, 2) := by decide +kernel
theorem d_B_type_3 : decode prog_1_method_2_code 3 = .ok (.if_icmp .lt 18, 3) := by decide +kernel
theorem d_B_type_6 : decode prog_1_method_2_code 6 = .ok (.iload_n 1, 1) := by decide +kernel
theorem d_B_type_7 : decode prog_1_method_2_code 7 = .ok (.bipush 126, 2) := by decide +kernel
theorem d_B_type_9 : decode prog_1_method_2_code 9 = .ok (.if_icmp .gt 12, 3) := by decide +kernel
theorem d_B_type_12 : decode prog_1_method_2_code 12 = .ok (.aload_n 0, 1) := by decide +kernel
theorem d_B_type_13 : decode prog_1_method_2_code 13 = .ok (.getfield 13, 3) := by decide +kernel
theorem d_B_type_16 : decode prog_1_method_2_code 16 = .ok (.bipush 72, 2) := by decide +kernel
theorem d_B_type_18 : decode prog_1_method_2_code 18 = .ok (.if_icmp .lt 5, 3) := by decide +kernel
theorem d_B_type_21 : decode prog_1_method_2_code 21 = .ok (.iconst 0, 1) := by decide +kernel
theorem d_B_type_22 : decode prog_1_method_2_code 22 = .ok (.ireturn, 1) := by decide +kernel
theorem d_B_type_23 : decode prog_1_method_2_code 23 = .ok (.aload_n 0, 1) := by decide +kernel
theorem d_B_type_24 : decode prog_1_method_2_code 24 = .ok (.getfield 9, 3) := by decide +kernel
theorem d_B_type_27 : decode prog_1_method_2_code 27 = .ok (.aload_n 0, 1) := by decide +kernel
theorem d_B_type_28 : decode prog_1_method_2_code 28 = .ok (.getfield 13, 3) := by decide +kernel
theorem d_B_type_31 : decode prog_1_method_2_code 31 = .ok (.iload_n 1, 1) := by decide +kernel
theorem d_B_type_32 : decode prog_1_method_2_code 32 = .ok (.castore, 1) := by decide +kernel
theorem d_B_type_33 : decode prog_1_method_2_code 33 = .ok (.aload_n 0, 1) := by decide +kernel
theorem d_B_type_34 : decode prog_1_method_2_code 34 = .ok (.dup, 1) := by decide +kernel
theorem d_B_type_35 : decode prog_1_method_2_code 35 = .ok (.getfield 13, 3) := by decide +kernel
theorem d_B_type_38 : decode prog_1_method_2_code 38 = .ok (.iconst 1, 1) := by decide +kernel
theorem d_B_type_39 : decode prog_1_method_2_code 39 = .ok (.iadd, 1) := by decide +kernel
theorem d_B_type_40 : decode prog_1_method_2_code 40 = .ok (.putfield 13, 3) := by decide +kernel
theorem d_B_type_43 : decode prog_1_method_2_code 43 = .ok (.iconst 1, 1) := by decide +kernel
theorem d_B_type_44 : decode prog_1_method_2_code 44 = .ok (.ireturn, 1) := by decide +kernel
theorem d_B_wipe_0 : decode prog_1_method_3_code 0 = .ok (.aload_n 0, 1) := by decide +kernel
theorem d_B_wipe_1 : decode prog_1_method_3_code 1 = .ok (.iconst 0, 1) := by decide +kernel
theorem d_B_wipe_2 : decode prog_1_method_3_code 2 = .ok (.putfield 13, 3) := by decide +kernel
theorem d_B_wipe_5 : decode prog_1_method_3_code 5 = .ok (.return_, 1) := by decide +kernel
theorem d_NInputs_init_0 : decode prog_2_method_1_code 0 = .ok (.aload_n 0, 1) := by decide +kernel
theorem d_NInputs_init_1 : decode prog_2_method_1_code 1 = .ok (.invokespecial 1, 3) := by decide +kernel
theorem d_NInputs_init_4 : decode prog_2_method_1_code 4 = .ok (.aload_n 0, 1) := by decide +kernel
theorem d_NInputs_init_5 : decode prog_2_method_1_code 5 = .ok (.bipush 20, 2) := by decide +kernel
theorem d_NInputs_init_7 : decode prog_2_method_1_code 7 = .ok (.newarray .int, 2) := by decide +kernel
theorem d_NInputs_init_9 : decode prog_2_method_1_code 9 = .ok (.putfield 9, 3) := by decide +kernel
theorem d_NInputs_init_12 : decode prog_2_method_1_code 12 = .ok (.aload_n 0, 1) := by decide +kernel
theorem d_NInputs_init_13 : decode prog_2_method_1_code 13 = .ok (.iconst 0, 1) := by decide +kernel
theorem d_NInputs_init_14 : decode prog_2_method_1_code 14 = .ok (.putfield 13, 3) := by decide +kernel
theorem d_NInputs_init_17 : decode prog_2_method_1_code 17 = .ok (.aload_n 0, 1) := by decide +kernel
theorem d_NInputs_init_18 : decode prog_2_method_1_code 18 = .ok (.iconst 0, 1) := by decide +kernel
theorem d_NInputs_init_19 : decode prog_2_method_1_code 19 = .ok (.putfield 17, 3) := by decide +kernel
theorem d_NInputs_init_22 : decode prog_2_method_1_code 22 = .ok (.return_, 1) := by decide +kernel
theorem d_NInputs_append_0 : decode prog_2_method_2_code 0 = .ok (.iload_n 1, 1) := by decide +kernel
theorem d_NInputs_append_1 : decode prog_2_method_2_code 1 = .ok (.ldc 20, 2) := by decide +kernel
theorem d_NInputs_append_3 : decode prog_2_method_2_code 3 = .ok (.if_icmp .lt 18, 3) := by decide +kernel
theorem d_NInputs_append_6 : decode prog_2_method_2_code 6 = .ok (.iload_n 1, 1) := by decide +kernel
theorem d_NInputs_append_7 : decode prog_2_method_2_code 7 = .ok (.ldc 21, 2) := by decide +kernel
theorem d_NInputs_append_9 : decode prog_2_method_2_code 9 = .ok (.if_icmp .gt 12, 3) := by decide +kernel
theorem d_NInputs_append_12 : decode prog_2_method_2_code 12 = .ok (.aload_n 0, 1) := by decide +kernel
theorem d_NInputs_append_13 : decode prog_2_method_2_code 13 = .ok (.getfield 17, 3) := by decide +kernel
theorem d_NInputs_append_16 : decode prog_2_method_2_code 16 = .ok (.bipush 20, 2) := by decide +kernel
theorem d_NInputs_append_18 : decode prog_2_method_2_code 18 = .ok (.if_icmp .lt 5, 3) := by decide +kernel
theorem d_NInputs_append_21 : decode prog_2_method_2_code 21 = .ok (.iconst 0, 1) := by decide +kernel
theorem d_NInputs_append_22 : decode prog_2_method_2_code 22 = .ok (.ireturn, 1) := by decide +kernel
theorem d_NInputs_append_23 : decode prog_2_method_2_code 23 = .ok (.aload_n 0, 1) := by decide +kernel
theorem d_NInputs_append_24 : decode prog_2_method_2_code 24 = .ok (.getfield 9, 3) := by decide +kernel
theorem d_NInputs_append_27 : decode prog_2_method_2_code 27 = .ok (.aload_n 0, 1) := by decide +kernel
theorem d_NInputs_append_28 : decode prog_2_method_2_code 28 = .ok (.getfield 13, 3) := by decide +kernel
theorem d_NInputs_append_31 : decode prog_2_method_2_code 31 = .ok (.aload_n 0, 1) := by decide +kernel
theorem d_NInputs_append_32 : decode prog_2_method_2_code 32 = .ok (.getfield 17, 3) := by decide +kernel
theorem d_NInputs_append_35 : decode prog_2_method_2_code 35 = .ok (.iadd, 1) := by decide +kernel
theorem d_NInputs_append_36 : decode prog_2_method_2_code 36 = .ok (.bipush 20, 2) := by decide +kernel
theorem d_NInputs_append_38 : decode prog_2_method_2_code 38 = .ok (.irem, 1) := by decide +kernel
theorem d_NInputs_append_39 : decode prog_2_method_2_code 39 = .ok (.iload_n 1, 1) := by decide +kernel
theorem d_NInputs_append_40 : decode prog_2_method_2_code 40 = .ok (.iastore, 1) := by decide +kernel
theorem d_NInputs_append_41 : decode prog_2_method_2_code 41 = .ok (.aload_n 0, 1) := by decide +kernel
theorem d_NInputs_append_42 : decode prog_2_method_2_code 42 = .ok (.dup, 1) := by decide +kernel
theorem d_NInputs_append_43 : decode prog_2_method_2_code 43 = .ok (.getfield 17, 3) := by decide +kernel
theorem d_NInputs_append_46 : decode prog_2_method_2_code 46 = .ok (.iconst 1, 1) := by decide +kernel
theorem d_NInputs_append_47 : decode prog_2_method_2_code 47 = .ok (.iadd, 1) := by decide +kernel
theorem d_NInputs_append_48 : decode prog_2_method_2_code 48 = .ok (.putfield 17, 3) := by decide +kernel
theorem d_NInputs_append_51 : decode prog_2_method_2_code 51 = .ok (.iconst 1, 1) := by decide +kernel
theorem d_NInputs_append_52 : decode prog_2_method_2_code 52 = .ok (.ireturn, 1) := by decide +kernel
theorem d_NInterval_init_0 : decode prog_3_method_1_code 0 = .ok (.aload_n 0, 1) := by decide +kernel
theorem d_NInterval_init_1 : decode prog_3_method_1_code 1 = .ok (.invokespecial 5, 3) := by decide +kernel
theorem d_NInterval_init_4 : decode prog_3_method_1_code 4 = .ok (.aload_n 0, 1) := by decide +kernel
theorem d_NInterval_init_5 : decode prog_3_method_1_code 5 = .ok (.lconst 0, 1) := by decide +kernel
theorem d_NInterval_init_6 : decode prog_3_method_1_code 6 = .ok (.putfield 11, 3) := by decide +kernel
theorem d_NInterval_init_9 : decode prog_3_method_1_code 9 = .ok (.aload_n 0, 1) := by decide +kernel
theorem d_NInterval_init_10 : decode prog_3_method_1_code 10 = .ok (.lconst 0, 1) := by decide +kernel
theorem d_NInterval_init_11 : decode prog_3_method_1_code 11 = .ok (.putfield 15, 3) := by decide +kernel
theorem d_NInterval_init_14 : decode prog_3_method_1_code 14 = .ok (.return_, 1) := by decide +kernel
theorem d_NLongDivision_init_0 : decode prog_4_method_1_code 0 = .ok (.aload_n 0, 1) := by decide +kernel
theorem d_NLongDivision_init_1 : decode prog_4_method_1_code 1 = .ok (.invokespecial 3, 3) := by decide +kernel
theorem d_NLongDivision_init_4 : decode prog_4_method_1_code 4 = .ok (.aload_n 0, 1) := by decide +kernel
theorem d_NLongDivision_init_5 : decode prog_4_method_1_code 5 = .ok (.bipush 16, 2) := by decide +kernel
theorem d_NLongDivision_init_7 : decode prog_4_method_1_code 7 = .ok (.newarray .int, 2) := by decide +kernel
theorem d_NLongDivision_init_9 : decode prog_4_method_1_code 9 = .ok (.putfield 9, 3) := by decide +kernel
theorem d_NLongDivision_init_12 : decode prog_4_method_1_code 12 = .ok (.aload_n 0, 1) := by decide +kernel
theorem d_NLongDivision_init_13 : decode prog_4_method_1_code 13 = .ok (.bipush 16, 2) := by decide +kernel
theorem d_NLongDivision_init_15 : decode prog_4_method_1_code 15 = .ok (.newarray .int, 2) := by decide +kernel
theorem d_NLongDivision_init_17 : decode prog_4_method_1_code 17 = .ok (.putfield 15, 3) := by decide +kernel
theorem d_NLongDivision_init_20 : decode prog_4_method_1_code 20 = .ok (.aload_n 0, 1) := by decide +kernel
theorem d_NLongDivision_init_21 : decode prog_4_method_1_code 21 = .ok (.iconst 0, 1) := by decide +kernel
theorem d_NLongDivision_init_22 : decode prog_4_method_1_code 22 = .ok (.putfield 18, 3) := by decide +kernel
theorem d_NLongDivision_init_25 : decode prog_4_method_1_code 25 = .ok (.return_, 1) := by decide +kernel
theorem d_NLongNumber_init_0 : decode prog_5_method_1_code 0 = .ok (.aload_n 0, 1) := by decide +kernel
theorem d_NLongNumber_init_1 : decode prog_5_method_1_code 1 = .ok (.invokespecial 1, 3) := by decide +kernel
theorem d_NLongNumber_init_4 : decode prog_5_method_1_code 4 = .ok (.aload_n 0, 1) := by decide +kernel
theorem d_NLongNumber_init_5 : decode prog_5_method_1_code 5 = .ok (.iconst 0, 1) := by decide +kernel
theorem d_NLongNumber_init_6 : decode prog_5_method_1_code 6 = .ok (.putfield 7, 3) := by decide +kernel
theorem d_NLongNumber_init_9 : decode prog_5_method_1_code 9 = .ok (.aload_n 0, 1) := by decide +kernel
theorem d_NLongNumber_init_10 : decode prog_5_method_1_code 10 = .ok (.iconst 0, 1) := by decide +kernel
theorem d_NLongNumber_init_11 : decode prog_5_method_1_code 11 = .ok (.putfield 13, 3) := by decide +kernel
theorem d_NLongNumber_init_14 : decode prog_5_method_1_code 14 = .ok (.aload_n 0, 1) := by decide +kernel
theorem d_NLongNumber_init_15 : decode prog_5_method_1_code 15 = .ok (.bipush 15, 2) := by decide +kernel
theorem d_NLongNumber_init_17 : decode prog_5_method_1_code 17 = .ok (.newarray .int, 2) := by decide +kernel
theorem d_NLongNumber_init_19 : decode prog_5_method_1_code 19 = .ok (.putfield 16, 3) := by decide +kernel
theorem d_NLongNumber_init_22 : decode prog_5_method_1_code 22 = .ok (.return_, 1) := by decide +kernel
theorem d_NNode_init_0 : decode prog_6_method_1_code 0 = .ok (.aload_n 0, 1) := by decide +kernel
theorem d_NNode_init_1 : decode prog_6_method_1_code 1 = .ok (.invokespecial 1, 3) := by decide +kernel
theorem d_NNode_init_4 : decode prog_6_method_1_code 4 = .ok (.aload_n 0, 1) := by decide +kernel
theorem d_NNode_init_5 : decode prog_6_method_1_code 5 = .ok (.iconst 0, 1) := by decide +kernel
theorem d_NNode_init_6 : decode prog_6_method_1_code 6 = .ok (.putfield 9, 3) := by decide +kernel
theorem d_NNode_init_9 : decode prog_6_method_1_code 9 = .ok (.aload_n 0, 1) := by decide +kernel
theorem d_NNode_init_10 : decode prog_6_method_1_code 10 = .ok (.iconst 0, 1) := by decide +kernel
theorem d_NNode_init_11 : decode prog_6_method_1_code 11 = .ok (.putfield 13, 3) := by decide +kernel
theorem d_NNode_init_14 : decode prog_6_method_1_code 14 = .ok (.aload_n 0, 1) := by decide +kernel
theorem d_NNode_init_15 : decode prog_6_method_1_code 15 = .ok (.iconst 0, 1) := by decide +kernel
theorem d_NNode_init_16 : decode prog_6_method_1_code 16 = .ok (.putfield 16, 3) := by decide +kernel
theorem d_NNode_init_19 : decode prog_6_method_1_code 19 = .ok (.aload_n 0, 1) := by decide +kernel
theorem d_NNode_init_20 : decode prog_6_method_1_code 20 = .ok (.new 19, 3) := by decide +kernel
theorem d_NNode_init_23 : decode prog_6_method_1_code 23 = .ok (.dup, 1) := by decide +kernel
theorem d_NNode_init_24 : decode prog_6_method_1_code 24 = .ok (.invokespecial 21, 3) := by decide +kernel
theorem d_NNode_init_27 : decode prog_6_method_1_code 27 = .ok (.putfield 22, 3) := by decide +kernel
theorem d_NNode_init_30 : decode prog_6_method_1_code 30 = .ok (.aload_n 0, 1) := by decide +kernel
theorem d_NNode_init_31 : decode prog_6_method_1_code 31 = .ok (.iconst 1, 1) := by decide +kernel
theorem d_NNode_init_32 : decode prog_6_method_1_code 32 = .ok (.putfield 26, 3) := by decide +kernel
theorem d_NNode_init_35 : decode prog_6_method_1_code 35 = .ok (.aload_n 0, 1) := by decide +kernel
theorem d_NNode_init_36 : decode prog_6_method_1_code 36 = .ok (.lconst 0, 1) := by decide +kernel
theorem d_NNode_init_37 : decode prog_6_method_1_code 37 = .ok (.putfield 30, 3) := by decide +kernel
theorem d_NNode_init_40 : decode prog_6_method_1_code 40 = .ok (.aload_n 0, 1) := by decide +kernel
theorem d_NNode_init_41 : decode prog_6_method_1_code 41 = .ok (.new 34, 3) := by decide +kernel
theorem d_NNode_init_44 : decode prog_6_method_1_code 44 = .ok (.dup, 1) := by decide +kernel
theorem d_NNode_init_45 : decode prog_6_method_1_code 45 = .ok (.invokespecial 36, 3) := by decide +kernel
theorem d_NNode_init_48 : decode prog_6_method_1_code 48 = .ok (.putfield 37, 3) := by decide +kernel
theorem d_NNode_init_51 : decode prog_6_method_1_code 51 = .ok (.return_, 1) := by decide +kernel
theorem d_NProgram_init_0 : decode prog_7_method_1_code 0 = .ok (.aload_n 0, 1) := by decide +kernel
theorem d_NProgram_init_1 : decode prog_7_method_1_code 1 = .ok (.invokespecial 5, 3) := by decide +kernel
theorem d_NProgram_init_4 : decode prog_7_method_1_code 4 = .ok (.aload_n 0, 1) := by decide +kernel
theorem d_NProgram_init_5 : decode prog_7_method_1_code 5 = .ok (.bipush 36, 2) := by decide +kernel
theorem d_NProgram_init_7 : decode prog_7_method_1_code 7 = .ok (.anewarray 11, 3) := by decide +kernel
theorem d_NProgram_init_10 : decode prog_7_method_1_code 10 = .ok (.putfield 13, 3) := by decide +kernel
theorem d_NProgram_init_13 : decode prog_7_method_1_code 13 = .ok (.aload_n 0, 1) := by decide +kernel
theorem d_NProgram_init_14 : decode prog_7_method_1_code 14 = .ok (.iconst 0, 1) := by decide +kernel
theorem d_NProgram_init_15 : decode prog_7_method_1_code 15 = .ok (.putfield 17, 3) := by decide +kernel
theorem d_NProgram_init_18 : decode prog_7_method_1_code 18 = .ok (.aload_n 0, 1) := by decide +kernel
theorem d_NProgram_init_19 : decode prog_7_method_1_code 19 = .ok (.bipush 72, 2) := by decide +kernel
theorem d_NProgram_init_21 : decode prog_7_method_1_code 21 = .ok (.anewarray 21, 3) := by decide +kernel
theorem d_NProgram_init_24 : decode prog_7_method_1_code 24 = .ok (.putfield 23, 3) := by decide +kernel
theorem d_NProgram_init_27 : decode prog_7_method_1_code 27 = .ok (.aload_n 0, 1) := by decide +kernel
theorem d_NProgram_init_28 : decode prog_7_method_1_code 28 = .ok (.iconst 0, 1) := by decide +kernel
theorem d_NProgram_init_29 : decode prog_7_method_1_code 29 = .ok (.putfield 27, 3) := by decide +kernel
theorem d_NProgram_init_32 : decode prog_7_method_1_code 32 = .ok (.aload_n 0, 1) := by decide +kernel
theorem d_NProgram_init_33 : decode prog_7_method_1_code 33 = .ok (.bipush 10, 2) := by decide +kernel
theorem d_NProgram_init_35 : decode prog_7_method_1_code 35 = .ok (.anewarray 30, 3) := by decide +kernel
theorem d_NProgram_init_38 : decode prog_7_method_1_code 38 = .ok (.putfield 32, 3) := by decide +kernel
theorem d_NProgram_init_41 : decode prog_7_method_1_code 41 = .ok (.aload_n 0, 1) := by decide +kernel
theorem d_NProgram_init_42 : decode prog_7_method_1_code 42 = .ok (.new 30, 3) := by decide +kernel
theorem d_NProgram_init_45 : decode prog_7_method_1_code 45 = .ok (.dup, 1) := by decide +kernel
theorem d_NProgram_init_46 : decode prog_7_method_1_code 46 = .ok (.invokespecial 36, 3) := by decide +kernel
theorem d_NProgram_init_49 : decode prog_7_method_1_code 49 = .ok (.putfield 37, 3) := by decide +kernel
theorem d_NProgram_init_52 : decode prog_7_method_1_code 52 = .ok (.iconst 0, 1) := by decide +kernel
theorem d_NProgram_init_53 : decode prog_7_method_1_code 53 = .ok (.istore_n 1, 1) := by decide +kernel
theorem d_NProgram_init_54 : decode prog_7_method_1_code 54 = .ok (.iload_n 1, 1) := by decide +kernel
theorem d_NProgram_init_55 : decode prog_7_method_1_code 55 = .ok (.bipush 36, 2) := by decide +kernel
theorem d_NProgram_init_57 : decode prog_7_method_1_code 57 = .ok (.if_icmp .ge 22, 3) := by decide +kernel
theorem d_NProgram_init_60 : decode prog_7_method_1_code 60 = .ok (.aload_n 0, 1) := by decide +kernel
theorem d_NProgram_init_61 : decode prog_7_method_1_code 61 = .ok (.getfield 13, 3) := by decide +kernel
theorem d_NProgram_init_64 : decode prog_7_method_1_code 64 = .ok (.iload_n 1, 1) := by decide +kernel
theorem d_NProgram_init_65 : decode prog_7_method_1_code 65 = .ok (.new 11, 3) := by decide +kernel
theorem d_NProgram_init_68 : decode prog_7_method_1_code 68 = .ok (.dup, 1) := by decide +kernel
theorem d_NProgram_init_69 : decode prog_7_method_1_code 69 = .ok (.invokespecial 41, 3) := by decide +kernel
theorem d_NProgram_init_72 : decode prog_7_method_1_code 72 = .ok (.aastore, 1) := by decide +kernel
theorem d_NProgram_init_73 : decode prog_7_method_1_code 73 = .ok (.iinc 1 1, 3) := by decide +kernel
theorem d_NProgram_init_76 : decode prog_7_method_1_code 76 = .ok (.goto (-22), 3) := by decide +kernel
theorem d_NProgram_init_79 : decode prog_7_method_1_code 79 = .ok (.iconst 0, 1) := by decide +kernel
theorem d_NProgram_init_80 : decode prog_7_method_1_code 80 = .ok (.istore_n 1, 1) := by decide +kernel
theorem d_NProgram_init_81 : decode prog_7_method_1_code 81 = .ok (.iload_n 1, 1) := by decide +kernel
theorem d_NProgram_init_82 : decode prog_7_method_1_code 82 = .ok (.bipush 72, 2) := by decide +kernel
theorem d_NProgram_init_84 : decode prog_7_method_1_code 84 = .ok (.if_icmp .ge 22, 3) := by decide +kernel
theorem d_NProgram_init_87 : decode prog_7_method_1_code 87 = .ok (.aload_n 0, 1) := by decide +kernel
theorem d_NProgram_init_88 : decode prog_7_method_1_code 88 = .ok (.getfield 23, 3) := by decide +kernel
theorem d_NProgram_init_91 : decode prog_7_method_1_code 91 = .ok (.iload_n 1, 1) := by decide +kernel
theorem d_NProgram_init_92 : decode prog_7_method_1_code 92 = .ok (.new 21, 3) := by decide +kernel
theorem d_NProgram_init_95 : decode prog_7_method_1_code 95 = .ok (.dup, 1) := by decide +kernel
theorem d_NProgram_init_96 : decode prog_7_method_1_code 96 = .ok (.invokespecial 42, 3) := by decide +kernel
theorem d_NProgram_init_99 : decode prog_7_method_1_code 99 = .ok (.aastore, 1) := by decide +kernel
theorem d_NProgram_init_100 : decode prog_7_method_1_code 100 = .ok (.iinc 1 1, 3) := by decide +kernel
theorem d_NProgram_init_103 : decode prog_7_method_1_code 103 = .ok (.goto (-22), 3) := by decide +kernel
theorem d_NProgram_init_106 : decode prog_7_method_1_code 106 = .ok (.iconst 0, 1) := by decide +kernel
theorem d_NProgram_init_107 : decode prog_7_method_1_code 107 = .ok (.istore_n 1, 1) := by decide +kernel
theorem d_NProgram_init_108 : decode prog_7_method_1_code 108 = .ok (.iload_n 1, 1) := by decide +kernel
theorem d_NProgram_init_109 : decode prog_7_method_1_code 109 = .ok (.bipush 10, 2) := by decide +kernel
theorem d_NProgram_init_111 : decode prog_7_method_1_code 111 = .ok (.if_icmp .ge 22, 3) := by decide +kernel
theorem d_NProgram_init_114 : decode prog_7_method_1_code 114 = .ok (.aload_n 0, 1) := by decide +kernel
theorem d_NProgram_init_115 : decode prog_7_method_1_code 115 = .ok (.getfield 32, 3) := by decide +kernel
theorem d_NProgram_init_118 : decode prog_7_method_1_code 118 = .ok (.iload_n 1, 1) := by decide +kernel
theorem d_NProgram_init_119 : decode prog_7_method_1_code 119 = .ok (.new 30, 3) := by decide +kernel
theorem d_NProgram_init_122 : decode prog_7_method_1_code 122 = .ok (.dup, 1) := by decide +kernel
theorem d_NProgram_init_123 : decode prog_7_method_1_code 123 = .ok (.invokespecial 36, 3) := by decide +kernel
theorem d_NProgram_init_126 : decode prog_7_method_1_code 126 = .ok (.aastore, 1) := by decide +kernel
theorem d_NProgram_init_127 : decode prog_7_method_1_code 127 = .ok (.iinc 1 1, 3) := by decide +kernel
theorem d_NProgram_init_130 : decode prog_7_method_1_code 130 = .ok (.goto (-22), 3) := by decide +kernel
theorem d_NProgram_init_133 : decode prog_7_method_1_code 133 = .ok (.aload_n 0, 1) := by decide +kernel
theorem d_NProgram_init_134 : decode prog_7_method_1_code 134 = .ok (.getfield 37, 3) := by decide +kernel
theorem d_NProgram_init_137 : decode prog_7_method_1_code 137 = .ok (.ldc2_w 45, 3) := by decide +kernel
theorem d_NProgram_init_140 : decode prog_7_method_1_code 140 = .ok (.putfield 47, 3) := by decide +kernel
theorem d_NProgram_init_143 : decode prog_7_method_1_code 143 = .ok (.aload_n 0, 1) := by decide +kernel
theorem d_NProgram_init_144 : decode prog_7_method_1_code 144 = .ok (.getfield 37, 3) := by decide +kernel
theorem d_NProgram_init_147 : decode prog_7_method_1_code 147 = .ok (.ldc2_w 51, 3) := by decide +kernel
theorem d_NProgram_init_150 : decode prog_7_method_1_code 150 = .ok (.putfield 53, 3) := by decide +kernel
theorem d_NProgram_init_153 : decode prog_7_method_1_code 153 = .ok (.return_, 1) := by decide +kernel
theorem d_NReader_init_0 : decode prog_8_method_1_code 0 = .ok (.aload_n 0, 1) := by decide +kernel
theorem d_NReader_init_1 : decode prog_8_method_1_code 1 = .ok (.invokespecial 3, 3) := by decide +kernel
theorem d_NReader_init_4 : decode prog_8_method_1_code 4 = .ok (.aload_n 0, 1) := by decide +kernel
theorem d_NReader_init_5 : decode prog_8_method_1_code 5 = .ok (.iconst 0, 1) := by decide +kernel
theorem d_NReader_init_6 : decode prog_8_method_1_code 6 = .ok (.newarray .char, 2) := by decide +kernel
theorem d_NReader_init_8 : decode prog_8_method_1_code 8 = .ok (.putfield 9, 3) := by decide +kernel
theorem d_NReader_init_11 : decode prog_8_method_1_code 11 = .ok (.aload_n 0, 1) := by decide +kernel
theorem d_NReader_init_12 : decode prog_8_method_1_code 12 = .ok (.iconst 0, 1) := by decide +kernel
theorem d_NReader_init_13 : decode prog_8_method_1_code 13 = .ok (.putfield 15, 3) := by decide +kernel
theorem d_NReader_init_16 : decode prog_8_method_1_code 16 = .ok (.aload_n 0, 1) := by decide +kernel
theorem d_NReader_init_17 : decode prog_8_method_1_code 17 = .ok (.iconst 0, 1) := by decide +kernel
theorem d_NReader_init_18 : decode prog_8_method_1_code 18 = .ok (.putfield 19, 3) := by decide +kernel
theorem d_NReader_init_21 : decode prog_8_method_1_code 21 = .ok (.aload_n 0, 1) := by decide +kernel
theorem d_NReader_init_22 : decode prog_8_method_1_code 22 = .ok (.new 22, 3) := by decide +kernel
theorem d_NReader_init_25 : decode prog_8_method_1_code 25 = .ok (.dup, 1) := by decide +kernel
theorem d_NReader_init_26 : decode prog_8_method_1_code 26 = .ok (.invokespecial 24, 3) := by decide +kernel
theorem d_NReader_init_29 : decode prog_8_method_1_code 29 = .ok (.putfield 25, 3) := by decide +kernel
theorem d_NReader_init_32 : decode prog_8_method_1_code 32 = .ok (.return_, 1) := by decide +kernel
theorem d_NReader_accept_0 : decode prog_8_method_4_code 0 = .ok (.aload_n 0, 1) := by decide +kernel
theorem d_NReader_accept_1 : decode prog_8_method_4_code 1 = .ok (.invokevirtual 45, 3) := by decide +kernel
theorem d_NReader_accept_4 : decode prog_8_method_4_code 4 = .ok (.iload_n 1, 1) := by decide +kernel
theorem d_NReader_accept_5 : decode prog_8_method_4_code 5 = .ok (.if_icmp .eq 5, 3) := by decide +kernel
theorem d_NReader_accept_8 : decode prog_8_method_4_code 8 = .ok (.iconst 0, 1) := by decide +kernel
theorem d_NReader_accept_9 : decode prog_8_method_4_code 9 = .ok (.ireturn, 1) := by decide +kernel
theorem d_NReader_addStatement_0 : decode prog_8_method_16_code 0 = .ok (.aload_n 0, 1) := by decide +kernel
theorem d_NReader_addStatement_1 : decode prog_8_method_16_code 1 = .ok (.getfield 25, 3) := by decide +kernel
theorem d_NReader_addStatement_4 : decode prog_8_method_16_code 4 = .ok (.getfield 35, 3) := by decide +kernel
theorem d_NReader_addStatement_7 : decode prog_8_method_16_code 7 = .ok (.aload_n 0, 1) := by decide +kernel
theorem d_NReader_addStatement_8 : decode prog_8_method_16_code 8 = .ok (.getfield 25, 3) := by decide +kernel
theorem d_NReader_addStatement_11 : decode prog_8_method_16_code 11 = .ok (.getfield 78, 3) := by decide +kernel
theorem d_NReader_addStatement_14 : decode prog_8_method_16_code 14 = .ok (.arraylength, 1) := by decide +kernel
theorem d_NReader_addStatement_15 : decode prog_8_method_16_code 15 = .ok (.if_icmp .lt 5, 3) := by decide +kernel
theorem d_NReader_addStatement_20 : decode prog_8_method_16_code 20 = .ok (.aload_n 0, 1) := by decide +kernel
theorem d_NReader_addStatement_21 : decode prog_8_method_16_code 21 = .ok (.getfield 25, 3) := by decide +kernel
theorem d_NReader_addStatement_24 : decode prog_8_method_16_code 24 = .ok (.getfield 78, 3) := by decide +kernel
theorem d_NReader_addStatement_27 : decode prog_8_method_16_code 27 = .ok (.aload_n 0, 1) := by decide +kernel
theorem d_NReader_addStatement_28 : decode prog_8_method_16_code 28 = .ok (.getfield 25, 3) := by decide +kernel
theorem d_NReader_addStatement_31 : decode prog_8_method_16_code 31 = .ok (.getfield 35, 3) := by decide +kernel
theorem d_NReader_addStatement_34 : decode prog_8_method_16_code 34 = .ok (.aaload, 1) := by decide +kernel
theorem d_NReader_addStatement_35 : decode prog_8_method_16_code 35 = .ok (.iload_n 1, 1) := by decide +kernel
theorem d_NReader_addStatement_36 : decode prog_8_method_16_code 36 = .ok (.putfield 127, 3) := by decide +kernel
theorem d_NReader_addStatement_39 : decode prog_8_method_16_code 39 = .ok (.aload_n 0, 1) := by decide +kernel
theorem d_NReader_addStatement_40 : decode prog_8_method_16_code 40 = .ok (.getfield 25, 3) := by decide +kernel
theorem d_NReader_addStatement_43 : decode prog_8_method_16_code 43 = .ok (.dup, 1) := by decide +kernel
theorem d_NReader_addStatement_44 : decode prog_8_method_16_code 44 = .ok (.getfield 35, 3) := by decide +kernel
theorem d_NReader_addStatement_47 : decode prog_8_method_16_code 47 = .ok (.iconst 1, 1) := by decide +kernel
theorem d_NReader_addStatement_48 : decode prog_8_method_16_code 48 = .ok (.iadd, 1) := by decide +kernel
theorem d_NReader_addStatement_49 : decode prog_8_method_16_code 49 = .ok (.putfield 35, 3) := by decide +kernel
theorem d_NReader_addStatement_52 : decode prog_8_method_16_code 52 = .ok (.aload_n 0, 1) := by decide +kernel
theorem d_NReader_addStatement_53 : decode prog_8_method_16_code 53 = .ok (.getfield 25, 3) := by decide +kernel
theorem d_NReader_addStatement_56 : decode prog_8_method_16_code 56 = .ok (.getfield 35, 3) := by decide +kernel
theorem d_NReader_addStatement_59 : decode prog_8_method_16_code 59 = .ok (.iconst 1, 1) := by decide +kernel
theorem d_NReader_addStatement_60 : decode prog_8_method_16_code 60 = .ok (.isub, 1) := by decide +kernel
theorem d_NReader_addStatement_61 : decode prog_8_method_16_code 61 = .ok (.ireturn, 1) := by decide +kernel
theorem d_NReader_next_0 : decode prog_8_method_3_code 0 = .ok (.aload_n 0, 1) := by decide +kernel
theorem d_NReader_next_1 : decode prog_8_method_3_code 1 = .ok (.getfield 19, 3) := by decide +kernel
theorem d_NReader_next_4 : decode prog_8_method_3_code 4 = .ok (.aload_n 0, 1) := by decide +kernel
theorem d_NReader_next_5 : decode prog_8_method_3_code 5 = .ok (.getfield 15, 3) := by decide +kernel
theorem d_NReader_next_8 : decode prog_8_method_3_code 8 = .ok (.if_icmp .ge 15, 3) := by decide +kernel
theorem d_NReader_next_23 : decode prog_8_method_3_code 23 = .ok (.bipush 32, 2) := by decide +kernel
theorem d_NReader_next_25 : decode prog_8_method_3_code 25 = .ok (.ireturn, 1) := by decide +kernel
theorem d_NReader_readName_0 : decode prog_8_method_9_code 0 = .ok (.aload_n 0, 1) := by decide +kernel
theorem d_NReader_readName_1 : decode prog_8_method_9_code 1 = .ok (.invokevirtual 45, 3) := by decide +kernel
theorem d_NReader_readName_4 : decode prog_8_method_9_code 4 = .ok (.istore_n 2, 1) := by decide +kernel
theorem d_NReader_readName_5 : decode prog_8_method_9_code 5 = .ok (.iload_n 1, 1) := by decide +kernel
theorem d_NReader_readName_6 : decode prog_8_method_9_code 6 = .ok (.iconst (-1), 1) := by decide +kernel
theorem d_NReader_readName_7 : decode prog_8_method_9_code 7 = .ok (.if_icmp .eq 15, 3) := by decide +kernel
theorem d_NReader_readName_10 : decode prog_8_method_9_code 10 = .ok (.iload_n 2, 1) := by decide +kernel
theorem d_NReader_readName_11 : decode prog_8_method_9_code 11 = .ok (.bipush 97, 2) := by decide +kernel
theorem d_NReader_readName_13 : decode prog_8_method_9_code 13 = .ok (.if_icmp .lt 9, 3) := by decide +kernel
theorem d_NReader_readName_22 : decode prog_8_method_9_code 22 = .ok (.iconst 0, 1) := by decide +kernel
theorem d_NReader_readName_23 : decode prog_8_method_9_code 23 = .ok (.ireturn, 1) := by decide +kernel
theorem d_NReader_readProgram_0 : decode prog_8_method_5_code 0 = .ok (.iload_n 1, 1) := by decide +kernel
theorem d_NReader_readProgram_1 : decode prog_8_method_5_code 1 = .ok (.bipush 10, 2) := by decide +kernel
theorem d_NReader_readProgram_3 : decode prog_8_method_5_code 3 = .ok (.if_icmp .le 5, 3) := by decide +kernel
theorem d_NReader_readProgram_8 : decode prog_8_method_5_code 8 = .ok (.iconst 0, 1) := by decide +kernel
theorem d_NReader_readProgram_9 : decode prog_8_method_5_code 9 = .ok (.istore_n 2, 1) := by decide +kernel
theorem d_NReader_readProgram_10 : decode prog_8_method_5_code 10 = .ok (.iload_n 2, 1) := by decide +kernel
theorem d_NReader_readProgram_11 : decode prog_8_method_5_code 11 = .ok (.bipush 72, 2) := by decide +kernel
theorem d_NReader_readProgram_13 : decode prog_8_method_5_code 13 = .ok (.if_icmp .ge 30, 3) := by decide +kernel
theorem d_NReader_readProgram_16 : decode prog_8_method_5_code 16 = .ok (.aload_n 0, 1) := by decide +kernel
theorem d_NReader_readProgram_17 : decode prog_8_method_5_code 17 = .ok (.iload_n 1, 1) := by decide +kernel
theorem d_NReader_readProgram_18 : decode prog_8_method_5_code 18 = .ok (.invokevirtual 49, 3) := by decide +kernel
theorem d_NReader_readProgram_21 : decode prog_8_method_5_code 21 = .ok (.ifCond .ne 5, 3) := by decide +kernel
theorem d_NReader_readProgram_24 : decode prog_8_method_5_code 24 = .ok (.iconst 0, 1) := by decide +kernel
theorem d_NReader_readProgram_25 : decode prog_8_method_5_code 25 = .ok (.ireturn, 1) := by decide +kernel
theorem d_NReader_readStatement_0 : decode prog_8_method_6_code 0 = .ok (.aload_n 0, 1) := by decide +kernel
theorem d_NReader_readStatement_1 : decode prog_8_method_6_code 1 = .ok (.bipush 63, 2) := by decide +kernel
theorem d_NReader_readStatement_3 : decode prog_8_method_6_code 3 = .ok (.invokevirtual 52, 3) := by decide +kernel
theorem d_NReader_readStatement_6 : decode prog_8_method_6_code 6 = .ok (.ifCond .eq 13, 3) := by decide +kernel
theorem d_NReader_readStatement_19 : decode prog_8_method_6_code 19 = .ok (.aload_n 0, 1) := by decide +kernel
theorem d_NReader_readStatement_20 : decode prog_8_method_6_code 20 = .ok (.bipush 33, 2) := by decide +kernel
theorem d_NReader_readStatement_22 : decode prog_8_method_6_code 22 = .ok (.invokevirtual 52, 3) := by decide +kernel
theorem d_NReader_readStatement_25 : decode prog_8_method_6_code 25 = .ok (.ifCond .eq 14, 3) := by decide +kernel
theorem d_NReader_readStatement_39 : decode prog_8_method_6_code 39 = .ok (.aload_n 0, 1) := by decide +kernel
theorem d_NReader_readStatement_40 : decode prog_8_method_6_code 40 = .ok (.bipush 91, 2) := by decide +kernel
theorem d_NReader_readStatement_42 : decode prog_8_method_6_code 42 = .ok (.invokevirtual 52, 3) := by decide +kernel
theorem d_NReader_readStatement_45 : decode prog_8_method_6_code 45 = .ok (.ifCond .eq 9, 3) := by decide +kernel
theorem d_NReader_readStatement_54 : decode prog_8_method_6_code 54 = .ok (.aload_n 0, 1) := by decide +kernel
theorem d_NReader_readStatement_55 : decode prog_8_method_6_code 55 = .ok (.bipush 123, 2) := by decide +kernel
theorem d_NReader_readStatement_57 : decode prog_8_method_6_code 57 = .ok (.invokevirtual 52, 3) := by decide +kernel
theorem d_NReader_readStatement_60 : decode prog_8_method_6_code 60 = .ok (.ifCond .eq 9, 3) := by decide +kernel
theorem d_NReader_readStatement_69 : decode prog_8_method_6_code 69 = .ok (.aload_n 0, 1) := by decide +kernel
theorem d_NReader_readStatement_70 : decode prog_8_method_6_code 70 = .ok (.iconst 0, 1) := by decide +kernel
theorem d_NReader_readStatement_71 : decode prog_8_method_6_code 71 = .ok (.invokevirtual 58, 3) := by decide +kernel
theorem d_NReader_readStatement_74 : decode prog_8_method_6_code 74 = .ok (.istore_n 2, 1) := by decide +kernel
theorem d_NReader_readStatement_75 : decode prog_8_method_6_code 75 = .ok (.aload_n 0, 1) := by decide +kernel
theorem d_NReader_readStatement_76 : decode prog_8_method_6_code 76 = .ok (.iload_n 2, 1) := by decide +kernel
theorem d_NReader_readStatement_77 : decode prog_8_method_6_code 77 = .ok (.invokevirtual 62, 3) := by decide +kernel
theorem d_NReader_readStatement_80 : decode prog_8_method_6_code 80 = .ok (.ifCond .eq 25, 3) := by decide +kernel
theorem d_NReader_readStatement_105 : decode prog_8_method_6_code 105 = .ok (.iconst 0, 1) := by decide +kernel
theorem d_NReader_readStatement_106 : decode prog_8_method_6_code 106 = .ok (.ireturn, 1) := by decide +kernel
theorem d_NReader_reads_0 : decode prog_8_method_2_code 0 = .ok (.aload_n 0, 1) := by decide +kernel
theorem d_NReader_reads_1 : decode prog_8_method_2_code 1 = .ok (.aload_n 1, 1) := by decide +kernel
theorem d_NReader_reads_2 : decode prog_8_method_2_code 2 = .ok (.putfield 9, 3) := by decide +kernel
theorem d_NReader_reads_5 : decode prog_8_method_2_code 5 = .ok (.aload_n 0, 1) := by decide +kernel
theorem d_NReader_reads_6 : decode prog_8_method_2_code 6 = .ok (.iload_n 2, 1) := by decide +kernel
theorem d_NReader_reads_7 : decode prog_8_method_2_code 7 = .ok (.aload_n 1, 1) := by decide +kernel
theorem d_NReader_reads_8 : decode prog_8_method_2_code 8 = .ok (.arraylength, 1) := by decide +kernel
theorem d_NReader_reads_9 : decode prog_8_method_2_code 9 = .ok (.invokestatic 29, 3) := by decide +kernel
theorem d_NReader_reads_12 : decode prog_8_method_2_code 12 = .ok (.putfield 15, 3) := by decide +kernel
theorem d_NReader_reads_15 : decode prog_8_method_2_code 15 = .ok (.aload_n 0, 1) := by decide +kernel
theorem d_NReader_reads_16 : decode prog_8_method_2_code 16 = .ok (.iconst 0, 1) := by decide +kernel
theorem d_NReader_reads_17 : decode prog_8_method_2_code 17 = .ok (.putfield 19, 3) := by decide +kernel
theorem d_NReader_reads_20 : decode prog_8_method_2_code 20 = .ok (.aload_n 0, 1) := by decide +kernel
theorem d_NReader_reads_21 : decode prog_8_method_2_code 21 = .ok (.getfield 25, 3) := by decide +kernel
theorem d_NReader_reads_24 : decode prog_8_method_2_code 24 = .ok (.iconst 0, 1) := by decide +kernel
theorem d_NReader_reads_25 : decode prog_8_method_2_code 25 = .ok (.putfield 35, 3) := by decide +kernel
theorem d_NReader_reads_28 : decode prog_8_method_2_code 28 = .ok (.aload_n 0, 1) := by decide +kernel
theorem d_NReader_reads_29 : decode prog_8_method_2_code 29 = .ok (.getfield 25, 3) := by decide +kernel
theorem d_NReader_reads_32 : decode prog_8_method_2_code 32 = .ok (.iconst 0, 1) := by decide +kernel
theorem d_NReader_reads_33 : decode prog_8_method_2_code 33 = .ok (.putfield 38, 3) := by decide +kernel
theorem d_NReader_reads_36 : decode prog_8_method_2_code 36 = .ok (.aload_n 0, 1) := by decide +kernel
theorem d_NReader_reads_37 : decode prog_8_method_2_code 37 = .ok (.iconst 1, 1) := by decide +kernel
theorem d_NReader_reads_38 : decode prog_8_method_2_code 38 = .ok (.invokevirtual 41, 3) := by decide +kernel
theorem d_NReader_reads_41 : decode prog_8_method_2_code 41 = .ok (.ifCond .eq 18, 3) := by decide +kernel
theorem d_NReader_reads_59 : decode prog_8_method_2_code 59 = .ok (.iconst 0, 1) := by decide +kernel
theorem d_NReader_reads_60 : decode prog_8_method_2_code 60 = .ok (.ireturn, 1) := by decide +kernel
theorem d_NRunner_init_0 : decode prog_9_method_1_code 0 = .ok (.aload_n 0, 1) := by decide +kernel
theorem d_NRunner_init_1 : decode prog_9_method_1_code 1 = .ok (.invokespecial 3, 3) := by decide +kernel
theorem d_NRunner_init_4 : decode prog_9_method_1_code 4 = .ok (.aload_n 0, 1) := by decide +kernel
theorem d_NRunner_init_5 : decode prog_9_method_1_code 5 = .ok (.new 9, 3) := by decide +kernel
theorem d_NRunner_init_8 : decode prog_9_method_1_code 8 = .ok (.dup, 1) := by decide +kernel
theorem d_NRunner_init_9 : decode prog_9_method_1_code 9 = .ok (.invokespecial 11, 3) := by decide +kernel
theorem d_NRunner_init_12 : decode prog_9_method_1_code 12 = .ok (.putfield 12, 3) := by decide +kernel
theorem d_NRunner_init_15 : decode prog_9_method_1_code 15 = .ok (.aload_n 0, 1) := by decide +kernel
theorem d_NRunner_init_16 : decode prog_9_method_1_code 16 = .ok (.new 18, 3) := by decide +kernel
theorem d_NRunner_init_19 : decode prog_9_method_1_code 19 = .ok (.dup, 1) := by decide +kernel
theorem d_NRunner_init_20 : decode prog_9_method_1_code 20 = .ok (.invokespecial 20, 3) := by decide +kernel
theorem d_NRunner_init_23 : decode prog_9_method_1_code 23 = .ok (.putfield 21, 3) := by decide +kernel
theorem d_NRunner_init_26 : decode prog_9_method_1_code 26 = .ok (.aload_n 0, 1) := by decide +kernel
theorem d_NRunner_init_27 : decode prog_9_method_1_code 27 = .ok (.iconst 0, 1) := by decide +kernel
theorem d_NRunner_init_28 : decode prog_9_method_1_code 28 = .ok (.putfield 25, 3) := by decide +kernel
theorem d_NRunner_init_31 : decode prog_9_method_1_code 31 = .ok (.aload_n 0, 1) := by decide +kernel
theorem d_NRunner_init_32 : decode prog_9_method_1_code 32 = .ok (.bipush 10, 2) := by decide +kernel
theorem d_NRunner_init_34 : decode prog_9_method_1_code 34 = .ok (.newarray .long, 2) := by decide +kernel
theorem d_NRunner_init_36 : decode prog_9_method_1_code 36 = .ok (.putfield 29, 3) := by decide +kernel
theorem d_NRunner_init_39 : decode prog_9_method_1_code 39 = .ok (.aload_n 0, 1) := by decide +kernel
theorem d_NRunner_init_40 : decode prog_9_method_1_code 40 = .ok (.bipush 10, 2) := by decide +kernel
theorem d_NRunner_init_42 : decode prog_9_method_1_code 42 = .ok (.anewarray 33, 3) := by decide +kernel
theorem d_NRunner_init_45 : decode prog_9_method_1_code 45 = .ok (.putfield 35, 3) := by decide +kernel
theorem d_NRunner_init_48 : decode prog_9_method_1_code 48 = .ok (.aload_n 0, 1) := by decide +kernel
theorem d_NRunner_init_49 : decode prog_9_method_1_code 49 = .ok (.new 33, 3) := by decide +kernel
theorem d_NRunner_init_52 : decode prog_9_method_1_code 52 = .ok (.dup, 1) := by decide +kernel
theorem d_NRunner_init_53 : decode prog_9_method_1_code 53 = .ok (.invokespecial 39, 3) := by decide +kernel
theorem d_NRunner_init_56 : decode prog_9_method_1_code 56 = .ok (.putfield 40, 3) := by decide +kernel
theorem d_NRunner_init_59 : decode prog_9_method_1_code 59 = .ok (.aload_n 0, 1) := by decide +kernel
theorem d_NRunner_init_60 : decode prog_9_method_1_code 60 = .ok (.new 44, 3) := by decide +kernel
theorem d_NRunner_init_63 : decode prog_9_method_1_code 63 = .ok (.dup, 1) := by decide +kernel
theorem d_NRunner_init_64 : decode prog_9_method_1_code 64 = .ok (.invokespecial 46, 3) := by decide +kernel
theorem d_NRunner_init_67 : decode prog_9_method_1_code 67 = .ok (.putfield 47, 3) := by decide +kernel
theorem d_NRunner_init_70 : decode prog_9_method_1_code 70 = .ok (.aload_n 0, 1) := by decide +kernel
theorem d_NRunner_init_71 : decode prog_9_method_1_code 71 = .ok (.bipush 12, 2) := by decide +kernel
theorem d_NRunner_init_73 : decode prog_9_method_1_code 73 = .ok (.anewarray 33, 3) := by decide +kernel
theorem d_NRunner_init_76 : decode prog_9_method_1_code 76 = .ok (.putfield 51, 3) := by decide +kernel
theorem d_NRunner_init_79 : decode prog_9_method_1_code 79 = .ok (.aload_n 0, 1) := by decide +kernel
theorem d_NRunner_init_80 : decode prog_9_method_1_code 80 = .ok (.iconst 0, 1) := by decide +kernel
theorem d_NRunner_init_81 : decode prog_9_method_1_code 81 = .ok (.putfield 54, 3) := by decide +kernel
theorem d_NRunner_init_84 : decode prog_9_method_1_code 84 = .ok (.aload_n 0, 1) := by decide +kernel
theorem d_NRunner_init_85 : decode prog_9_method_1_code 85 = .ok (.iconst 0, 1) := by decide +kernel
theorem d_NRunner_init_86 : decode prog_9_method_1_code 86 = .ok (.putfield 57, 3) := by decide +kernel
theorem d_NRunner_init_89 : decode prog_9_method_1_code 89 = .ok (.aload_n 0, 1) := by decide +kernel
theorem d_NRunner_init_90 : decode prog_9_method_1_code 90 = .ok (.iconst 0, 1) := by decide +kernel
theorem d_NRunner_init_91 : decode prog_9_method_1_code 91 = .ok (.putfield 60, 3) := by decide +kernel
theorem d_NRunner_init_94 : decode prog_9_method_1_code 94 = .ok (.aload_n 0, 1) := by decide +kernel
theorem d_NRunner_init_95 : decode prog_9_method_1_code 95 = .ok (.iconst 0, 1) := by decide +kernel
theorem d_NRunner_init_96 : decode prog_9_method_1_code 96 = .ok (.putfield 63, 3) := by decide +kernel
theorem d_NRunner_init_99 : decode prog_9_method_1_code 99 = .ok (.aload_n 0, 1) := by decide +kernel
theorem d_NRunner_init_100 : decode prog_9_method_1_code 100 = .ok (.iconst 0, 1) := by decide +kernel
theorem d_NRunner_init_101 : decode prog_9_method_1_code 101 = .ok (.putfield 66, 3) := by decide +kernel
theorem d_NRunner_init_104 : decode prog_9_method_1_code 104 = .ok (.iconst 0, 1) := by decide +kernel
theorem d_NRunner_init_105 : decode prog_9_method_1_code 105 = .ok (.istore_n 1, 1) := by decide +kernel
theorem d_NRunner_init_106 : decode prog_9_method_1_code 106 = .ok (.iload_n 1, 1) := by decide +kernel
theorem d_NRunner_init_107 : decode prog_9_method_1_code 107 = .ok (.bipush 10, 2) := by decide +kernel
theorem d_NRunner_init_109 : decode prog_9_method_1_code 109 = .ok (.if_icmp .ge 22, 3) := by decide +kernel
theorem d_NRunner_init_112 : decode prog_9_method_1_code 112 = .ok (.aload_n 0, 1) := by decide +kernel
theorem d_NRunner_init_113 : decode prog_9_method_1_code 113 = .ok (.getfield 35, 3) := by decide +kernel
theorem d_NRunner_init_116 : decode prog_9_method_1_code 116 = .ok (.iload_n 1, 1) := by decide +kernel
theorem d_NRunner_init_117 : decode prog_9_method_1_code 117 = .ok (.new 33, 3) := by decide +kernel
theorem d_NRunner_init_120 : decode prog_9_method_1_code 120 = .ok (.dup, 1) := by decide +kernel
theorem d_NRunner_init_121 : decode prog_9_method_1_code 121 = .ok (.invokespecial 39, 3) := by decide +kernel
theorem d_NRunner_init_124 : decode prog_9_method_1_code 124 = .ok (.aastore, 1) := by decide +kernel
theorem d_NRunner_init_125 : decode prog_9_method_1_code 125 = .ok (.iinc 1 1, 3) := by decide +kernel
theorem d_NRunner_init_128 : decode prog_9_method_1_code 128 = .ok (.goto (-22), 3) := by decide +kernel
theorem d_NRunner_init_131 : decode prog_9_method_1_code 131 = .ok (.iconst 0, 1) := by decide +kernel
theorem d_NRunner_init_132 : decode prog_9_method_1_code 132 = .ok (.istore_n 1, 1) := by decide +kernel
theorem d_NRunner_init_133 : decode prog_9_method_1_code 133 = .ok (.iload_n 1, 1) := by decide +kernel
theorem d_NRunner_init_134 : decode prog_9_method_1_code 134 = .ok (.bipush 12, 2) := by decide +kernel
theorem d_NRunner_init_136 : decode prog_9_method_1_code 136 = .ok (.if_icmp .ge 22, 3) := by decide +kernel
theorem d_NRunner_init_139 : decode prog_9_method_1_code 139 = .ok (.aload_n 0, 1) := by decide +kernel
theorem d_NRunner_init_140 : decode prog_9_method_1_code 140 = .ok (.getfield 51, 3) := by decide +kernel
theorem d_NRunner_init_143 : decode prog_9_method_1_code 143 = .ok (.iload_n 1, 1) := by decide +kernel
theorem d_NRunner_init_144 : decode prog_9_method_1_code 144 = .ok (.new 33, 3) := by decide +kernel
theorem d_NRunner_init_147 : decode prog_9_method_1_code 147 = .ok (.dup, 1) := by decide +kernel
theorem d_NRunner_init_148 : decode prog_9_method_1_code 148 = .ok (.invokespecial 39, 3) := by decide +kernel
theorem d_NRunner_init_151 : decode prog_9_method_1_code 151 = .ok (.aastore, 1) := by decide +kernel
theorem d_NRunner_init_152 : decode prog_9_method_1_code 152 = .ok (.iinc 1 1, 3) := by decide +kernel
theorem d_NRunner_init_155 : decode prog_9_method_1_code 155 = .ok (.goto (-22), 3) := by decide +kernel
theorem d_NRunner_init_158 : decode prog_9_method_1_code 158 = .ok (.return_, 1) := by decide +kernel
theorem d_NRunner_keptOutputs_0 : decode prog_9_method_5_code 0 = .ok (.aload_n 0, 1) := by decide +kernel
theorem d_NRunner_keptOutputs_1 : decode prog_9_method_5_code 1 = .ok (.getfield 54, 3) := by decide +kernel
theorem d_NRunner_keptOutputs_4 : decode prog_9_method_5_code 4 = .ok (.bipush 12, 2) := by decide +kernel
theorem d_NRunner_keptOutputs_6 : decode prog_9_method_5_code 6 = .ok (.invokestatic 92, 3) := by decide +kernel
theorem d_NRunner_keptOutputs_9 : decode prog_9_method_5_code 9 = .ok (.ireturn, 1) := by decide +kernel
theorem d_NStatement_init_0 : decode prog_10_method_1_code 0 = .ok (.aload_n 0, 1) := by decide +kernel
theorem d_NStatement_init_1 : decode prog_10_method_1_code 1 = .ok (.invokespecial 1, 3) := by decide +kernel
theorem d_NStatement_init_4 : decode prog_10_method_1_code 4 = .ok (.aload_n 0, 1) := by decide +kernel
theorem d_NStatement_init_5 : decode prog_10_method_1_code 5 = .ok (.iconst 5, 1) := by decide +kernel
theorem d_NStatement_init_6 : decode prog_10_method_1_code 6 = .ok (.putfield 9, 3) := by decide +kernel
theorem d_NStatement_init_9 : decode prog_10_method_1_code 9 = .ok (.aload_n 0, 1) := by decide +kernel
theorem d_NStatement_init_10 : decode prog_10_method_1_code 10 = .ok (.iconst 0, 1) := by decide +kernel
theorem d_NStatement_init_11 : decode prog_10_method_1_code 11 = .ok (.putfield 13, 3) := by decide +kernel
theorem d_NStatement_init_14 : decode prog_10_method_1_code 14 = .ok (.aload_n 0, 1) := by decide +kernel
theorem d_NStatement_init_15 : decode prog_10_method_1_code 15 = .ok (.iconst 0, 1) := by decide +kernel
theorem d_NStatement_init_16 : decode prog_10_method_1_code 16 = .ok (.putfield 16, 3) := by decide +kernel
theorem d_NStatement_init_19 : decode prog_10_method_1_code 19 = .ok (.aload_n 0, 1) := by decide +kernel
theorem d_NStatement_init_20 : decode prog_10_method_1_code 20 = .ok (.iconst (-1), 1) := by decide +kernel
theorem d_NStatement_init_21 : decode prog_10_method_1_code 21 = .ok (.putfield 19, 3) := by decide +kernel
theorem d_NStatement_init_24 : decode prog_10_method_1_code 24 = .ok (.aload_n 0, 1) := by decide +kernel
theorem d_NStatement_init_25 : decode prog_10_method_1_code 25 = .ok (.iconst 0, 1) := by decide +kernel
theorem d_NStatement_init_26 : decode prog_10_method_1_code 26 = .ok (.putfield 22, 3) := by decide +kernel
theorem d_NStatement_init_29 : decode prog_10_method_1_code 29 = .ok (.return_, 1) := by decide +kernel
end
section
set_option maxHeartbeats 4000000 in
set_option maxRecDepth 100000 in
/-- Interval(): both bounds 0 -/
theorem c_Interval_init (l : Launch) (dC : Nat → ClassId) (dI : Nat → Nat → Nat) (sz : Nat) (h0 : Nat) : Met l ⟨"BigRunner$Interval", "<init>", "()V"⟩ [Cond.code ⟨"BigRunner$Interval", "<init>", "()V"⟩ prog_3_method_1_code 1 none] ({ frames := 1, cells := 0, slots := 0, locals := 12 }) (va_Pc [.ref h0] (fun U => U.heap.size = sz ∧ TB U ∧ va_P (dC, dI) vcl [(h0, .inr (2, [.long 0, .long 0]))] U.heap ∧ va_K (dC, dI) vcl [] U ∧ va_D (fun _ => True) [(h0, .inr (2, [.long 0, .long 0]))])) (va_Qv (fun (u : Unit) => match u with | _ => True) (fun (u : Unit) (t : State) => match u with | _ => va_P (dC, dI) vcl [(h0, .inr (2, [.long 0, .long 0]))] t.heap ∧ va_K (dC, dI) vcl [] t ∧ va_D (va_A [(h0, .inr (2, [.long 0, .long 0]))] sz) [(h0, .inr (2, [.long 0, .long 0]))]) (va_A [(h0, .inr (2, [.long 0, .long 0]))] sz)) 0 0 (va_A [(h0, .inr (2, [.long 0, .long 0]))] sz) := by
  refine Met.ofW (cc := prog_3_method_1_code) (maxL := 1) (ret := none) (by decide) rfl ?_
  intro p e s m args below meth c s₁ B hml hv
  obtain ⟨rfl, hsz, hB, hP, hK, hD0⟩ := hv
  have hx := B.exec
  have hb := B.bytes
  have hr := B.returns
  have hown : s.vm.findClass "BigRunner$Interval" = some m.cls := findClass_of_methodNamed B.named
  have hlocks := B.notSynchronized
  have hin : meth.name = "<init>" := (name_of_methodNamed B.named B.method).1
  subst hsz
  have hD := hD0.self (sz := s.heap.size)
  generalize hAe : va_A [(h0, .inr (2, [.long 0, .long 0]))] s.heap.size = A at hD ⊢
  have hA : ∀ q : Nat, s.heap.size ≤ q → A q := fun q h => by rw [← hAe]; exact Or.inr h
  have hS : va_S A s.heap s.heap [] := va_S.rf
  have hP : va_P (dC, dI) vcl [(h0, .inr (2, [.long 0, .long 0]))] s.heap := hP
  have hl := lv_entry ([.ref h0]) (n := 1) (Nat.le_of_ble_eq_true rfl)
  rw [lg_entry_eq]
  generalize (lg_sl ([.ref h0]) ++ List.replicate (1 - (lg_sl ([.ref h0])).length) Slot.unset).toArray = ls at hl ⊢
  have hl : lv_has ls 1 [(0, .ref h0)] := hl
  refine lv_aload_n hx hb d_NInterval_init_0 rfl (lv_at hl 0 rfl) ?_
  refine W.objInit hx hb hown (wd_125 hB _) (wd_101 hB _) (wd_102 hB _) rfl (by rw [hml]; exact hl.1) rfl d_NInterval_init_1 (Nat.le_of_ble_eq_true rfl) (Nat.le_of_ble_eq_true rfl) ?_
  refine W.eq (g2 := F0 m 4 ls []) rfl ?_
  refine lv_aload_n hx hb d_NInterval_init_4 rfl (lv_at hl 0 rfl) ?_
  refine lv_lconst (v := 0) hx hb d_NInterval_init_5 (by decide) ?_
  refine va_put (D := (dC, dI)) (ci := 2) (v := .long 0) (ty := .long) (C := "BigRunner$Interval") (T := FT2) (N := 2) hx hb (hw2 hB _) (fun _ h9 => h9) TY2 ok2 nm2 hown hK hP hD hS 0 rfl rfl 0 (by decide) (wd_126 hB _) (fun _ h9 => h9) rfl (by decide +kernel) rfl rfl (Nat.le_of_ble_eq_true rfl) d_NInterval_init_6 (fun H locs hP hD hS => ?_)
  have hP : va_P (dC, dI) vcl [(h0, .inr (2, [.long 0, .long 0]))] H := hP
  have hD : va_D A [(h0, .inr (2, [.long 0, .long 0]))] := hD
  refine lv_aload_n hx hb d_NInterval_init_9 rfl (lv_at hl 0 rfl) ?_
  refine lv_lconst (v := 0) hx hb d_NInterval_init_10 (by decide) ?_
  refine va_put (D := (dC, dI)) (ci := 2) (v := .long 0) (ty := .long) (C := "BigRunner$Interval") (T := FT2) (N := 2) hx hb (hw2 hB _) (fun _ h9 => h9) TY2 ok2 nm2 hown hK hP hD hS 0 rfl rfl 1 (by decide) (wd_129 hB _) (fun _ h9 => h9) rfl (by decide +kernel) rfl rfl (Nat.le_of_ble_eq_true rfl) d_NInterval_init_11 (fun H locs hP hD hS => ?_)
  have hP : va_P (dC, dI) vcl [(h0, .inr (2, [.long 0, .long 0]))] H := hP
  have hD : va_D A [(h0, .inr (2, [.long 0, .long 0]))] := hD
  have hP9 := hP.sub (ws' := [(h0, .inr (2, [.long 0, .long 0]))]) [0] rfl
  have hD9 := hD.sub (ws' := [(h0, .inr (2, [.long 0, .long 0]))]) [0] (by decide) rfl
  have hK9 := hK.sub (tys' := []) [] rfl
  refine W.widen (k := 0) (n := 0) (by omega) (by omega) ?_
  exact W.vret hx hb hr (fun t ht hW => ⟨⟨(), rfl, trivial, by rw [ht]; exact hP9, va_K.moved hW.alike hK9, hD9⟩, hS.F ht⟩) hS.2.2 d_NInterval_init_14
set_option maxHeartbeats 4000000 in
set_option maxRecDepth 100000 in
theorem c_Statement_init (l : Launch) (dC : Nat → ClassId) (dI : Nat → Nat → Nat) (sz : Nat) (h0 : Nat) : Met l ⟨"BigRunner$Statement", "<init>", "()V"⟩ [Cond.code ⟨"BigRunner$Statement", "<init>", "()V"⟩ prog_10_method_1_code 1 none] ({ frames := 1, cells := 0, slots := 0, locals := 12 }) (va_Pc [.ref h0] (fun U => U.heap.size = sz ∧ TB U ∧ va_P (dC, dI) vcl [(h0, .inr (9, [.int 0, .int 0, .int 0, .int 0, .int 0]))] U.heap ∧ va_K (dC, dI) vcl [] U ∧ va_D (fun _ => True) [(h0, .inr (9, [.int 0, .int 0, .int 0, .int 0, .int 0]))])) (va_Qv (fun (u : Unit) => match u with | _ => True) (fun (u : Unit) (t : State) => match u with | _ => va_P (dC, dI) vcl [(h0, .inr (9, [.int 5, .int 0, .int 0, .int (-1), .int 0]))] t.heap ∧ va_K (dC, dI) vcl [] t ∧ va_D (va_A [(h0, .inr (9, [.int 0, .int 0, .int 0, .int 0, .int 0]))] sz) [(h0, .inr (9, [.int 5, .int 0, .int 0, .int (-1), .int 0]))]) (va_A [(h0, .inr (9, [.int 0, .int 0, .int 0, .int 0, .int 0]))] sz)) 0 0 (va_A [(h0, .inr (9, [.int 0, .int 0, .int 0, .int 0, .int 0]))] sz) := by
  refine Met.ofW (cc := prog_10_method_1_code) (maxL := 1) (ret := none) (by decide) rfl ?_
  intro p e s m args below meth c s₁ B hml hv
  obtain ⟨rfl, hsz, hB, hP, hK, hD0⟩ := hv
  have hx := B.exec
  have hb := B.bytes
  have hr := B.returns
  have hown : s.vm.findClass "BigRunner$Statement" = some m.cls := findClass_of_methodNamed B.named
  have hlocks := B.notSynchronized
  have hin : meth.name = "<init>" := (name_of_methodNamed B.named B.method).1
  subst hsz
  have hD := hD0.self (sz := s.heap.size)
  generalize hAe : va_A [(h0, .inr (9, [.int 0, .int 0, .int 0, .int 0, .int 0]))] s.heap.size = A at hD ⊢
  have hA : ∀ q : Nat, s.heap.size ≤ q → A q := fun q h => by rw [← hAe]; exact Or.inr h
  have hS : va_S A s.heap s.heap [] := va_S.rf
  have hP : va_P (dC, dI) vcl [(h0, .inr (9, [.int 0, .int 0, .int 0, .int 0, .int 0]))] s.heap := hP
  have hl := lv_entry ([.ref h0]) (n := 1) (Nat.le_of_ble_eq_true rfl)
  rw [lg_entry_eq]
  generalize (lg_sl ([.ref h0]) ++ List.replicate (1 - (lg_sl ([.ref h0])).length) Slot.unset).toArray = ls at hl ⊢
  have hl : lv_has ls 1 [(0, .ref h0)] := hl
  refine lv_aload_n hx hb d_NStatement_init_0 rfl (lv_at hl 0 rfl) ?_
  refine W.objInit hx hb hown (wd_142 hB _) (wd_101 hB _) (wd_102 hB _) rfl (by rw [hml]; exact hl.1) rfl d_NStatement_init_1 (Nat.le_of_ble_eq_true rfl) (Nat.le_of_ble_eq_true rfl) ?_
  refine W.eq (g2 := F0 m 4 ls []) rfl ?_
  refine lv_aload_n hx hb d_NStatement_init_4 rfl (lv_at hl 0 rfl) ?_
  refine lv_iconst (v := 5) hx hb d_NStatement_init_5 (by decide) ?_
  refine va_put (D := (dC, dI)) (ci := 9) (v := .int 5) (ty := .int) (C := "BigRunner$Statement") (T := FT9) (N := 5) hx hb (hw9 hB _) (fun _ h9 => h9) TY9 ok9 nm9 hown hK hP hD hS 0 rfl rfl 0 (by decide) (wd_143 hB _) (fun _ h9 => h9) rfl (by decide +kernel) rfl rfl (Nat.le_of_ble_eq_true rfl) d_NStatement_init_6 (fun H locs hP hD hS => ?_)
  have hP : va_P (dC, dI) vcl [(h0, .inr (9, [.int 5, .int 0, .int 0, .int 0, .int 0]))] H := hP
  have hD : va_D A [(h0, .inr (9, [.int 5, .int 0, .int 0, .int 0, .int 0]))] := hD
  refine lv_aload_n hx hb d_NStatement_init_9 rfl (lv_at hl 0 rfl) ?_
  refine lv_iconst (v := 0) hx hb d_NStatement_init_10 (by decide) ?_
  refine va_put (D := (dC, dI)) (ci := 9) (v := .int 0) (ty := .int) (C := "BigRunner$Statement") (T := FT9) (N := 5) hx hb (hw9 hB _) (fun _ h9 => h9) TY9 ok9 nm9 hown hK hP hD hS 0 rfl rfl 1 (by decide) (wd_147 hB _) (fun _ h9 => h9) rfl (by decide +kernel) rfl rfl (Nat.le_of_ble_eq_true rfl) d_NStatement_init_11 (fun H locs hP hD hS => ?_)
  have hP : va_P (dC, dI) vcl [(h0, .inr (9, [.int 5, .int 0, .int 0, .int 0, .int 0]))] H := hP
  have hD : va_D A [(h0, .inr (9, [.int 5, .int 0, .int 0, .int 0, .int 0]))] := hD
  refine lv_aload_n hx hb d_NStatement_init_14 rfl (lv_at hl 0 rfl) ?_
  refine lv_iconst (v := 0) hx hb d_NStatement_init_15 (by decide) ?_
  refine va_put (D := (dC, dI)) (ci := 9) (v := .int 0) (ty := .int) (C := "BigRunner$Statement") (T := FT9) (N := 5) hx hb (hw9 hB _) (fun _ h9 => h9) TY9 ok9 nm9 hown hK hP hD hS 0 rfl rfl 2 (by decide) (wd_151 hB _) (fun _ h9 => h9) rfl (by decide +kernel) rfl rfl (Nat.le_of_ble_eq_true rfl) d_NStatement_init_16 (fun H locs hP hD hS => ?_)
  have hP : va_P (dC, dI) vcl [(h0, .inr (9, [.int 5, .int 0, .int 0, .int 0, .int 0]))] H := hP
  have hD : va_D A [(h0, .inr (9, [.int 5, .int 0, .int 0, .int 0, .int 0]))] := hD
  refine lv_aload_n hx hb d_NStatement_init_19 rfl (lv_at hl 0 rfl) ?_
  refine lv_iconst (v := (-1)) hx hb d_NStatement_init_20 (by decide) ?_
  refine va_put (D := (dC, dI)) (ci := 9) (v := .int (-1)) (ty := .int) (C := "BigRunner$Statement") (T := FT9) (N := 5) hx hb (hw9 hB _) (fun _ h9 => h9) TY9 ok9 nm9 hown hK hP hD hS 0 rfl rfl 3 (by decide) (wd_155 hB _) (fun _ h9 => h9) rfl (by decide +kernel) rfl rfl (Nat.le_of_ble_eq_true rfl) d_NStatement_init_21 (fun H locs hP hD hS => ?_)
  have hP : va_P (dC, dI) vcl [(h0, .inr (9, [.int 5, .int 0, .int 0, .int (-1), .int 0]))] H := hP
  have hD : va_D A [(h0, .inr (9, [.int 5, .int 0, .int 0, .int (-1), .int 0]))] := hD
  refine lv_aload_n hx hb d_NStatement_init_24 rfl (lv_at hl 0 rfl) ?_
  refine lv_iconst (v := 0) hx hb d_NStatement_init_25 (by decide) ?_
  refine va_put (D := (dC, dI)) (ci := 9) (v := .int 0) (ty := .int) (C := "BigRunner$Statement") (T := FT9) (N := 5) hx hb (hw9 hB _) (fun _ h9 => h9) TY9 ok9 nm9 hown hK hP hD hS 0 rfl rfl 4 (by decide) (wd_159 hB _) (fun _ h9 => h9) rfl (by decide +kernel) rfl rfl (Nat.le_of_ble_eq_true rfl) d_NStatement_init_26 (fun H locs hP hD hS => ?_)
  have hP : va_P (dC, dI) vcl [(h0, .inr (9, [.int 5, .int 0, .int 0, .int (-1), .int 0]))] H := hP
  have hD : va_D A [(h0, .inr (9, [.int 5, .int 0, .int 0, .int (-1), .int 0]))] := hD
  have hP9 := hP.sub (ws' := [(h0, .inr (9, [.int 5, .int 0, .int 0, .int (-1), .int 0]))]) [0] rfl
  have hD9 := hD.sub (ws' := [(h0, .inr (9, [.int 5, .int 0, .int 0, .int (-1), .int 0]))]) [0] (by decide) rfl
  have hK9 := hK.sub (tys' := []) [] rfl
  refine W.widen (k := 0) (n := 0) (by omega) (by omega) ?_
  exact W.vret hx hb hr (fun t ht hW => ⟨⟨(), rfl, trivial, by rw [ht]; exact hP9, va_K.moved hW.alike hK9, hD9⟩, hS.F ht⟩) hS.2.2 d_NStatement_init_29
set_option maxHeartbeats 4000000 in
set_option maxRecDepth 100000 in
theorem c_LongNumber_init (l : Launch) (dC : Nat → ClassId) (dI : Nat → Nat → Nat) (sz : Nat) (h0 : Nat) : Met l ⟨"BigRunner$LongNumber", "<init>", "()V"⟩ [Cond.code ⟨"BigRunner$LongNumber", "<init>", "()V"⟩ prog_5_method_1_code 1 none] ({ frames := 1, cells := 1, slots := 15, locals := 12 }) (va_Pc [.ref h0] (fun U => U.heap.size = sz ∧ TB U ∧ va_P (dC, dI) vcl [(h0, .inr (4, [.int 0, .int 0, .null]))] U.heap ∧ va_K (dC, dI) vcl [] U ∧ va_D (fun _ => True) [(h0, .inr (4, [.int 0, .int 0, .null]))])) (va_Qv (fun (u : Nat) => match u with | qa => True) (fun (u : Nat) (t : State) => match u with | qa => va_P (dC, dI) vcl [(h0, .inr (4, [.int 0, .int 0, .ref qa]))] t.heap ∧ va_K (dC, dI) vcl [] t ∧ va_D (va_A [(h0, .inr (4, [.int 0, .int 0, .null]))] sz) [(h0, .inr (4, [.int 0, .int 0, .ref qa]))]) (va_A [(h0, .inr (4, [.int 0, .int 0, .null]))] sz)) 1 15 (va_A [(h0, .inr (4, [.int 0, .int 0, .null]))] sz) := by
  refine Met.ofW (cc := prog_5_method_1_code) (maxL := 1) (ret := none) (by decide) rfl ?_
  intro p e s m args below meth c s₁ B hml hv
  obtain ⟨rfl, hsz, hB, hP, hK, hD0⟩ := hv
  have hx := B.exec
  have hb := B.bytes
  have hr := B.returns
  have hown : s.vm.findClass "BigRunner$LongNumber" = some m.cls := findClass_of_methodNamed B.named
  have hlocks := B.notSynchronized
  have hin : meth.name = "<init>" := (name_of_methodNamed B.named B.method).1
  subst hsz
  have hD := hD0.self (sz := s.heap.size)
  generalize hAe : va_A [(h0, .inr (4, [.int 0, .int 0, .null]))] s.heap.size = A at hD ⊢
  have hA : ∀ q : Nat, s.heap.size ≤ q → A q := fun q h => by rw [← hAe]; exact Or.inr h
  have hS : va_S A s.heap s.heap [] := va_S.rf
  have hP : va_P (dC, dI) vcl [(h0, .inr (4, [.int 0, .int 0, .null]))] s.heap := hP
  have hl := lv_entry ([.ref h0]) (n := 1) (Nat.le_of_ble_eq_true rfl)
  rw [lg_entry_eq]
  generalize (lg_sl ([.ref h0]) ++ List.replicate (1 - (lg_sl ([.ref h0])).length) Slot.unset).toArray = ls at hl ⊢
  have hl : lv_has ls 1 [(0, .ref h0)] := hl
  refine lv_aload_n hx hb d_NLongNumber_init_0 rfl (lv_at hl 0 rfl) ?_
  refine W.objInit hx hb hown (wd_185 hB _) (wd_101 hB _) (wd_102 hB _) rfl (by rw [hml]; exact hl.1) rfl d_NLongNumber_init_1 (Nat.le_of_ble_eq_true rfl) (Nat.le_of_ble_eq_true rfl) ?_
  refine W.eq (g2 := F0 m 4 ls []) rfl ?_
  refine lv_aload_n hx hb d_NLongNumber_init_4 rfl (lv_at hl 0 rfl) ?_
  refine lv_iconst (v := 0) hx hb d_NLongNumber_init_5 (by decide) ?_
  refine va_put (D := (dC, dI)) (ci := 4) (v := .int 0) (ty := .int) (C := "BigRunner$LongNumber") (T := FT4) (N := 3) hx hb (hw4 hB _) (fun _ h9 => h9) TY4 ok4 nm4 hown hK hP hD hS 0 rfl rfl 0 (by decide) (wd_186 hB _) (fun _ h9 => h9) rfl (by decide +kernel) rfl rfl (Nat.le_of_ble_eq_true rfl) d_NLongNumber_init_6 (fun H locs hP hD hS => ?_)
  have hP : va_P (dC, dI) vcl [(h0, .inr (4, [.int 0, .int 0, .null]))] H := hP
  have hD : va_D A [(h0, .inr (4, [.int 0, .int 0, .null]))] := hD
  refine lv_aload_n hx hb d_NLongNumber_init_9 rfl (lv_at hl 0 rfl) ?_
  refine lv_iconst (v := 0) hx hb d_NLongNumber_init_10 (by decide) ?_
  refine va_put (D := (dC, dI)) (ci := 4) (v := .int 0) (ty := .int) (C := "BigRunner$LongNumber") (T := FT4) (N := 3) hx hb (hw4 hB _) (fun _ h9 => h9) TY4 ok4 nm4 hown hK hP hD hS 0 rfl rfl 1 (by decide) (wd_190 hB _) (fun _ h9 => h9) rfl (by decide +kernel) rfl rfl (Nat.le_of_ble_eq_true rfl) d_NLongNumber_init_11 (fun H locs hP hD hS => ?_)
  have hP : va_P (dC, dI) vcl [(h0, .inr (4, [.int 0, .int 0, .null]))] H := hP
  have hD : va_D A [(h0, .inr (4, [.int 0, .int 0, .null]))] := hD
  refine lv_aload_n hx hb d_NLongNumber_init_14 rfl (lv_at hl 0 rfl) ?_
  refine lv_bipush (v := 15) hx hb d_NLongNumber_init_15 (by decide) ?_
  refine va_newa (atype := .int) (a0 := (15, .inl (fun _ => 0))) (N' := 15) (ty := .int) hx hb (wd_201 hB _) rfl hK hP hD hS hA (fun _ => rfl) (by decide +kernel) (by decide +kernel) (by decide +kernel) (Nat.le_of_ble_eq_true rfl) (Nat.le_of_ble_eq_true rfl) d_NLongNumber_init_17 (fun q17_1 cA17_2 H hK hP hD hS => ?_)
  have hP : va_P (dC, dI) vcl [(h0, .inr (4, [.int 0, .int 0, .null])), (q17_1, .inl (cA17_2, 15, .inl (fun _ => 0)))] H := hP
  have hD : va_D A [(h0, .inr (4, [.int 0, .int 0, .null])), (q17_1, .inl (cA17_2, 15, .inl (fun _ => 0)))] := hD
  have hK : va_K (dC, dI) vcl [(cA17_2, .int)] s := hK
  refine W.widen (k := 1) (n := 15) (by omega) (by omega) ?_
  refine va_putF (D := (dC, dI)) (ci := 4) (v := .ref q17_1) (ty := (.array .int)) (C := "BigRunner$LongNumber") (T := FT4) (N := 3) hx hb (hw4 hB _) (fun _ h9 => h9) TY4 ok4 nm4 hown hK hP hD hS 0 rfl rfl 2 (by decide) (wd_192 hB _) (fun _ h9 => h9) rfl hin rfl (by decide +kernel) rfl rfl (Nat.le_of_ble_eq_true rfl) d_NLongNumber_init_19 (fun H locs hP hD hS => ?_)
  have hP : va_P (dC, dI) vcl [(h0, .inr (4, [.int 0, .int 0, .ref q17_1])), (q17_1, .inl (cA17_2, 15, .inl (fun _ => 0)))] H := hP
  have hD : va_D A [(h0, .inr (4, [.int 0, .int 0, .ref q17_1])), (q17_1, .inl (cA17_2, 15, .inl (fun _ => 0)))] := hD
  have hP9 := hP.sub (ws' := [(h0, .inr (4, [.int 0, .int 0, .ref q17_1]))]) [0] rfl
  have hD9 := hD.sub (ws' := [(h0, .inr (4, [.int 0, .int 0, .ref q17_1]))]) [0] (by decide) rfl
  have hK9 := hK.sub (tys' := []) [] rfl
  refine W.widen (k := 1) (n := 15) (by omega) (by omega) ?_
  exact W.vret hx hb hr (fun t ht hW => ⟨⟨(q17_1), rfl, trivial, by rw [ht]; exact hP9, va_K.moved hW.alike hK9, hD9⟩, hS.F ht⟩) hS.2.2 d_NLongNumber_init_22
set_option maxHeartbeats 4000000 in
set_option maxRecDepth 100000 in
theorem c_Inputs_init (l : Launch) (dC : Nat → ClassId) (dI : Nat → Nat → Nat) (sz : Nat) (h0 : Nat) : Met l ⟨"BigRunner$Inputs", "<init>", "()V"⟩ [Cond.code ⟨"BigRunner$Inputs", "<init>", "()V"⟩ prog_2_method_1_code 1 none] ({ frames := 1, cells := 1, slots := 20, locals := 12 }) (va_Pc [.ref h0] (fun U => U.heap.size = sz ∧ TB U ∧ va_P (dC, dI) vcl [(h0, .inr (1, [.null, .int 0, .int 0]))] U.heap ∧ va_K (dC, dI) vcl [] U ∧ va_D (fun _ => True) [(h0, .inr (1, [.null, .int 0, .int 0]))])) (va_Qv (fun (u : Nat × ClassId) => match u with | (qr, cr) => True) (fun (u : Nat × ClassId) (t : State) => match u with | (qr, cr) => va_P (dC, dI) vcl [(h0, .inr (1, [.ref qr, .int 0, .int 0])), (qr, .inl (cr, 20, .inl (fun _ => 0)))] t.heap ∧ va_K (dC, dI) vcl [(cr, .int)] t ∧ va_D (va_A [(h0, .inr (1, [.null, .int 0, .int 0]))] sz) [(h0, .inr (1, [.ref qr, .int 0, .int 0])), (qr, .inl (cr, 20, .inl (fun _ => 0)))]) (va_A [(h0, .inr (1, [.null, .int 0, .int 0]))] sz)) 1 20 (va_A [(h0, .inr (1, [.null, .int 0, .int 0]))] sz) := by
  refine Met.ofW (cc := prog_2_method_1_code) (maxL := 1) (ret := none) (by decide) rfl ?_
  intro p e s m args below meth c s₁ B hml hv
  obtain ⟨rfl, hsz, hB, hP, hK, hD0⟩ := hv
  have hx := B.exec
  have hb := B.bytes
  have hr := B.returns
  have hown : s.vm.findClass "BigRunner$Inputs" = some m.cls := findClass_of_methodNamed B.named
  have hlocks := B.notSynchronized
  have hin : meth.name = "<init>" := (name_of_methodNamed B.named B.method).1
  subst hsz
  have hD := hD0.self (sz := s.heap.size)
  generalize hAe : va_A [(h0, .inr (1, [.null, .int 0, .int 0]))] s.heap.size = A at hD ⊢
  have hA : ∀ q : Nat, s.heap.size ≤ q → A q := fun q h => by rw [← hAe]; exact Or.inr h
  have hS : va_S A s.heap s.heap [] := va_S.rf
  have hP : va_P (dC, dI) vcl [(h0, .inr (1, [.null, .int 0, .int 0]))] s.heap := hP
  have hl := lv_entry ([.ref h0]) (n := 1) (Nat.le_of_ble_eq_true rfl)
  rw [lg_entry_eq]
  generalize (lg_sl ([.ref h0]) ++ List.replicate (1 - (lg_sl ([.ref h0])).length) Slot.unset).toArray = ls at hl ⊢
  have hl : lv_has ls 1 [(0, .ref h0)] := hl
  refine lv_aload_n hx hb d_NInputs_init_0 rfl (lv_at hl 0 rfl) ?_
  refine W.objInit hx hb hown (wd_297 hB _) (wd_101 hB _) (wd_102 hB _) rfl (by rw [hml]; exact hl.1) rfl d_NInputs_init_1 (Nat.le_of_ble_eq_true rfl) (Nat.le_of_ble_eq_true rfl) ?_
  refine W.eq (g2 := F0 m 4 ls []) rfl ?_
  refine lv_aload_n hx hb d_NInputs_init_4 rfl (lv_at hl 0 rfl) ?_
  refine lv_bipush (v := 20) hx hb d_NInputs_init_5 (by decide) ?_
  refine va_newa (atype := .int) (a0 := (20, .inl (fun _ => 0))) (N' := 20) (ty := .int) hx hb (wd_201 hB _) rfl hK hP hD hS hA (fun _ => rfl) (by decide +kernel) (by decide +kernel) (by decide +kernel) (Nat.le_of_ble_eq_true rfl) (Nat.le_of_ble_eq_true rfl) d_NInputs_init_7 (fun q7_1 cA7_2 H hK hP hD hS => ?_)
  have hP : va_P (dC, dI) vcl [(h0, .inr (1, [.null, .int 0, .int 0])), (q7_1, .inl (cA7_2, 20, .inl (fun _ => 0)))] H := hP
  have hD : va_D A [(h0, .inr (1, [.null, .int 0, .int 0])), (q7_1, .inl (cA7_2, 20, .inl (fun _ => 0)))] := hD
  have hK : va_K (dC, dI) vcl [(cA7_2, .int)] s := hK
  refine W.widen (k := 1) (n := 20) (by omega) (by omega) ?_
  refine va_putF (D := (dC, dI)) (ci := 1) (v := .ref q7_1) (ty := (.array .int)) (C := "BigRunner$Inputs") (T := FT1) (N := 3) hx hb (hw1 hB _) (fun _ h9 => h9) TY1 ok1 nm1 hown hK hP hD hS 0 rfl rfl 0 (by decide) (wd_298 hB _) (fun _ h9 => h9) rfl hin rfl (by decide +kernel) rfl rfl (Nat.le_of_ble_eq_true rfl) d_NInputs_init_9 (fun H locs hP hD hS => ?_)
  have hP : va_P (dC, dI) vcl [(h0, .inr (1, [.ref q7_1, .int 0, .int 0])), (q7_1, .inl (cA7_2, 20, .inl (fun _ => 0)))] H := hP
  have hD : va_D A [(h0, .inr (1, [.ref q7_1, .int 0, .int 0])), (q7_1, .inl (cA7_2, 20, .inl (fun _ => 0)))] := hD
  refine lv_aload_n hx hb d_NInputs_init_12 rfl (lv_at hl 0 rfl) ?_
  refine lv_iconst (v := 0) hx hb d_NInputs_init_13 (by decide) ?_
  refine va_put (D := (dC, dI)) (ci := 1) (v := .int 0) (ty := .int) (C := "BigRunner$Inputs") (T := FT1) (N := 3) hx hb (hw1 hB _) (fun _ h9 => h9) TY1 ok1 nm1 hown hK hP hD hS 0 rfl rfl 1 (by decide) (wd_299 hB _) (fun _ h9 => h9) rfl (by decide +kernel) rfl rfl (Nat.le_of_ble_eq_true rfl) d_NInputs_init_14 (fun H locs hP hD hS => ?_)
  have hP : va_P (dC, dI) vcl [(h0, .inr (1, [.ref q7_1, .int 0, .int 0])), (q7_1, .inl (cA7_2, 20, .inl (fun _ => 0)))] H := hP
  have hD : va_D A [(h0, .inr (1, [.ref q7_1, .int 0, .int 0])), (q7_1, .inl (cA7_2, 20, .inl (fun _ => 0)))] := hD
  refine lv_aload_n hx hb d_NInputs_init_17 rfl (lv_at hl 0 rfl) ?_
  refine lv_iconst (v := 0) hx hb d_NInputs_init_18 (by decide) ?_
  refine va_put (D := (dC, dI)) (ci := 1) (v := .int 0) (ty := .int) (C := "BigRunner$Inputs") (T := FT1) (N := 3) hx hb (hw1 hB _) (fun _ h9 => h9) TY1 ok1 nm1 hown hK hP hD hS 0 rfl rfl 2 (by decide) (wd_300 hB _) (fun _ h9 => h9) rfl (by decide +kernel) rfl rfl (Nat.le_of_ble_eq_true rfl) d_NInputs_init_19 (fun H locs hP hD hS => ?_)
  have hP : va_P (dC, dI) vcl [(h0, .inr (1, [.ref q7_1, .int 0, .int 0])), (q7_1, .inl (cA7_2, 20, .inl (fun _ => 0)))] H := hP
  have hD : va_D A [(h0, .inr (1, [.ref q7_1, .int 0, .int 0])), (q7_1, .inl (cA7_2, 20, .inl (fun _ => 0)))] := hD
  have hP9 := hP.sub (ws' := [(h0, .inr (1, [.ref q7_1, .int 0, .int 0])), (q7_1, .inl (cA7_2, 20, .inl (fun _ => 0)))]) [0, 1] rfl
  have hD9 := hD.sub (ws' := [(h0, .inr (1, [.ref q7_1, .int 0, .int 0])), (q7_1, .inl (cA7_2, 20, .inl (fun _ => 0)))]) [0, 1] (by decide) rfl
  have hK9 := hK.sub (tys' := [(cA7_2, .int)]) [0] rfl
  refine W.widen (k := 1) (n := 20) (by omega) (by omega) ?_
  exact W.vret hx hb hr (fun t ht hW => ⟨⟨(q7_1, cA7_2), rfl, trivial, by rw [ht]; exact hP9, va_K.moved hW.alike hK9, hD9⟩, hS.F ht⟩) hS.2.2 d_NInputs_init_22
set_option maxHeartbeats 4000000 in
set_option maxRecDepth 100000 in
theorem c_LongDivision_init (l : Launch) (dC : Nat → ClassId) (dI : Nat → Nat → Nat) (sz : Nat) (h0 : Nat) : Met l ⟨"BigRunner$LongDivision", "<init>", "()V"⟩ [Cond.code ⟨"BigRunner$LongDivision", "<init>", "()V"⟩ prog_4_method_1_code 1 none] ({ frames := 1, cells := 2, slots := 32, locals := 12 }) (va_Pc [.ref h0] (fun U => U.heap.size = sz ∧ TB U ∧ va_P (dC, dI) vcl [(h0, .inr (3, [.null, .null, .int 0]))] U.heap ∧ va_K (dC, dI) vcl [] U ∧ va_D (fun _ => True) [(h0, .inr (3, [.null, .null, .int 0]))])) (va_Qv (fun (u : Nat × Nat) => match u with | (qa, qb) => True) (fun (u : Nat × Nat) (t : State) => match u with | (qa, qb) => va_P (dC, dI) vcl [(h0, .inr (3, [.ref qa, .ref qb, .int 0]))] t.heap ∧ va_K (dC, dI) vcl [] t ∧ va_D (va_A [(h0, .inr (3, [.null, .null, .int 0]))] sz) [(h0, .inr (3, [.ref qa, .ref qb, .int 0]))]) (va_A [(h0, .inr (3, [.null, .null, .int 0]))] sz)) 2 32 (va_A [(h0, .inr (3, [.null, .null, .int 0]))] sz) := by
  refine Met.ofW (cc := prog_4_method_1_code) (maxL := 1) (ret := none) (by decide) rfl ?_
  intro p e s m args below meth c s₁ B hml hv
  obtain ⟨rfl, hsz, hB, hP, hK, hD0⟩ := hv
  have hx := B.exec
  have hb := B.bytes
  have hr := B.returns
  have hown : s.vm.findClass "BigRunner$LongDivision" = some m.cls := findClass_of_methodNamed B.named
  have hlocks := B.notSynchronized
  have hin : meth.name = "<init>" := (name_of_methodNamed B.named B.method).1
  subst hsz
  have hD := hD0.self (sz := s.heap.size)
  generalize hAe : va_A [(h0, .inr (3, [.null, .null, .int 0]))] s.heap.size = A at hD ⊢
  have hA : ∀ q : Nat, s.heap.size ≤ q → A q := fun q h => by rw [← hAe]; exact Or.inr h
  have hS : va_S A s.heap s.heap [] := va_S.rf
  have hP : va_P (dC, dI) vcl [(h0, .inr (3, [.null, .null, .int 0]))] s.heap := hP
  have hl := lv_entry ([.ref h0]) (n := 1) (Nat.le_of_ble_eq_true rfl)
  rw [lg_entry_eq]
  generalize (lg_sl ([.ref h0]) ++ List.replicate (1 - (lg_sl ([.ref h0])).length) Slot.unset).toArray = ls at hl ⊢
  have hl : lv_has ls 1 [(0, .ref h0)] := hl
  refine lv_aload_n hx hb d_NLongDivision_init_0 rfl (lv_at hl 0 rfl) ?_
  refine W.objInit hx hb hown (wd_318 hB _) (wd_101 hB _) (wd_102 hB _) rfl (by rw [hml]; exact hl.1) rfl d_NLongDivision_init_1 (Nat.le_of_ble_eq_true rfl) (Nat.le_of_ble_eq_true rfl) ?_
  refine W.eq (g2 := F0 m 4 ls []) rfl ?_
  refine lv_aload_n hx hb d_NLongDivision_init_4 rfl (lv_at hl 0 rfl) ?_
  refine lv_bipush (v := 16) hx hb d_NLongDivision_init_5 (by decide) ?_
  refine va_newa (atype := .int) (a0 := (16, .inl (fun _ => 0))) (N' := 16) (ty := .int) hx hb (wd_201 hB _) rfl hK hP hD hS hA (fun _ => rfl) (by decide +kernel) (by decide +kernel) (by decide +kernel) (Nat.le_of_ble_eq_true rfl) (Nat.le_of_ble_eq_true rfl) d_NLongDivision_init_7 (fun q7_1 cA7_2 H hK hP hD hS => ?_)
  have hP : va_P (dC, dI) vcl [(h0, .inr (3, [.null, .null, .int 0])), (q7_1, .inl (cA7_2, 16, .inl (fun _ => 0)))] H := hP
  have hD : va_D A [(h0, .inr (3, [.null, .null, .int 0])), (q7_1, .inl (cA7_2, 16, .inl (fun _ => 0)))] := hD
  have hK : va_K (dC, dI) vcl [(cA7_2, .int)] s := hK
  refine W.widen (k := 1) (n := 16) (by omega) (by omega) ?_
  refine va_putF (D := (dC, dI)) (ci := 3) (v := .ref q7_1) (ty := (.array .int)) (C := "BigRunner$LongDivision") (T := FT3) (N := 3) hx hb (hw3 hB _) (fun _ h9 => h9) TY3 ok3 nm3 hown hK hP hD hS 0 rfl rfl 0 (by decide) (wd_319 hB _) (fun _ h9 => h9) rfl hin rfl (by decide +kernel) rfl rfl (Nat.le_of_ble_eq_true rfl) d_NLongDivision_init_9 (fun H locs hP hD hS => ?_)
  have hP : va_P (dC, dI) vcl [(h0, .inr (3, [.ref q7_1, .null, .int 0])), (q7_1, .inl (cA7_2, 16, .inl (fun _ => 0)))] H := hP
  have hD : va_D A [(h0, .inr (3, [.ref q7_1, .null, .int 0])), (q7_1, .inl (cA7_2, 16, .inl (fun _ => 0)))] := hD
  refine lv_aload_n hx hb d_NLongDivision_init_12 rfl (lv_at hl 0 rfl) ?_
  refine lv_bipush (v := 16) hx hb d_NLongDivision_init_13 (by decide) ?_
  refine va_newa (atype := .int) (a0 := (16, .inl (fun _ => 0))) (N' := 16) (ty := .int) hx hb (wd_201 hB _) rfl hK hP hD hS hA (fun _ => rfl) (by decide +kernel) (by decide +kernel) (by decide +kernel) (Nat.le_of_ble_eq_true rfl) (Nat.le_of_ble_eq_true rfl) d_NLongDivision_init_15 (fun q15_3 cA15_4 H hK hP hD hS => ?_)
  have hP : va_P (dC, dI) vcl [(h0, .inr (3, [.ref q7_1, .null, .int 0])), (q7_1, .inl (cA7_2, 16, .inl (fun _ => 0))), (q15_3, .inl (cA15_4, 16, .inl (fun _ => 0)))] H := hP
  have hD : va_D A [(h0, .inr (3, [.ref q7_1, .null, .int 0])), (q7_1, .inl (cA7_2, 16, .inl (fun _ => 0))), (q15_3, .inl (cA15_4, 16, .inl (fun _ => 0)))] := hD
  have hK : va_K (dC, dI) vcl [(cA7_2, .int), (cA15_4, .int)] s := hK
  refine W.widen (k := 2) (n := 32) (by omega) (by omega) ?_
  refine va_putF (D := (dC, dI)) (ci := 3) (v := .ref q15_3) (ty := (.array .int)) (C := "BigRunner$LongDivision") (T := FT3) (N := 3) hx hb (hw3 hB _) (fun _ h9 => h9) TY3 ok3 nm3 hown hK hP hD hS 0 rfl rfl 1 (by decide) (wd_320 hB _) (fun _ h9 => h9) rfl hin rfl (by decide +kernel) rfl rfl (Nat.le_of_ble_eq_true rfl) d_NLongDivision_init_17 (fun H locs hP hD hS => ?_)
  have hP : va_P (dC, dI) vcl [(h0, .inr (3, [.ref q7_1, .ref q15_3, .int 0])), (q7_1, .inl (cA7_2, 16, .inl (fun _ => 0))), (q15_3, .inl (cA15_4, 16, .inl (fun _ => 0)))] H := hP
  have hD : va_D A [(h0, .inr (3, [.ref q7_1, .ref q15_3, .int 0])), (q7_1, .inl (cA7_2, 16, .inl (fun _ => 0))), (q15_3, .inl (cA15_4, 16, .inl (fun _ => 0)))] := hD
  refine lv_aload_n hx hb d_NLongDivision_init_20 rfl (lv_at hl 0 rfl) ?_
  refine lv_iconst (v := 0) hx hb d_NLongDivision_init_21 (by decide) ?_
  refine va_put (D := (dC, dI)) (ci := 3) (v := .int 0) (ty := .int) (C := "BigRunner$LongDivision") (T := FT3) (N := 3) hx hb (hw3 hB _) (fun _ h9 => h9) TY3 ok3 nm3 hown hK hP hD hS 0 rfl rfl 2 (by decide) (wd_321 hB _) (fun _ h9 => h9) rfl (by decide +kernel) rfl rfl (Nat.le_of_ble_eq_true rfl) d_NLongDivision_init_22 (fun H locs hP hD hS => ?_)
  have hP : va_P (dC, dI) vcl [(h0, .inr (3, [.ref q7_1, .ref q15_3, .int 0])), (q7_1, .inl (cA7_2, 16, .inl (fun _ => 0))), (q15_3, .inl (cA15_4, 16, .inl (fun _ => 0)))] H := hP
  have hD : va_D A [(h0, .inr (3, [.ref q7_1, .ref q15_3, .int 0])), (q7_1, .inl (cA7_2, 16, .inl (fun _ => 0))), (q15_3, .inl (cA15_4, 16, .inl (fun _ => 0)))] := hD
  have hP9 := hP.sub (ws' := [(h0, .inr (3, [.ref q7_1, .ref q15_3, .int 0]))]) [0] rfl
  have hD9 := hD.sub (ws' := [(h0, .inr (3, [.ref q7_1, .ref q15_3, .int 0]))]) [0] (by decide) rfl
  have hK9 := hK.sub (tys' := []) [] rfl
  refine W.widen (k := 2) (n := 32) (by omega) (by omega) ?_
  exact W.vret hx hb hr (fun t ht hW => ⟨⟨(q7_1, q15_3), rfl, trivial, by rw [ht]; exact hP9, va_K.moved hW.alike hK9, hD9⟩, hS.F ht⟩) hS.2.2 d_NLongDivision_init_25
set_option maxHeartbeats 4000000 in
set_option maxRecDepth 100000 in
theorem c_Node_init (l : Launch) (dC : Nat → ClassId) (dI : Nat → Nat → Nat) (sz : Nat) (h0 : Nat) : Met l ⟨"BigRunner$Node", "<init>", "()V"⟩ [Cond.code ⟨"BigRunner$Node", "<init>", "()V"⟩ prog_6_method_1_code 1 none] ({ frames := 2, cells := 3, slots := 20, locals := 32 }) (va_Pc [.ref h0] (fun U => U.heap.size = sz ∧ TB U ∧ va_P (dC, dI) vcl [(h0, .inr (5, [.int 0, .int 0, .int 0, .null, .int 0, .long 0, .null]))] U.heap ∧ va_K (dC, dI) vcl [] U ∧ va_D (fun _ => True) [(h0, .inr (5, [.int 0, .int 0, .int 0, .null, .int 0, .long 0, .null]))])) (va_Qv (fun (u : Nat × Nat) => match u with | (qi, ql) => True) (fun (u : Nat × Nat) (t : State) => match u with | (qi, ql) => va_P (dC, dI) vcl [(h0, .inr (5, [.int 0, .int 0, .int 0, .ref qi, .int 1, .long 0, .ref ql]))] t.heap ∧ va_K (dC, dI) vcl [] t ∧ va_D (va_A [(h0, .inr (5, [.int 0, .int 0, .int 0, .null, .int 0, .long 0, .null]))] sz) [(h0, .inr (5, [.int 0, .int 0, .int 0, .ref qi, .int 1, .long 0, .ref ql]))]) (va_A [(h0, .inr (5, [.int 0, .int 0, .int 0, .null, .int 0, .long 0, .null]))] sz)) 3 20 (va_A [(h0, .inr (5, [.int 0, .int 0, .int 0, .null, .int 0, .long 0, .null]))] sz) := by
  refine Met.ofW (cc := prog_6_method_1_code) (maxL := 1) (ret := none) (by decide) rfl ?_
  intro p e s m args below meth c s₁ B hml hv
  obtain ⟨rfl, hsz, hB, hP, hK, hD0⟩ := hv
  have hx := B.exec
  have hb := B.bytes
  have hr := B.returns
  have hown : s.vm.findClass "BigRunner$Node" = some m.cls := findClass_of_methodNamed B.named
  have hlocks := B.notSynchronized
  have hin : meth.name = "<init>" := (name_of_methodNamed B.named B.method).1
  subst hsz
  have hD := hD0.self (sz := s.heap.size)
  generalize hAe : va_A [(h0, .inr (5, [.int 0, .int 0, .int 0, .null, .int 0, .long 0, .null]))] s.heap.size = A at hD ⊢
  have hA : ∀ q : Nat, s.heap.size ≤ q → A q := fun q h => by rw [← hAe]; exact Or.inr h
  have hS : va_S A s.heap s.heap [] := va_S.rf
  have hP : va_P (dC, dI) vcl [(h0, .inr (5, [.int 0, .int 0, .int 0, .null, .int 0, .long 0, .null]))] s.heap := hP
  have hl := lv_entry ([.ref h0]) (n := 1) (Nat.le_of_ble_eq_true rfl)
  rw [lg_entry_eq]
  generalize (lg_sl ([.ref h0]) ++ List.replicate (1 - (lg_sl ([.ref h0])).length) Slot.unset).toArray = ls at hl ⊢
  have hl : lv_has ls 1 [(0, .ref h0)] := hl
  refine lv_aload_n hx hb d_NNode_init_0 rfl (lv_at hl 0 rfl) ?_
  refine W.objInit hx hb hown (wd_177 hB _) (wd_101 hB _) (wd_102 hB _) rfl (by rw [hml]; exact hl.1) rfl d_NNode_init_1 (Nat.le_of_ble_eq_true rfl) (Nat.le_of_ble_eq_true rfl) ?_
  refine W.eq (g2 := F0 m 4 ls []) rfl ?_
  refine lv_aload_n hx hb d_NNode_init_4 rfl (lv_at hl 0 rfl) ?_
  refine lv_iconst (v := 0) hx hb d_NNode_init_5 (by decide) ?_
  refine va_put (D := (dC, dI)) (ci := 5) (v := .int 0) (ty := .int) (C := "BigRunner$Node") (T := FT5) (N := 7) hx hb (hw5 hB _) (fun _ h9 => h9) TY5 ok5 nm5 hown hK hP hD hS 0 rfl rfl 0 (by decide) (wd_202 hB _) (fun _ h9 => h9) rfl (by decide +kernel) rfl rfl (Nat.le_of_ble_eq_true rfl) d_NNode_init_6 (fun H locs hP hD hS => ?_)
  have hP : va_P (dC, dI) vcl [(h0, .inr (5, [.int 0, .int 0, .int 0, .null, .int 0, .long 0, .null]))] H := hP
  have hD : va_D A [(h0, .inr (5, [.int 0, .int 0, .int 0, .null, .int 0, .long 0, .null]))] := hD
  refine lv_aload_n hx hb d_NNode_init_9 rfl (lv_at hl 0 rfl) ?_
  refine lv_iconst (v := 0) hx hb d_NNode_init_10 (by decide) ?_
  refine va_put (D := (dC, dI)) (ci := 5) (v := .int 0) (ty := .int) (C := "BigRunner$Node") (T := FT5) (N := 7) hx hb (hw5 hB _) (fun _ h9 => h9) TY5 ok5 nm5 hown hK hP hD hS 0 rfl rfl 1 (by decide) (wd_206 hB _) (fun _ h9 => h9) rfl (by decide +kernel) rfl rfl (Nat.le_of_ble_eq_true rfl) d_NNode_init_11 (fun H locs hP hD hS => ?_)
  have hP : va_P (dC, dI) vcl [(h0, .inr (5, [.int 0, .int 0, .int 0, .null, .int 0, .long 0, .null]))] H := hP
  have hD : va_D A [(h0, .inr (5, [.int 0, .int 0, .int 0, .null, .int 0, .long 0, .null]))] := hD
  refine lv_aload_n hx hb d_NNode_init_14 rfl (lv_at hl 0 rfl) ?_
  refine lv_iconst (v := 0) hx hb d_NNode_init_15 (by decide) ?_
  refine va_put (D := (dC, dI)) (ci := 5) (v := .int 0) (ty := .int) (C := "BigRunner$Node") (T := FT5) (N := 7) hx hb (hw5 hB _) (fun _ h9 => h9) TY5 ok5 nm5 hown hK hP hD hS 0 rfl rfl 2 (by decide) (wd_210 hB _) (fun _ h9 => h9) rfl (by decide +kernel) rfl rfl (Nat.le_of_ble_eq_true rfl) d_NNode_init_16 (fun H locs hP hD hS => ?_)
  have hP : va_P (dC, dI) vcl [(h0, .inr (5, [.int 0, .int 0, .int 0, .null, .int 0, .long 0, .null]))] H := hP
  have hD : va_D A [(h0, .inr (5, [.int 0, .int 0, .int 0, .null, .int 0, .long 0, .null]))] := hD
  refine lv_aload_n hx hb d_NNode_init_19 rfl (lv_at hl 0 rfl) ?_
  refine va_new (ci := 2) (fs := [.long 0, .long 0]) (C := "BigRunner$Interval") (T := FT2) (N := 2) hx hb (hw2 hB _) (fun _ h9 => h9) TY2 ok2 hown (wd_178 hB _) (wd_121 hB _) (wd_75 hB _) hK hP hD hS hA rfl (fun j hj => by rcases (show j = 0 ∨ j = 1 by omega) with rfl | rfl <;> rfl) (Nat.le_of_ble_eq_true rfl) (Nat.le_of_ble_eq_true rfl) d_NNode_init_20 (fun q20_1 H hP hD hS => ?_)
  have hP : va_P (dC, dI) vcl [(h0, .inr (5, [.int 0, .int 0, .int 0, .null, .int 0, .long 0, .null])), (q20_1, .inr (2, [.long 0, .long 0]))] H := hP
  have hD : va_D A [(h0, .inr (5, [.int 0, .int 0, .int 0, .null, .int 0, .long 0, .null])), (q20_1, .inr (2, [.long 0, .long 0]))] := hD
  refine W.widen (k := 1) (n := 2) (by omega) (by omega) ?_
  refine lv_dup hx hb d_NNode_init_23 rfl ?_
  have hPc := hP.sub (ws' := [(q20_1, .inr (2, [.long 0, .long 0]))]) [1] rfl
  have hDc := hD.sub (ws' := [(q20_1, .inr (2, [.long 0, .long 0]))]) [1] (by decide) rfl
  have hKc := hK.sub (tys' := []) [] rfl
  have hFc := va_free (wc := [(q20_1, .inr (2, [.long 0, .long 0]))]) hD hS hA [1] rfl
  refine va_callv (va_runIN (As := []) (rest := [.ref q20_1, .ref h0]) ⟨hx, hb, hml, hown, tb_nil⟩ (c_Interval_init l dC dI H.size q20_1) ⟨(va_cnB 0 (tb_one (wd_124 hB _)) tb_good1 rfl rfl rfl (va_Nw.of (A := #[]) rfl (wd_179 hB _)) (wd_75 hB _) (by decide +kernel) ⟨Nat.le_of_ble_eq_true rfl, Nat.le_of_ble_eq_true rfl⟩), rfl, (wd_123 hB _)⟩ ⟨fun a U g mk q => by obtain ⟨q0, q1, qB, qP, qK, qD⟩ := q; exact ⟨q0, q1, TB.same (s := U) (U := U.calling g mk a) rfl qB, qP, va_K.moved (u := U) (U := U.calling g mk a) (Vm.Alike.refl U.vm) qK, qD⟩, fun U hU hW => ⟨rfl, by rw [hU], hB.moved hW, by rw [hU]; exact hPc, va_K.moved hW.alike hKc, hDc.weaken (fun _ _ _ _ => trivial)⟩⟩ rfl rfl hl.1 rfl (lv_room (Nat.le_of_ble_eq_true rfl)) d_NNode_init_24 ⟨(Nat.le_of_ble_eq_true rfl), (Nat.le_of_ble_eq_true rfl)⟩) hS (fun q _ h => hFc q h) hFc (fun u_ t H1 locs ht hvm hw_ hB1 hz1 hk1 hS => ?_)
  obtain ⟨hP1, hK1, hD1⟩ := hB1
  rw [ht] at hP1
  have hK1 := va_K.moved hvm.symm hK1
  try dsimp only at hw_
  obtain ⟨hP, hD⟩ := va_join (wr := [(h0, .inr (5, [.int 0, .int 0, .int 0, .null, .int 0, .long 0, .null]))]) (w1 := [(q20_1, .inr (2, [.long 0, .long 0]))]) hP hD [1] [0] rfl rfl (by decide) (by decide) hk1 hFc hP1 hD1
  have hK := (hK.sub (tys' := []) [] rfl).app hK1
  clear hk1 hFc hPc hDc hKc hP1 hD1 hK1 hz1 ht hvm
  generalize H1 = H at hP hS ⊢
  have hP : va_P (dC, dI) vcl [(h0, .inr (5, [.int 0, .int 0, .int 0, .null, .int 0, .long 0, .null])), (q20_1, .inr (2, [.long 0, .long 0]))] H := hP
  have hD : va_D A [(h0, .inr (5, [.int 0, .int 0, .int 0, .null, .int 0, .long 0, .null])), (q20_1, .inr (2, [.long 0, .long 0]))] := hD
  have hK : va_K (dC, dI) vcl [] s := hK
  refine W.widen (k := 1) (n := 2) (by omega) (by omega) ?_
  refine va_putF (D := (dC, dI)) (ci := 5) (v := .ref q20_1) (ty := (.object "BigRunner$Interval")) (C := "BigRunner$Node") (T := FT5) (N := 7) hx hb (hw5 hB _) (fun _ h9 => h9) TY5 ok5 nm5 hown hK hP hD hS 0 rfl rfl 3 (by decide) (wd_214 hB _) (fun _ h9 => h9) rfl hin rfl (by decide +kernel) rfl rfl (Nat.le_of_ble_eq_true rfl) d_NNode_init_27 (fun H locs hP hD hS => ?_)
  have hP : va_P (dC, dI) vcl [(h0, .inr (5, [.int 0, .int 0, .int 0, .ref q20_1, .int 0, .long 0, .null])), (q20_1, .inr (2, [.long 0, .long 0]))] H := hP
  have hD : va_D A [(h0, .inr (5, [.int 0, .int 0, .int 0, .ref q20_1, .int 0, .long 0, .null])), (q20_1, .inr (2, [.long 0, .long 0]))] := hD
  refine lv_aload_n hx hb d_NNode_init_30 rfl (lv_at hl 0 rfl) ?_
  refine lv_iconst (v := 1) hx hb d_NNode_init_31 (by decide) ?_
  refine va_put (D := (dC, dI)) (ci := 5) (v := .int 1) (ty := .boolean) (C := "BigRunner$Node") (T := FT5) (N := 7) hx hb (hw5 hB _) (fun _ h9 => h9) TY5 ok5 nm5 hown hK hP hD hS 0 rfl rfl 4 (by decide) (wd_216 hB _) (fun _ h9 => h9) rfl (by decide +kernel) rfl rfl (Nat.le_of_ble_eq_true rfl) d_NNode_init_32 (fun H locs hP hD hS => ?_)
  have hP : va_P (dC, dI) vcl [(h0, .inr (5, [.int 0, .int 0, .int 0, .ref q20_1, .int 1, .long 0, .null])), (q20_1, .inr (2, [.long 0, .long 0]))] H := hP
  have hD : va_D A [(h0, .inr (5, [.int 0, .int 0, .int 0, .ref q20_1, .int 1, .long 0, .null])), (q20_1, .inr (2, [.long 0, .long 0]))] := hD
  refine lv_aload_n hx hb d_NNode_init_35 rfl (lv_at hl 0 rfl) ?_
  refine lv_lconst (v := 0) hx hb d_NNode_init_36 (by decide) ?_
  refine va_put (D := (dC, dI)) (ci := 5) (v := .long 0) (ty := .long) (C := "BigRunner$Node") (T := FT5) (N := 7) hx hb (hw5 hB _) (fun _ h9 => h9) TY5 ok5 nm5 hown hK hP hD hS 0 rfl rfl 5 (by decide) (wd_219 hB _) (fun _ h9 => h9) rfl (by decide +kernel) rfl rfl (Nat.le_of_ble_eq_true rfl) d_NNode_init_37 (fun H locs hP hD hS => ?_)
  have hP : va_P (dC, dI) vcl [(h0, .inr (5, [.int 0, .int 0, .int 0, .ref q20_1, .int 1, .long 0, .null])), (q20_1, .inr (2, [.long 0, .long 0]))] H := hP
  have hD : va_D A [(h0, .inr (5, [.int 0, .int 0, .int 0, .ref q20_1, .int 1, .long 0, .null])), (q20_1, .inr (2, [.long 0, .long 0]))] := hD
  refine lv_aload_n hx hb d_NNode_init_40 rfl (lv_at hl 0 rfl) ?_
  refine va_new (ci := 4) (fs := [.int 0, .int 0, .null]) (C := "BigRunner$LongNumber") (T := FT4) (N := 3) hx hb (hw4 hB _) (fun _ h9 => h9) TY4 ok4 hown (wd_180 hB _) (wd_181 hB _) (wd_78 hB _) hK hP hD hS hA rfl (fun j hj => by rcases (show j = 0 ∨ j = 1 ∨ j = 2 by omega) with rfl | rfl | rfl <;> rfl) (Nat.le_of_ble_eq_true rfl) (Nat.le_of_ble_eq_true rfl) d_NNode_init_41 (fun q41_2 H hP hD hS => ?_)
  have hP : va_P (dC, dI) vcl [(h0, .inr (5, [.int 0, .int 0, .int 0, .ref q20_1, .int 1, .long 0, .null])), (q20_1, .inr (2, [.long 0, .long 0])), (q41_2, .inr (4, [.int 0, .int 0, .null]))] H := hP
  have hD : va_D A [(h0, .inr (5, [.int 0, .int 0, .int 0, .ref q20_1, .int 1, .long 0, .null])), (q20_1, .inr (2, [.long 0, .long 0])), (q41_2, .inr (4, [.int 0, .int 0, .null]))] := hD
  refine W.widen (k := 2) (n := 5) (by omega) (by omega) ?_
  refine lv_dup hx hb d_NNode_init_44 rfl ?_
  have hPc := hP.sub (ws' := [(q41_2, .inr (4, [.int 0, .int 0, .null]))]) [2] rfl
  have hDc := hD.sub (ws' := [(q41_2, .inr (4, [.int 0, .int 0, .null]))]) [2] (by decide) rfl
  have hKc := hK.sub (tys' := []) [] rfl
  have hFc := va_free (wc := [(q41_2, .inr (4, [.int 0, .int 0, .null]))]) hD hS hA [2] rfl
  refine va_callv (va_runIN (As := []) (rest := [.ref q41_2, .ref h0]) ⟨hx, hb, hml, hown, tb_nil⟩ (c_LongNumber_init l dC dI H.size q41_2) ⟨(va_cnB 0 (tb_one (wd_184 hB _)) tb_good1 rfl rfl rfl (va_Nw.of (A := #[]) rfl (wd_182 hB _)) (wd_78 hB _) (by decide +kernel) ⟨Nat.le_of_ble_eq_true rfl, Nat.le_of_ble_eq_true rfl⟩), rfl, (wd_183 hB _)⟩ ⟨fun a U g mk q => by obtain ⟨q0, q1, qB, qP, qK, qD⟩ := q; exact ⟨q0, q1, TB.same (s := U) (U := U.calling g mk a) rfl qB, qP, va_K.moved (u := U) (U := U.calling g mk a) (Vm.Alike.refl U.vm) qK, qD⟩, fun U hU hW => ⟨rfl, by rw [hU], hB.moved hW, by rw [hU]; exact hPc, va_K.moved hW.alike hKc, hDc.weaken (fun _ _ _ _ => trivial)⟩⟩ rfl rfl hl.1 rfl (lv_room (Nat.le_of_ble_eq_true rfl)) d_NNode_init_45 ⟨(Nat.le_of_ble_eq_true rfl), (Nat.le_of_ble_eq_true rfl)⟩) hS (fun q _ h => hFc q h) hFc (fun u_ t H1 locs ht hvm hw_ hB1 hz1 hk1 hS => ?_)
  obtain ⟨u45_3, rfl⟩ : ∃ z, z = u_ := ⟨_, rfl⟩
  obtain ⟨hP1, hK1, hD1⟩ := hB1
  rw [ht] at hP1
  have hK1 := va_K.moved hvm.symm hK1
  try dsimp only at hw_
  obtain ⟨hP, hD⟩ := va_join (wr := [(h0, .inr (5, [.int 0, .int 0, .int 0, .ref q20_1, .int 1, .long 0, .null])), (q20_1, .inr (2, [.long 0, .long 0]))]) (w1 := [(q41_2, .inr (4, [.int 0, .int 0, .ref u45_3]))]) hP hD [2] [0, 1] rfl rfl (by decide) (by decide) hk1 hFc hP1 hD1
  have hK := (hK.sub (tys' := []) [] rfl).app hK1
  clear hk1 hFc hPc hDc hKc hP1 hD1 hK1 hz1 ht hvm
  generalize H1 = H at hP hS ⊢
  have hP : va_P (dC, dI) vcl [(h0, .inr (5, [.int 0, .int 0, .int 0, .ref q20_1, .int 1, .long 0, .null])), (q20_1, .inr (2, [.long 0, .long 0])), (q41_2, .inr (4, [.int 0, .int 0, .ref u45_3]))] H := hP
  have hD : va_D A [(h0, .inr (5, [.int 0, .int 0, .int 0, .ref q20_1, .int 1, .long 0, .null])), (q20_1, .inr (2, [.long 0, .long 0])), (q41_2, .inr (4, [.int 0, .int 0, .ref u45_3]))] := hD
  have hK : va_K (dC, dI) vcl [] s := hK
  refine W.widen (k := 3) (n := 20) (by omega) (by omega) ?_
  refine va_putF (D := (dC, dI)) (ci := 5) (v := .ref q41_2) (ty := (.object "BigRunner$LongNumber")) (C := "BigRunner$Node") (T := FT5) (N := 7) hx hb (hw5 hB _) (fun _ h9 => h9) TY5 ok5 nm5 hown hK hP hD hS 0 rfl rfl 6 (by decide) (wd_223 hB _) (fun _ h9 => h9) rfl hin rfl (by decide +kernel) rfl rfl (Nat.le_of_ble_eq_true rfl) d_NNode_init_48 (fun H locs hP hD hS => ?_)
  have hP : va_P (dC, dI) vcl [(h0, .inr (5, [.int 0, .int 0, .int 0, .ref q20_1, .int 1, .long 0, .ref q41_2])), (q20_1, .inr (2, [.long 0, .long 0])), (q41_2, .inr (4, [.int 0, .int 0, .ref u45_3]))] H := hP
  have hD : va_D A [(h0, .inr (5, [.int 0, .int 0, .int 0, .ref q20_1, .int 1, .long 0, .ref q41_2])), (q20_1, .inr (2, [.long 0, .long 0])), (q41_2, .inr (4, [.int 0, .int 0, .ref u45_3]))] := hD
  have hP9 := hP.sub (ws' := [(h0, .inr (5, [.int 0, .int 0, .int 0, .ref q20_1, .int 1, .long 0, .ref q41_2]))]) [0] rfl
  have hD9 := hD.sub (ws' := [(h0, .inr (5, [.int 0, .int 0, .int 0, .ref q20_1, .int 1, .long 0, .ref q41_2]))]) [0] (by decide) rfl
  have hK9 := hK.sub (tys' := []) [] rfl
  refine W.widen (k := 3) (n := 20) (by omega) (by omega) ?_
  exact W.vret hx hb hr (fun t ht hW => ⟨⟨(q20_1, q41_2), rfl, trivial, by rw [ht]; exact hP9, va_K.moved hW.alike hK9, hD9⟩, hS.F ht⟩) hS.2.2 d_NNode_init_51
end
section
set_option maxHeartbeats 4000000 in
set_option maxRecDepth 100000 in
theorem lp_Program_1 {p : Program} {l : Launch} {e : Env} {s : State} {m : MethodId} {args : Array Value} {below : List Frame} {meth : Method} {c : Code} {A : Nat → Prop} {Q : State → Prop} (dC : Nat → ClassId) (dI : Nat → Nat → Nat) (h0 : Nat) (q7_1 : Nat) (cA7_2 : ClassId) (q21_3 : Nat) (cA21_4 : ClassId) (q35_5 : Nat) (cA35_6 : ClassId) (q42_7 : Nat) (q65_8 : Nat) (hx : p.tables.exec = Jvm.exec) (hb : c.code = prog_7_method_1_code) (hml : c.maxLocals = 2) (hown : s.vm.findClass "BigRunner$Program" = some m.cls) (hB : TB s) (hA : ∀ q : Nat, s.heap.size ≤ q → A q) (hK : va_K (dC, dI) vcl [(cA7_2, (.object "BigRunner$Statement")), (cA21_4, (.object "BigRunner$Node")), (cA35_6, (.object "BigRunner$Interval"))] s)
    (kx : ∀ (fq : Nat → Option Nat) (H : Heap) (locs : List Loc) (ls : Array Slot), fq 0 = some q65_8 → lv_has ls 2 [(1, .int (nI 36)), (0, .ref h0)] → va_P (dC, dI) vcl [(h0, .inr (6, [.ref q7_1, .int 0, .ref q21_3, .int 0, .ref q35_5, .ref q42_7])), (q7_1, .inl (cA7_2, 36, .inr (.inr (.inr (.inr (fq)))))), (q21_3, .inl (cA21_4, 72, .inr (.inr (.inr (.inr (fun _ => none)))))), (q35_5, .inl (cA35_6, 10, .inr (.inr (.inr (.inr (fun _ => none)))))), (q42_7, .inr (2, [.long 0, .long 0])), (q65_8, .inr (9, [.int 5, .int 0, .int 0, .int (-1), .int 0]))] H → va_D A [(h0, .inr (6, [.ref q7_1, .int 0, .ref q21_3, .int 0, .ref q35_5, .ref q42_7])), (q7_1, .inl (cA7_2, 36, .inr (.inr (.inr (.inr (fq)))))), (q21_3, .inl (cA21_4, 72, .inr (.inr (.inr (.inr (fun _ => none)))))), (q35_5, .inl (cA35_6, 10, .inr (.inr (.inr (.inr (fun _ => none)))))), (q42_7, .inr (2, [.long 0, .long 0])), (q65_8, .inr (9, [.int 5, .int 0, .int 0, .int (-1), .int 0]))] → va_S A s.heap H locs → W p l e ({ frames := 4, cells := 338, slots := 2264, locals := 60 }) s m args below meth c H locs (40) (300) Q (F0 m 79 ls [])) : ∀ (n i : Nat), n + i = 36 → 1 ≤ i → ∀ (fq : Nat → Option Nat) (H : Heap) (locs : List Loc) (ls : Array Slot), fq 0 = some q65_8 → lv_has ls 2 [(1, .int (nI i)), (0, .ref h0)] → va_P (dC, dI) vcl [(h0, .inr (6, [.ref q7_1, .int 0, .ref q21_3, .int 0, .ref q35_5, .ref q42_7])), (q7_1, .inl (cA7_2, 36, .inr (.inr (.inr (.inr (fq)))))), (q21_3, .inl (cA21_4, 72, .inr (.inr (.inr (.inr (fun _ => none)))))), (q35_5, .inl (cA35_6, 10, .inr (.inr (.inr (.inr (fun _ => none)))))), (q42_7, .inr (2, [.long 0, .long 0])), (q65_8, .inr (9, [.int 5, .int 0, .int 0, .int (-1), .int 0]))] H → va_D A [(h0, .inr (6, [.ref q7_1, .int 0, .ref q21_3, .int 0, .ref q35_5, .ref q42_7])), (q7_1, .inl (cA7_2, 36, .inr (.inr (.inr (.inr (fq)))))), (q21_3, .inl (cA21_4, 72, .inr (.inr (.inr (.inr (fun _ => none)))))), (q35_5, .inl (cA35_6, 10, .inr (.inr (.inr (.inr (fun _ => none)))))), (q42_7, .inr (2, [.long 0, .long 0])), (q65_8, .inr (9, [.int 5, .int 0, .int 0, .int (-1), .int 0]))] → va_S A s.heap H locs → W p l e ({ frames := 4, cells := 338, slots := 2264, locals := 60 }) s m args below meth c H locs (4 + 1 * i) (120 + 5 * i) Q (F0 m 54 ls []) := by
  intro n
  induction n with
  | zero =>
    intro i hn hst fq H locs ls hi0 hl hP hD hS
    obtain rfl : i = 36 := by omega
    refine lv_iload_n hx hb d_NProgram_init_54 rfl (lv_at hl 0 rfl) ?_
    refine lv_bipush (v := 36) hx hb d_NProgram_init_55 (by decide) ?_
    refine lv_icmp_ge (tgt := 79) hx hb d_NProgram_init_57 (by decide) (fun _ => ?_) (fun hq => absurd (by decide) hq)
    exact kx fq H locs ls hi0 hl hP hD hS
  | succ n ih =>
    intro i hn hst fq H locs ls hi0 hl hP hD hS
    refine lv_iload_n hx hb d_NProgram_init_54 rfl (lv_at hl 0 rfl) ?_
    refine lv_bipush (v := 36) hx hb d_NProgram_init_55 (by decide) ?_
    refine lv_icmp_ge (tgt := 79) hx hb d_NProgram_init_57 (by decide) (fun hq => absurd hq (nI_ge (b := 36) (by omega) (by decide))) (fun _ => ?_)
    refine lv_aload_n hx hb d_NProgram_init_60 rfl (lv_at hl 1 rfl) ?_
    refine va_get (D := (dC, dI)) (ci := 6) (v := .ref q7_1) (C := "BigRunner$Program") (T := FT6) (N := 6) hx hb (hw6 hB _) (fun _ h9 => h9) hown hK hP 0 rfl rfl 0 (by decide) (wd_242 hB _) (fun _ h9 => h9) rfl d_NProgram_init_61 ?_
    refine lv_iload_n hx hb d_NProgram_init_64 rfl (lv_at hl 0 rfl) ?_
    refine va_new (ci := 9) (fs := [.int 0, .int 0, .int 0, .int 0, .int 0]) (C := "BigRunner$Statement") (T := FT9) (N := 5) hx hb (hw9 hB _) (fun _ h9 => h9) TY9 ok9 hown (wd_115 hB _) (wd_138 hB _) (wd_76 hB _) hK hP hD hS hA rfl (fun j hj => by rcases (show j = 0 ∨ j = 1 ∨ j = 2 ∨ j = 3 ∨ j = 4 by omega) with rfl | rfl | rfl | rfl | rfl <;> rfl) (show _ ≤ 338 by omega) (show _ ≤ 2264 by omega) d_NProgram_init_65 (fun q65_1 H hP hD hS => ?_)
    have hP : va_P (dC, dI) vcl [(h0, .inr (6, [.ref q7_1, .int 0, .ref q21_3, .int 0, .ref q35_5, .ref q42_7])), (q7_1, .inl (cA7_2, 36, .inr (.inr (.inr (.inr (fq)))))), (q21_3, .inl (cA21_4, 72, .inr (.inr (.inr (.inr (fun _ => none)))))), (q35_5, .inl (cA35_6, 10, .inr (.inr (.inr (.inr (fun _ => none)))))), (q42_7, .inr (2, [.long 0, .long 0])), (q65_8, .inr (9, [.int 5, .int 0, .int 0, .int (-1), .int 0])), (q65_1, .inr (9, [.int 0, .int 0, .int 0, .int 0, .int 0]))] H := hP
    have hD : va_D A [(h0, .inr (6, [.ref q7_1, .int 0, .ref q21_3, .int 0, .ref q35_5, .ref q42_7])), (q7_1, .inl (cA7_2, 36, .inr (.inr (.inr (.inr (fq)))))), (q21_3, .inl (cA21_4, 72, .inr (.inr (.inr (.inr (fun _ => none)))))), (q35_5, .inl (cA35_6, 10, .inr (.inr (.inr (.inr (fun _ => none)))))), (q42_7, .inr (2, [.long 0, .long 0])), (q65_8, .inr (9, [.int 5, .int 0, .int 0, .int (-1), .int 0])), (q65_1, .inr (9, [.int 0, .int 0, .int 0, .int 0, .int 0]))] := hD
    refine W.widen (k := 5 + 1 * i) (n := 125 + 5 * i) (by omega) (by omega) ?_
    refine lv_dup hx hb d_NProgram_init_68 rfl ?_
    have hPc := hP.sub (ws' := [(q65_1, .inr (9, [.int 0, .int 0, .int 0, .int 0, .int 0]))]) [6] rfl
    have hDc := hD.sub (ws' := [(q65_1, .inr (9, [.int 0, .int 0, .int 0, .int 0, .int 0]))]) [6] (by decide) rfl
    have hKc := hK.sub (tys' := []) [] rfl
    have hFc := va_free (wc := [(q65_1, .inr (9, [.int 0, .int 0, .int 0, .int 0, .int 0]))]) hD hS hA [6] rfl
    refine va_callv (va_runIN (As := []) (rest := [.ref q65_1, .int (nI i), .ref q7_1]) ⟨hx, hb, hml, hown, tb_nil⟩ (c_Statement_init l dC dI H.size q65_1) ⟨(va_cnB 0 (tb_one (wd_141 hB _)) tb_good1 rfl rfl rfl (va_Nw.of (A := #[]) rfl (wd_139 hB _)) (wd_76 hB _) (by decide +kernel) ⟨Nat.le_of_ble_eq_true rfl, Nat.le_of_ble_eq_true rfl⟩), rfl, (wd_140 hB _)⟩ ⟨fun a U g mk q => by obtain ⟨q0, q1, qB, qP, qK, qD⟩ := q; exact ⟨q0, q1, TB.same (s := U) (U := U.calling g mk a) rfl qB, qP, va_K.moved (u := U) (U := U.calling g mk a) (Vm.Alike.refl U.vm) qK, qD⟩, fun U hU hW => ⟨rfl, by rw [hU], hB.moved hW, by rw [hU]; exact hPc, va_K.moved hW.alike hKc, hDc.weaken (fun _ _ _ _ => trivial)⟩⟩ rfl rfl hl.1 rfl (lv_room (Nat.le_of_ble_eq_true rfl)) d_NProgram_init_69 ⟨(show _ ≤ 338 by omega), (show _ ≤ 2264 by omega)⟩) hS (fun q _ h => hFc q h) hFc (fun u_ t H1 locs ht hvm hw_ hB1 hz1 hk1 hS => ?_)
    obtain ⟨hP1, hK1, hD1⟩ := hB1
    rw [ht] at hP1
    have hK1 := va_K.moved hvm.symm hK1
    try dsimp only at hw_
    obtain ⟨hP, hD⟩ := va_join (wr := [(h0, .inr (6, [.ref q7_1, .int 0, .ref q21_3, .int 0, .ref q35_5, .ref q42_7])), (q7_1, .inl (cA7_2, 36, .inr (.inr (.inr (.inr (fq)))))), (q21_3, .inl (cA21_4, 72, .inr (.inr (.inr (.inr (fun _ => none)))))), (q35_5, .inl (cA35_6, 10, .inr (.inr (.inr (.inr (fun _ => none)))))), (q42_7, .inr (2, [.long 0, .long 0])), (q65_8, .inr (9, [.int 5, .int 0, .int 0, .int (-1), .int 0]))]) (w1 := [(q65_1, .inr (9, [.int 5, .int 0, .int 0, .int (-1), .int 0]))]) hP hD [6] [0, 1, 2, 3, 4, 5] rfl rfl (by decide) (by decide) hk1 hFc hP1 hD1
    have hK := (hK.sub (tys' := [(cA7_2, (.object "BigRunner$Statement")), (cA21_4, (.object "BigRunner$Node")), (cA35_6, (.object "BigRunner$Interval"))]) [0, 1, 2] rfl).app hK1
    clear hk1 hFc hPc hDc hKc hP1 hD1 hK1 hz1 ht hvm
    generalize H1 = H at hP hS ⊢
    have hP : va_P (dC, dI) vcl [(h0, .inr (6, [.ref q7_1, .int 0, .ref q21_3, .int 0, .ref q35_5, .ref q42_7])), (q7_1, .inl (cA7_2, 36, .inr (.inr (.inr (.inr (fq)))))), (q21_3, .inl (cA21_4, 72, .inr (.inr (.inr (.inr (fun _ => none)))))), (q35_5, .inl (cA35_6, 10, .inr (.inr (.inr (.inr (fun _ => none)))))), (q42_7, .inr (2, [.long 0, .long 0])), (q65_8, .inr (9, [.int 5, .int 0, .int 0, .int (-1), .int 0])), (q65_1, .inr (9, [.int 5, .int 0, .int 0, .int (-1), .int 0]))] H := hP
    have hD : va_D A [(h0, .inr (6, [.ref q7_1, .int 0, .ref q21_3, .int 0, .ref q35_5, .ref q42_7])), (q7_1, .inl (cA7_2, 36, .inr (.inr (.inr (.inr (fq)))))), (q21_3, .inl (cA21_4, 72, .inr (.inr (.inr (.inr (fun _ => none)))))), (q35_5, .inl (cA35_6, 10, .inr (.inr (.inr (.inr (fun _ => none)))))), (q42_7, .inr (2, [.long 0, .long 0])), (q65_8, .inr (9, [.int 5, .int 0, .int 0, .int (-1), .int 0])), (q65_1, .inr (9, [.int 5, .int 0, .int 0, .int (-1), .int 0]))] := hD
    have hK : va_K (dC, dI) vcl [(cA7_2, (.object "BigRunner$Statement")), (cA21_4, (.object "BigRunner$Node")), (cA35_6, (.object "BigRunner$Interval"))] s := hK
    refine W.widen (k := 5 + 1 * i) (n := 125 + 5 * i) (by omega) (by omega) ?_
    refine va_astq (D := (dC, dI)) (r := ("BigRunner$Statement", FT9, 5)) hx hb hK hP hD hS 1 0 6 9 rfl rfl rfl rfl (vp_in_nI (by omega) (by decide)) d_NProgram_init_72 (fun H locs hP hD hS => ?_)
    have hP : va_P (dC, dI) vcl [(h0, .inr (6, [.ref q7_1, .int 0, .ref q21_3, .int 0, .ref q35_5, .ref q42_7])), (q7_1, .inl (cA7_2, 36, .inr (.inr (.inr (.inr (va_up (fq) ((nI i)).toNatClampNeg (some q65_1))))))), (q21_3, .inl (cA21_4, 72, .inr (.inr (.inr (.inr (fun _ => none)))))), (q35_5, .inl (cA35_6, 10, .inr (.inr (.inr (.inr (fun _ => none)))))), (q42_7, .inr (2, [.long 0, .long 0])), (q65_8, .inr (9, [.int 5, .int 0, .int 0, .int (-1), .int 0])), (q65_1, .inr (9, [.int 5, .int 0, .int 0, .int (-1), .int 0]))] H := hP
    have hD : va_D A [(h0, .inr (6, [.ref q7_1, .int 0, .ref q21_3, .int 0, .ref q35_5, .ref q42_7])), (q7_1, .inl (cA7_2, 36, .inr (.inr (.inr (.inr (va_up (fq) ((nI i)).toNatClampNeg (some q65_1))))))), (q21_3, .inl (cA21_4, 72, .inr (.inr (.inr (.inr (fun _ => none)))))), (q35_5, .inl (cA35_6, 10, .inr (.inr (.inr (.inr (fun _ => none)))))), (q42_7, .inr (2, [.long 0, .long 0])), (q65_8, .inr (9, [.int 5, .int 0, .int 0, .int (-1), .int 0])), (q65_1, .inr (9, [.int 5, .int 0, .int 0, .int (-1), .int 0]))] := hD
    refine lv_iinc (k := 0) (v := nI (i + 1)) (lv' := [(1, .int (nI (i + 1))), (0, .ref h0)]) hx hb d_NProgram_init_73 hl rfl (by rw [nI_succ]; rfl) (by decide) rfl (fun ls hl => ?_)
    refine lv_goto (tgt := 54) hx hb d_NProgram_init_76 (by decide) ?_
    have hD := hD.sub (ws' := [(h0, .inr (6, [.ref q7_1, .int 0, .ref q21_3, .int 0, .ref q35_5, .ref q42_7])), (q7_1, .inl (cA7_2, 36, .inr (.inr (.inr (.inr (va_up (fq) ((nI i)).toNatClampNeg (some q65_1))))))), (q21_3, .inl (cA21_4, 72, .inr (.inr (.inr (.inr (fun _ => none)))))), (q35_5, .inl (cA35_6, 10, .inr (.inr (.inr (.inr (fun _ => none)))))), (q42_7, .inr (2, [.long 0, .long 0])), (q65_8, .inr (9, [.int 5, .int 0, .int 0, .int (-1), .int 0]))]) [0, 1, 2, 3, 4, 5] (by decide) rfl
    have hP := hP.sub (ws' := [(h0, .inr (6, [.ref q7_1, .int 0, .ref q21_3, .int 0, .ref q35_5, .ref q42_7])), (q7_1, .inl (cA7_2, 36, .inr (.inr (.inr (.inr (va_up (fq) ((nI i)).toNatClampNeg (some q65_1))))))), (q21_3, .inl (cA21_4, 72, .inr (.inr (.inr (.inr (fun _ => none)))))), (q35_5, .inl (cA35_6, 10, .inr (.inr (.inr (.inr (fun _ => none)))))), (q42_7, .inr (2, [.long 0, .long 0])), (q65_8, .inr (9, [.int 5, .int 0, .int 0, .int (-1), .int 0]))]) [0, 1, 2, 3, 4, 5] rfl
    refine W.widen (k := 4 + 1 * (i + 1)) (n := 120 + 5 * (i + 1)) (by omega) (by omega) ?_
    exact ih (i + 1) (by omega) (by omega) (va_up (fq) ((nI i)).toNatClampNeg (some q65_1)) H locs ls (by rw [va_up_ne _ _ (show 0 ≠ (nI i).toNatClampNeg by rw [nI_clamp (by omega)]; omega)]; exact hi0) hl hP hD hS
set_option maxHeartbeats 4000000 in
set_option maxRecDepth 100000 in
theorem lp_Program_2 {p : Program} {l : Launch} {e : Env} {s : State} {m : MethodId} {args : Array Value} {below : List Frame} {meth : Method} {c : Code} {A : Nat → Prop} {Q : State → Prop} (dC : Nat → ClassId) (dI : Nat → Nat → Nat) (h0 : Nat) (q7_1 : Nat) (cA7_2 : ClassId) (gq7_1 : Nat → Option Nat) (q21_3 : Nat) (cA21_4 : ClassId) (q35_5 : Nat) (cA35_6 : ClassId) (q42_7 : Nat) (q65_8 : Nat) (hx : p.tables.exec = Jvm.exec) (hb : c.code = prog_7_method_1_code) (hml : c.maxLocals = 2) (hown : s.vm.findClass "BigRunner$Program" = some m.cls) (hB : TB s) (hA : ∀ q : Nat, s.heap.size ≤ q → A q) (hK : va_K (dC, dI) vcl [(cA7_2, (.object "BigRunner$Statement")), (cA21_4, (.object "BigRunner$Node")), (cA35_6, (.object "BigRunner$Interval"))] s)
    (kx : ∀ (fq : Nat → Option Nat) (H : Heap) (locs : List Loc) (ls : Array Slot), lv_has ls 2 [(1, .int (nI 72)), (0, .ref h0)] → va_P (dC, dI) vcl [(h0, .inr (6, [.ref q7_1, .int 0, .ref q21_3, .int 0, .ref q35_5, .ref q42_7])), (q7_1, .inl (cA7_2, 36, .inr (.inr (.inr (.inr (gq7_1)))))), (q21_3, .inl (cA21_4, 72, .inr (.inr (.inr (.inr (fq)))))), (q35_5, .inl (cA35_6, 10, .inr (.inr (.inr (.inr (fun _ => none)))))), (q42_7, .inr (2, [.long 0, .long 0])), (q65_8, .inr (9, [.int 5, .int 0, .int 0, .int (-1), .int 0]))] H → va_D A [(h0, .inr (6, [.ref q7_1, .int 0, .ref q21_3, .int 0, .ref q35_5, .ref q42_7])), (q7_1, .inl (cA7_2, 36, .inr (.inr (.inr (.inr (gq7_1)))))), (q21_3, .inl (cA21_4, 72, .inr (.inr (.inr (.inr (fq)))))), (q35_5, .inl (cA35_6, 10, .inr (.inr (.inr (.inr (fun _ => none)))))), (q42_7, .inr (2, [.long 0, .long 0])), (q65_8, .inr (9, [.int 5, .int 0, .int 0, .int (-1), .int 0]))] → va_S A s.heap H locs → W p l e ({ frames := 4, cells := 338, slots := 2264, locals := 60 }) s m args below meth c H locs (328) (2244) Q (F0 m 106 ls [])) : ∀ (n i : Nat), n + i = 72 → 0 ≤ i → ∀ (fq : Nat → Option Nat) (H : Heap) (locs : List Loc) (ls : Array Slot), lv_has ls 2 [(1, .int (nI i)), (0, .ref h0)] → va_P (dC, dI) vcl [(h0, .inr (6, [.ref q7_1, .int 0, .ref q21_3, .int 0, .ref q35_5, .ref q42_7])), (q7_1, .inl (cA7_2, 36, .inr (.inr (.inr (.inr (gq7_1)))))), (q21_3, .inl (cA21_4, 72, .inr (.inr (.inr (.inr (fq)))))), (q35_5, .inl (cA35_6, 10, .inr (.inr (.inr (.inr (fun _ => none)))))), (q42_7, .inr (2, [.long 0, .long 0])), (q65_8, .inr (9, [.int 5, .int 0, .int 0, .int (-1), .int 0]))] H → va_D A [(h0, .inr (6, [.ref q7_1, .int 0, .ref q21_3, .int 0, .ref q35_5, .ref q42_7])), (q7_1, .inl (cA7_2, 36, .inr (.inr (.inr (.inr (gq7_1)))))), (q21_3, .inl (cA21_4, 72, .inr (.inr (.inr (.inr (fq)))))), (q35_5, .inl (cA35_6, 10, .inr (.inr (.inr (.inr (fun _ => none)))))), (q42_7, .inr (2, [.long 0, .long 0])), (q65_8, .inr (9, [.int 5, .int 0, .int 0, .int (-1), .int 0]))] → va_S A s.heap H locs → W p l e ({ frames := 4, cells := 338, slots := 2264, locals := 60 }) s m args below meth c H locs (40 + 4 * i) (300 + 27 * i) Q (F0 m 81 ls []) := by
  intro n
  induction n with
  | zero =>
    intro i hn hst fq H locs ls  hl hP hD hS
    obtain rfl : i = 72 := by omega
    refine lv_iload_n hx hb d_NProgram_init_81 rfl (lv_at hl 0 rfl) ?_
    refine lv_bipush (v := 72) hx hb d_NProgram_init_82 (by decide) ?_
    refine lv_icmp_ge (tgt := 106) hx hb d_NProgram_init_84 (by decide) (fun _ => ?_) (fun hq => absurd (by decide) hq)
    exact kx fq H locs ls  hl hP hD hS
  | succ n ih =>
    intro i hn hst fq H locs ls  hl hP hD hS
    refine lv_iload_n hx hb d_NProgram_init_81 rfl (lv_at hl 0 rfl) ?_
    refine lv_bipush (v := 72) hx hb d_NProgram_init_82 (by decide) ?_
    refine lv_icmp_ge (tgt := 106) hx hb d_NProgram_init_84 (by decide) (fun hq => absurd hq (nI_ge (b := 72) (by omega) (by decide))) (fun _ => ?_)
    refine lv_aload_n hx hb d_NProgram_init_87 rfl (lv_at hl 1 rfl) ?_
    refine va_get (D := (dC, dI)) (ci := 6) (v := .ref q21_3) (C := "BigRunner$Program") (T := FT6) (N := 6) hx hb (hw6 hB _) (fun _ h9 => h9) hown hK hP 0 rfl rfl 2 (by decide) (wd_248 hB _) (fun _ h9 => h9) rfl d_NProgram_init_88 ?_
    refine lv_iload_n hx hb d_NProgram_init_91 rfl (lv_at hl 0 rfl) ?_
    refine va_new (ci := 5) (fs := [.int 0, .int 0, .int 0, .null, .int 0, .long 0, .null]) (C := "BigRunner$Node") (T := FT5) (N := 7) hx hb (hw5 hB _) (fun _ h9 => h9) TY5 ok5 hown (wd_117 hB _) (wd_173 hB _) (wd_77 hB _) hK hP hD hS hA rfl (fun j hj => by rcases (show j = 0 ∨ j = 1 ∨ j = 2 ∨ j = 3 ∨ j = 4 ∨ j = 5 ∨ j = 6 by omega) with rfl | rfl | rfl | rfl | rfl | rfl | rfl <;> rfl) (show _ ≤ 338 by omega) (show _ ≤ 2264 by omega) d_NProgram_init_92 (fun q92_1 H hP hD hS => ?_)
    have hP : va_P (dC, dI) vcl [(h0, .inr (6, [.ref q7_1, .int 0, .ref q21_3, .int 0, .ref q35_5, .ref q42_7])), (q7_1, .inl (cA7_2, 36, .inr (.inr (.inr (.inr (gq7_1)))))), (q21_3, .inl (cA21_4, 72, .inr (.inr (.inr (.inr (fq)))))), (q35_5, .inl (cA35_6, 10, .inr (.inr (.inr (.inr (fun _ => none)))))), (q42_7, .inr (2, [.long 0, .long 0])), (q65_8, .inr (9, [.int 5, .int 0, .int 0, .int (-1), .int 0])), (q92_1, .inr (5, [.int 0, .int 0, .int 0, .null, .int 0, .long 0, .null]))] H := hP
    have hD : va_D A [(h0, .inr (6, [.ref q7_1, .int 0, .ref q21_3, .int 0, .ref q35_5, .ref q42_7])), (q7_1, .inl (cA7_2, 36, .inr (.inr (.inr (.inr (gq7_1)))))), (q21_3, .inl (cA21_4, 72, .inr (.inr (.inr (.inr (fq)))))), (q35_5, .inl (cA35_6, 10, .inr (.inr (.inr (.inr (fun _ => none)))))), (q42_7, .inr (2, [.long 0, .long 0])), (q65_8, .inr (9, [.int 5, .int 0, .int 0, .int (-1), .int 0])), (q92_1, .inr (5, [.int 0, .int 0, .int 0, .null, .int 0, .long 0, .null]))] := hD
    refine W.widen (k := 41 + 4 * i) (n := 307 + 27 * i) (by omega) (by omega) ?_
    refine lv_dup hx hb d_NProgram_init_95 rfl ?_
    have hPc := hP.sub (ws' := [(q92_1, .inr (5, [.int 0, .int 0, .int 0, .null, .int 0, .long 0, .null]))]) [6] rfl
    have hDc := hD.sub (ws' := [(q92_1, .inr (5, [.int 0, .int 0, .int 0, .null, .int 0, .long 0, .null]))]) [6] (by decide) rfl
    have hKc := hK.sub (tys' := []) [] rfl
    have hFc := va_free (wc := [(q92_1, .inr (5, [.int 0, .int 0, .int 0, .null, .int 0, .long 0, .null]))]) hD hS hA [6] rfl
    refine va_callv (va_runIN (As := []) (rest := [.ref q92_1, .int (nI i), .ref q21_3]) ⟨hx, hb, hml, hown, tb_nil⟩ (c_Node_init l dC dI H.size q92_1) ⟨(va_cnB 0 (tb_one (wd_176 hB _)) tb_good1 rfl rfl rfl (va_Nw.of (A := #[]) rfl (wd_174 hB _)) (wd_77 hB _) (by decide +kernel) ⟨Nat.le_of_ble_eq_true rfl, Nat.le_of_ble_eq_true rfl⟩), rfl, (wd_175 hB _)⟩ ⟨fun a U g mk q => by obtain ⟨q0, q1, qB, qP, qK, qD⟩ := q; exact ⟨q0, q1, TB.same (s := U) (U := U.calling g mk a) rfl qB, qP, va_K.moved (u := U) (U := U.calling g mk a) (Vm.Alike.refl U.vm) qK, qD⟩, fun U hU hW => ⟨rfl, by rw [hU], hB.moved hW, by rw [hU]; exact hPc, va_K.moved hW.alike hKc, hDc.weaken (fun _ _ _ _ => trivial)⟩⟩ rfl rfl hl.1 rfl (lv_room (Nat.le_of_ble_eq_true rfl)) d_NProgram_init_96 ⟨(show _ ≤ 338 by omega), (show _ ≤ 2264 by omega)⟩) hS (fun q _ h => hFc q h) hFc (fun u_ t H1 locs ht hvm hw_ hB1 hz1 hk1 hS => ?_)
    obtain ⟨u96_2, u96_3⟩ := u_
    obtain ⟨hP1, hK1, hD1⟩ := hB1
    rw [ht] at hP1
    have hK1 := va_K.moved hvm.symm hK1
    try dsimp only at hw_
    obtain ⟨hP, hD⟩ := va_join (wr := [(h0, .inr (6, [.ref q7_1, .int 0, .ref q21_3, .int 0, .ref q35_5, .ref q42_7])), (q7_1, .inl (cA7_2, 36, .inr (.inr (.inr (.inr (gq7_1)))))), (q21_3, .inl (cA21_4, 72, .inr (.inr (.inr (.inr (fq)))))), (q35_5, .inl (cA35_6, 10, .inr (.inr (.inr (.inr (fun _ => none)))))), (q42_7, .inr (2, [.long 0, .long 0])), (q65_8, .inr (9, [.int 5, .int 0, .int 0, .int (-1), .int 0]))]) (w1 := [(q92_1, .inr (5, [.int 0, .int 0, .int 0, .ref u96_2, .int 1, .long 0, .ref u96_3]))]) hP hD [6] [0, 1, 2, 3, 4, 5] rfl rfl (by decide) (by decide) hk1 hFc hP1 hD1
    have hK := (hK.sub (tys' := [(cA7_2, (.object "BigRunner$Statement")), (cA21_4, (.object "BigRunner$Node")), (cA35_6, (.object "BigRunner$Interval"))]) [0, 1, 2] rfl).app hK1
    clear hk1 hFc hPc hDc hKc hP1 hD1 hK1 hz1 ht hvm
    generalize H1 = H at hP hS ⊢
    have hP : va_P (dC, dI) vcl [(h0, .inr (6, [.ref q7_1, .int 0, .ref q21_3, .int 0, .ref q35_5, .ref q42_7])), (q7_1, .inl (cA7_2, 36, .inr (.inr (.inr (.inr (gq7_1)))))), (q21_3, .inl (cA21_4, 72, .inr (.inr (.inr (.inr (fq)))))), (q35_5, .inl (cA35_6, 10, .inr (.inr (.inr (.inr (fun _ => none)))))), (q42_7, .inr (2, [.long 0, .long 0])), (q65_8, .inr (9, [.int 5, .int 0, .int 0, .int (-1), .int 0])), (q92_1, .inr (5, [.int 0, .int 0, .int 0, .ref u96_2, .int 1, .long 0, .ref u96_3]))] H := hP
    have hD : va_D A [(h0, .inr (6, [.ref q7_1, .int 0, .ref q21_3, .int 0, .ref q35_5, .ref q42_7])), (q7_1, .inl (cA7_2, 36, .inr (.inr (.inr (.inr (gq7_1)))))), (q21_3, .inl (cA21_4, 72, .inr (.inr (.inr (.inr (fq)))))), (q35_5, .inl (cA35_6, 10, .inr (.inr (.inr (.inr (fun _ => none)))))), (q42_7, .inr (2, [.long 0, .long 0])), (q65_8, .inr (9, [.int 5, .int 0, .int 0, .int (-1), .int 0])), (q92_1, .inr (5, [.int 0, .int 0, .int 0, .ref u96_2, .int 1, .long 0, .ref u96_3]))] := hD
    have hK : va_K (dC, dI) vcl [(cA7_2, (.object "BigRunner$Statement")), (cA21_4, (.object "BigRunner$Node")), (cA35_6, (.object "BigRunner$Interval"))] s := hK
    refine W.widen (k := 44 + 4 * i) (n := 327 + 27 * i) (by omega) (by omega) ?_
    refine va_astq (D := (dC, dI)) (r := ("BigRunner$Node", FT5, 7)) hx hb hK hP hD hS 2 1 6 5 rfl rfl rfl rfl (vp_in_nI (by omega) (by decide)) d_NProgram_init_99 (fun H locs hP hD hS => ?_)
    have hP : va_P (dC, dI) vcl [(h0, .inr (6, [.ref q7_1, .int 0, .ref q21_3, .int 0, .ref q35_5, .ref q42_7])), (q7_1, .inl (cA7_2, 36, .inr (.inr (.inr (.inr (gq7_1)))))), (q21_3, .inl (cA21_4, 72, .inr (.inr (.inr (.inr (va_up (fq) ((nI i)).toNatClampNeg (some q92_1))))))), (q35_5, .inl (cA35_6, 10, .inr (.inr (.inr (.inr (fun _ => none)))))), (q42_7, .inr (2, [.long 0, .long 0])), (q65_8, .inr (9, [.int 5, .int 0, .int 0, .int (-1), .int 0])), (q92_1, .inr (5, [.int 0, .int 0, .int 0, .ref u96_2, .int 1, .long 0, .ref u96_3]))] H := hP
    have hD : va_D A [(h0, .inr (6, [.ref q7_1, .int 0, .ref q21_3, .int 0, .ref q35_5, .ref q42_7])), (q7_1, .inl (cA7_2, 36, .inr (.inr (.inr (.inr (gq7_1)))))), (q21_3, .inl (cA21_4, 72, .inr (.inr (.inr (.inr (va_up (fq) ((nI i)).toNatClampNeg (some q92_1))))))), (q35_5, .inl (cA35_6, 10, .inr (.inr (.inr (.inr (fun _ => none)))))), (q42_7, .inr (2, [.long 0, .long 0])), (q65_8, .inr (9, [.int 5, .int 0, .int 0, .int (-1), .int 0])), (q92_1, .inr (5, [.int 0, .int 0, .int 0, .ref u96_2, .int 1, .long 0, .ref u96_3]))] := hD
    refine lv_iinc (k := 0) (v := nI (i + 1)) (lv' := [(1, .int (nI (i + 1))), (0, .ref h0)]) hx hb d_NProgram_init_100 hl rfl (by rw [nI_succ]; rfl) (by decide) rfl (fun ls hl => ?_)
    refine lv_goto (tgt := 81) hx hb d_NProgram_init_103 (by decide) ?_
    have hD := hD.sub (ws' := [(h0, .inr (6, [.ref q7_1, .int 0, .ref q21_3, .int 0, .ref q35_5, .ref q42_7])), (q7_1, .inl (cA7_2, 36, .inr (.inr (.inr (.inr (gq7_1)))))), (q21_3, .inl (cA21_4, 72, .inr (.inr (.inr (.inr (va_up (fq) ((nI i)).toNatClampNeg (some q92_1))))))), (q35_5, .inl (cA35_6, 10, .inr (.inr (.inr (.inr (fun _ => none)))))), (q42_7, .inr (2, [.long 0, .long 0])), (q65_8, .inr (9, [.int 5, .int 0, .int 0, .int (-1), .int 0]))]) [0, 1, 2, 3, 4, 5] (by decide) rfl
    have hP := hP.sub (ws' := [(h0, .inr (6, [.ref q7_1, .int 0, .ref q21_3, .int 0, .ref q35_5, .ref q42_7])), (q7_1, .inl (cA7_2, 36, .inr (.inr (.inr (.inr (gq7_1)))))), (q21_3, .inl (cA21_4, 72, .inr (.inr (.inr (.inr (va_up (fq) ((nI i)).toNatClampNeg (some q92_1))))))), (q35_5, .inl (cA35_6, 10, .inr (.inr (.inr (.inr (fun _ => none)))))), (q42_7, .inr (2, [.long 0, .long 0])), (q65_8, .inr (9, [.int 5, .int 0, .int 0, .int (-1), .int 0]))]) [0, 1, 2, 3, 4, 5] rfl
    refine W.widen (k := 40 + 4 * (i + 1)) (n := 300 + 27 * (i + 1)) (by omega) (by omega) ?_
    exact ih (i + 1) (by omega) (by omega) (va_up (fq) ((nI i)).toNatClampNeg (some q92_1)) H locs ls  hl hP hD hS
set_option maxHeartbeats 4000000 in
set_option maxRecDepth 100000 in
theorem lp_Program_3 {p : Program} {l : Launch} {e : Env} {s : State} {m : MethodId} {args : Array Value} {below : List Frame} {meth : Method} {c : Code} {A : Nat → Prop} {Q : State → Prop} (dC : Nat → ClassId) (dI : Nat → Nat → Nat) (h0 : Nat) (q7_1 : Nat) (cA7_2 : ClassId) (gq7_1 : Nat → Option Nat) (q21_3 : Nat) (cA21_4 : ClassId) (gq21_3 : Nat → Option Nat) (q35_5 : Nat) (cA35_6 : ClassId) (q42_7 : Nat) (q65_8 : Nat) (hx : p.tables.exec = Jvm.exec) (hb : c.code = prog_7_method_1_code) (hml : c.maxLocals = 2) (hown : s.vm.findClass "BigRunner$Program" = some m.cls) (hB : TB s) (hA : ∀ q : Nat, s.heap.size ≤ q → A q) (hK : va_K (dC, dI) vcl [(cA7_2, (.object "BigRunner$Statement")), (cA21_4, (.object "BigRunner$Node")), (cA35_6, (.object "BigRunner$Interval"))] s)
    (kx : ∀ (fq : Nat → Option Nat) (H : Heap) (locs : List Loc) (ls : Array Slot), lv_has ls 2 [(1, .int (nI 10)), (0, .ref h0)] → va_P (dC, dI) vcl [(h0, .inr (6, [.ref q7_1, .int 0, .ref q21_3, .int 0, .ref q35_5, .ref q42_7])), (q7_1, .inl (cA7_2, 36, .inr (.inr (.inr (.inr (gq7_1)))))), (q21_3, .inl (cA21_4, 72, .inr (.inr (.inr (.inr (gq21_3)))))), (q35_5, .inl (cA35_6, 10, .inr (.inr (.inr (.inr (fq)))))), (q42_7, .inr (2, [.long 0, .long 0])), (q65_8, .inr (9, [.int 5, .int 0, .int 0, .int (-1), .int 0]))] H → va_D A [(h0, .inr (6, [.ref q7_1, .int 0, .ref q21_3, .int 0, .ref q35_5, .ref q42_7])), (q7_1, .inl (cA7_2, 36, .inr (.inr (.inr (.inr (gq7_1)))))), (q21_3, .inl (cA21_4, 72, .inr (.inr (.inr (.inr (gq21_3)))))), (q35_5, .inl (cA35_6, 10, .inr (.inr (.inr (.inr (fq)))))), (q42_7, .inr (2, [.long 0, .long 0])), (q65_8, .inr (9, [.int 5, .int 0, .int 0, .int (-1), .int 0]))] → va_S A s.heap H locs → W p l e ({ frames := 4, cells := 338, slots := 2264, locals := 60 }) s m args below meth c H locs (338) (2264) Q (F0 m 133 ls [])) : ∀ (n i : Nat), n + i = 10 → 0 ≤ i → ∀ (fq : Nat → Option Nat) (H : Heap) (locs : List Loc) (ls : Array Slot), lv_has ls 2 [(1, .int (nI i)), (0, .ref h0)] → va_P (dC, dI) vcl [(h0, .inr (6, [.ref q7_1, .int 0, .ref q21_3, .int 0, .ref q35_5, .ref q42_7])), (q7_1, .inl (cA7_2, 36, .inr (.inr (.inr (.inr (gq7_1)))))), (q21_3, .inl (cA21_4, 72, .inr (.inr (.inr (.inr (gq21_3)))))), (q35_5, .inl (cA35_6, 10, .inr (.inr (.inr (.inr (fq)))))), (q42_7, .inr (2, [.long 0, .long 0])), (q65_8, .inr (9, [.int 5, .int 0, .int 0, .int (-1), .int 0]))] H → va_D A [(h0, .inr (6, [.ref q7_1, .int 0, .ref q21_3, .int 0, .ref q35_5, .ref q42_7])), (q7_1, .inl (cA7_2, 36, .inr (.inr (.inr (.inr (gq7_1)))))), (q21_3, .inl (cA21_4, 72, .inr (.inr (.inr (.inr (gq21_3)))))), (q35_5, .inl (cA35_6, 10, .inr (.inr (.inr (.inr (fq)))))), (q42_7, .inr (2, [.long 0, .long 0])), (q65_8, .inr (9, [.int 5, .int 0, .int 0, .int (-1), .int 0]))] → va_S A s.heap H locs → W p l e ({ frames := 4, cells := 338, slots := 2264, locals := 60 }) s m args below meth c H locs (328 + 1 * i) (2244 + 2 * i) Q (F0 m 108 ls []) := by
  intro n
  induction n with
  | zero =>
    intro i hn hst fq H locs ls  hl hP hD hS
    obtain rfl : i = 10 := by omega
    refine lv_iload_n hx hb d_NProgram_init_108 rfl (lv_at hl 0 rfl) ?_
    refine lv_bipush (v := 10) hx hb d_NProgram_init_109 (by decide) ?_
    refine lv_icmp_ge (tgt := 133) hx hb d_NProgram_init_111 (by decide) (fun _ => ?_) (fun hq => absurd (by decide) hq)
    exact kx fq H locs ls  hl hP hD hS
  | succ n ih =>
    intro i hn hst fq H locs ls  hl hP hD hS
    refine lv_iload_n hx hb d_NProgram_init_108 rfl (lv_at hl 0 rfl) ?_
    refine lv_bipush (v := 10) hx hb d_NProgram_init_109 (by decide) ?_
    refine lv_icmp_ge (tgt := 133) hx hb d_NProgram_init_111 (by decide) (fun hq => absurd hq (nI_ge (b := 10) (by omega) (by decide))) (fun _ => ?_)
    refine lv_aload_n hx hb d_NProgram_init_114 rfl (lv_at hl 1 rfl) ?_
    refine va_get (D := (dC, dI)) (ci := 6) (v := .ref q35_5) (C := "BigRunner$Program") (T := FT6) (N := 6) hx hb (hw6 hB _) (fun _ h9 => h9) hown hK hP 0 rfl rfl 4 (by decide) (wd_253 hB _) (fun _ h9 => h9) rfl d_NProgram_init_115 ?_
    refine lv_iload_n hx hb d_NProgram_init_118 rfl (lv_at hl 0 rfl) ?_
    refine va_new (ci := 2) (fs := [.long 0, .long 0]) (C := "BigRunner$Interval") (T := FT2) (N := 2) hx hb (hw2 hB _) (fun _ h9 => h9) TY2 ok2 hown (wd_119 hB _) (wd_121 hB _) (wd_75 hB _) hK hP hD hS hA rfl (fun j hj => by rcases (show j = 0 ∨ j = 1 by omega) with rfl | rfl <;> rfl) (show _ ≤ 338 by omega) (show _ ≤ 2264 by omega) d_NProgram_init_119 (fun q119_1 H hP hD hS => ?_)
    have hP : va_P (dC, dI) vcl [(h0, .inr (6, [.ref q7_1, .int 0, .ref q21_3, .int 0, .ref q35_5, .ref q42_7])), (q7_1, .inl (cA7_2, 36, .inr (.inr (.inr (.inr (gq7_1)))))), (q21_3, .inl (cA21_4, 72, .inr (.inr (.inr (.inr (gq21_3)))))), (q35_5, .inl (cA35_6, 10, .inr (.inr (.inr (.inr (fq)))))), (q42_7, .inr (2, [.long 0, .long 0])), (q65_8, .inr (9, [.int 5, .int 0, .int 0, .int (-1), .int 0])), (q119_1, .inr (2, [.long 0, .long 0]))] H := hP
    have hD : va_D A [(h0, .inr (6, [.ref q7_1, .int 0, .ref q21_3, .int 0, .ref q35_5, .ref q42_7])), (q7_1, .inl (cA7_2, 36, .inr (.inr (.inr (.inr (gq7_1)))))), (q21_3, .inl (cA21_4, 72, .inr (.inr (.inr (.inr (gq21_3)))))), (q35_5, .inl (cA35_6, 10, .inr (.inr (.inr (.inr (fq)))))), (q42_7, .inr (2, [.long 0, .long 0])), (q65_8, .inr (9, [.int 5, .int 0, .int 0, .int (-1), .int 0])), (q119_1, .inr (2, [.long 0, .long 0]))] := hD
    refine W.widen (k := 329 + 1 * i) (n := 2246 + 2 * i) (by omega) (by omega) ?_
    refine lv_dup hx hb d_NProgram_init_122 rfl ?_
    have hPc := hP.sub (ws' := [(q119_1, .inr (2, [.long 0, .long 0]))]) [6] rfl
    have hDc := hD.sub (ws' := [(q119_1, .inr (2, [.long 0, .long 0]))]) [6] (by decide) rfl
    have hKc := hK.sub (tys' := []) [] rfl
    have hFc := va_free (wc := [(q119_1, .inr (2, [.long 0, .long 0]))]) hD hS hA [6] rfl
    refine va_callv (va_runIN (As := []) (rest := [.ref q119_1, .int (nI i), .ref q35_5]) ⟨hx, hb, hml, hown, tb_nil⟩ (c_Interval_init l dC dI H.size q119_1) ⟨(va_cnB 0 (tb_one (wd_124 hB _)) tb_good1 rfl rfl rfl (va_Nw.of (A := #[]) rfl (wd_122 hB _)) (wd_75 hB _) (by decide +kernel) ⟨Nat.le_of_ble_eq_true rfl, Nat.le_of_ble_eq_true rfl⟩), rfl, (wd_123 hB _)⟩ ⟨fun a U g mk q => by obtain ⟨q0, q1, qB, qP, qK, qD⟩ := q; exact ⟨q0, q1, TB.same (s := U) (U := U.calling g mk a) rfl qB, qP, va_K.moved (u := U) (U := U.calling g mk a) (Vm.Alike.refl U.vm) qK, qD⟩, fun U hU hW => ⟨rfl, by rw [hU], hB.moved hW, by rw [hU]; exact hPc, va_K.moved hW.alike hKc, hDc.weaken (fun _ _ _ _ => trivial)⟩⟩ rfl rfl hl.1 rfl (lv_room (Nat.le_of_ble_eq_true rfl)) d_NProgram_init_123 ⟨(show _ ≤ 338 by omega), (show _ ≤ 2264 by omega)⟩) hS (fun q _ h => hFc q h) hFc (fun u_ t H1 locs ht hvm hw_ hB1 hz1 hk1 hS => ?_)
    obtain ⟨hP1, hK1, hD1⟩ := hB1
    rw [ht] at hP1
    have hK1 := va_K.moved hvm.symm hK1
    try dsimp only at hw_
    obtain ⟨hP, hD⟩ := va_join (wr := [(h0, .inr (6, [.ref q7_1, .int 0, .ref q21_3, .int 0, .ref q35_5, .ref q42_7])), (q7_1, .inl (cA7_2, 36, .inr (.inr (.inr (.inr (gq7_1)))))), (q21_3, .inl (cA21_4, 72, .inr (.inr (.inr (.inr (gq21_3)))))), (q35_5, .inl (cA35_6, 10, .inr (.inr (.inr (.inr (fq)))))), (q42_7, .inr (2, [.long 0, .long 0])), (q65_8, .inr (9, [.int 5, .int 0, .int 0, .int (-1), .int 0]))]) (w1 := [(q119_1, .inr (2, [.long 0, .long 0]))]) hP hD [6] [0, 1, 2, 3, 4, 5] rfl rfl (by decide) (by decide) hk1 hFc hP1 hD1
    have hK := (hK.sub (tys' := [(cA7_2, (.object "BigRunner$Statement")), (cA21_4, (.object "BigRunner$Node")), (cA35_6, (.object "BigRunner$Interval"))]) [0, 1, 2] rfl).app hK1
    clear hk1 hFc hPc hDc hKc hP1 hD1 hK1 hz1 ht hvm
    generalize H1 = H at hP hS ⊢
    have hP : va_P (dC, dI) vcl [(h0, .inr (6, [.ref q7_1, .int 0, .ref q21_3, .int 0, .ref q35_5, .ref q42_7])), (q7_1, .inl (cA7_2, 36, .inr (.inr (.inr (.inr (gq7_1)))))), (q21_3, .inl (cA21_4, 72, .inr (.inr (.inr (.inr (gq21_3)))))), (q35_5, .inl (cA35_6, 10, .inr (.inr (.inr (.inr (fq)))))), (q42_7, .inr (2, [.long 0, .long 0])), (q65_8, .inr (9, [.int 5, .int 0, .int 0, .int (-1), .int 0])), (q119_1, .inr (2, [.long 0, .long 0]))] H := hP
    have hD : va_D A [(h0, .inr (6, [.ref q7_1, .int 0, .ref q21_3, .int 0, .ref q35_5, .ref q42_7])), (q7_1, .inl (cA7_2, 36, .inr (.inr (.inr (.inr (gq7_1)))))), (q21_3, .inl (cA21_4, 72, .inr (.inr (.inr (.inr (gq21_3)))))), (q35_5, .inl (cA35_6, 10, .inr (.inr (.inr (.inr (fq)))))), (q42_7, .inr (2, [.long 0, .long 0])), (q65_8, .inr (9, [.int 5, .int 0, .int 0, .int (-1), .int 0])), (q119_1, .inr (2, [.long 0, .long 0]))] := hD
    have hK : va_K (dC, dI) vcl [(cA7_2, (.object "BigRunner$Statement")), (cA21_4, (.object "BigRunner$Node")), (cA35_6, (.object "BigRunner$Interval"))] s := hK
    refine W.widen (k := 329 + 1 * i) (n := 2246 + 2 * i) (by omega) (by omega) ?_
    refine va_astq (D := (dC, dI)) (r := ("BigRunner$Interval", FT2, 2)) hx hb hK hP hD hS 3 2 6 2 rfl rfl rfl rfl (vp_in_nI (by omega) (by decide)) d_NProgram_init_126 (fun H locs hP hD hS => ?_)
    have hP : va_P (dC, dI) vcl [(h0, .inr (6, [.ref q7_1, .int 0, .ref q21_3, .int 0, .ref q35_5, .ref q42_7])), (q7_1, .inl (cA7_2, 36, .inr (.inr (.inr (.inr (gq7_1)))))), (q21_3, .inl (cA21_4, 72, .inr (.inr (.inr (.inr (gq21_3)))))), (q35_5, .inl (cA35_6, 10, .inr (.inr (.inr (.inr (va_up (fq) ((nI i)).toNatClampNeg (some q119_1))))))), (q42_7, .inr (2, [.long 0, .long 0])), (q65_8, .inr (9, [.int 5, .int 0, .int 0, .int (-1), .int 0])), (q119_1, .inr (2, [.long 0, .long 0]))] H := hP
    have hD : va_D A [(h0, .inr (6, [.ref q7_1, .int 0, .ref q21_3, .int 0, .ref q35_5, .ref q42_7])), (q7_1, .inl (cA7_2, 36, .inr (.inr (.inr (.inr (gq7_1)))))), (q21_3, .inl (cA21_4, 72, .inr (.inr (.inr (.inr (gq21_3)))))), (q35_5, .inl (cA35_6, 10, .inr (.inr (.inr (.inr (va_up (fq) ((nI i)).toNatClampNeg (some q119_1))))))), (q42_7, .inr (2, [.long 0, .long 0])), (q65_8, .inr (9, [.int 5, .int 0, .int 0, .int (-1), .int 0])), (q119_1, .inr (2, [.long 0, .long 0]))] := hD
    refine lv_iinc (k := 0) (v := nI (i + 1)) (lv' := [(1, .int (nI (i + 1))), (0, .ref h0)]) hx hb d_NProgram_init_127 hl rfl (by rw [nI_succ]; rfl) (by decide) rfl (fun ls hl => ?_)
    refine lv_goto (tgt := 108) hx hb d_NProgram_init_130 (by decide) ?_
    have hD := hD.sub (ws' := [(h0, .inr (6, [.ref q7_1, .int 0, .ref q21_3, .int 0, .ref q35_5, .ref q42_7])), (q7_1, .inl (cA7_2, 36, .inr (.inr (.inr (.inr (gq7_1)))))), (q21_3, .inl (cA21_4, 72, .inr (.inr (.inr (.inr (gq21_3)))))), (q35_5, .inl (cA35_6, 10, .inr (.inr (.inr (.inr (va_up (fq) ((nI i)).toNatClampNeg (some q119_1))))))), (q42_7, .inr (2, [.long 0, .long 0])), (q65_8, .inr (9, [.int 5, .int 0, .int 0, .int (-1), .int 0]))]) [0, 1, 2, 3, 4, 5] (by decide) rfl
    have hP := hP.sub (ws' := [(h0, .inr (6, [.ref q7_1, .int 0, .ref q21_3, .int 0, .ref q35_5, .ref q42_7])), (q7_1, .inl (cA7_2, 36, .inr (.inr (.inr (.inr (gq7_1)))))), (q21_3, .inl (cA21_4, 72, .inr (.inr (.inr (.inr (gq21_3)))))), (q35_5, .inl (cA35_6, 10, .inr (.inr (.inr (.inr (va_up (fq) ((nI i)).toNatClampNeg (some q119_1))))))), (q42_7, .inr (2, [.long 0, .long 0])), (q65_8, .inr (9, [.int 5, .int 0, .int 0, .int (-1), .int 0]))]) [0, 1, 2, 3, 4, 5] rfl
    refine W.widen (k := 328 + 1 * (i + 1)) (n := 2244 + 2 * (i + 1)) (by omega) (by omega) ?_
    exact ih (i + 1) (by omega) (by omega) (va_up (fq) ((nI i)).toNatClampNeg (some q119_1)) H locs ls  hl hP hD hS
set_option maxHeartbeats 4000000 in
set_option maxRecDepth 100000 in
/-- Program(): its rows; of the rows' objects the first STATEMENT is kept -/
theorem c_Program_init (l : Launch) (dC : Nat → ClassId) (dI : Nat → Nat → Nat) (sz : Nat) (h0 : Nat) : Met l ⟨"BigRunner$Program", "<init>", "()V"⟩ [Cond.code ⟨"BigRunner$Program", "<init>", "()V"⟩ prog_7_method_1_code 2 none] ({ frames := 4, cells := 338, slots := 2264, locals := 60 }) (va_Pc [.ref h0] (fun U => U.heap.size = sz ∧ TB U ∧ va_P (dC, dI) vcl [(h0, .inr (6, [.null, .int 0, .null, .int 0, .null, .null]))] U.heap ∧ va_K (dC, dI) vcl [] U ∧ va_D (fun _ => True) [(h0, .inr (6, [.null, .int 0, .null, .int 0, .null, .null]))])) (va_Qv (fun (u : Nat × ClassId × (Nat → Option Nat) × Nat × Nat × Nat × Nat) => match u with | (qs, cs, fs, q0, qn, qv, qi) => fs 0 = some q0) (fun (u : Nat × ClassId × (Nat → Option Nat) × Nat × Nat × Nat × Nat) (t : State) => match u with | (qs, cs, fs, q0, qn, qv, qi) => va_P (dC, dI) vcl [(h0, .inr (6, [.ref qs, .int 0, .ref qn, .int 0, .ref qv, .ref qi])), (qs, .inl (cs, 36, .inr (.inr (.inr (.inr (fs)))))), (q0, .inr (9, [.int 5, .int 0, .int 0, .int (-1), .int 0]))] t.heap ∧ va_K (dC, dI) vcl [(cs, (.object "BigRunner$Statement"))] t ∧ va_D (va_A [(h0, .inr (6, [.null, .int 0, .null, .int 0, .null, .null]))] sz) [(h0, .inr (6, [.ref qs, .int 0, .ref qn, .int 0, .ref qv, .ref qi])), (qs, .inl (cs, 36, .inr (.inr (.inr (.inr (fs)))))), (q0, .inr (9, [.int 5, .int 0, .int 0, .int (-1), .int 0]))]) (va_A [(h0, .inr (6, [.null, .int 0, .null, .int 0, .null, .null]))] sz)) 338 2264 (va_A [(h0, .inr (6, [.null, .int 0, .null, .int 0, .null, .null]))] sz) := by
  refine Met.ofW (cc := prog_7_method_1_code) (maxL := 2) (ret := none) (by decide) rfl ?_
  intro p e s m args below meth c s₁ B hml hv
  obtain ⟨rfl, hsz, hB, hP, hK, hD0⟩ := hv
  have hx := B.exec
  have hb := B.bytes
  have hr := B.returns
  have hown : s.vm.findClass "BigRunner$Program" = some m.cls := findClass_of_methodNamed B.named
  have hlocks := B.notSynchronized
  have hin : meth.name = "<init>" := (name_of_methodNamed B.named B.method).1
  subst hsz
  have hD := hD0.self (sz := s.heap.size)
  generalize hAe : va_A [(h0, .inr (6, [.null, .int 0, .null, .int 0, .null, .null]))] s.heap.size = A at hD ⊢
  have hA : ∀ q : Nat, s.heap.size ≤ q → A q := fun q h => by rw [← hAe]; exact Or.inr h
  have hS : va_S A s.heap s.heap [] := va_S.rf
  have hP : va_P (dC, dI) vcl [(h0, .inr (6, [.null, .int 0, .null, .int 0, .null, .null]))] s.heap := hP
  have hl := lv_entry ([.ref h0]) (n := 2) (Nat.le_of_ble_eq_true rfl)
  rw [lg_entry_eq]
  generalize (lg_sl ([.ref h0]) ++ List.replicate (2 - (lg_sl ([.ref h0])).length) Slot.unset).toArray = ls at hl ⊢
  have hl : lv_has ls 2 [(0, .ref h0)] := hl
  refine lv_aload_n hx hb d_NProgram_init_0 rfl (lv_at hl 0 rfl) ?_
  refine W.objInit hx hb hown (wd_114 hB _) (wd_101 hB _) (wd_102 hB _) rfl (by rw [hml]; exact hl.1) rfl d_NProgram_init_1 (Nat.le_of_ble_eq_true rfl) (Nat.le_of_ble_eq_true rfl) ?_
  refine W.eq (g2 := F0 m 4 ls []) rfl ?_
  refine lv_aload_n hx hb d_NProgram_init_4 rfl (lv_at hl 0 rfl) ?_
  refine lv_bipush (v := 36) hx hb d_NProgram_init_5 (by decide) ?_
  refine va_newq (C := "BigRunner$Statement") (N' := 36) hx hb hown (wd_115 hB _) (va_AO.of (A := #[]) (wd_116 hB _)) hK hP hD hS hA (by decide +kernel) (by decide +kernel) (by decide +kernel) (Nat.le_of_ble_eq_true rfl) (Nat.le_of_ble_eq_true rfl) d_NProgram_init_7 (fun q7_1 cA7_2 H hK hP hD hS => ?_)
  have hP : va_P (dC, dI) vcl [(h0, .inr (6, [.null, .int 0, .null, .int 0, .null, .null])), (q7_1, .inl (cA7_2, 36, .inr (.inr (.inr (.inr (fun _ => none))))))] H := hP
  have hD : va_D A [(h0, .inr (6, [.null, .int 0, .null, .int 0, .null, .null])), (q7_1, .inl (cA7_2, 36, .inr (.inr (.inr (.inr (fun _ => none))))))] := hD
  have hK : va_K (dC, dI) vcl [(cA7_2, (.object "BigRunner$Statement"))] s := hK
  refine W.widen (k := 1) (n := 36) (by omega) (by omega) ?_
  refine va_putF (D := (dC, dI)) (ci := 6) (v := .ref q7_1) (ty := (.array (.object "BigRunner$Statement"))) (C := "BigRunner$Program") (T := FT6) (N := 6) hx hb (hw6 hB _) (fun _ h9 => h9) TY6 ok6 nm6 hown hK hP hD hS 0 rfl rfl 0 (by decide) (wd_242 hB _) (fun _ h9 => h9) rfl hin rfl (by decide +kernel) rfl rfl (Nat.le_of_ble_eq_true rfl) d_NProgram_init_10 (fun H locs hP hD hS => ?_)
  have hP : va_P (dC, dI) vcl [(h0, .inr (6, [.ref q7_1, .int 0, .null, .int 0, .null, .null])), (q7_1, .inl (cA7_2, 36, .inr (.inr (.inr (.inr (fun _ => none))))))] H := hP
  have hD : va_D A [(h0, .inr (6, [.ref q7_1, .int 0, .null, .int 0, .null, .null])), (q7_1, .inl (cA7_2, 36, .inr (.inr (.inr (.inr (fun _ => none))))))] := hD
  refine lv_aload_n hx hb d_NProgram_init_13 rfl (lv_at hl 0 rfl) ?_
  refine lv_iconst (v := 0) hx hb d_NProgram_init_14 (by decide) ?_
  refine va_put (D := (dC, dI)) (ci := 6) (v := .int 0) (ty := .int) (C := "BigRunner$Program") (T := FT6) (N := 6) hx hb (hw6 hB _) (fun _ h9 => h9) TY6 ok6 nm6 hown hK hP hD hS 0 rfl rfl 1 (by decide) (wd_245 hB _) (fun _ h9 => h9) rfl (by decide +kernel) rfl rfl (Nat.le_of_ble_eq_true rfl) d_NProgram_init_15 (fun H locs hP hD hS => ?_)
  have hP : va_P (dC, dI) vcl [(h0, .inr (6, [.ref q7_1, .int 0, .null, .int 0, .null, .null])), (q7_1, .inl (cA7_2, 36, .inr (.inr (.inr (.inr (fun _ => none))))))] H := hP
  have hD : va_D A [(h0, .inr (6, [.ref q7_1, .int 0, .null, .int 0, .null, .null])), (q7_1, .inl (cA7_2, 36, .inr (.inr (.inr (.inr (fun _ => none))))))] := hD
  refine lv_aload_n hx hb d_NProgram_init_18 rfl (lv_at hl 0 rfl) ?_
  refine lv_bipush (v := 72) hx hb d_NProgram_init_19 (by decide) ?_
  refine va_newq (C := "BigRunner$Node") (N' := 72) hx hb hown (wd_117 hB _) (va_AO.of (A := #[]) (wd_118 hB _)) hK hP hD hS hA (by decide +kernel) (by decide +kernel) (by decide +kernel) (Nat.le_of_ble_eq_true rfl) (Nat.le_of_ble_eq_true rfl) d_NProgram_init_21 (fun q21_3 cA21_4 H hK hP hD hS => ?_)
  have hP : va_P (dC, dI) vcl [(h0, .inr (6, [.ref q7_1, .int 0, .null, .int 0, .null, .null])), (q7_1, .inl (cA7_2, 36, .inr (.inr (.inr (.inr (fun _ => none)))))), (q21_3, .inl (cA21_4, 72, .inr (.inr (.inr (.inr (fun _ => none))))))] H := hP
  have hD : va_D A [(h0, .inr (6, [.ref q7_1, .int 0, .null, .int 0, .null, .null])), (q7_1, .inl (cA7_2, 36, .inr (.inr (.inr (.inr (fun _ => none)))))), (q21_3, .inl (cA21_4, 72, .inr (.inr (.inr (.inr (fun _ => none))))))] := hD
  have hK : va_K (dC, dI) vcl [(cA7_2, (.object "BigRunner$Statement")), (cA21_4, (.object "BigRunner$Node"))] s := hK
  refine W.widen (k := 2) (n := 108) (by omega) (by omega) ?_
  refine va_putF (D := (dC, dI)) (ci := 6) (v := .ref q21_3) (ty := (.array (.object "BigRunner$Node"))) (C := "BigRunner$Program") (T := FT6) (N := 6) hx hb (hw6 hB _) (fun _ h9 => h9) TY6 ok6 nm6 hown hK hP hD hS 0 rfl rfl 2 (by decide) (wd_248 hB _) (fun _ h9 => h9) rfl hin rfl (by decide +kernel) rfl rfl (Nat.le_of_ble_eq_true rfl) d_NProgram_init_24 (fun H locs hP hD hS => ?_)
  have hP : va_P (dC, dI) vcl [(h0, .inr (6, [.ref q7_1, .int 0, .ref q21_3, .int 0, .null, .null])), (q7_1, .inl (cA7_2, 36, .inr (.inr (.inr (.inr (fun _ => none)))))), (q21_3, .inl (cA21_4, 72, .inr (.inr (.inr (.inr (fun _ => none))))))] H := hP
  have hD : va_D A [(h0, .inr (6, [.ref q7_1, .int 0, .ref q21_3, .int 0, .null, .null])), (q7_1, .inl (cA7_2, 36, .inr (.inr (.inr (.inr (fun _ => none)))))), (q21_3, .inl (cA21_4, 72, .inr (.inr (.inr (.inr (fun _ => none))))))] := hD
  refine lv_aload_n hx hb d_NProgram_init_27 rfl (lv_at hl 0 rfl) ?_
  refine lv_iconst (v := 0) hx hb d_NProgram_init_28 (by decide) ?_
  refine va_put (D := (dC, dI)) (ci := 6) (v := .int 0) (ty := .int) (C := "BigRunner$Program") (T := FT6) (N := 6) hx hb (hw6 hB _) (fun _ h9 => h9) TY6 ok6 nm6 hown hK hP hD hS 0 rfl rfl 3 (by decide) (wd_251 hB _) (fun _ h9 => h9) rfl (by decide +kernel) rfl rfl (Nat.le_of_ble_eq_true rfl) d_NProgram_init_29 (fun H locs hP hD hS => ?_)
  have hP : va_P (dC, dI) vcl [(h0, .inr (6, [.ref q7_1, .int 0, .ref q21_3, .int 0, .null, .null])), (q7_1, .inl (cA7_2, 36, .inr (.inr (.inr (.inr (fun _ => none)))))), (q21_3, .inl (cA21_4, 72, .inr (.inr (.inr (.inr (fun _ => none))))))] H := hP
  have hD : va_D A [(h0, .inr (6, [.ref q7_1, .int 0, .ref q21_3, .int 0, .null, .null])), (q7_1, .inl (cA7_2, 36, .inr (.inr (.inr (.inr (fun _ => none)))))), (q21_3, .inl (cA21_4, 72, .inr (.inr (.inr (.inr (fun _ => none))))))] := hD
  refine lv_aload_n hx hb d_NProgram_init_32 rfl (lv_at hl 0 rfl) ?_
  refine lv_bipush (v := 10) hx hb d_NProgram_init_33 (by decide) ?_
  refine va_newq (C := "BigRunner$Interval") (N' := 10) hx hb hown (wd_119 hB _) (va_AO.of (A := #[]) (wd_120 hB _)) hK hP hD hS hA (by decide +kernel) (by decide +kernel) (by decide +kernel) (Nat.le_of_ble_eq_true rfl) (Nat.le_of_ble_eq_true rfl) d_NProgram_init_35 (fun q35_5 cA35_6 H hK hP hD hS => ?_)
  have hP : va_P (dC, dI) vcl [(h0, .inr (6, [.ref q7_1, .int 0, .ref q21_3, .int 0, .null, .null])), (q7_1, .inl (cA7_2, 36, .inr (.inr (.inr (.inr (fun _ => none)))))), (q21_3, .inl (cA21_4, 72, .inr (.inr (.inr (.inr (fun _ => none)))))), (q35_5, .inl (cA35_6, 10, .inr (.inr (.inr (.inr (fun _ => none))))))] H := hP
  have hD : va_D A [(h0, .inr (6, [.ref q7_1, .int 0, .ref q21_3, .int 0, .null, .null])), (q7_1, .inl (cA7_2, 36, .inr (.inr (.inr (.inr (fun _ => none)))))), (q21_3, .inl (cA21_4, 72, .inr (.inr (.inr (.inr (fun _ => none)))))), (q35_5, .inl (cA35_6, 10, .inr (.inr (.inr (.inr (fun _ => none))))))] := hD
  have hK : va_K (dC, dI) vcl [(cA7_2, (.object "BigRunner$Statement")), (cA21_4, (.object "BigRunner$Node")), (cA35_6, (.object "BigRunner$Interval"))] s := hK
  refine W.widen (k := 3) (n := 118) (by omega) (by omega) ?_
  refine va_putF (D := (dC, dI)) (ci := 6) (v := .ref q35_5) (ty := (.array (.object "BigRunner$Interval"))) (C := "BigRunner$Program") (T := FT6) (N := 6) hx hb (hw6 hB _) (fun _ h9 => h9) TY6 ok6 nm6 hown hK hP hD hS 0 rfl rfl 4 (by decide) (wd_253 hB _) (fun _ h9 => h9) rfl hin rfl (by decide +kernel) rfl rfl (Nat.le_of_ble_eq_true rfl) d_NProgram_init_38 (fun H locs hP hD hS => ?_)
  have hP : va_P (dC, dI) vcl [(h0, .inr (6, [.ref q7_1, .int 0, .ref q21_3, .int 0, .ref q35_5, .null])), (q7_1, .inl (cA7_2, 36, .inr (.inr (.inr (.inr (fun _ => none)))))), (q21_3, .inl (cA21_4, 72, .inr (.inr (.inr (.inr (fun _ => none)))))), (q35_5, .inl (cA35_6, 10, .inr (.inr (.inr (.inr (fun _ => none))))))] H := hP
  have hD : va_D A [(h0, .inr (6, [.ref q7_1, .int 0, .ref q21_3, .int 0, .ref q35_5, .null])), (q7_1, .inl (cA7_2, 36, .inr (.inr (.inr (.inr (fun _ => none)))))), (q21_3, .inl (cA21_4, 72, .inr (.inr (.inr (.inr (fun _ => none)))))), (q35_5, .inl (cA35_6, 10, .inr (.inr (.inr (.inr (fun _ => none))))))] := hD
  refine lv_aload_n hx hb d_NProgram_init_41 rfl (lv_at hl 0 rfl) ?_
  refine va_new (ci := 2) (fs := [.long 0, .long 0]) (C := "BigRunner$Interval") (T := FT2) (N := 2) hx hb (hw2 hB _) (fun _ h9 => h9) TY2 ok2 hown (wd_119 hB _) (wd_121 hB _) (wd_75 hB _) hK hP hD hS hA rfl (fun j hj => by rcases (show j = 0 ∨ j = 1 by omega) with rfl | rfl <;> rfl) (Nat.le_of_ble_eq_true rfl) (Nat.le_of_ble_eq_true rfl) d_NProgram_init_42 (fun q42_7 H hP hD hS => ?_)
  have hP : va_P (dC, dI) vcl [(h0, .inr (6, [.ref q7_1, .int 0, .ref q21_3, .int 0, .ref q35_5, .null])), (q7_1, .inl (cA7_2, 36, .inr (.inr (.inr (.inr (fun _ => none)))))), (q21_3, .inl (cA21_4, 72, .inr (.inr (.inr (.inr (fun _ => none)))))), (q35_5, .inl (cA35_6, 10, .inr (.inr (.inr (.inr (fun _ => none)))))), (q42_7, .inr (2, [.long 0, .long 0]))] H := hP
  have hD : va_D A [(h0, .inr (6, [.ref q7_1, .int 0, .ref q21_3, .int 0, .ref q35_5, .null])), (q7_1, .inl (cA7_2, 36, .inr (.inr (.inr (.inr (fun _ => none)))))), (q21_3, .inl (cA21_4, 72, .inr (.inr (.inr (.inr (fun _ => none)))))), (q35_5, .inl (cA35_6, 10, .inr (.inr (.inr (.inr (fun _ => none)))))), (q42_7, .inr (2, [.long 0, .long 0]))] := hD
  refine W.widen (k := 4) (n := 120) (by omega) (by omega) ?_
  refine lv_dup hx hb d_NProgram_init_45 rfl ?_
  have hPc := hP.sub (ws' := [(q42_7, .inr (2, [.long 0, .long 0]))]) [4] rfl
  have hDc := hD.sub (ws' := [(q42_7, .inr (2, [.long 0, .long 0]))]) [4] (by decide) rfl
  have hKc := hK.sub (tys' := []) [] rfl
  have hFc := va_free (wc := [(q42_7, .inr (2, [.long 0, .long 0]))]) hD hS hA [4] rfl
  refine va_callv (va_runIN (As := []) (rest := [.ref q42_7, .ref h0]) ⟨hx, hb, hml, hown, tb_nil⟩ (c_Interval_init l dC dI H.size q42_7) ⟨(va_cnB 0 (tb_one (wd_124 hB _)) tb_good1 rfl rfl rfl (va_Nw.of (A := #[]) rfl (wd_122 hB _)) (wd_75 hB _) (by decide +kernel) ⟨Nat.le_of_ble_eq_true rfl, Nat.le_of_ble_eq_true rfl⟩), rfl, (wd_123 hB _)⟩ ⟨fun a U g mk q => by obtain ⟨q0, q1, qB, qP, qK, qD⟩ := q; exact ⟨q0, q1, TB.same (s := U) (U := U.calling g mk a) rfl qB, qP, va_K.moved (u := U) (U := U.calling g mk a) (Vm.Alike.refl U.vm) qK, qD⟩, fun U hU hW => ⟨rfl, by rw [hU], hB.moved hW, by rw [hU]; exact hPc, va_K.moved hW.alike hKc, hDc.weaken (fun _ _ _ _ => trivial)⟩⟩ rfl rfl hl.1 rfl (lv_room (Nat.le_of_ble_eq_true rfl)) d_NProgram_init_46 ⟨(Nat.le_of_ble_eq_true rfl), (Nat.le_of_ble_eq_true rfl)⟩) hS (fun q _ h => hFc q h) hFc (fun u_ t H1 locs ht hvm hw_ hB1 hz1 hk1 hS => ?_)
  obtain ⟨hP1, hK1, hD1⟩ := hB1
  rw [ht] at hP1
  have hK1 := va_K.moved hvm.symm hK1
  try dsimp only at hw_
  obtain ⟨hP, hD⟩ := va_join (wr := [(h0, .inr (6, [.ref q7_1, .int 0, .ref q21_3, .int 0, .ref q35_5, .null])), (q7_1, .inl (cA7_2, 36, .inr (.inr (.inr (.inr (fun _ => none)))))), (q21_3, .inl (cA21_4, 72, .inr (.inr (.inr (.inr (fun _ => none)))))), (q35_5, .inl (cA35_6, 10, .inr (.inr (.inr (.inr (fun _ => none))))))]) (w1 := [(q42_7, .inr (2, [.long 0, .long 0]))]) hP hD [4] [0, 1, 2, 3] rfl rfl (by decide) (by decide) hk1 hFc hP1 hD1
  have hK := (hK.sub (tys' := [(cA7_2, (.object "BigRunner$Statement")), (cA21_4, (.object "BigRunner$Node")), (cA35_6, (.object "BigRunner$Interval"))]) [0, 1, 2] rfl).app hK1
  clear hk1 hFc hPc hDc hKc hP1 hD1 hK1 hz1 ht hvm
  generalize H1 = H at hP hS ⊢
  have hP : va_P (dC, dI) vcl [(h0, .inr (6, [.ref q7_1, .int 0, .ref q21_3, .int 0, .ref q35_5, .null])), (q7_1, .inl (cA7_2, 36, .inr (.inr (.inr (.inr (fun _ => none)))))), (q21_3, .inl (cA21_4, 72, .inr (.inr (.inr (.inr (fun _ => none)))))), (q35_5, .inl (cA35_6, 10, .inr (.inr (.inr (.inr (fun _ => none)))))), (q42_7, .inr (2, [.long 0, .long 0]))] H := hP
  have hD : va_D A [(h0, .inr (6, [.ref q7_1, .int 0, .ref q21_3, .int 0, .ref q35_5, .null])), (q7_1, .inl (cA7_2, 36, .inr (.inr (.inr (.inr (fun _ => none)))))), (q21_3, .inl (cA21_4, 72, .inr (.inr (.inr (.inr (fun _ => none)))))), (q35_5, .inl (cA35_6, 10, .inr (.inr (.inr (.inr (fun _ => none)))))), (q42_7, .inr (2, [.long 0, .long 0]))] := hD
  have hK : va_K (dC, dI) vcl [(cA7_2, (.object "BigRunner$Statement")), (cA21_4, (.object "BigRunner$Node")), (cA35_6, (.object "BigRunner$Interval"))] s := hK
  refine W.widen (k := 4) (n := 120) (by omega) (by omega) ?_
  refine va_putF (D := (dC, dI)) (ci := 6) (v := .ref q42_7) (ty := (.object "BigRunner$Interval")) (C := "BigRunner$Program") (T := FT6) (N := 6) hx hb (hw6 hB _) (fun _ h9 => h9) TY6 ok6 nm6 hown hK hP hD hS 0 rfl rfl 5 (by decide) (wd_256 hB _) (fun _ h9 => h9) rfl hin rfl (by decide +kernel) rfl rfl (Nat.le_of_ble_eq_true rfl) d_NProgram_init_49 (fun H locs hP hD hS => ?_)
  have hP : va_P (dC, dI) vcl [(h0, .inr (6, [.ref q7_1, .int 0, .ref q21_3, .int 0, .ref q35_5, .ref q42_7])), (q7_1, .inl (cA7_2, 36, .inr (.inr (.inr (.inr (fun _ => none)))))), (q21_3, .inl (cA21_4, 72, .inr (.inr (.inr (.inr (fun _ => none)))))), (q35_5, .inl (cA35_6, 10, .inr (.inr (.inr (.inr (fun _ => none)))))), (q42_7, .inr (2, [.long 0, .long 0]))] H := hP
  have hD : va_D A [(h0, .inr (6, [.ref q7_1, .int 0, .ref q21_3, .int 0, .ref q35_5, .ref q42_7])), (q7_1, .inl (cA7_2, 36, .inr (.inr (.inr (.inr (fun _ => none)))))), (q21_3, .inl (cA21_4, 72, .inr (.inr (.inr (.inr (fun _ => none)))))), (q35_5, .inl (cA35_6, 10, .inr (.inr (.inr (.inr (fun _ => none)))))), (q42_7, .inr (2, [.long 0, .long 0]))] := hD
  refine lv_iconst (v := 0) hx hb d_NProgram_init_52 (by decide) ?_
  refine lv_istore_n (lv' := [(1, .int 0), (0, .ref h0)]) hx hb d_NProgram_init_53 rfl hl (by decide) rfl (fun ls hl => ?_)
  refine lv_iload_n hx hb d_NProgram_init_54 rfl (lv_at hl 0 rfl) ?_
  refine lv_bipush (v := 36) hx hb d_NProgram_init_55 (by decide) ?_
  refine lv_icmp_ge (tgt := 79) hx hb d_NProgram_init_57 (by decide) (fun hq => absurd hq (by decide)) (fun _ => ?_)
  refine lv_aload_n hx hb d_NProgram_init_60 rfl (lv_at hl 1 rfl) ?_
  refine va_get (D := (dC, dI)) (ci := 6) (v := .ref q7_1) (C := "BigRunner$Program") (T := FT6) (N := 6) hx hb (hw6 hB _) (fun _ h9 => h9) hown hK hP 0 rfl rfl 0 (by decide) (wd_242 hB _) (fun _ h9 => h9) rfl d_NProgram_init_61 ?_
  refine lv_iload_n hx hb d_NProgram_init_64 rfl (lv_at hl 0 rfl) ?_
  refine va_new (ci := 9) (fs := [.int 0, .int 0, .int 0, .int 0, .int 0]) (C := "BigRunner$Statement") (T := FT9) (N := 5) hx hb (hw9 hB _) (fun _ h9 => h9) TY9 ok9 hown (wd_115 hB _) (wd_138 hB _) (wd_76 hB _) hK hP hD hS hA rfl (fun j hj => by rcases (show j = 0 ∨ j = 1 ∨ j = 2 ∨ j = 3 ∨ j = 4 by omega) with rfl | rfl | rfl | rfl | rfl <;> rfl) (Nat.le_of_ble_eq_true rfl) (Nat.le_of_ble_eq_true rfl) d_NProgram_init_65 (fun q65_8 H hP hD hS => ?_)
  have hP : va_P (dC, dI) vcl [(h0, .inr (6, [.ref q7_1, .int 0, .ref q21_3, .int 0, .ref q35_5, .ref q42_7])), (q7_1, .inl (cA7_2, 36, .inr (.inr (.inr (.inr (fun _ => none)))))), (q21_3, .inl (cA21_4, 72, .inr (.inr (.inr (.inr (fun _ => none)))))), (q35_5, .inl (cA35_6, 10, .inr (.inr (.inr (.inr (fun _ => none)))))), (q42_7, .inr (2, [.long 0, .long 0])), (q65_8, .inr (9, [.int 0, .int 0, .int 0, .int 0, .int 0]))] H := hP
  have hD : va_D A [(h0, .inr (6, [.ref q7_1, .int 0, .ref q21_3, .int 0, .ref q35_5, .ref q42_7])), (q7_1, .inl (cA7_2, 36, .inr (.inr (.inr (.inr (fun _ => none)))))), (q21_3, .inl (cA21_4, 72, .inr (.inr (.inr (.inr (fun _ => none)))))), (q35_5, .inl (cA35_6, 10, .inr (.inr (.inr (.inr (fun _ => none)))))), (q42_7, .inr (2, [.long 0, .long 0])), (q65_8, .inr (9, [.int 0, .int 0, .int 0, .int 0, .int 0]))] := hD
  refine W.widen (k := 5) (n := 125) (by omega) (by omega) ?_
  refine lv_dup hx hb d_NProgram_init_68 rfl ?_
  have hPc := hP.sub (ws' := [(q65_8, .inr (9, [.int 0, .int 0, .int 0, .int 0, .int 0]))]) [5] rfl
  have hDc := hD.sub (ws' := [(q65_8, .inr (9, [.int 0, .int 0, .int 0, .int 0, .int 0]))]) [5] (by decide) rfl
  have hKc := hK.sub (tys' := []) [] rfl
  have hFc := va_free (wc := [(q65_8, .inr (9, [.int 0, .int 0, .int 0, .int 0, .int 0]))]) hD hS hA [5] rfl
  refine va_callv (va_runIN (As := []) (rest := [.ref q65_8, .int 0, .ref q7_1]) ⟨hx, hb, hml, hown, tb_nil⟩ (c_Statement_init l dC dI H.size q65_8) ⟨(va_cnB 0 (tb_one (wd_141 hB _)) tb_good1 rfl rfl rfl (va_Nw.of (A := #[]) rfl (wd_139 hB _)) (wd_76 hB _) (by decide +kernel) ⟨Nat.le_of_ble_eq_true rfl, Nat.le_of_ble_eq_true rfl⟩), rfl, (wd_140 hB _)⟩ ⟨fun a U g mk q => by obtain ⟨q0, q1, qB, qP, qK, qD⟩ := q; exact ⟨q0, q1, TB.same (s := U) (U := U.calling g mk a) rfl qB, qP, va_K.moved (u := U) (U := U.calling g mk a) (Vm.Alike.refl U.vm) qK, qD⟩, fun U hU hW => ⟨rfl, by rw [hU], hB.moved hW, by rw [hU]; exact hPc, va_K.moved hW.alike hKc, hDc.weaken (fun _ _ _ _ => trivial)⟩⟩ rfl rfl hl.1 rfl (lv_room (Nat.le_of_ble_eq_true rfl)) d_NProgram_init_69 ⟨(Nat.le_of_ble_eq_true rfl), (Nat.le_of_ble_eq_true rfl)⟩) hS (fun q _ h => hFc q h) hFc (fun u_ t H1 locs ht hvm hw_ hB1 hz1 hk1 hS => ?_)
  obtain ⟨hP1, hK1, hD1⟩ := hB1
  rw [ht] at hP1
  have hK1 := va_K.moved hvm.symm hK1
  try dsimp only at hw_
  obtain ⟨hP, hD⟩ := va_join (wr := [(h0, .inr (6, [.ref q7_1, .int 0, .ref q21_3, .int 0, .ref q35_5, .ref q42_7])), (q7_1, .inl (cA7_2, 36, .inr (.inr (.inr (.inr (fun _ => none)))))), (q21_3, .inl (cA21_4, 72, .inr (.inr (.inr (.inr (fun _ => none)))))), (q35_5, .inl (cA35_6, 10, .inr (.inr (.inr (.inr (fun _ => none)))))), (q42_7, .inr (2, [.long 0, .long 0]))]) (w1 := [(q65_8, .inr (9, [.int 5, .int 0, .int 0, .int (-1), .int 0]))]) hP hD [5] [0, 1, 2, 3, 4] rfl rfl (by decide) (by decide) hk1 hFc hP1 hD1
  have hK := (hK.sub (tys' := [(cA7_2, (.object "BigRunner$Statement")), (cA21_4, (.object "BigRunner$Node")), (cA35_6, (.object "BigRunner$Interval"))]) [0, 1, 2] rfl).app hK1
  clear hk1 hFc hPc hDc hKc hP1 hD1 hK1 hz1 ht hvm
  generalize H1 = H at hP hS ⊢
  have hP : va_P (dC, dI) vcl [(h0, .inr (6, [.ref q7_1, .int 0, .ref q21_3, .int 0, .ref q35_5, .ref q42_7])), (q7_1, .inl (cA7_2, 36, .inr (.inr (.inr (.inr (fun _ => none)))))), (q21_3, .inl (cA21_4, 72, .inr (.inr (.inr (.inr (fun _ => none)))))), (q35_5, .inl (cA35_6, 10, .inr (.inr (.inr (.inr (fun _ => none)))))), (q42_7, .inr (2, [.long 0, .long 0])), (q65_8, .inr (9, [.int 5, .int 0, .int 0, .int (-1), .int 0]))] H := hP
  have hD : va_D A [(h0, .inr (6, [.ref q7_1, .int 0, .ref q21_3, .int 0, .ref q35_5, .ref q42_7])), (q7_1, .inl (cA7_2, 36, .inr (.inr (.inr (.inr (fun _ => none)))))), (q21_3, .inl (cA21_4, 72, .inr (.inr (.inr (.inr (fun _ => none)))))), (q35_5, .inl (cA35_6, 10, .inr (.inr (.inr (.inr (fun _ => none)))))), (q42_7, .inr (2, [.long 0, .long 0])), (q65_8, .inr (9, [.int 5, .int 0, .int 0, .int (-1), .int 0]))] := hD
  have hK : va_K (dC, dI) vcl [(cA7_2, (.object "BigRunner$Statement")), (cA21_4, (.object "BigRunner$Node")), (cA35_6, (.object "BigRunner$Interval"))] s := hK
  refine W.widen (k := 5) (n := 125) (by omega) (by omega) ?_
  refine va_astq (D := (dC, dI)) (r := ("BigRunner$Statement", FT9, 5)) hx hb hK hP hD hS 1 0 5 9 rfl rfl rfl rfl (vp_in_nI (n := 0) (by decide) (by decide)) d_NProgram_init_72 (fun H locs hP hD hS => ?_)
  have hP : va_P (dC, dI) vcl [(h0, .inr (6, [.ref q7_1, .int 0, .ref q21_3, .int 0, .ref q35_5, .ref q42_7])), (q7_1, .inl (cA7_2, 36, .inr (.inr (.inr (.inr (va_up (fun _ => none) (0 : Int32).toNatClampNeg (some q65_8))))))), (q21_3, .inl (cA21_4, 72, .inr (.inr (.inr (.inr (fun _ => none)))))), (q35_5, .inl (cA35_6, 10, .inr (.inr (.inr (.inr (fun _ => none)))))), (q42_7, .inr (2, [.long 0, .long 0])), (q65_8, .inr (9, [.int 5, .int 0, .int 0, .int (-1), .int 0]))] H := hP
  have hD : va_D A [(h0, .inr (6, [.ref q7_1, .int 0, .ref q21_3, .int 0, .ref q35_5, .ref q42_7])), (q7_1, .inl (cA7_2, 36, .inr (.inr (.inr (.inr (va_up (fun _ => none) (0 : Int32).toNatClampNeg (some q65_8))))))), (q21_3, .inl (cA21_4, 72, .inr (.inr (.inr (.inr (fun _ => none)))))), (q35_5, .inl (cA35_6, 10, .inr (.inr (.inr (.inr (fun _ => none)))))), (q42_7, .inr (2, [.long 0, .long 0])), (q65_8, .inr (9, [.int 5, .int 0, .int 0, .int (-1), .int 0]))] := hD
  refine lv_iinc (k := 0) (v := 1) (lv' := [(1, .int (1)), (0, .ref h0)]) hx hb d_NProgram_init_73 hl rfl (by decide) (by decide) rfl (fun ls hl => ?_)
  refine lv_goto (tgt := 54) hx hb d_NProgram_init_76 (by decide) ?_
  refine W.widen (k := 4 + 1 * 1) (n := 120 + 5 * 1) (by omega) (by omega) ?_
  refine lp_Program_1 dC dI h0 q7_1 cA7_2 q21_3 cA21_4 q35_5 cA35_6 q42_7 q65_8 hx hb hml hown hB hA hK ?_ 35 1 (by omega) (by omega) (va_up (fun _ => none) (0 : Int32).toNatClampNeg (some q65_8)) H locs ls rfl hl hP hD hS
  intro f79 H locs ls hi79 hl hP hD hS
  refine lv_iconst (v := 0) hx hb d_NProgram_init_79 (by decide) ?_
  refine lv_istore_n (lv' := [(1, .int 0), (0, .ref h0)]) hx hb d_NProgram_init_80 rfl hl (by decide) rfl (fun ls hl => ?_)
  refine W.widen (k := 40 + 4 * 0) (n := 300 + 27 * 0) (by omega) (by omega) ?_
  refine lp_Program_2 dC dI h0 q7_1 cA7_2 f79 q21_3 cA21_4 q35_5 cA35_6 q42_7 q65_8 hx hb hml hown hB hA hK ?_ 72 0 (by omega) (by omega) (fun _ => none) H locs ls hl hP hD hS
  intro f106 H locs ls hl hP hD hS
  refine lv_iconst (v := 0) hx hb d_NProgram_init_106 (by decide) ?_
  refine lv_istore_n (lv' := [(1, .int 0), (0, .ref h0)]) hx hb d_NProgram_init_107 rfl hl (by decide) rfl (fun ls hl => ?_)
  refine W.widen (k := 328 + 1 * 0) (n := 2244 + 2 * 0) (by omega) (by omega) ?_
  refine lp_Program_3 dC dI h0 q7_1 cA7_2 f79 q21_3 cA21_4 f106 q35_5 cA35_6 q42_7 q65_8 hx hb hml hown hB hA hK ?_ 10 0 (by omega) (by omega) (fun _ => none) H locs ls hl hP hD hS
  intro f133 H locs ls hl hP hD hS
  refine lv_aload_n hx hb d_NProgram_init_133 rfl (lv_at hl 1 rfl) ?_
  refine va_get (D := (dC, dI)) (ci := 6) (v := .ref q42_7) (C := "BigRunner$Program") (T := FT6) (N := 6) hx hb (hw6 hB _) (fun _ h9 => h9) hown hK hP 0 rfl rfl 5 (by decide) (wd_256 hB _) (fun _ h9 => h9) rfl d_NProgram_init_134 ?_
  refine lv_ldc2 hx hb hown (wd_240 hB _) d_NProgram_init_137 ?_
  refine va_put (D := (dC, dI)) (ci := 2) (v := .long (-1000000000)) (ty := .long) (C := "BigRunner$Interval") (T := FT2) (N := 2) hx hb (hw2 hB _) (fun _ h9 => h9) TY2 ok2 nm2 hown hK hP hD hS 4 rfl rfl 0 (by decide) (wd_127 hB _) (fun _ h9 => h9) rfl (by decide +kernel) rfl rfl (Nat.le_of_ble_eq_true rfl) d_NProgram_init_140 (fun H locs hP hD hS => ?_)
  have hP : va_P (dC, dI) vcl [(h0, .inr (6, [.ref q7_1, .int 0, .ref q21_3, .int 0, .ref q35_5, .ref q42_7])), (q7_1, .inl (cA7_2, 36, .inr (.inr (.inr (.inr (f79)))))), (q21_3, .inl (cA21_4, 72, .inr (.inr (.inr (.inr (f106)))))), (q35_5, .inl (cA35_6, 10, .inr (.inr (.inr (.inr (f133)))))), (q42_7, .inr (2, [.long (-1000000000), .long 0])), (q65_8, .inr (9, [.int 5, .int 0, .int 0, .int (-1), .int 0]))] H := hP
  have hD : va_D A [(h0, .inr (6, [.ref q7_1, .int 0, .ref q21_3, .int 0, .ref q35_5, .ref q42_7])), (q7_1, .inl (cA7_2, 36, .inr (.inr (.inr (.inr (f79)))))), (q21_3, .inl (cA21_4, 72, .inr (.inr (.inr (.inr (f106)))))), (q35_5, .inl (cA35_6, 10, .inr (.inr (.inr (.inr (f133)))))), (q42_7, .inr (2, [.long (-1000000000), .long 0])), (q65_8, .inr (9, [.int 5, .int 0, .int 0, .int (-1), .int 0]))] := hD
  refine lv_aload_n hx hb d_NProgram_init_143 rfl (lv_at hl 1 rfl) ?_
  refine va_get (D := (dC, dI)) (ci := 6) (v := .ref q42_7) (C := "BigRunner$Program") (T := FT6) (N := 6) hx hb (hw6 hB _) (fun _ h9 => h9) hown hK hP 0 rfl rfl 5 (by decide) (wd_256 hB _) (fun _ h9 => h9) rfl d_NProgram_init_144 ?_
  refine lv_ldc2 hx hb hown (wd_241 hB _) d_NProgram_init_147 ?_
  refine va_put (D := (dC, dI)) (ci := 2) (v := .long 1000000000) (ty := .long) (C := "BigRunner$Interval") (T := FT2) (N := 2) hx hb (hw2 hB _) (fun _ h9 => h9) TY2 ok2 nm2 hown hK hP hD hS 4 rfl rfl 1 (by decide) (wd_130 hB _) (fun _ h9 => h9) rfl (by decide +kernel) rfl rfl (Nat.le_of_ble_eq_true rfl) d_NProgram_init_150 (fun H locs hP hD hS => ?_)
  have hP : va_P (dC, dI) vcl [(h0, .inr (6, [.ref q7_1, .int 0, .ref q21_3, .int 0, .ref q35_5, .ref q42_7])), (q7_1, .inl (cA7_2, 36, .inr (.inr (.inr (.inr (f79)))))), (q21_3, .inl (cA21_4, 72, .inr (.inr (.inr (.inr (f106)))))), (q35_5, .inl (cA35_6, 10, .inr (.inr (.inr (.inr (f133)))))), (q42_7, .inr (2, [.long (-1000000000), .long 1000000000])), (q65_8, .inr (9, [.int 5, .int 0, .int 0, .int (-1), .int 0]))] H := hP
  have hD : va_D A [(h0, .inr (6, [.ref q7_1, .int 0, .ref q21_3, .int 0, .ref q35_5, .ref q42_7])), (q7_1, .inl (cA7_2, 36, .inr (.inr (.inr (.inr (f79)))))), (q21_3, .inl (cA21_4, 72, .inr (.inr (.inr (.inr (f106)))))), (q35_5, .inl (cA35_6, 10, .inr (.inr (.inr (.inr (f133)))))), (q42_7, .inr (2, [.long (-1000000000), .long 1000000000])), (q65_8, .inr (9, [.int 5, .int 0, .int 0, .int (-1), .int 0]))] := hD
  have hP9 := hP.sub (ws' := [(h0, .inr (6, [.ref q7_1, .int 0, .ref q21_3, .int 0, .ref q35_5, .ref q42_7])), (q7_1, .inl (cA7_2, 36, .inr (.inr (.inr (.inr (f79)))))), (q65_8, .inr (9, [.int 5, .int 0, .int 0, .int (-1), .int 0]))]) [0, 1, 5] rfl
  have hD9 := hD.sub (ws' := [(h0, .inr (6, [.ref q7_1, .int 0, .ref q21_3, .int 0, .ref q35_5, .ref q42_7])), (q7_1, .inl (cA7_2, 36, .inr (.inr (.inr (.inr (f79)))))), (q65_8, .inr (9, [.int 5, .int 0, .int 0, .int (-1), .int 0]))]) [0, 1, 5] (by decide) rfl
  have hK9 := hK.sub (tys' := [(cA7_2, (.object "BigRunner$Statement"))]) [0] rfl
  refine W.widen (k := 338) (n := 2264) (by omega) (by omega) ?_
  exact W.vret hx hb hr (fun t ht hW => ⟨⟨(q7_1, cA7_2, f79, q65_8, q21_3, q35_5, q42_7), rfl, hi79, by rw [ht]; exact hP9, va_K.moved hW.alike hK9, hD9⟩, hS.F ht⟩) hS.2.2 d_NProgram_init_153
end
section
set_option maxHeartbeats 4000000 in
set_option maxRecDepth 100000 in
/-- Reader() -/
theorem c_Reader_init (l : Launch) (dC : Nat → ClassId) (dI : Nat → Nat → Nat) (sz : Nat) (h0 : Nat) : Met l ⟨"BigRunner$Reader", "<init>", "()V"⟩ [Cond.code ⟨"BigRunner$Reader", "<init>", "()V"⟩ prog_8_method_1_code 1 none] ({ frames := 5, cells := 340, slots := 2270, locals := 81 }) (va_Pc [.ref h0] (fun U => U.heap.size = sz ∧ TB U ∧ va_P (dC, dI) vcl [(h0, .inr (7, [.null, .int 0, .int 0, .null]))] U.heap ∧ va_K (dC, dI) vcl [] U ∧ va_D (fun _ => True) [(h0, .inr (7, [.null, .int 0, .int 0, .null]))])) (va_Qv (fun (u : Nat × Nat × Nat × ClassId × (Nat → Option Nat) × Nat × Nat × Nat × Nat) => match u with | (qt, pr, qs, cs, fs, q0, qn, qv, qi) => fs 0 = some q0) (fun (u : Nat × Nat × Nat × ClassId × (Nat → Option Nat) × Nat × Nat × Nat × Nat) (t : State) => match u with | (qt, pr, qs, cs, fs, q0, qn, qv, qi) => va_P (dC, dI) vcl [(h0, .inr (7, [.ref qt, .int 0, .int 0, .ref pr])), (pr, .inr (6, [.ref qs, .int 0, .ref qn, .int 0, .ref qv, .ref qi])), (qs, .inl (cs, 36, .inr (.inr (.inr (.inr (fs)))))), (q0, .inr (9, [.int 5, .int 0, .int 0, .int (-1), .int 0]))] t.heap ∧ va_K (dC, dI) vcl [(cs, (.object "BigRunner$Statement"))] t ∧ va_D (va_A [(h0, .inr (7, [.null, .int 0, .int 0, .null]))] sz) [(h0, .inr (7, [.ref qt, .int 0, .int 0, .ref pr])), (pr, .inr (6, [.ref qs, .int 0, .ref qn, .int 0, .ref qv, .ref qi])), (qs, .inl (cs, 36, .inr (.inr (.inr (.inr (fs)))))), (q0, .inr (9, [.int 5, .int 0, .int 0, .int (-1), .int 0]))]) (va_A [(h0, .inr (7, [.null, .int 0, .int 0, .null]))] sz)) 340 2270 (va_A [(h0, .inr (7, [.null, .int 0, .int 0, .null]))] sz) := by
  refine Met.ofW (cc := prog_8_method_1_code) (maxL := 1) (ret := none) (by decide) rfl ?_
  intro p e s m args below meth c s₁ B hml hv
  obtain ⟨rfl, hsz, hB, hP, hK, hD0⟩ := hv
  have hx := B.exec
  have hb := B.bytes
  have hr := B.returns
  have hown : s.vm.findClass "BigRunner$Reader" = some m.cls := findClass_of_methodNamed B.named
  have hlocks := B.notSynchronized
  have hin : meth.name = "<init>" := (name_of_methodNamed B.named B.method).1
  subst hsz
  have hD := hD0.self (sz := s.heap.size)
  generalize hAe : va_A [(h0, .inr (7, [.null, .int 0, .int 0, .null]))] s.heap.size = A at hD ⊢
  have hA : ∀ q : Nat, s.heap.size ≤ q → A q := fun q h => by rw [← hAe]; exact Or.inr h
  have hS : va_S A s.heap s.heap [] := va_S.rf
  have hP : va_P (dC, dI) vcl [(h0, .inr (7, [.null, .int 0, .int 0, .null]))] s.heap := hP
  have hl := lv_entry ([.ref h0]) (n := 1) (Nat.le_of_ble_eq_true rfl)
  rw [lg_entry_eq]
  generalize (lg_sl ([.ref h0]) ++ List.replicate (1 - (lg_sl ([.ref h0])).length) Slot.unset).toArray = ls at hl ⊢
  have hl : lv_has ls 1 [(0, .ref h0)] := hl
  refine lv_aload_n hx hb d_NReader_init_0 rfl (lv_at hl 0 rfl) ?_
  refine W.objInit hx hb hown (wd_108 hB _) (wd_101 hB _) (wd_102 hB _) rfl (by rw [hml]; exact hl.1) rfl d_NReader_init_1 (Nat.le_of_ble_eq_true rfl) (Nat.le_of_ble_eq_true rfl) ?_
  refine W.eq (g2 := F0 m 4 ls []) rfl ?_
  refine lv_aload_n hx hb d_NReader_init_4 rfl (lv_at hl 0 rfl) ?_
  refine lv_iconst (v := 0) hx hb d_NReader_init_5 (by decide) ?_
  refine va_newa (atype := .char) (a0 := (0, .inl (fun _ => 0))) (N' := 0) (ty := .char) hx hb (wd_137 hB _) rfl hK hP hD hS hA (fun _ => rfl) (by decide +kernel) (by decide +kernel) (by decide +kernel) (Nat.le_of_ble_eq_true rfl) (Nat.le_of_ble_eq_true rfl) d_NReader_init_6 (fun q6_1 cA6_2 H hK hP hD hS => ?_)
  have hP : va_P (dC, dI) vcl [(h0, .inr (7, [.null, .int 0, .int 0, .null])), (q6_1, .inl (cA6_2, 0, .inl (fun _ => 0)))] H := hP
  have hD : va_D A [(h0, .inr (7, [.null, .int 0, .int 0, .null])), (q6_1, .inl (cA6_2, 0, .inl (fun _ => 0)))] := hD
  have hK : va_K (dC, dI) vcl [(cA6_2, .char)] s := hK
  refine W.widen (k := 1) (n := 0) (by omega) (by omega) ?_
  refine va_put (D := (dC, dI)) (ci := 7) (v := .ref q6_1) (ty := (.array .char)) (C := "BigRunner$Reader") (T := FT7) (N := 4) hx hb (hw7 hB _) (fun _ h9 => h9) TY7 ok7 nm7 hown hK hP hD hS 0 rfl rfl 0 (by decide) (wd_270 hB _) (fun _ h9 => h9) rfl (by decide +kernel) rfl rfl (Nat.le_of_ble_eq_true rfl) d_NReader_init_8 (fun H locs hP hD hS => ?_)
  have hP : va_P (dC, dI) vcl [(h0, .inr (7, [.ref q6_1, .int 0, .int 0, .null])), (q6_1, .inl (cA6_2, 0, .inl (fun _ => 0)))] H := hP
  have hD : va_D A [(h0, .inr (7, [.ref q6_1, .int 0, .int 0, .null])), (q6_1, .inl (cA6_2, 0, .inl (fun _ => 0)))] := hD
  refine lv_aload_n hx hb d_NReader_init_11 rfl (lv_at hl 0 rfl) ?_
  refine lv_iconst (v := 0) hx hb d_NReader_init_12 (by decide) ?_
  refine va_put (D := (dC, dI)) (ci := 7) (v := .int 0) (ty := .int) (C := "BigRunner$Reader") (T := FT7) (N := 4) hx hb (hw7 hB _) (fun _ h9 => h9) TY7 ok7 nm7 hown hK hP hD hS 0 rfl rfl 1 (by decide) (wd_271 hB _) (fun _ h9 => h9) rfl (by decide +kernel) rfl rfl (Nat.le_of_ble_eq_true rfl) d_NReader_init_13 (fun H locs hP hD hS => ?_)
  have hP : va_P (dC, dI) vcl [(h0, .inr (7, [.ref q6_1, .int 0, .int 0, .null])), (q6_1, .inl (cA6_2, 0, .inl (fun _ => 0)))] H := hP
  have hD : va_D A [(h0, .inr (7, [.ref q6_1, .int 0, .int 0, .null])), (q6_1, .inl (cA6_2, 0, .inl (fun _ => 0)))] := hD
  refine lv_aload_n hx hb d_NReader_init_16 rfl (lv_at hl 0 rfl) ?_
  refine lv_iconst (v := 0) hx hb d_NReader_init_17 (by decide) ?_
  refine va_put (D := (dC, dI)) (ci := 7) (v := .int 0) (ty := .int) (C := "BigRunner$Reader") (T := FT7) (N := 4) hx hb (hw7 hB _) (fun _ h9 => h9) TY7 ok7 nm7 hown hK hP hD hS 0 rfl rfl 2 (by decide) (wd_272 hB _) (fun _ h9 => h9) rfl (by decide +kernel) rfl rfl (Nat.le_of_ble_eq_true rfl) d_NReader_init_18 (fun H locs hP hD hS => ?_)
  have hP : va_P (dC, dI) vcl [(h0, .inr (7, [.ref q6_1, .int 0, .int 0, .null])), (q6_1, .inl (cA6_2, 0, .inl (fun _ => 0)))] H := hP
  have hD : va_D A [(h0, .inr (7, [.ref q6_1, .int 0, .int 0, .null])), (q6_1, .inl (cA6_2, 0, .inl (fun _ => 0)))] := hD
  refine lv_aload_n hx hb d_NReader_init_21 rfl (lv_at hl 0 rfl) ?_
  refine va_new (ci := 6) (fs := [.null, .int 0, .null, .int 0, .null, .null]) (C := "BigRunner$Program") (T := FT6) (N := 6) hx hb (hw6 hB _) (fun _ h9 => h9) TY6 ok6 hown (wd_109 hB _) (wd_110 hB _) (wd_74 hB _) hK hP hD hS hA rfl (fun j hj => by rcases (show j = 0 ∨ j = 1 ∨ j = 2 ∨ j = 3 ∨ j = 4 ∨ j = 5 by omega) with rfl | rfl | rfl | rfl | rfl | rfl <;> rfl) (Nat.le_of_ble_eq_true rfl) (Nat.le_of_ble_eq_true rfl) d_NReader_init_22 (fun q22_3 H hP hD hS => ?_)
  have hP : va_P (dC, dI) vcl [(h0, .inr (7, [.ref q6_1, .int 0, .int 0, .null])), (q6_1, .inl (cA6_2, 0, .inl (fun _ => 0))), (q22_3, .inr (6, [.null, .int 0, .null, .int 0, .null, .null]))] H := hP
  have hD : va_D A [(h0, .inr (7, [.ref q6_1, .int 0, .int 0, .null])), (q6_1, .inl (cA6_2, 0, .inl (fun _ => 0))), (q22_3, .inr (6, [.null, .int 0, .null, .int 0, .null, .null]))] := hD
  refine W.widen (k := 2) (n := 6) (by omega) (by omega) ?_
  refine lv_dup hx hb d_NReader_init_25 rfl ?_
  have hPc := hP.sub (ws' := [(q22_3, .inr (6, [.null, .int 0, .null, .int 0, .null, .null]))]) [2] rfl
  have hDc := hD.sub (ws' := [(q22_3, .inr (6, [.null, .int 0, .null, .int 0, .null, .null]))]) [2] (by decide) rfl
  have hKc := hK.sub (tys' := []) [] rfl
  have hFc := va_free (wc := [(q22_3, .inr (6, [.null, .int 0, .null, .int 0, .null, .null]))]) hD hS hA [2] rfl
  refine va_callv (va_runI (As := []) (rest := [.ref q22_3, .ref h0]) ⟨hx, hb, hml, hown, tb_nil⟩ (c_Program_init l dC dI H.size q22_3) ⟨(callB_of 0 (tb_one (wd_113 hB _)) tb_good1 rfl rfl rfl (wd_74 hB _) (wd_111 hB _) (by decide +kernel) ⟨Nat.le_of_ble_eq_true rfl, Nat.le_of_ble_eq_true rfl⟩), rfl, (wd_112 hB _)⟩ ⟨fun a U g mk q => by obtain ⟨q0, q1, qB, qP, qK, qD⟩ := q; exact ⟨q0, q1, TB.same (s := U) (U := U.calling g mk a) rfl qB, qP, va_K.moved (u := U) (U := U.calling g mk a) (Vm.Alike.refl U.vm) qK, qD⟩, fun U hU hW => ⟨rfl, by rw [hU], hB.moved hW, by rw [hU]; exact hPc, va_K.moved hW.alike hKc, hDc.weaken (fun _ _ _ _ => trivial)⟩⟩ rfl rfl hl.1 rfl (lv_room (Nat.le_of_ble_eq_true rfl)) d_NReader_init_26 ⟨(Nat.le_of_ble_eq_true rfl), (Nat.le_of_ble_eq_true rfl)⟩) hS (fun q _ h => hFc q h) hFc (fun u_ t H1 locs ht hvm hw_ hB1 hz1 hk1 hS => ?_)
  obtain ⟨u26_4, u26_5, u26_6, u26_7, u26_8, u26_9, u26_10⟩ := u_
  obtain ⟨hP1, hK1, hD1⟩ := hB1
  rw [ht] at hP1
  have hK1 := va_K.moved hvm.symm hK1
  try dsimp only at hw_
  obtain ⟨hP, hD⟩ := va_join (wr := [(h0, .inr (7, [.ref q6_1, .int 0, .int 0, .null])), (q6_1, .inl (cA6_2, 0, .inl (fun _ => 0)))]) (w1 := [(q22_3, .inr (6, [.ref u26_4, .int 0, .ref u26_8, .int 0, .ref u26_9, .ref u26_10])), (u26_4, .inl (u26_5, 36, .inr (.inr (.inr (.inr (u26_6)))))), (u26_7, .inr (9, [.int 5, .int 0, .int 0, .int (-1), .int 0]))]) hP hD [2] [0, 1] rfl rfl (by decide) (by decide) hk1 hFc hP1 hD1
  have hK := (hK.sub (tys' := [(cA6_2, .char)]) [0] rfl).app hK1
  clear hk1 hFc hPc hDc hKc hP1 hD1 hK1 hz1 ht hvm
  generalize H1 = H at hP hS ⊢
  have hP : va_P (dC, dI) vcl [(h0, .inr (7, [.ref q6_1, .int 0, .int 0, .null])), (q6_1, .inl (cA6_2, 0, .inl (fun _ => 0))), (q22_3, .inr (6, [.ref u26_4, .int 0, .ref u26_8, .int 0, .ref u26_9, .ref u26_10])), (u26_4, .inl (u26_5, 36, .inr (.inr (.inr (.inr (u26_6)))))), (u26_7, .inr (9, [.int 5, .int 0, .int 0, .int (-1), .int 0]))] H := hP
  have hD : va_D A [(h0, .inr (7, [.ref q6_1, .int 0, .int 0, .null])), (q6_1, .inl (cA6_2, 0, .inl (fun _ => 0))), (q22_3, .inr (6, [.ref u26_4, .int 0, .ref u26_8, .int 0, .ref u26_9, .ref u26_10])), (u26_4, .inl (u26_5, 36, .inr (.inr (.inr (.inr (u26_6)))))), (u26_7, .inr (9, [.int 5, .int 0, .int 0, .int (-1), .int 0]))] := hD
  have hK : va_K (dC, dI) vcl [(cA6_2, .char), (u26_5, (.object "BigRunner$Statement"))] s := hK
  refine W.widen (k := 340) (n := 2270) (by omega) (by omega) ?_
  refine va_put (D := (dC, dI)) (ci := 7) (v := .ref q22_3) (ty := (.object "BigRunner$Program")) (C := "BigRunner$Reader") (T := FT7) (N := 4) hx hb (hw7 hB _) (fun _ h9 => h9) TY7 ok7 nm7 hown hK hP hD hS 0 rfl rfl 3 (by decide) (wd_273 hB _) (fun _ h9 => h9) rfl (by decide +kernel) rfl rfl (Nat.le_of_ble_eq_true rfl) d_NReader_init_29 (fun H locs hP hD hS => ?_)
  have hP : va_P (dC, dI) vcl [(h0, .inr (7, [.ref q6_1, .int 0, .int 0, .ref q22_3])), (q6_1, .inl (cA6_2, 0, .inl (fun _ => 0))), (q22_3, .inr (6, [.ref u26_4, .int 0, .ref u26_8, .int 0, .ref u26_9, .ref u26_10])), (u26_4, .inl (u26_5, 36, .inr (.inr (.inr (.inr (u26_6)))))), (u26_7, .inr (9, [.int 5, .int 0, .int 0, .int (-1), .int 0]))] H := hP
  have hD : va_D A [(h0, .inr (7, [.ref q6_1, .int 0, .int 0, .ref q22_3])), (q6_1, .inl (cA6_2, 0, .inl (fun _ => 0))), (q22_3, .inr (6, [.ref u26_4, .int 0, .ref u26_8, .int 0, .ref u26_9, .ref u26_10])), (u26_4, .inl (u26_5, 36, .inr (.inr (.inr (.inr (u26_6)))))), (u26_7, .inr (9, [.int 5, .int 0, .int 0, .int (-1), .int 0]))] := hD
  have hP9 := hP.sub (ws' := [(h0, .inr (7, [.ref q6_1, .int 0, .int 0, .ref q22_3])), (q22_3, .inr (6, [.ref u26_4, .int 0, .ref u26_8, .int 0, .ref u26_9, .ref u26_10])), (u26_4, .inl (u26_5, 36, .inr (.inr (.inr (.inr (u26_6)))))), (u26_7, .inr (9, [.int 5, .int 0, .int 0, .int (-1), .int 0]))]) [0, 2, 3, 4] rfl
  have hD9 := hD.sub (ws' := [(h0, .inr (7, [.ref q6_1, .int 0, .int 0, .ref q22_3])), (q22_3, .inr (6, [.ref u26_4, .int 0, .ref u26_8, .int 0, .ref u26_9, .ref u26_10])), (u26_4, .inl (u26_5, 36, .inr (.inr (.inr (.inr (u26_6)))))), (u26_7, .inr (9, [.int 5, .int 0, .int 0, .int (-1), .int 0]))]) [0, 2, 3, 4] (by decide) rfl
  have hK9 := hK.sub (tys' := [(u26_5, (.object "BigRunner$Statement"))]) [1] rfl
  refine W.widen (k := 340) (n := 2270) (by omega) (by omega) ?_
  exact W.vret hx hb hr (fun t ht hW => ⟨⟨(q6_1, q22_3, u26_4, u26_5, u26_6, u26_7, u26_8, u26_9, u26_10), rfl, hw_, by rw [ht]; exact hP9, va_K.moved hW.alike hK9, hD9⟩, hS.F ht⟩) hS.2.2 d_NReader_init_32
set_option maxHeartbeats 4000000 in
set_option maxRecDepth 100000 in
theorem lp_Runner_1 {p : Program} {l : Launch} {e : Env} {s : State} {m : MethodId} {args : Array Value} {below : List Frame} {meth : Method} {c : Code} {A : Nat → Prop} {Q : State → Prop} (dC : Nat → ClassId) (dI : Nat → Nat → Nat) (h0 : Nat) (q5_1 : Nat) (q16_9 : Nat) (q34_12 : Nat) (q42_14 : Nat) (q49_16 : Nat) (q60_18 : Nat) (q73_21 : Nat) (u20_10 : Nat) (u20_11 : ClassId) (cA42_15 : ClassId) (cA73_22 : ClassId) (hx : p.tables.exec = Jvm.exec) (hb : c.code = prog_9_method_1_code) (hml : c.maxLocals = 2) (hown : s.vm.findClass "BigRunner$Runner" = some m.cls) (hB : TB s) (hA : ∀ q : Nat, s.heap.size ≤ q → A q) (hK : va_K (dC, dI) vcl [(u20_11, .int), (cA42_15, (.object "BigRunner$LongNumber")), (cA73_22, (.object "BigRunner$LongNumber"))] s)
    (kx : ∀ (fq : Nat → Option Nat) (H : Heap) (locs : List Loc) (ls : Array Slot), lv_has ls 2 [(1, .int (nI 10)), (0, .ref h0)] → va_P (dC, dI) vcl [(h0, .inr (8, [.ref q5_1, .ref q16_9, .int 0, .ref q34_12, .ref q42_14, .ref q49_16, .ref q60_18, .ref q73_21, .int 0, .int 0, .int 0, .int 0, .int 0])), (q16_9, .inr (1, [.ref u20_10, .int 0, .int 0])), (u20_10, .inl (u20_11, 20, .inl (fun _ => 0))), (q42_14, .inl (cA42_15, 10, .inr (.inr (.inr (.inr (fq)))))), (q73_21, .inl (cA73_22, 12, .inr (.inr (.inr (.inr (fun _ => none))))))] H → va_D A [(h0, .inr (8, [.ref q5_1, .ref q16_9, .int 0, .ref q34_12, .ref q42_14, .ref q49_16, .ref q60_18, .ref q73_21, .int 0, .int 0, .int 0, .int 0, .int 0])), (q16_9, .inr (1, [.ref u20_10, .int 0, .int 0])), (u20_10, .inl (u20_11, 20, .inl (fun _ => 0))), (q42_14, .inl (cA42_15, 10, .inr (.inr (.inr (.inr (fq)))))), (q73_21, .inl (cA73_22, 12, .inr (.inr (.inr (.inr (fun _ => none))))))] → va_S A s.heap H locs → W p l e ({ frames := 6, cells := 393, slots := 2774, locals := 90 }) s m args below meth c H locs (369) (2558) Q (F0 m 131 ls [])) : ∀ (n i : Nat), n + i = 10 → 0 ≤ i → ∀ (fq : Nat → Option Nat) (H : Heap) (locs : List Loc) (ls : Array Slot), lv_has ls 2 [(1, .int (nI i)), (0, .ref h0)] → va_P (dC, dI) vcl [(h0, .inr (8, [.ref q5_1, .ref q16_9, .int 0, .ref q34_12, .ref q42_14, .ref q49_16, .ref q60_18, .ref q73_21, .int 0, .int 0, .int 0, .int 0, .int 0])), (q16_9, .inr (1, [.ref u20_10, .int 0, .int 0])), (u20_10, .inl (u20_11, 20, .inl (fun _ => 0))), (q42_14, .inl (cA42_15, 10, .inr (.inr (.inr (.inr (fq)))))), (q73_21, .inl (cA73_22, 12, .inr (.inr (.inr (.inr (fun _ => none))))))] H → va_D A [(h0, .inr (8, [.ref q5_1, .ref q16_9, .int 0, .ref q34_12, .ref q42_14, .ref q49_16, .ref q60_18, .ref q73_21, .int 0, .int 0, .int 0, .int 0, .int 0])), (q16_9, .inr (1, [.ref u20_10, .int 0, .int 0])), (u20_10, .inl (u20_11, 20, .inl (fun _ => 0))), (q42_14, .inl (cA42_15, 10, .inr (.inr (.inr (.inr (fq)))))), (q73_21, .inl (cA73_22, 12, .inr (.inr (.inr (.inr (fun _ => none))))))] → va_S A s.heap H locs → W p l e ({ frames := 6, cells := 393, slots := 2774, locals := 90 }) s m args below meth c H locs (349 + 2 * i) (2378 + 18 * i) Q (F0 m 106 ls []) := by
  intro n
  induction n with
  | zero =>
    intro i hn hst fq H locs ls  hl hP hD hS
    obtain rfl : i = 10 := by omega
    refine lv_iload_n hx hb d_NRunner_init_106 rfl (lv_at hl 0 rfl) ?_
    refine lv_bipush (v := 10) hx hb d_NRunner_init_107 (by decide) ?_
    refine lv_icmp_ge (tgt := 131) hx hb d_NRunner_init_109 (by decide) (fun _ => ?_) (fun hq => absurd (by decide) hq)
    exact kx fq H locs ls  hl hP hD hS
  | succ n ih =>
    intro i hn hst fq H locs ls  hl hP hD hS
    refine lv_iload_n hx hb d_NRunner_init_106 rfl (lv_at hl 0 rfl) ?_
    refine lv_bipush (v := 10) hx hb d_NRunner_init_107 (by decide) ?_
    refine lv_icmp_ge (tgt := 131) hx hb d_NRunner_init_109 (by decide) (fun hq => absurd hq (nI_ge (b := 10) (by omega) (by decide))) (fun _ => ?_)
    refine lv_aload_n hx hb d_NRunner_init_112 rfl (lv_at hl 1 rfl) ?_
    refine va_get (D := (dC, dI)) (ci := 8) (v := .ref q42_14) (C := "BigRunner$Runner") (T := FT8) (N := 13) hx hb (hw8 hB _) (fun _ h9 => h9) hown hK hP 0 rfl rfl 4 (by decide) (wd_336 hB _) (fun _ h9 => h9) rfl d_NRunner_init_113 ?_
    refine lv_iload_n hx hb d_NRunner_init_116 rfl (lv_at hl 0 rfl) ?_
    refine va_new (ci := 4) (fs := [.int 0, .int 0, .null]) (C := "BigRunner$LongNumber") (T := FT4) (N := 3) hx hb (hw4 hB _) (fun _ h9 => h9) TY4 ok4 hown (wd_310 hB _) (wd_181 hB _) (wd_78 hB _) hK hP hD hS hA rfl (fun j hj => by rcases (show j = 0 ∨ j = 1 ∨ j = 2 by omega) with rfl | rfl | rfl <;> rfl) (show _ ≤ 393 by omega) (show _ ≤ 2774 by omega) d_NRunner_init_117 (fun q117_1 H hP hD hS => ?_)
    have hP : va_P (dC, dI) vcl [(h0, .inr (8, [.ref q5_1, .ref q16_9, .int 0, .ref q34_12, .ref q42_14, .ref q49_16, .ref q60_18, .ref q73_21, .int 0, .int 0, .int 0, .int 0, .int 0])), (q16_9, .inr (1, [.ref u20_10, .int 0, .int 0])), (u20_10, .inl (u20_11, 20, .inl (fun _ => 0))), (q42_14, .inl (cA42_15, 10, .inr (.inr (.inr (.inr (fq)))))), (q73_21, .inl (cA73_22, 12, .inr (.inr (.inr (.inr (fun _ => none)))))), (q117_1, .inr (4, [.int 0, .int 0, .null]))] H := hP
    have hD : va_D A [(h0, .inr (8, [.ref q5_1, .ref q16_9, .int 0, .ref q34_12, .ref q42_14, .ref q49_16, .ref q60_18, .ref q73_21, .int 0, .int 0, .int 0, .int 0, .int 0])), (q16_9, .inr (1, [.ref u20_10, .int 0, .int 0])), (u20_10, .inl (u20_11, 20, .inl (fun _ => 0))), (q42_14, .inl (cA42_15, 10, .inr (.inr (.inr (.inr (fq)))))), (q73_21, .inl (cA73_22, 12, .inr (.inr (.inr (.inr (fun _ => none)))))), (q117_1, .inr (4, [.int 0, .int 0, .null]))] := hD
    refine W.widen (k := 350 + 2 * i) (n := 2381 + 18 * i) (by omega) (by omega) ?_
    refine lv_dup hx hb d_NRunner_init_120 rfl ?_
    have hPc := hP.sub (ws' := [(q117_1, .inr (4, [.int 0, .int 0, .null]))]) [5] rfl
    have hDc := hD.sub (ws' := [(q117_1, .inr (4, [.int 0, .int 0, .null]))]) [5] (by decide) rfl
    have hKc := hK.sub (tys' := []) [] rfl
    have hFc := va_free (wc := [(q117_1, .inr (4, [.int 0, .int 0, .null]))]) hD hS hA [5] rfl
    refine va_callv (va_runIN (As := []) (rest := [.ref q117_1, .int (nI i), .ref q42_14]) ⟨hx, hb, hml, hown, tb_nil⟩ (c_LongNumber_init l dC dI H.size q117_1) ⟨(va_cnB 0 (tb_one (wd_184 hB _)) tb_good1 rfl rfl rfl (va_Nw.of (A := #[]) rfl (wd_312 hB _)) (wd_78 hB _) (by decide +kernel) ⟨Nat.le_of_ble_eq_true rfl, Nat.le_of_ble_eq_true rfl⟩), rfl, (wd_183 hB _)⟩ ⟨fun a U g mk q => by obtain ⟨q0, q1, qB, qP, qK, qD⟩ := q; exact ⟨q0, q1, TB.same (s := U) (U := U.calling g mk a) rfl qB, qP, va_K.moved (u := U) (U := U.calling g mk a) (Vm.Alike.refl U.vm) qK, qD⟩, fun U hU hW => ⟨rfl, by rw [hU], hB.moved hW, by rw [hU]; exact hPc, va_K.moved hW.alike hKc, hDc.weaken (fun _ _ _ _ => trivial)⟩⟩ rfl rfl hl.1 rfl (lv_room (Nat.le_of_ble_eq_true rfl)) d_NRunner_init_121 ⟨(show _ ≤ 393 by omega), (show _ ≤ 2774 by omega)⟩) hS (fun q _ h => hFc q h) hFc (fun u_ t H1 locs ht hvm hw_ hB1 hz1 hk1 hS => ?_)
    obtain ⟨u121_2, rfl⟩ : ∃ z, z = u_ := ⟨_, rfl⟩
    obtain ⟨hP1, hK1, hD1⟩ := hB1
    rw [ht] at hP1
    have hK1 := va_K.moved hvm.symm hK1
    try dsimp only at hw_
    obtain ⟨hP, hD⟩ := va_join (wr := [(h0, .inr (8, [.ref q5_1, .ref q16_9, .int 0, .ref q34_12, .ref q42_14, .ref q49_16, .ref q60_18, .ref q73_21, .int 0, .int 0, .int 0, .int 0, .int 0])), (q16_9, .inr (1, [.ref u20_10, .int 0, .int 0])), (u20_10, .inl (u20_11, 20, .inl (fun _ => 0))), (q42_14, .inl (cA42_15, 10, .inr (.inr (.inr (.inr (fq)))))), (q73_21, .inl (cA73_22, 12, .inr (.inr (.inr (.inr (fun _ => none))))))]) (w1 := [(q117_1, .inr (4, [.int 0, .int 0, .ref u121_2]))]) hP hD [5] [0, 1, 2, 3, 4] rfl rfl (by decide) (by decide) hk1 hFc hP1 hD1
    have hK := (hK.sub (tys' := [(u20_11, .int), (cA42_15, (.object "BigRunner$LongNumber")), (cA73_22, (.object "BigRunner$LongNumber"))]) [0, 1, 2] rfl).app hK1
    clear hk1 hFc hPc hDc hKc hP1 hD1 hK1 hz1 ht hvm
    generalize H1 = H at hP hS ⊢
    have hP : va_P (dC, dI) vcl [(h0, .inr (8, [.ref q5_1, .ref q16_9, .int 0, .ref q34_12, .ref q42_14, .ref q49_16, .ref q60_18, .ref q73_21, .int 0, .int 0, .int 0, .int 0, .int 0])), (q16_9, .inr (1, [.ref u20_10, .int 0, .int 0])), (u20_10, .inl (u20_11, 20, .inl (fun _ => 0))), (q42_14, .inl (cA42_15, 10, .inr (.inr (.inr (.inr (fq)))))), (q73_21, .inl (cA73_22, 12, .inr (.inr (.inr (.inr (fun _ => none)))))), (q117_1, .inr (4, [.int 0, .int 0, .ref u121_2]))] H := hP
    have hD : va_D A [(h0, .inr (8, [.ref q5_1, .ref q16_9, .int 0, .ref q34_12, .ref q42_14, .ref q49_16, .ref q60_18, .ref q73_21, .int 0, .int 0, .int 0, .int 0, .int 0])), (q16_9, .inr (1, [.ref u20_10, .int 0, .int 0])), (u20_10, .inl (u20_11, 20, .inl (fun _ => 0))), (q42_14, .inl (cA42_15, 10, .inr (.inr (.inr (.inr (fq)))))), (q73_21, .inl (cA73_22, 12, .inr (.inr (.inr (.inr (fun _ => none)))))), (q117_1, .inr (4, [.int 0, .int 0, .ref u121_2]))] := hD
    have hK : va_K (dC, dI) vcl [(u20_11, .int), (cA42_15, (.object "BigRunner$LongNumber")), (cA73_22, (.object "BigRunner$LongNumber"))] s := hK
    refine W.widen (k := 351 + 2 * i) (n := 2396 + 18 * i) (by omega) (by omega) ?_
    refine va_astq (D := (dC, dI)) (r := ("BigRunner$LongNumber", FT4, 3)) hx hb hK hP hD hS 3 1 5 4 rfl rfl rfl rfl (vp_in_nI (by omega) (by decide)) d_NRunner_init_124 (fun H locs hP hD hS => ?_)
    have hP : va_P (dC, dI) vcl [(h0, .inr (8, [.ref q5_1, .ref q16_9, .int 0, .ref q34_12, .ref q42_14, .ref q49_16, .ref q60_18, .ref q73_21, .int 0, .int 0, .int 0, .int 0, .int 0])), (q16_9, .inr (1, [.ref u20_10, .int 0, .int 0])), (u20_10, .inl (u20_11, 20, .inl (fun _ => 0))), (q42_14, .inl (cA42_15, 10, .inr (.inr (.inr (.inr (va_up (fq) ((nI i)).toNatClampNeg (some q117_1))))))), (q73_21, .inl (cA73_22, 12, .inr (.inr (.inr (.inr (fun _ => none)))))), (q117_1, .inr (4, [.int 0, .int 0, .ref u121_2]))] H := hP
    have hD : va_D A [(h0, .inr (8, [.ref q5_1, .ref q16_9, .int 0, .ref q34_12, .ref q42_14, .ref q49_16, .ref q60_18, .ref q73_21, .int 0, .int 0, .int 0, .int 0, .int 0])), (q16_9, .inr (1, [.ref u20_10, .int 0, .int 0])), (u20_10, .inl (u20_11, 20, .inl (fun _ => 0))), (q42_14, .inl (cA42_15, 10, .inr (.inr (.inr (.inr (va_up (fq) ((nI i)).toNatClampNeg (some q117_1))))))), (q73_21, .inl (cA73_22, 12, .inr (.inr (.inr (.inr (fun _ => none)))))), (q117_1, .inr (4, [.int 0, .int 0, .ref u121_2]))] := hD
    refine lv_iinc (k := 0) (v := nI (i + 1)) (lv' := [(1, .int (nI (i + 1))), (0, .ref h0)]) hx hb d_NRunner_init_125 hl rfl (by rw [nI_succ]; rfl) (by decide) rfl (fun ls hl => ?_)
    refine lv_goto (tgt := 106) hx hb d_NRunner_init_128 (by decide) ?_
    have hD := hD.sub (ws' := [(h0, .inr (8, [.ref q5_1, .ref q16_9, .int 0, .ref q34_12, .ref q42_14, .ref q49_16, .ref q60_18, .ref q73_21, .int 0, .int 0, .int 0, .int 0, .int 0])), (q16_9, .inr (1, [.ref u20_10, .int 0, .int 0])), (u20_10, .inl (u20_11, 20, .inl (fun _ => 0))), (q42_14, .inl (cA42_15, 10, .inr (.inr (.inr (.inr (va_up (fq) ((nI i)).toNatClampNeg (some q117_1))))))), (q73_21, .inl (cA73_22, 12, .inr (.inr (.inr (.inr (fun _ => none))))))]) [0, 1, 2, 3, 4] (by decide) rfl
    have hP := hP.sub (ws' := [(h0, .inr (8, [.ref q5_1, .ref q16_9, .int 0, .ref q34_12, .ref q42_14, .ref q49_16, .ref q60_18, .ref q73_21, .int 0, .int 0, .int 0, .int 0, .int 0])), (q16_9, .inr (1, [.ref u20_10, .int 0, .int 0])), (u20_10, .inl (u20_11, 20, .inl (fun _ => 0))), (q42_14, .inl (cA42_15, 10, .inr (.inr (.inr (.inr (va_up (fq) ((nI i)).toNatClampNeg (some q117_1))))))), (q73_21, .inl (cA73_22, 12, .inr (.inr (.inr (.inr (fun _ => none))))))]) [0, 1, 2, 3, 4] rfl
    refine W.widen (k := 349 + 2 * (i + 1)) (n := 2378 + 18 * (i + 1)) (by omega) (by omega) ?_
    exact ih (i + 1) (by omega) (by omega) (va_up (fq) ((nI i)).toNatClampNeg (some q117_1)) H locs ls  hl hP hD hS
set_option maxHeartbeats 4000000 in
set_option maxRecDepth 100000 in
theorem lp_Runner_2 {p : Program} {l : Launch} {e : Env} {s : State} {m : MethodId} {args : Array Value} {below : List Frame} {meth : Method} {c : Code} {A : Nat → Prop} {Q : State → Prop} (dC : Nat → ClassId) (dI : Nat → Nat → Nat) (h0 : Nat) (q5_1 : Nat) (q16_9 : Nat) (q34_12 : Nat) (q42_14 : Nat) (q49_16 : Nat) (q60_18 : Nat) (q73_21 : Nat) (u20_10 : Nat) (u20_11 : ClassId) (cA42_15 : ClassId) (gq42_14 : Nat → Option Nat) (cA73_22 : ClassId) (hx : p.tables.exec = Jvm.exec) (hb : c.code = prog_9_method_1_code) (hml : c.maxLocals = 2) (hown : s.vm.findClass "BigRunner$Runner" = some m.cls) (hB : TB s) (hA : ∀ q : Nat, s.heap.size ≤ q → A q) (hK : va_K (dC, dI) vcl [(u20_11, .int), (cA42_15, (.object "BigRunner$LongNumber")), (cA73_22, (.object "BigRunner$LongNumber"))] s)
    (kx : ∀ (fq : Nat → Option Nat) (H : Heap) (locs : List Loc) (ls : Array Slot), lv_has ls 2 [(1, .int (nI 12)), (0, .ref h0)] → va_P (dC, dI) vcl [(h0, .inr (8, [.ref q5_1, .ref q16_9, .int 0, .ref q34_12, .ref q42_14, .ref q49_16, .ref q60_18, .ref q73_21, .int 0, .int 0, .int 0, .int 0, .int 0])), (q16_9, .inr (1, [.ref u20_10, .int 0, .int 0])), (u20_10, .inl (u20_11, 20, .inl (fun _ => 0))), (q42_14, .inl (cA42_15, 10, .inr (.inr (.inr (.inr (gq42_14)))))), (q73_21, .inl (cA73_22, 12, .inr (.inr (.inr (.inr (fq))))))] H → va_D A [(h0, .inr (8, [.ref q5_1, .ref q16_9, .int 0, .ref q34_12, .ref q42_14, .ref q49_16, .ref q60_18, .ref q73_21, .int 0, .int 0, .int 0, .int 0, .int 0])), (q16_9, .inr (1, [.ref u20_10, .int 0, .int 0])), (u20_10, .inl (u20_11, 20, .inl (fun _ => 0))), (q42_14, .inl (cA42_15, 10, .inr (.inr (.inr (.inr (gq42_14)))))), (q73_21, .inl (cA73_22, 12, .inr (.inr (.inr (.inr (fq))))))] → va_S A s.heap H locs → W p l e ({ frames := 6, cells := 393, slots := 2774, locals := 90 }) s m args below meth c H locs (393) (2774) Q (F0 m 158 ls [])) : ∀ (n i : Nat), n + i = 12 → 0 ≤ i → ∀ (fq : Nat → Option Nat) (H : Heap) (locs : List Loc) (ls : Array Slot), lv_has ls 2 [(1, .int (nI i)), (0, .ref h0)] → va_P (dC, dI) vcl [(h0, .inr (8, [.ref q5_1, .ref q16_9, .int 0, .ref q34_12, .ref q42_14, .ref q49_16, .ref q60_18, .ref q73_21, .int 0, .int 0, .int 0, .int 0, .int 0])), (q16_9, .inr (1, [.ref u20_10, .int 0, .int 0])), (u20_10, .inl (u20_11, 20, .inl (fun _ => 0))), (q42_14, .inl (cA42_15, 10, .inr (.inr (.inr (.inr (gq42_14)))))), (q73_21, .inl (cA73_22, 12, .inr (.inr (.inr (.inr (fq))))))] H → va_D A [(h0, .inr (8, [.ref q5_1, .ref q16_9, .int 0, .ref q34_12, .ref q42_14, .ref q49_16, .ref q60_18, .ref q73_21, .int 0, .int 0, .int 0, .int 0, .int 0])), (q16_9, .inr (1, [.ref u20_10, .int 0, .int 0])), (u20_10, .inl (u20_11, 20, .inl (fun _ => 0))), (q42_14, .inl (cA42_15, 10, .inr (.inr (.inr (.inr (gq42_14)))))), (q73_21, .inl (cA73_22, 12, .inr (.inr (.inr (.inr (fq))))))] → va_S A s.heap H locs → W p l e ({ frames := 6, cells := 393, slots := 2774, locals := 90 }) s m args below meth c H locs (369 + 2 * i) (2558 + 18 * i) Q (F0 m 133 ls []) := by
  intro n
  induction n with
  | zero =>
    intro i hn hst fq H locs ls  hl hP hD hS
    obtain rfl : i = 12 := by omega
    refine lv_iload_n hx hb d_NRunner_init_133 rfl (lv_at hl 0 rfl) ?_
    refine lv_bipush (v := 12) hx hb d_NRunner_init_134 (by decide) ?_
    refine lv_icmp_ge (tgt := 158) hx hb d_NRunner_init_136 (by decide) (fun _ => ?_) (fun hq => absurd (by decide) hq)
    exact kx fq H locs ls  hl hP hD hS
  | succ n ih =>
    intro i hn hst fq H locs ls  hl hP hD hS
    refine lv_iload_n hx hb d_NRunner_init_133 rfl (lv_at hl 0 rfl) ?_
    refine lv_bipush (v := 12) hx hb d_NRunner_init_134 (by decide) ?_
    refine lv_icmp_ge (tgt := 158) hx hb d_NRunner_init_136 (by decide) (fun hq => absurd hq (nI_ge (b := 12) (by omega) (by decide))) (fun _ => ?_)
    refine lv_aload_n hx hb d_NRunner_init_139 rfl (lv_at hl 1 rfl) ?_
    refine va_get (D := (dC, dI)) (ci := 8) (v := .ref q73_21) (C := "BigRunner$Runner") (T := FT8) (N := 13) hx hb (hw8 hB _) (fun _ h9 => h9) hown hK hP 0 rfl rfl 7 (by decide) (wd_339 hB _) (fun _ h9 => h9) rfl d_NRunner_init_140 ?_
    refine lv_iload_n hx hb d_NRunner_init_143 rfl (lv_at hl 0 rfl) ?_
    refine va_new (ci := 4) (fs := [.int 0, .int 0, .null]) (C := "BigRunner$LongNumber") (T := FT4) (N := 3) hx hb (hw4 hB _) (fun _ h9 => h9) TY4 ok4 hown (wd_310 hB _) (wd_181 hB _) (wd_78 hB _) hK hP hD hS hA rfl (fun j hj => by rcases (show j = 0 ∨ j = 1 ∨ j = 2 by omega) with rfl | rfl | rfl <;> rfl) (show _ ≤ 393 by omega) (show _ ≤ 2774 by omega) d_NRunner_init_144 (fun q144_1 H hP hD hS => ?_)
    have hP : va_P (dC, dI) vcl [(h0, .inr (8, [.ref q5_1, .ref q16_9, .int 0, .ref q34_12, .ref q42_14, .ref q49_16, .ref q60_18, .ref q73_21, .int 0, .int 0, .int 0, .int 0, .int 0])), (q16_9, .inr (1, [.ref u20_10, .int 0, .int 0])), (u20_10, .inl (u20_11, 20, .inl (fun _ => 0))), (q42_14, .inl (cA42_15, 10, .inr (.inr (.inr (.inr (gq42_14)))))), (q73_21, .inl (cA73_22, 12, .inr (.inr (.inr (.inr (fq)))))), (q144_1, .inr (4, [.int 0, .int 0, .null]))] H := hP
    have hD : va_D A [(h0, .inr (8, [.ref q5_1, .ref q16_9, .int 0, .ref q34_12, .ref q42_14, .ref q49_16, .ref q60_18, .ref q73_21, .int 0, .int 0, .int 0, .int 0, .int 0])), (q16_9, .inr (1, [.ref u20_10, .int 0, .int 0])), (u20_10, .inl (u20_11, 20, .inl (fun _ => 0))), (q42_14, .inl (cA42_15, 10, .inr (.inr (.inr (.inr (gq42_14)))))), (q73_21, .inl (cA73_22, 12, .inr (.inr (.inr (.inr (fq)))))), (q144_1, .inr (4, [.int 0, .int 0, .null]))] := hD
    refine W.widen (k := 370 + 2 * i) (n := 2561 + 18 * i) (by omega) (by omega) ?_
    refine lv_dup hx hb d_NRunner_init_147 rfl ?_
    have hPc := hP.sub (ws' := [(q144_1, .inr (4, [.int 0, .int 0, .null]))]) [5] rfl
    have hDc := hD.sub (ws' := [(q144_1, .inr (4, [.int 0, .int 0, .null]))]) [5] (by decide) rfl
    have hKc := hK.sub (tys' := []) [] rfl
    have hFc := va_free (wc := [(q144_1, .inr (4, [.int 0, .int 0, .null]))]) hD hS hA [5] rfl
    refine va_callv (va_runIN (As := []) (rest := [.ref q144_1, .int (nI i), .ref q73_21]) ⟨hx, hb, hml, hown, tb_nil⟩ (c_LongNumber_init l dC dI H.size q144_1) ⟨(va_cnB 0 (tb_one (wd_184 hB _)) tb_good1 rfl rfl rfl (va_Nw.of (A := #[]) rfl (wd_312 hB _)) (wd_78 hB _) (by decide +kernel) ⟨Nat.le_of_ble_eq_true rfl, Nat.le_of_ble_eq_true rfl⟩), rfl, (wd_183 hB _)⟩ ⟨fun a U g mk q => by obtain ⟨q0, q1, qB, qP, qK, qD⟩ := q; exact ⟨q0, q1, TB.same (s := U) (U := U.calling g mk a) rfl qB, qP, va_K.moved (u := U) (U := U.calling g mk a) (Vm.Alike.refl U.vm) qK, qD⟩, fun U hU hW => ⟨rfl, by rw [hU], hB.moved hW, by rw [hU]; exact hPc, va_K.moved hW.alike hKc, hDc.weaken (fun _ _ _ _ => trivial)⟩⟩ rfl rfl hl.1 rfl (lv_room (Nat.le_of_ble_eq_true rfl)) d_NRunner_init_148 ⟨(show _ ≤ 393 by omega), (show _ ≤ 2774 by omega)⟩) hS (fun q _ h => hFc q h) hFc (fun u_ t H1 locs ht hvm hw_ hB1 hz1 hk1 hS => ?_)
    obtain ⟨u148_2, rfl⟩ : ∃ z, z = u_ := ⟨_, rfl⟩
    obtain ⟨hP1, hK1, hD1⟩ := hB1
    rw [ht] at hP1
    have hK1 := va_K.moved hvm.symm hK1
    try dsimp only at hw_
    obtain ⟨hP, hD⟩ := va_join (wr := [(h0, .inr (8, [.ref q5_1, .ref q16_9, .int 0, .ref q34_12, .ref q42_14, .ref q49_16, .ref q60_18, .ref q73_21, .int 0, .int 0, .int 0, .int 0, .int 0])), (q16_9, .inr (1, [.ref u20_10, .int 0, .int 0])), (u20_10, .inl (u20_11, 20, .inl (fun _ => 0))), (q42_14, .inl (cA42_15, 10, .inr (.inr (.inr (.inr (gq42_14)))))), (q73_21, .inl (cA73_22, 12, .inr (.inr (.inr (.inr (fq))))))]) (w1 := [(q144_1, .inr (4, [.int 0, .int 0, .ref u148_2]))]) hP hD [5] [0, 1, 2, 3, 4] rfl rfl (by decide) (by decide) hk1 hFc hP1 hD1
    have hK := (hK.sub (tys' := [(u20_11, .int), (cA42_15, (.object "BigRunner$LongNumber")), (cA73_22, (.object "BigRunner$LongNumber"))]) [0, 1, 2] rfl).app hK1
    clear hk1 hFc hPc hDc hKc hP1 hD1 hK1 hz1 ht hvm
    generalize H1 = H at hP hS ⊢
    have hP : va_P (dC, dI) vcl [(h0, .inr (8, [.ref q5_1, .ref q16_9, .int 0, .ref q34_12, .ref q42_14, .ref q49_16, .ref q60_18, .ref q73_21, .int 0, .int 0, .int 0, .int 0, .int 0])), (q16_9, .inr (1, [.ref u20_10, .int 0, .int 0])), (u20_10, .inl (u20_11, 20, .inl (fun _ => 0))), (q42_14, .inl (cA42_15, 10, .inr (.inr (.inr (.inr (gq42_14)))))), (q73_21, .inl (cA73_22, 12, .inr (.inr (.inr (.inr (fq)))))), (q144_1, .inr (4, [.int 0, .int 0, .ref u148_2]))] H := hP
    have hD : va_D A [(h0, .inr (8, [.ref q5_1, .ref q16_9, .int 0, .ref q34_12, .ref q42_14, .ref q49_16, .ref q60_18, .ref q73_21, .int 0, .int 0, .int 0, .int 0, .int 0])), (q16_9, .inr (1, [.ref u20_10, .int 0, .int 0])), (u20_10, .inl (u20_11, 20, .inl (fun _ => 0))), (q42_14, .inl (cA42_15, 10, .inr (.inr (.inr (.inr (gq42_14)))))), (q73_21, .inl (cA73_22, 12, .inr (.inr (.inr (.inr (fq)))))), (q144_1, .inr (4, [.int 0, .int 0, .ref u148_2]))] := hD
    have hK : va_K (dC, dI) vcl [(u20_11, .int), (cA42_15, (.object "BigRunner$LongNumber")), (cA73_22, (.object "BigRunner$LongNumber"))] s := hK
    refine W.widen (k := 371 + 2 * i) (n := 2576 + 18 * i) (by omega) (by omega) ?_
    refine va_astq (D := (dC, dI)) (r := ("BigRunner$LongNumber", FT4, 3)) hx hb hK hP hD hS 4 2 5 4 rfl rfl rfl rfl (vp_in_nI (by omega) (by decide)) d_NRunner_init_151 (fun H locs hP hD hS => ?_)
    have hP : va_P (dC, dI) vcl [(h0, .inr (8, [.ref q5_1, .ref q16_9, .int 0, .ref q34_12, .ref q42_14, .ref q49_16, .ref q60_18, .ref q73_21, .int 0, .int 0, .int 0, .int 0, .int 0])), (q16_9, .inr (1, [.ref u20_10, .int 0, .int 0])), (u20_10, .inl (u20_11, 20, .inl (fun _ => 0))), (q42_14, .inl (cA42_15, 10, .inr (.inr (.inr (.inr (gq42_14)))))), (q73_21, .inl (cA73_22, 12, .inr (.inr (.inr (.inr (va_up (fq) ((nI i)).toNatClampNeg (some q144_1))))))), (q144_1, .inr (4, [.int 0, .int 0, .ref u148_2]))] H := hP
    have hD : va_D A [(h0, .inr (8, [.ref q5_1, .ref q16_9, .int 0, .ref q34_12, .ref q42_14, .ref q49_16, .ref q60_18, .ref q73_21, .int 0, .int 0, .int 0, .int 0, .int 0])), (q16_9, .inr (1, [.ref u20_10, .int 0, .int 0])), (u20_10, .inl (u20_11, 20, .inl (fun _ => 0))), (q42_14, .inl (cA42_15, 10, .inr (.inr (.inr (.inr (gq42_14)))))), (q73_21, .inl (cA73_22, 12, .inr (.inr (.inr (.inr (va_up (fq) ((nI i)).toNatClampNeg (some q144_1))))))), (q144_1, .inr (4, [.int 0, .int 0, .ref u148_2]))] := hD
    refine lv_iinc (k := 0) (v := nI (i + 1)) (lv' := [(1, .int (nI (i + 1))), (0, .ref h0)]) hx hb d_NRunner_init_152 hl rfl (by rw [nI_succ]; rfl) (by decide) rfl (fun ls hl => ?_)
    refine lv_goto (tgt := 133) hx hb d_NRunner_init_155 (by decide) ?_
    have hD := hD.sub (ws' := [(h0, .inr (8, [.ref q5_1, .ref q16_9, .int 0, .ref q34_12, .ref q42_14, .ref q49_16, .ref q60_18, .ref q73_21, .int 0, .int 0, .int 0, .int 0, .int 0])), (q16_9, .inr (1, [.ref u20_10, .int 0, .int 0])), (u20_10, .inl (u20_11, 20, .inl (fun _ => 0))), (q42_14, .inl (cA42_15, 10, .inr (.inr (.inr (.inr (gq42_14)))))), (q73_21, .inl (cA73_22, 12, .inr (.inr (.inr (.inr (va_up (fq) ((nI i)).toNatClampNeg (some q144_1)))))))]) [0, 1, 2, 3, 4] (by decide) rfl
    have hP := hP.sub (ws' := [(h0, .inr (8, [.ref q5_1, .ref q16_9, .int 0, .ref q34_12, .ref q42_14, .ref q49_16, .ref q60_18, .ref q73_21, .int 0, .int 0, .int 0, .int 0, .int 0])), (q16_9, .inr (1, [.ref u20_10, .int 0, .int 0])), (u20_10, .inl (u20_11, 20, .inl (fun _ => 0))), (q42_14, .inl (cA42_15, 10, .inr (.inr (.inr (.inr (gq42_14)))))), (q73_21, .inl (cA73_22, 12, .inr (.inr (.inr (.inr (va_up (fq) ((nI i)).toNatClampNeg (some q144_1)))))))]) [0, 1, 2, 3, 4] rfl
    refine W.widen (k := 369 + 2 * (i + 1)) (n := 2558 + 18 * (i + 1)) (by omega) (by omega) ?_
    exact ih (i + 1) (by omega) (by omega) (va_up (fq) ((nI i)).toNatClampNeg (some q144_1)) H locs ls  hl hP hD hS
set_option maxHeartbeats 4000000 in
set_option maxRecDepth 100000 in
/-- Runner(): of its world the inputs are kept -/
theorem c_Runner_init (l : Launch) (dC : Nat → ClassId) (dI : Nat → Nat → Nat) (sz : Nat) (h0 : Nat) : Met l ⟨"BigRunner$Runner", "<init>", "()V"⟩ [Cond.code ⟨"BigRunner$Runner", "<init>", "()V"⟩ prog_9_method_1_code 2 none] ({ frames := 6, cells := 393, slots := 2774, locals := 90 }) (va_Pc [.ref h0] (fun U => U.heap.size = sz ∧ TB U ∧ va_P (dC, dI) vcl [(h0, .inr (8, [.null, .null, .int 0, .null, .null, .null, .null, .null, .int 0, .int 0, .int 0, .int 0, .int 0]))] U.heap ∧ va_K (dC, dI) vcl [] U ∧ va_D (fun _ => True) [(h0, .inr (8, [.null, .null, .int 0, .null, .null, .null, .null, .null, .int 0, .int 0, .int 0, .int 0, .int 0]))])) (va_Qv (fun (u : Nat × Nat × Nat × Nat × Nat × Nat × Nat × Nat × ClassId) => match u with | (pr, qn, qm, qw, qh, qd, qk, qr, cr) => True) (fun (u : Nat × Nat × Nat × Nat × Nat × Nat × Nat × Nat × ClassId) (t : State) => match u with | (pr, qn, qm, qw, qh, qd, qk, qr, cr) => va_P (dC, dI) vcl [(h0, .inr (8, [.ref pr, .ref qn, .int 0, .ref qm, .ref qw, .ref qh, .ref qd, .ref qk, .int 0, .int 0, .int 0, .int 0, .int 0])), (qn, .inr (1, [.ref qr, .int 0, .int 0])), (qr, .inl (cr, 20, .inl (fun _ => 0)))] t.heap ∧ va_K (dC, dI) vcl [(cr, .int)] t ∧ va_D (va_A [(h0, .inr (8, [.null, .null, .int 0, .null, .null, .null, .null, .null, .int 0, .int 0, .int 0, .int 0, .int 0]))] sz) [(h0, .inr (8, [.ref pr, .ref qn, .int 0, .ref qm, .ref qw, .ref qh, .ref qd, .ref qk, .int 0, .int 0, .int 0, .int 0, .int 0])), (qn, .inr (1, [.ref qr, .int 0, .int 0])), (qr, .inl (cr, 20, .inl (fun _ => 0)))]) (va_A [(h0, .inr (8, [.null, .null, .int 0, .null, .null, .null, .null, .null, .int 0, .int 0, .int 0, .int 0, .int 0]))] sz)) 393 2774 (va_A [(h0, .inr (8, [.null, .null, .int 0, .null, .null, .null, .null, .null, .int 0, .int 0, .int 0, .int 0, .int 0]))] sz) := by
  refine Met.ofW (cc := prog_9_method_1_code) (maxL := 2) (ret := none) (by decide) rfl ?_
  intro p e s m args below meth c s₁ B hml hv
  obtain ⟨rfl, hsz, hB, hP, hK, hD0⟩ := hv
  have hx := B.exec
  have hb := B.bytes
  have hr := B.returns
  have hown : s.vm.findClass "BigRunner$Runner" = some m.cls := findClass_of_methodNamed B.named
  have hlocks := B.notSynchronized
  have hin : meth.name = "<init>" := (name_of_methodNamed B.named B.method).1
  subst hsz
  have hD := hD0.self (sz := s.heap.size)
  generalize hAe : va_A [(h0, .inr (8, [.null, .null, .int 0, .null, .null, .null, .null, .null, .int 0, .int 0, .int 0, .int 0, .int 0]))] s.heap.size = A at hD ⊢
  have hA : ∀ q : Nat, s.heap.size ≤ q → A q := fun q h => by rw [← hAe]; exact Or.inr h
  have hS : va_S A s.heap s.heap [] := va_S.rf
  have hP : va_P (dC, dI) vcl [(h0, .inr (8, [.null, .null, .int 0, .null, .null, .null, .null, .null, .int 0, .int 0, .int 0, .int 0, .int 0]))] s.heap := hP
  have hl := lv_entry ([.ref h0]) (n := 2) (Nat.le_of_ble_eq_true rfl)
  rw [lg_entry_eq]
  generalize (lg_sl ([.ref h0]) ++ List.replicate (2 - (lg_sl ([.ref h0])).length) Slot.unset).toArray = ls at hl ⊢
  have hl : lv_has ls 2 [(0, .ref h0)] := hl
  refine lv_aload_n hx hb d_NRunner_init_0 rfl (lv_at hl 0 rfl) ?_
  refine W.objInit hx hb hown (wd_289 hB _) (wd_101 hB _) (wd_102 hB _) rfl (by rw [hml]; exact hl.1) rfl d_NRunner_init_1 (Nat.le_of_ble_eq_true rfl) (Nat.le_of_ble_eq_true rfl) ?_
  refine W.eq (g2 := F0 m 4 ls []) rfl ?_
  refine lv_aload_n hx hb d_NRunner_init_4 rfl (lv_at hl 0 rfl) ?_
  refine va_new (ci := 6) (fs := [.null, .int 0, .null, .int 0, .null, .null]) (C := "BigRunner$Program") (T := FT6) (N := 6) hx hb (hw6 hB _) (fun _ h9 => h9) TY6 ok6 hown (wd_290 hB _) (wd_110 hB _) (wd_74 hB _) hK hP hD hS hA rfl (fun j hj => by rcases (show j = 0 ∨ j = 1 ∨ j = 2 ∨ j = 3 ∨ j = 4 ∨ j = 5 by omega) with rfl | rfl | rfl | rfl | rfl | rfl <;> rfl) (Nat.le_of_ble_eq_true rfl) (Nat.le_of_ble_eq_true rfl) d_NRunner_init_5 (fun q5_1 H hP hD hS => ?_)
  have hP : va_P (dC, dI) vcl [(h0, .inr (8, [.null, .null, .int 0, .null, .null, .null, .null, .null, .int 0, .int 0, .int 0, .int 0, .int 0])), (q5_1, .inr (6, [.null, .int 0, .null, .int 0, .null, .null]))] H := hP
  have hD : va_D A [(h0, .inr (8, [.null, .null, .int 0, .null, .null, .null, .null, .null, .int 0, .int 0, .int 0, .int 0, .int 0])), (q5_1, .inr (6, [.null, .int 0, .null, .int 0, .null, .null]))] := hD
  refine W.widen (k := 1) (n := 6) (by omega) (by omega) ?_
  refine lv_dup hx hb d_NRunner_init_8 rfl ?_
  have hPc := hP.sub (ws' := [(q5_1, .inr (6, [.null, .int 0, .null, .int 0, .null, .null]))]) [1] rfl
  have hDc := hD.sub (ws' := [(q5_1, .inr (6, [.null, .int 0, .null, .int 0, .null, .null]))]) [1] (by decide) rfl
  have hKc := hK.sub (tys' := []) [] rfl
  have hFc := va_free (wc := [(q5_1, .inr (6, [.null, .int 0, .null, .int 0, .null, .null]))]) hD hS hA [1] rfl
  refine va_callv (va_runI (As := []) (rest := [.ref q5_1, .ref h0]) ⟨hx, hb, hml, hown, tb_nil⟩ (c_Program_init l dC dI H.size q5_1) ⟨(callB_of 0 (tb_one (wd_113 hB _)) tb_good1 rfl rfl rfl (wd_74 hB _) (wd_291 hB _) (by decide +kernel) ⟨Nat.le_of_ble_eq_true rfl, Nat.le_of_ble_eq_true rfl⟩), rfl, (wd_112 hB _)⟩ ⟨fun a U g mk q => by obtain ⟨q0, q1, qB, qP, qK, qD⟩ := q; exact ⟨q0, q1, TB.same (s := U) (U := U.calling g mk a) rfl qB, qP, va_K.moved (u := U) (U := U.calling g mk a) (Vm.Alike.refl U.vm) qK, qD⟩, fun U hU hW => ⟨rfl, by rw [hU], hB.moved hW, by rw [hU]; exact hPc, va_K.moved hW.alike hKc, hDc.weaken (fun _ _ _ _ => trivial)⟩⟩ rfl rfl hl.1 rfl (lv_room (Nat.le_of_ble_eq_true rfl)) d_NRunner_init_9 ⟨(Nat.le_of_ble_eq_true rfl), (Nat.le_of_ble_eq_true rfl)⟩) hS (fun q _ h => hFc q h) hFc (fun u_ t H1 locs ht hvm hw_ hB1 hz1 hk1 hS => ?_)
  obtain ⟨u9_2, u9_3, u9_4, u9_5, u9_6, u9_7, u9_8⟩ := u_
  obtain ⟨hP1, hK1, hD1⟩ := hB1
  rw [ht] at hP1
  have hK1 := va_K.moved hvm.symm hK1
  try dsimp only at hw_
  obtain ⟨hP, hD⟩ := va_join (wr := [(h0, .inr (8, [.null, .null, .int 0, .null, .null, .null, .null, .null, .int 0, .int 0, .int 0, .int 0, .int 0]))]) (w1 := [(q5_1, .inr (6, [.ref u9_2, .int 0, .ref u9_6, .int 0, .ref u9_7, .ref u9_8])), (u9_2, .inl (u9_3, 36, .inr (.inr (.inr (.inr (u9_4)))))), (u9_5, .inr (9, [.int 5, .int 0, .int 0, .int (-1), .int 0]))]) hP hD [1] [0] rfl rfl (by decide) (by decide) hk1 hFc hP1 hD1
  have hK := (hK.sub (tys' := []) [] rfl).app hK1
  clear hk1 hFc hPc hDc hKc hP1 hD1 hK1 hz1 ht hvm
  generalize H1 = H at hP hS ⊢
  have hP : va_P (dC, dI) vcl [(h0, .inr (8, [.null, .null, .int 0, .null, .null, .null, .null, .null, .int 0, .int 0, .int 0, .int 0, .int 0])), (q5_1, .inr (6, [.ref u9_2, .int 0, .ref u9_6, .int 0, .ref u9_7, .ref u9_8])), (u9_2, .inl (u9_3, 36, .inr (.inr (.inr (.inr (u9_4)))))), (u9_5, .inr (9, [.int 5, .int 0, .int 0, .int (-1), .int 0]))] H := hP
  have hD : va_D A [(h0, .inr (8, [.null, .null, .int 0, .null, .null, .null, .null, .null, .int 0, .int 0, .int 0, .int 0, .int 0])), (q5_1, .inr (6, [.ref u9_2, .int 0, .ref u9_6, .int 0, .ref u9_7, .ref u9_8])), (u9_2, .inl (u9_3, 36, .inr (.inr (.inr (.inr (u9_4)))))), (u9_5, .inr (9, [.int 5, .int 0, .int 0, .int (-1), .int 0]))] := hD
  have hK : va_K (dC, dI) vcl [(u9_3, (.object "BigRunner$Statement"))] s := hK
  refine W.widen (k := 339) (n := 2270) (by omega) (by omega) ?_
  have hD := hD.sub (ws' := [(h0, .inr (8, [.null, .null, .int 0, .null, .null, .null, .null, .null, .int 0, .int 0, .int 0, .int 0, .int 0]))]) [0] (by decide) rfl
  have hP := hP.sub (ws' := [(h0, .inr (8, [.null, .null, .int 0, .null, .null, .null, .null, .null, .int 0, .int 0, .int 0, .int 0, .int 0]))]) [0] rfl
  have hK := hK.sub (tys' := []) [] rfl
  refine va_put (D := (dC, dI)) (ci := 8) (v := .ref q5_1) (ty := (.object "BigRunner$Program")) (C := "BigRunner$Runner") (T := FT8) (N := 13) hx hb (hw8 hB _) (fun _ h9 => h9) TY8 ok8 nm8 hown hK hP hD hS 0 rfl rfl 0 (by decide) (wd_330 hB _) (fun _ h9 => h9) rfl (by decide +kernel) rfl rfl (Nat.le_of_ble_eq_true rfl) d_NRunner_init_12 (fun H locs hP hD hS => ?_)
  have hP : va_P (dC, dI) vcl [(h0, .inr (8, [.ref q5_1, .null, .int 0, .null, .null, .null, .null, .null, .int 0, .int 0, .int 0, .int 0, .int 0]))] H := hP
  have hD : va_D A [(h0, .inr (8, [.ref q5_1, .null, .int 0, .null, .null, .null, .null, .null, .int 0, .int 0, .int 0, .int 0, .int 0]))] := hD
  refine lv_aload_n hx hb d_NRunner_init_15 rfl (lv_at hl 0 rfl) ?_
  refine va_new (ci := 1) (fs := [.null, .int 0, .int 0]) (C := "BigRunner$Inputs") (T := FT1) (N := 3) hx hb (hw1 hB _) (fun _ h9 => h9) TY1 ok1 hown (wd_292 hB _) (wd_293 hB _) (wd_80 hB _) hK hP hD hS hA rfl (fun j hj => by rcases (show j = 0 ∨ j = 1 ∨ j = 2 by omega) with rfl | rfl | rfl <;> rfl) (Nat.le_of_ble_eq_true rfl) (Nat.le_of_ble_eq_true rfl) d_NRunner_init_16 (fun q16_9 H hP hD hS => ?_)
  have hP : va_P (dC, dI) vcl [(h0, .inr (8, [.ref q5_1, .null, .int 0, .null, .null, .null, .null, .null, .int 0, .int 0, .int 0, .int 0, .int 0])), (q16_9, .inr (1, [.null, .int 0, .int 0]))] H := hP
  have hD : va_D A [(h0, .inr (8, [.ref q5_1, .null, .int 0, .null, .null, .null, .null, .null, .int 0, .int 0, .int 0, .int 0, .int 0])), (q16_9, .inr (1, [.null, .int 0, .int 0]))] := hD
  refine W.widen (k := 340) (n := 2273) (by omega) (by omega) ?_
  refine lv_dup hx hb d_NRunner_init_19 rfl ?_
  have hPc := hP.sub (ws' := [(q16_9, .inr (1, [.null, .int 0, .int 0]))]) [1] rfl
  have hDc := hD.sub (ws' := [(q16_9, .inr (1, [.null, .int 0, .int 0]))]) [1] (by decide) rfl
  have hKc := hK.sub (tys' := []) [] rfl
  have hFc := va_free (wc := [(q16_9, .inr (1, [.null, .int 0, .int 0]))]) hD hS hA [1] rfl
  refine va_callv (va_runIN (As := []) (rest := [.ref q16_9, .ref h0]) ⟨hx, hb, hml, hown, tb_nil⟩ (c_Inputs_init l dC dI H.size q16_9) ⟨(va_cnB 0 (tb_one (wd_296 hB _)) tb_good1 rfl rfl rfl (va_Nw.of (A := #[]) rfl (wd_294 hB _)) (wd_80 hB _) (by decide +kernel) ⟨Nat.le_of_ble_eq_true rfl, Nat.le_of_ble_eq_true rfl⟩), rfl, (wd_295 hB _)⟩ ⟨fun a U g mk q => by obtain ⟨q0, q1, qB, qP, qK, qD⟩ := q; exact ⟨q0, q1, TB.same (s := U) (U := U.calling g mk a) rfl qB, qP, va_K.moved (u := U) (U := U.calling g mk a) (Vm.Alike.refl U.vm) qK, qD⟩, fun U hU hW => ⟨rfl, by rw [hU], hB.moved hW, by rw [hU]; exact hPc, va_K.moved hW.alike hKc, hDc.weaken (fun _ _ _ _ => trivial)⟩⟩ rfl rfl hl.1 rfl (lv_room (Nat.le_of_ble_eq_true rfl)) d_NRunner_init_20 ⟨(Nat.le_of_ble_eq_true rfl), (Nat.le_of_ble_eq_true rfl)⟩) hS (fun q _ h => hFc q h) hFc (fun u_ t H1 locs ht hvm hw_ hB1 hz1 hk1 hS => ?_)
  obtain ⟨u20_10, u20_11⟩ := u_
  obtain ⟨hP1, hK1, hD1⟩ := hB1
  rw [ht] at hP1
  have hK1 := va_K.moved hvm.symm hK1
  try dsimp only at hw_
  obtain ⟨hP, hD⟩ := va_join (wr := [(h0, .inr (8, [.ref q5_1, .null, .int 0, .null, .null, .null, .null, .null, .int 0, .int 0, .int 0, .int 0, .int 0]))]) (w1 := [(q16_9, .inr (1, [.ref u20_10, .int 0, .int 0])), (u20_10, .inl (u20_11, 20, .inl (fun _ => 0)))]) hP hD [1] [0] rfl rfl (by decide) (by decide) hk1 hFc hP1 hD1
  have hK := (hK.sub (tys' := []) [] rfl).app hK1
  clear hk1 hFc hPc hDc hKc hP1 hD1 hK1 hz1 ht hvm
  generalize H1 = H at hP hS ⊢
  have hP : va_P (dC, dI) vcl [(h0, .inr (8, [.ref q5_1, .null, .int 0, .null, .null, .null, .null, .null, .int 0, .int 0, .int 0, .int 0, .int 0])), (q16_9, .inr (1, [.ref u20_10, .int 0, .int 0])), (u20_10, .inl (u20_11, 20, .inl (fun _ => 0)))] H := hP
  have hD : va_D A [(h0, .inr (8, [.ref q5_1, .null, .int 0, .null, .null, .null, .null, .null, .int 0, .int 0, .int 0, .int 0, .int 0])), (q16_9, .inr (1, [.ref u20_10, .int 0, .int 0])), (u20_10, .inl (u20_11, 20, .inl (fun _ => 0)))] := hD
  have hK : va_K (dC, dI) vcl [(u20_11, .int)] s := hK
  refine W.widen (k := 341) (n := 2293) (by omega) (by omega) ?_
  refine va_putF (D := (dC, dI)) (ci := 8) (v := .ref q16_9) (ty := (.object "BigRunner$Inputs")) (C := "BigRunner$Runner") (T := FT8) (N := 13) hx hb (hw8 hB _) (fun _ h9 => h9) TY8 ok8 nm8 hown hK hP hD hS 0 rfl rfl 1 (by decide) (wd_332 hB _) (fun _ h9 => h9) rfl hin rfl (by decide +kernel) rfl rfl (Nat.le_of_ble_eq_true rfl) d_NRunner_init_23 (fun H locs hP hD hS => ?_)
  have hP : va_P (dC, dI) vcl [(h0, .inr (8, [.ref q5_1, .ref q16_9, .int 0, .null, .null, .null, .null, .null, .int 0, .int 0, .int 0, .int 0, .int 0])), (q16_9, .inr (1, [.ref u20_10, .int 0, .int 0])), (u20_10, .inl (u20_11, 20, .inl (fun _ => 0)))] H := hP
  have hD : va_D A [(h0, .inr (8, [.ref q5_1, .ref q16_9, .int 0, .null, .null, .null, .null, .null, .int 0, .int 0, .int 0, .int 0, .int 0])), (q16_9, .inr (1, [.ref u20_10, .int 0, .int 0])), (u20_10, .inl (u20_11, 20, .inl (fun _ => 0)))] := hD
  refine lv_aload_n hx hb d_NRunner_init_26 rfl (lv_at hl 0 rfl) ?_
  refine lv_iconst (v := 0) hx hb d_NRunner_init_27 (by decide) ?_
  refine va_put (D := (dC, dI)) (ci := 8) (v := .int 0) (ty := .int) (C := "BigRunner$Runner") (T := FT8) (N := 13) hx hb (hw8 hB _) (fun _ h9 => h9) TY8 ok8 nm8 hown hK hP hD hS 0 rfl rfl 2 (by decide) (wd_334 hB _) (fun _ h9 => h9) rfl (by decide +kernel) rfl rfl (Nat.le_of_ble_eq_true rfl) d_NRunner_init_28 (fun H locs hP hD hS => ?_)
  have hP : va_P (dC, dI) vcl [(h0, .inr (8, [.ref q5_1, .ref q16_9, .int 0, .null, .null, .null, .null, .null, .int 0, .int 0, .int 0, .int 0, .int 0])), (q16_9, .inr (1, [.ref u20_10, .int 0, .int 0])), (u20_10, .inl (u20_11, 20, .inl (fun _ => 0)))] H := hP
  have hD : va_D A [(h0, .inr (8, [.ref q5_1, .ref q16_9, .int 0, .null, .null, .null, .null, .null, .int 0, .int 0, .int 0, .int 0, .int 0])), (q16_9, .inr (1, [.ref u20_10, .int 0, .int 0])), (u20_10, .inl (u20_11, 20, .inl (fun _ => 0)))] := hD
  refine lv_aload_n hx hb d_NRunner_init_31 rfl (lv_at hl 0 rfl) ?_
  refine lv_bipush (v := 10) hx hb d_NRunner_init_32 (by decide) ?_
  refine va_newa (atype := .long) (a0 := (10, .inr (.inl (fun _ => 0)))) (N' := 10) (ty := .long) hx hb (wd_329 hB _) rfl hK hP hD hS hA (fun _ => rfl) (by decide +kernel) (by decide +kernel) (by decide +kernel) (Nat.le_of_ble_eq_true rfl) (Nat.le_of_ble_eq_true rfl) d_NRunner_init_34 (fun q34_12 cA34_13 H hK hP hD hS => ?_)
  have hP : va_P (dC, dI) vcl [(h0, .inr (8, [.ref q5_1, .ref q16_9, .int 0, .null, .null, .null, .null, .null, .int 0, .int 0, .int 0, .int 0, .int 0])), (q16_9, .inr (1, [.ref u20_10, .int 0, .int 0])), (u20_10, .inl (u20_11, 20, .inl (fun _ => 0))), (q34_12, .inl (cA34_13, 10, .inr (.inl (fun _ => 0))))] H := hP
  have hD : va_D A [(h0, .inr (8, [.ref q5_1, .ref q16_9, .int 0, .null, .null, .null, .null, .null, .int 0, .int 0, .int 0, .int 0, .int 0])), (q16_9, .inr (1, [.ref u20_10, .int 0, .int 0])), (u20_10, .inl (u20_11, 20, .inl (fun _ => 0))), (q34_12, .inl (cA34_13, 10, .inr (.inl (fun _ => 0))))] := hD
  have hK : va_K (dC, dI) vcl [(u20_11, .int), (cA34_13, .long)] s := hK
  refine W.widen (k := 342) (n := 2303) (by omega) (by omega) ?_
  refine va_putF (D := (dC, dI)) (ci := 8) (v := .ref q34_12) (ty := (.array .long)) (C := "BigRunner$Runner") (T := FT8) (N := 13) hx hb (hw8 hB _) (fun _ h9 => h9) TY8 ok8 nm8 hown hK hP hD hS 0 rfl rfl 3 (by decide) (wd_335 hB _) (fun _ h9 => h9) rfl hin rfl (by decide +kernel) rfl rfl (Nat.le_of_ble_eq_true rfl) d_NRunner_init_36 (fun H locs hP hD hS => ?_)
  have hP : va_P (dC, dI) vcl [(h0, .inr (8, [.ref q5_1, .ref q16_9, .int 0, .ref q34_12, .null, .null, .null, .null, .int 0, .int 0, .int 0, .int 0, .int 0])), (q16_9, .inr (1, [.ref u20_10, .int 0, .int 0])), (u20_10, .inl (u20_11, 20, .inl (fun _ => 0))), (q34_12, .inl (cA34_13, 10, .inr (.inl (fun _ => 0))))] H := hP
  have hD : va_D A [(h0, .inr (8, [.ref q5_1, .ref q16_9, .int 0, .ref q34_12, .null, .null, .null, .null, .int 0, .int 0, .int 0, .int 0, .int 0])), (q16_9, .inr (1, [.ref u20_10, .int 0, .int 0])), (u20_10, .inl (u20_11, 20, .inl (fun _ => 0))), (q34_12, .inl (cA34_13, 10, .inr (.inl (fun _ => 0))))] := hD
  refine lv_aload_n hx hb d_NRunner_init_39 rfl (lv_at hl 0 rfl) ?_
  refine lv_bipush (v := 10) hx hb d_NRunner_init_40 (by decide) ?_
  refine va_newq (C := "BigRunner$LongNumber") (N' := 10) hx hb hown (wd_310 hB _) (va_AO.of (A := #[]) (wd_311 hB _)) hK hP hD hS hA (by decide +kernel) (by decide +kernel) (by decide +kernel) (Nat.le_of_ble_eq_true rfl) (Nat.le_of_ble_eq_true rfl) d_NRunner_init_42 (fun q42_14 cA42_15 H hK hP hD hS => ?_)
  have hP : va_P (dC, dI) vcl [(h0, .inr (8, [.ref q5_1, .ref q16_9, .int 0, .ref q34_12, .null, .null, .null, .null, .int 0, .int 0, .int 0, .int 0, .int 0])), (q16_9, .inr (1, [.ref u20_10, .int 0, .int 0])), (u20_10, .inl (u20_11, 20, .inl (fun _ => 0))), (q34_12, .inl (cA34_13, 10, .inr (.inl (fun _ => 0)))), (q42_14, .inl (cA42_15, 10, .inr (.inr (.inr (.inr (fun _ => none))))))] H := hP
  have hD : va_D A [(h0, .inr (8, [.ref q5_1, .ref q16_9, .int 0, .ref q34_12, .null, .null, .null, .null, .int 0, .int 0, .int 0, .int 0, .int 0])), (q16_9, .inr (1, [.ref u20_10, .int 0, .int 0])), (u20_10, .inl (u20_11, 20, .inl (fun _ => 0))), (q34_12, .inl (cA34_13, 10, .inr (.inl (fun _ => 0)))), (q42_14, .inl (cA42_15, 10, .inr (.inr (.inr (.inr (fun _ => none))))))] := hD
  have hK : va_K (dC, dI) vcl [(u20_11, .int), (cA34_13, .long), (cA42_15, (.object "BigRunner$LongNumber"))] s := hK
  refine W.widen (k := 343) (n := 2313) (by omega) (by omega) ?_
  refine va_putF (D := (dC, dI)) (ci := 8) (v := .ref q42_14) (ty := (.array (.object "BigRunner$LongNumber"))) (C := "BigRunner$Runner") (T := FT8) (N := 13) hx hb (hw8 hB _) (fun _ h9 => h9) TY8 ok8 nm8 hown hK hP hD hS 0 rfl rfl 4 (by decide) (wd_336 hB _) (fun _ h9 => h9) rfl hin rfl (by decide +kernel) rfl rfl (Nat.le_of_ble_eq_true rfl) d_NRunner_init_45 (fun H locs hP hD hS => ?_)
  have hP : va_P (dC, dI) vcl [(h0, .inr (8, [.ref q5_1, .ref q16_9, .int 0, .ref q34_12, .ref q42_14, .null, .null, .null, .int 0, .int 0, .int 0, .int 0, .int 0])), (q16_9, .inr (1, [.ref u20_10, .int 0, .int 0])), (u20_10, .inl (u20_11, 20, .inl (fun _ => 0))), (q34_12, .inl (cA34_13, 10, .inr (.inl (fun _ => 0)))), (q42_14, .inl (cA42_15, 10, .inr (.inr (.inr (.inr (fun _ => none))))))] H := hP
  have hD : va_D A [(h0, .inr (8, [.ref q5_1, .ref q16_9, .int 0, .ref q34_12, .ref q42_14, .null, .null, .null, .int 0, .int 0, .int 0, .int 0, .int 0])), (q16_9, .inr (1, [.ref u20_10, .int 0, .int 0])), (u20_10, .inl (u20_11, 20, .inl (fun _ => 0))), (q34_12, .inl (cA34_13, 10, .inr (.inl (fun _ => 0)))), (q42_14, .inl (cA42_15, 10, .inr (.inr (.inr (.inr (fun _ => none))))))] := hD
  have hD := hD.sub (ws' := [(h0, .inr (8, [.ref q5_1, .ref q16_9, .int 0, .ref q34_12, .ref q42_14, .null, .null, .null, .int 0, .int 0, .int 0, .int 0, .int 0])), (q16_9, .inr (1, [.ref u20_10, .int 0, .int 0])), (u20_10, .inl (u20_11, 20, .inl (fun _ => 0))), (q42_14, .inl (cA42_15, 10, .inr (.inr (.inr (.inr (fun _ => none))))))]) [0, 1, 2, 4] (by decide) rfl
  have hP := hP.sub (ws' := [(h0, .inr (8, [.ref q5_1, .ref q16_9, .int 0, .ref q34_12, .ref q42_14, .null, .null, .null, .int 0, .int 0, .int 0, .int 0, .int 0])), (q16_9, .inr (1, [.ref u20_10, .int 0, .int 0])), (u20_10, .inl (u20_11, 20, .inl (fun _ => 0))), (q42_14, .inl (cA42_15, 10, .inr (.inr (.inr (.inr (fun _ => none))))))]) [0, 1, 2, 4] rfl
  have hK := hK.sub (tys' := [(u20_11, .int), (cA42_15, (.object "BigRunner$LongNumber"))]) [0, 2] rfl
  refine lv_aload_n hx hb d_NRunner_init_48 rfl (lv_at hl 0 rfl) ?_
  refine va_new (ci := 4) (fs := [.int 0, .int 0, .null]) (C := "BigRunner$LongNumber") (T := FT4) (N := 3) hx hb (hw4 hB _) (fun _ h9 => h9) TY4 ok4 hown (wd_310 hB _) (wd_181 hB _) (wd_78 hB _) hK hP hD hS hA rfl (fun j hj => by rcases (show j = 0 ∨ j = 1 ∨ j = 2 by omega) with rfl | rfl | rfl <;> rfl) (Nat.le_of_ble_eq_true rfl) (Nat.le_of_ble_eq_true rfl) d_NRunner_init_49 (fun q49_16 H hP hD hS => ?_)
  have hP : va_P (dC, dI) vcl [(h0, .inr (8, [.ref q5_1, .ref q16_9, .int 0, .ref q34_12, .ref q42_14, .null, .null, .null, .int 0, .int 0, .int 0, .int 0, .int 0])), (q16_9, .inr (1, [.ref u20_10, .int 0, .int 0])), (u20_10, .inl (u20_11, 20, .inl (fun _ => 0))), (q42_14, .inl (cA42_15, 10, .inr (.inr (.inr (.inr (fun _ => none)))))), (q49_16, .inr (4, [.int 0, .int 0, .null]))] H := hP
  have hD : va_D A [(h0, .inr (8, [.ref q5_1, .ref q16_9, .int 0, .ref q34_12, .ref q42_14, .null, .null, .null, .int 0, .int 0, .int 0, .int 0, .int 0])), (q16_9, .inr (1, [.ref u20_10, .int 0, .int 0])), (u20_10, .inl (u20_11, 20, .inl (fun _ => 0))), (q42_14, .inl (cA42_15, 10, .inr (.inr (.inr (.inr (fun _ => none)))))), (q49_16, .inr (4, [.int 0, .int 0, .null]))] := hD
  refine W.widen (k := 344) (n := 2316) (by omega) (by omega) ?_
  refine lv_dup hx hb d_NRunner_init_52 rfl ?_
  have hPc := hP.sub (ws' := [(q49_16, .inr (4, [.int 0, .int 0, .null]))]) [4] rfl
  have hDc := hD.sub (ws' := [(q49_16, .inr (4, [.int 0, .int 0, .null]))]) [4] (by decide) rfl
  have hKc := hK.sub (tys' := []) [] rfl
  have hFc := va_free (wc := [(q49_16, .inr (4, [.int 0, .int 0, .null]))]) hD hS hA [4] rfl
  refine va_callv (va_runIN (As := []) (rest := [.ref q49_16, .ref h0]) ⟨hx, hb, hml, hown, tb_nil⟩ (c_LongNumber_init l dC dI H.size q49_16) ⟨(va_cnB 0 (tb_one (wd_184 hB _)) tb_good1 rfl rfl rfl (va_Nw.of (A := #[]) rfl (wd_312 hB _)) (wd_78 hB _) (by decide +kernel) ⟨Nat.le_of_ble_eq_true rfl, Nat.le_of_ble_eq_true rfl⟩), rfl, (wd_183 hB _)⟩ ⟨fun a U g mk q => by obtain ⟨q0, q1, qB, qP, qK, qD⟩ := q; exact ⟨q0, q1, TB.same (s := U) (U := U.calling g mk a) rfl qB, qP, va_K.moved (u := U) (U := U.calling g mk a) (Vm.Alike.refl U.vm) qK, qD⟩, fun U hU hW => ⟨rfl, by rw [hU], hB.moved hW, by rw [hU]; exact hPc, va_K.moved hW.alike hKc, hDc.weaken (fun _ _ _ _ => trivial)⟩⟩ rfl rfl hl.1 rfl (lv_room (Nat.le_of_ble_eq_true rfl)) d_NRunner_init_53 ⟨(Nat.le_of_ble_eq_true rfl), (Nat.le_of_ble_eq_true rfl)⟩) hS (fun q _ h => hFc q h) hFc (fun u_ t H1 locs ht hvm hw_ hB1 hz1 hk1 hS => ?_)
  obtain ⟨u53_17, rfl⟩ : ∃ z, z = u_ := ⟨_, rfl⟩
  obtain ⟨hP1, hK1, hD1⟩ := hB1
  rw [ht] at hP1
  have hK1 := va_K.moved hvm.symm hK1
  try dsimp only at hw_
  obtain ⟨hP, hD⟩ := va_join (wr := [(h0, .inr (8, [.ref q5_1, .ref q16_9, .int 0, .ref q34_12, .ref q42_14, .null, .null, .null, .int 0, .int 0, .int 0, .int 0, .int 0])), (q16_9, .inr (1, [.ref u20_10, .int 0, .int 0])), (u20_10, .inl (u20_11, 20, .inl (fun _ => 0))), (q42_14, .inl (cA42_15, 10, .inr (.inr (.inr (.inr (fun _ => none))))))]) (w1 := [(q49_16, .inr (4, [.int 0, .int 0, .ref u53_17]))]) hP hD [4] [0, 1, 2, 3] rfl rfl (by decide) (by decide) hk1 hFc hP1 hD1
  have hK := (hK.sub (tys' := [(u20_11, .int), (cA42_15, (.object "BigRunner$LongNumber"))]) [0, 1] rfl).app hK1
  clear hk1 hFc hPc hDc hKc hP1 hD1 hK1 hz1 ht hvm
  generalize H1 = H at hP hS ⊢
  have hP : va_P (dC, dI) vcl [(h0, .inr (8, [.ref q5_1, .ref q16_9, .int 0, .ref q34_12, .ref q42_14, .null, .null, .null, .int 0, .int 0, .int 0, .int 0, .int 0])), (q16_9, .inr (1, [.ref u20_10, .int 0, .int 0])), (u20_10, .inl (u20_11, 20, .inl (fun _ => 0))), (q42_14, .inl (cA42_15, 10, .inr (.inr (.inr (.inr (fun _ => none)))))), (q49_16, .inr (4, [.int 0, .int 0, .ref u53_17]))] H := hP
  have hD : va_D A [(h0, .inr (8, [.ref q5_1, .ref q16_9, .int 0, .ref q34_12, .ref q42_14, .null, .null, .null, .int 0, .int 0, .int 0, .int 0, .int 0])), (q16_9, .inr (1, [.ref u20_10, .int 0, .int 0])), (u20_10, .inl (u20_11, 20, .inl (fun _ => 0))), (q42_14, .inl (cA42_15, 10, .inr (.inr (.inr (.inr (fun _ => none)))))), (q49_16, .inr (4, [.int 0, .int 0, .ref u53_17]))] := hD
  have hK : va_K (dC, dI) vcl [(u20_11, .int), (cA42_15, (.object "BigRunner$LongNumber"))] s := hK
  refine W.widen (k := 345) (n := 2331) (by omega) (by omega) ?_
  refine va_putF (D := (dC, dI)) (ci := 8) (v := .ref q49_16) (ty := (.object "BigRunner$LongNumber")) (C := "BigRunner$Runner") (T := FT8) (N := 13) hx hb (hw8 hB _) (fun _ h9 => h9) TY8 ok8 nm8 hown hK hP hD hS 0 rfl rfl 5 (by decide) (wd_337 hB _) (fun _ h9 => h9) rfl hin rfl (by decide +kernel) rfl rfl (Nat.le_of_ble_eq_true rfl) d_NRunner_init_56 (fun H locs hP hD hS => ?_)
  have hP : va_P (dC, dI) vcl [(h0, .inr (8, [.ref q5_1, .ref q16_9, .int 0, .ref q34_12, .ref q42_14, .ref q49_16, .null, .null, .int 0, .int 0, .int 0, .int 0, .int 0])), (q16_9, .inr (1, [.ref u20_10, .int 0, .int 0])), (u20_10, .inl (u20_11, 20, .inl (fun _ => 0))), (q42_14, .inl (cA42_15, 10, .inr (.inr (.inr (.inr (fun _ => none)))))), (q49_16, .inr (4, [.int 0, .int 0, .ref u53_17]))] H := hP
  have hD : va_D A [(h0, .inr (8, [.ref q5_1, .ref q16_9, .int 0, .ref q34_12, .ref q42_14, .ref q49_16, .null, .null, .int 0, .int 0, .int 0, .int 0, .int 0])), (q16_9, .inr (1, [.ref u20_10, .int 0, .int 0])), (u20_10, .inl (u20_11, 20, .inl (fun _ => 0))), (q42_14, .inl (cA42_15, 10, .inr (.inr (.inr (.inr (fun _ => none)))))), (q49_16, .inr (4, [.int 0, .int 0, .ref u53_17]))] := hD
  refine lv_aload_n hx hb d_NRunner_init_59 rfl (lv_at hl 0 rfl) ?_
  refine va_new (ci := 3) (fs := [.null, .null, .int 0]) (C := "BigRunner$LongDivision") (T := FT3) (N := 3) hx hb (hw3 hB _) (fun _ h9 => h9) TY3 ok3 hown (wd_313 hB _) (wd_314 hB _) (wd_81 hB _) hK hP hD hS hA rfl (fun j hj => by rcases (show j = 0 ∨ j = 1 ∨ j = 2 by omega) with rfl | rfl | rfl <;> rfl) (Nat.le_of_ble_eq_true rfl) (Nat.le_of_ble_eq_true rfl) d_NRunner_init_60 (fun q60_18 H hP hD hS => ?_)
  have hP : va_P (dC, dI) vcl [(h0, .inr (8, [.ref q5_1, .ref q16_9, .int 0, .ref q34_12, .ref q42_14, .ref q49_16, .null, .null, .int 0, .int 0, .int 0, .int 0, .int 0])), (q16_9, .inr (1, [.ref u20_10, .int 0, .int 0])), (u20_10, .inl (u20_11, 20, .inl (fun _ => 0))), (q42_14, .inl (cA42_15, 10, .inr (.inr (.inr (.inr (fun _ => none)))))), (q49_16, .inr (4, [.int 0, .int 0, .ref u53_17])), (q60_18, .inr (3, [.null, .null, .int 0]))] H := hP
  have hD : va_D A [(h0, .inr (8, [.ref q5_1, .ref q16_9, .int 0, .ref q34_12, .ref q42_14, .ref q49_16, .null, .null, .int 0, .int 0, .int 0, .int 0, .int 0])), (q16_9, .inr (1, [.ref u20_10, .int 0, .int 0])), (u20_10, .inl (u20_11, 20, .inl (fun _ => 0))), (q42_14, .inl (cA42_15, 10, .inr (.inr (.inr (.inr (fun _ => none)))))), (q49_16, .inr (4, [.int 0, .int 0, .ref u53_17])), (q60_18, .inr (3, [.null, .null, .int 0]))] := hD
  refine W.widen (k := 346) (n := 2334) (by omega) (by omega) ?_
  refine lv_dup hx hb d_NRunner_init_63 rfl ?_
  have hPc := hP.sub (ws' := [(q60_18, .inr (3, [.null, .null, .int 0]))]) [5] rfl
  have hDc := hD.sub (ws' := [(q60_18, .inr (3, [.null, .null, .int 0]))]) [5] (by decide) rfl
  have hKc := hK.sub (tys' := []) [] rfl
  have hFc := va_free (wc := [(q60_18, .inr (3, [.null, .null, .int 0]))]) hD hS hA [5] rfl
  refine va_callv (va_runIN (As := []) (rest := [.ref q60_18, .ref h0]) ⟨hx, hb, hml, hown, tb_nil⟩ (c_LongDivision_init l dC dI H.size q60_18) ⟨(va_cnB 0 (tb_one (wd_317 hB _)) tb_good1 rfl rfl rfl (va_Nw.of (A := #[]) rfl (wd_315 hB _)) (wd_81 hB _) (by decide +kernel) ⟨Nat.le_of_ble_eq_true rfl, Nat.le_of_ble_eq_true rfl⟩), rfl, (wd_316 hB _)⟩ ⟨fun a U g mk q => by obtain ⟨q0, q1, qB, qP, qK, qD⟩ := q; exact ⟨q0, q1, TB.same (s := U) (U := U.calling g mk a) rfl qB, qP, va_K.moved (u := U) (U := U.calling g mk a) (Vm.Alike.refl U.vm) qK, qD⟩, fun U hU hW => ⟨rfl, by rw [hU], hB.moved hW, by rw [hU]; exact hPc, va_K.moved hW.alike hKc, hDc.weaken (fun _ _ _ _ => trivial)⟩⟩ rfl rfl hl.1 rfl (lv_room (Nat.le_of_ble_eq_true rfl)) d_NRunner_init_64 ⟨(Nat.le_of_ble_eq_true rfl), (Nat.le_of_ble_eq_true rfl)⟩) hS (fun q _ h => hFc q h) hFc (fun u_ t H1 locs ht hvm hw_ hB1 hz1 hk1 hS => ?_)
  obtain ⟨u64_19, u64_20⟩ := u_
  obtain ⟨hP1, hK1, hD1⟩ := hB1
  rw [ht] at hP1
  have hK1 := va_K.moved hvm.symm hK1
  try dsimp only at hw_
  obtain ⟨hP, hD⟩ := va_join (wr := [(h0, .inr (8, [.ref q5_1, .ref q16_9, .int 0, .ref q34_12, .ref q42_14, .ref q49_16, .null, .null, .int 0, .int 0, .int 0, .int 0, .int 0])), (q16_9, .inr (1, [.ref u20_10, .int 0, .int 0])), (u20_10, .inl (u20_11, 20, .inl (fun _ => 0))), (q42_14, .inl (cA42_15, 10, .inr (.inr (.inr (.inr (fun _ => none)))))), (q49_16, .inr (4, [.int 0, .int 0, .ref u53_17]))]) (w1 := [(q60_18, .inr (3, [.ref u64_19, .ref u64_20, .int 0]))]) hP hD [5] [0, 1, 2, 3, 4] rfl rfl (by decide) (by decide) hk1 hFc hP1 hD1
  have hK := (hK.sub (tys' := [(u20_11, .int), (cA42_15, (.object "BigRunner$LongNumber"))]) [0, 1] rfl).app hK1
  clear hk1 hFc hPc hDc hKc hP1 hD1 hK1 hz1 ht hvm
  generalize H1 = H at hP hS ⊢
  have hP : va_P (dC, dI) vcl [(h0, .inr (8, [.ref q5_1, .ref q16_9, .int 0, .ref q34_12, .ref q42_14, .ref q49_16, .null, .null, .int 0, .int 0, .int 0, .int 0, .int 0])), (q16_9, .inr (1, [.ref u20_10, .int 0, .int 0])), (u20_10, .inl (u20_11, 20, .inl (fun _ => 0))), (q42_14, .inl (cA42_15, 10, .inr (.inr (.inr (.inr (fun _ => none)))))), (q49_16, .inr (4, [.int 0, .int 0, .ref u53_17])), (q60_18, .inr (3, [.ref u64_19, .ref u64_20, .int 0]))] H := hP
  have hD : va_D A [(h0, .inr (8, [.ref q5_1, .ref q16_9, .int 0, .ref q34_12, .ref q42_14, .ref q49_16, .null, .null, .int 0, .int 0, .int 0, .int 0, .int 0])), (q16_9, .inr (1, [.ref u20_10, .int 0, .int 0])), (u20_10, .inl (u20_11, 20, .inl (fun _ => 0))), (q42_14, .inl (cA42_15, 10, .inr (.inr (.inr (.inr (fun _ => none)))))), (q49_16, .inr (4, [.int 0, .int 0, .ref u53_17])), (q60_18, .inr (3, [.ref u64_19, .ref u64_20, .int 0]))] := hD
  have hK : va_K (dC, dI) vcl [(u20_11, .int), (cA42_15, (.object "BigRunner$LongNumber"))] s := hK
  refine W.widen (k := 348) (n := 2366) (by omega) (by omega) ?_
  refine va_putF (D := (dC, dI)) (ci := 8) (v := .ref q60_18) (ty := (.object "BigRunner$LongDivision")) (C := "BigRunner$Runner") (T := FT8) (N := 13) hx hb (hw8 hB _) (fun _ h9 => h9) TY8 ok8 nm8 hown hK hP hD hS 0 rfl rfl 6 (by decide) (wd_338 hB _) (fun _ h9 => h9) rfl hin rfl (by decide +kernel) rfl rfl (Nat.le_of_ble_eq_true rfl) d_NRunner_init_67 (fun H locs hP hD hS => ?_)
  have hP : va_P (dC, dI) vcl [(h0, .inr (8, [.ref q5_1, .ref q16_9, .int 0, .ref q34_12, .ref q42_14, .ref q49_16, .ref q60_18, .null, .int 0, .int 0, .int 0, .int 0, .int 0])), (q16_9, .inr (1, [.ref u20_10, .int 0, .int 0])), (u20_10, .inl (u20_11, 20, .inl (fun _ => 0))), (q42_14, .inl (cA42_15, 10, .inr (.inr (.inr (.inr (fun _ => none)))))), (q49_16, .inr (4, [.int 0, .int 0, .ref u53_17])), (q60_18, .inr (3, [.ref u64_19, .ref u64_20, .int 0]))] H := hP
  have hD : va_D A [(h0, .inr (8, [.ref q5_1, .ref q16_9, .int 0, .ref q34_12, .ref q42_14, .ref q49_16, .ref q60_18, .null, .int 0, .int 0, .int 0, .int 0, .int 0])), (q16_9, .inr (1, [.ref u20_10, .int 0, .int 0])), (u20_10, .inl (u20_11, 20, .inl (fun _ => 0))), (q42_14, .inl (cA42_15, 10, .inr (.inr (.inr (.inr (fun _ => none)))))), (q49_16, .inr (4, [.int 0, .int 0, .ref u53_17])), (q60_18, .inr (3, [.ref u64_19, .ref u64_20, .int 0]))] := hD
  refine lv_aload_n hx hb d_NRunner_init_70 rfl (lv_at hl 0 rfl) ?_
  refine lv_bipush (v := 12) hx hb d_NRunner_init_71 (by decide) ?_
  refine va_newq (C := "BigRunner$LongNumber") (N' := 12) hx hb hown (wd_310 hB _) (va_AO.of (A := #[]) (wd_311 hB _)) hK hP hD hS hA (by decide +kernel) (by decide +kernel) (by decide +kernel) (Nat.le_of_ble_eq_true rfl) (Nat.le_of_ble_eq_true rfl) d_NRunner_init_73 (fun q73_21 cA73_22 H hK hP hD hS => ?_)
  have hP : va_P (dC, dI) vcl [(h0, .inr (8, [.ref q5_1, .ref q16_9, .int 0, .ref q34_12, .ref q42_14, .ref q49_16, .ref q60_18, .null, .int 0, .int 0, .int 0, .int 0, .int 0])), (q16_9, .inr (1, [.ref u20_10, .int 0, .int 0])), (u20_10, .inl (u20_11, 20, .inl (fun _ => 0))), (q42_14, .inl (cA42_15, 10, .inr (.inr (.inr (.inr (fun _ => none)))))), (q49_16, .inr (4, [.int 0, .int 0, .ref u53_17])), (q60_18, .inr (3, [.ref u64_19, .ref u64_20, .int 0])), (q73_21, .inl (cA73_22, 12, .inr (.inr (.inr (.inr (fun _ => none))))))] H := hP
  have hD : va_D A [(h0, .inr (8, [.ref q5_1, .ref q16_9, .int 0, .ref q34_12, .ref q42_14, .ref q49_16, .ref q60_18, .null, .int 0, .int 0, .int 0, .int 0, .int 0])), (q16_9, .inr (1, [.ref u20_10, .int 0, .int 0])), (u20_10, .inl (u20_11, 20, .inl (fun _ => 0))), (q42_14, .inl (cA42_15, 10, .inr (.inr (.inr (.inr (fun _ => none)))))), (q49_16, .inr (4, [.int 0, .int 0, .ref u53_17])), (q60_18, .inr (3, [.ref u64_19, .ref u64_20, .int 0])), (q73_21, .inl (cA73_22, 12, .inr (.inr (.inr (.inr (fun _ => none))))))] := hD
  have hK : va_K (dC, dI) vcl [(u20_11, .int), (cA42_15, (.object "BigRunner$LongNumber")), (cA73_22, (.object "BigRunner$LongNumber"))] s := hK
  refine W.widen (k := 349) (n := 2378) (by omega) (by omega) ?_
  refine va_putF (D := (dC, dI)) (ci := 8) (v := .ref q73_21) (ty := (.array (.object "BigRunner$LongNumber"))) (C := "BigRunner$Runner") (T := FT8) (N := 13) hx hb (hw8 hB _) (fun _ h9 => h9) TY8 ok8 nm8 hown hK hP hD hS 0 rfl rfl 7 (by decide) (wd_339 hB _) (fun _ h9 => h9) rfl hin rfl (by decide +kernel) rfl rfl (Nat.le_of_ble_eq_true rfl) d_NRunner_init_76 (fun H locs hP hD hS => ?_)
  have hP : va_P (dC, dI) vcl [(h0, .inr (8, [.ref q5_1, .ref q16_9, .int 0, .ref q34_12, .ref q42_14, .ref q49_16, .ref q60_18, .ref q73_21, .int 0, .int 0, .int 0, .int 0, .int 0])), (q16_9, .inr (1, [.ref u20_10, .int 0, .int 0])), (u20_10, .inl (u20_11, 20, .inl (fun _ => 0))), (q42_14, .inl (cA42_15, 10, .inr (.inr (.inr (.inr (fun _ => none)))))), (q49_16, .inr (4, [.int 0, .int 0, .ref u53_17])), (q60_18, .inr (3, [.ref u64_19, .ref u64_20, .int 0])), (q73_21, .inl (cA73_22, 12, .inr (.inr (.inr (.inr (fun _ => none))))))] H := hP
  have hD : va_D A [(h0, .inr (8, [.ref q5_1, .ref q16_9, .int 0, .ref q34_12, .ref q42_14, .ref q49_16, .ref q60_18, .ref q73_21, .int 0, .int 0, .int 0, .int 0, .int 0])), (q16_9, .inr (1, [.ref u20_10, .int 0, .int 0])), (u20_10, .inl (u20_11, 20, .inl (fun _ => 0))), (q42_14, .inl (cA42_15, 10, .inr (.inr (.inr (.inr (fun _ => none)))))), (q49_16, .inr (4, [.int 0, .int 0, .ref u53_17])), (q60_18, .inr (3, [.ref u64_19, .ref u64_20, .int 0])), (q73_21, .inl (cA73_22, 12, .inr (.inr (.inr (.inr (fun _ => none))))))] := hD
  refine lv_aload_n hx hb d_NRunner_init_79 rfl (lv_at hl 0 rfl) ?_
  refine lv_iconst (v := 0) hx hb d_NRunner_init_80 (by decide) ?_
  refine va_put (D := (dC, dI)) (ci := 8) (v := .int 0) (ty := .int) (C := "BigRunner$Runner") (T := FT8) (N := 13) hx hb (hw8 hB _) (fun _ h9 => h9) TY8 ok8 nm8 hown hK hP hD hS 0 rfl rfl 8 (by decide) (wd_341 hB _) (fun _ h9 => h9) rfl (by decide +kernel) rfl rfl (Nat.le_of_ble_eq_true rfl) d_NRunner_init_81 (fun H locs hP hD hS => ?_)
  have hP : va_P (dC, dI) vcl [(h0, .inr (8, [.ref q5_1, .ref q16_9, .int 0, .ref q34_12, .ref q42_14, .ref q49_16, .ref q60_18, .ref q73_21, .int 0, .int 0, .int 0, .int 0, .int 0])), (q16_9, .inr (1, [.ref u20_10, .int 0, .int 0])), (u20_10, .inl (u20_11, 20, .inl (fun _ => 0))), (q42_14, .inl (cA42_15, 10, .inr (.inr (.inr (.inr (fun _ => none)))))), (q49_16, .inr (4, [.int 0, .int 0, .ref u53_17])), (q60_18, .inr (3, [.ref u64_19, .ref u64_20, .int 0])), (q73_21, .inl (cA73_22, 12, .inr (.inr (.inr (.inr (fun _ => none))))))] H := hP
  have hD : va_D A [(h0, .inr (8, [.ref q5_1, .ref q16_9, .int 0, .ref q34_12, .ref q42_14, .ref q49_16, .ref q60_18, .ref q73_21, .int 0, .int 0, .int 0, .int 0, .int 0])), (q16_9, .inr (1, [.ref u20_10, .int 0, .int 0])), (u20_10, .inl (u20_11, 20, .inl (fun _ => 0))), (q42_14, .inl (cA42_15, 10, .inr (.inr (.inr (.inr (fun _ => none)))))), (q49_16, .inr (4, [.int 0, .int 0, .ref u53_17])), (q60_18, .inr (3, [.ref u64_19, .ref u64_20, .int 0])), (q73_21, .inl (cA73_22, 12, .inr (.inr (.inr (.inr (fun _ => none))))))] := hD
  refine lv_aload_n hx hb d_NRunner_init_84 rfl (lv_at hl 0 rfl) ?_
  refine lv_iconst (v := 0) hx hb d_NRunner_init_85 (by decide) ?_
  refine va_put (D := (dC, dI)) (ci := 8) (v := .int 0) (ty := .int) (C := "BigRunner$Runner") (T := FT8) (N := 13) hx hb (hw8 hB _) (fun _ h9 => h9) TY8 ok8 nm8 hown hK hP hD hS 0 rfl rfl 9 (by decide) (wd_343 hB _) (fun _ h9 => h9) rfl (by decide +kernel) rfl rfl (Nat.le_of_ble_eq_true rfl) d_NRunner_init_86 (fun H locs hP hD hS => ?_)
  have hP : va_P (dC, dI) vcl [(h0, .inr (8, [.ref q5_1, .ref q16_9, .int 0, .ref q34_12, .ref q42_14, .ref q49_16, .ref q60_18, .ref q73_21, .int 0, .int 0, .int 0, .int 0, .int 0])), (q16_9, .inr (1, [.ref u20_10, .int 0, .int 0])), (u20_10, .inl (u20_11, 20, .inl (fun _ => 0))), (q42_14, .inl (cA42_15, 10, .inr (.inr (.inr (.inr (fun _ => none)))))), (q49_16, .inr (4, [.int 0, .int 0, .ref u53_17])), (q60_18, .inr (3, [.ref u64_19, .ref u64_20, .int 0])), (q73_21, .inl (cA73_22, 12, .inr (.inr (.inr (.inr (fun _ => none))))))] H := hP
  have hD : va_D A [(h0, .inr (8, [.ref q5_1, .ref q16_9, .int 0, .ref q34_12, .ref q42_14, .ref q49_16, .ref q60_18, .ref q73_21, .int 0, .int 0, .int 0, .int 0, .int 0])), (q16_9, .inr (1, [.ref u20_10, .int 0, .int 0])), (u20_10, .inl (u20_11, 20, .inl (fun _ => 0))), (q42_14, .inl (cA42_15, 10, .inr (.inr (.inr (.inr (fun _ => none)))))), (q49_16, .inr (4, [.int 0, .int 0, .ref u53_17])), (q60_18, .inr (3, [.ref u64_19, .ref u64_20, .int 0])), (q73_21, .inl (cA73_22, 12, .inr (.inr (.inr (.inr (fun _ => none))))))] := hD
  refine lv_aload_n hx hb d_NRunner_init_89 rfl (lv_at hl 0 rfl) ?_
  refine lv_iconst (v := 0) hx hb d_NRunner_init_90 (by decide) ?_
  refine va_put (D := (dC, dI)) (ci := 8) (v := .int 0) (ty := .int) (C := "BigRunner$Runner") (T := FT8) (N := 13) hx hb (hw8 hB _) (fun _ h9 => h9) TY8 ok8 nm8 hown hK hP hD hS 0 rfl rfl 10 (by decide) (wd_345 hB _) (fun _ h9 => h9) rfl (by decide +kernel) rfl rfl (Nat.le_of_ble_eq_true rfl) d_NRunner_init_91 (fun H locs hP hD hS => ?_)
  have hP : va_P (dC, dI) vcl [(h0, .inr (8, [.ref q5_1, .ref q16_9, .int 0, .ref q34_12, .ref q42_14, .ref q49_16, .ref q60_18, .ref q73_21, .int 0, .int 0, .int 0, .int 0, .int 0])), (q16_9, .inr (1, [.ref u20_10, .int 0, .int 0])), (u20_10, .inl (u20_11, 20, .inl (fun _ => 0))), (q42_14, .inl (cA42_15, 10, .inr (.inr (.inr (.inr (fun _ => none)))))), (q49_16, .inr (4, [.int 0, .int 0, .ref u53_17])), (q60_18, .inr (3, [.ref u64_19, .ref u64_20, .int 0])), (q73_21, .inl (cA73_22, 12, .inr (.inr (.inr (.inr (fun _ => none))))))] H := hP
  have hD : va_D A [(h0, .inr (8, [.ref q5_1, .ref q16_9, .int 0, .ref q34_12, .ref q42_14, .ref q49_16, .ref q60_18, .ref q73_21, .int 0, .int 0, .int 0, .int 0, .int 0])), (q16_9, .inr (1, [.ref u20_10, .int 0, .int 0])), (u20_10, .inl (u20_11, 20, .inl (fun _ => 0))), (q42_14, .inl (cA42_15, 10, .inr (.inr (.inr (.inr (fun _ => none)))))), (q49_16, .inr (4, [.int 0, .int 0, .ref u53_17])), (q60_18, .inr (3, [.ref u64_19, .ref u64_20, .int 0])), (q73_21, .inl (cA73_22, 12, .inr (.inr (.inr (.inr (fun _ => none))))))] := hD
  refine lv_aload_n hx hb d_NRunner_init_94 rfl (lv_at hl 0 rfl) ?_
  refine lv_iconst (v := 0) hx hb d_NRunner_init_95 (by decide) ?_
  refine va_put (D := (dC, dI)) (ci := 8) (v := .int 0) (ty := .int) (C := "BigRunner$Runner") (T := FT8) (N := 13) hx hb (hw8 hB _) (fun _ h9 => h9) TY8 ok8 nm8 hown hK hP hD hS 0 rfl rfl 11 (by decide) (wd_347 hB _) (fun _ h9 => h9) rfl (by decide +kernel) rfl rfl (Nat.le_of_ble_eq_true rfl) d_NRunner_init_96 (fun H locs hP hD hS => ?_)
  have hP : va_P (dC, dI) vcl [(h0, .inr (8, [.ref q5_1, .ref q16_9, .int 0, .ref q34_12, .ref q42_14, .ref q49_16, .ref q60_18, .ref q73_21, .int 0, .int 0, .int 0, .int 0, .int 0])), (q16_9, .inr (1, [.ref u20_10, .int 0, .int 0])), (u20_10, .inl (u20_11, 20, .inl (fun _ => 0))), (q42_14, .inl (cA42_15, 10, .inr (.inr (.inr (.inr (fun _ => none)))))), (q49_16, .inr (4, [.int 0, .int 0, .ref u53_17])), (q60_18, .inr (3, [.ref u64_19, .ref u64_20, .int 0])), (q73_21, .inl (cA73_22, 12, .inr (.inr (.inr (.inr (fun _ => none))))))] H := hP
  have hD : va_D A [(h0, .inr (8, [.ref q5_1, .ref q16_9, .int 0, .ref q34_12, .ref q42_14, .ref q49_16, .ref q60_18, .ref q73_21, .int 0, .int 0, .int 0, .int 0, .int 0])), (q16_9, .inr (1, [.ref u20_10, .int 0, .int 0])), (u20_10, .inl (u20_11, 20, .inl (fun _ => 0))), (q42_14, .inl (cA42_15, 10, .inr (.inr (.inr (.inr (fun _ => none)))))), (q49_16, .inr (4, [.int 0, .int 0, .ref u53_17])), (q60_18, .inr (3, [.ref u64_19, .ref u64_20, .int 0])), (q73_21, .inl (cA73_22, 12, .inr (.inr (.inr (.inr (fun _ => none))))))] := hD
  refine lv_aload_n hx hb d_NRunner_init_99 rfl (lv_at hl 0 rfl) ?_
  refine lv_iconst (v := 0) hx hb d_NRunner_init_100 (by decide) ?_
  refine va_put (D := (dC, dI)) (ci := 8) (v := .int 0) (ty := .int) (C := "BigRunner$Runner") (T := FT8) (N := 13) hx hb (hw8 hB _) (fun _ h9 => h9) TY8 ok8 nm8 hown hK hP hD hS 0 rfl rfl 12 (by decide) (wd_349 hB _) (fun _ h9 => h9) rfl (by decide +kernel) rfl rfl (Nat.le_of_ble_eq_true rfl) d_NRunner_init_101 (fun H locs hP hD hS => ?_)
  have hP : va_P (dC, dI) vcl [(h0, .inr (8, [.ref q5_1, .ref q16_9, .int 0, .ref q34_12, .ref q42_14, .ref q49_16, .ref q60_18, .ref q73_21, .int 0, .int 0, .int 0, .int 0, .int 0])), (q16_9, .inr (1, [.ref u20_10, .int 0, .int 0])), (u20_10, .inl (u20_11, 20, .inl (fun _ => 0))), (q42_14, .inl (cA42_15, 10, .inr (.inr (.inr (.inr (fun _ => none)))))), (q49_16, .inr (4, [.int 0, .int 0, .ref u53_17])), (q60_18, .inr (3, [.ref u64_19, .ref u64_20, .int 0])), (q73_21, .inl (cA73_22, 12, .inr (.inr (.inr (.inr (fun _ => none))))))] H := hP
  have hD : va_D A [(h0, .inr (8, [.ref q5_1, .ref q16_9, .int 0, .ref q34_12, .ref q42_14, .ref q49_16, .ref q60_18, .ref q73_21, .int 0, .int 0, .int 0, .int 0, .int 0])), (q16_9, .inr (1, [.ref u20_10, .int 0, .int 0])), (u20_10, .inl (u20_11, 20, .inl (fun _ => 0))), (q42_14, .inl (cA42_15, 10, .inr (.inr (.inr (.inr (fun _ => none)))))), (q49_16, .inr (4, [.int 0, .int 0, .ref u53_17])), (q60_18, .inr (3, [.ref u64_19, .ref u64_20, .int 0])), (q73_21, .inl (cA73_22, 12, .inr (.inr (.inr (.inr (fun _ => none))))))] := hD
  refine lv_iconst (v := 0) hx hb d_NRunner_init_104 (by decide) ?_
  refine lv_istore_n (lv' := [(1, .int 0), (0, .ref h0)]) hx hb d_NRunner_init_105 rfl hl (by decide) rfl (fun ls hl => ?_)
  have hD := hD.sub (ws' := [(h0, .inr (8, [.ref q5_1, .ref q16_9, .int 0, .ref q34_12, .ref q42_14, .ref q49_16, .ref q60_18, .ref q73_21, .int 0, .int 0, .int 0, .int 0, .int 0])), (q16_9, .inr (1, [.ref u20_10, .int 0, .int 0])), (u20_10, .inl (u20_11, 20, .inl (fun _ => 0))), (q42_14, .inl (cA42_15, 10, .inr (.inr (.inr (.inr (fun _ => none)))))), (q73_21, .inl (cA73_22, 12, .inr (.inr (.inr (.inr (fun _ => none))))))]) [0, 1, 2, 3, 6] (by decide) rfl
  have hP := hP.sub (ws' := [(h0, .inr (8, [.ref q5_1, .ref q16_9, .int 0, .ref q34_12, .ref q42_14, .ref q49_16, .ref q60_18, .ref q73_21, .int 0, .int 0, .int 0, .int 0, .int 0])), (q16_9, .inr (1, [.ref u20_10, .int 0, .int 0])), (u20_10, .inl (u20_11, 20, .inl (fun _ => 0))), (q42_14, .inl (cA42_15, 10, .inr (.inr (.inr (.inr (fun _ => none)))))), (q73_21, .inl (cA73_22, 12, .inr (.inr (.inr (.inr (fun _ => none))))))]) [0, 1, 2, 3, 6] rfl
  refine W.widen (k := 349 + 2 * 0) (n := 2378 + 18 * 0) (by omega) (by omega) ?_
  refine lp_Runner_1 dC dI h0 q5_1 q16_9 q34_12 q42_14 q49_16 q60_18 q73_21 u20_10 u20_11 cA42_15 cA73_22 hx hb hml hown hB hA hK ?_ 10 0 (by omega) (by omega) (fun _ => none) H locs ls hl hP hD hS
  intro f131 H locs ls hl hP hD hS
  refine lv_iconst (v := 0) hx hb d_NRunner_init_131 (by decide) ?_
  refine lv_istore_n (lv' := [(1, .int 0), (0, .ref h0)]) hx hb d_NRunner_init_132 rfl hl (by decide) rfl (fun ls hl => ?_)
  refine W.widen (k := 369 + 2 * 0) (n := 2558 + 18 * 0) (by omega) (by omega) ?_
  refine lp_Runner_2 dC dI h0 q5_1 q16_9 q34_12 q42_14 q49_16 q60_18 q73_21 u20_10 u20_11 cA42_15 f131 cA73_22 hx hb hml hown hB hA hK ?_ 12 0 (by omega) (by omega) (fun _ => none) H locs ls hl hP hD hS
  intro f158 H locs ls hl hP hD hS
  have hP9 := hP.sub (ws' := [(h0, .inr (8, [.ref q5_1, .ref q16_9, .int 0, .ref q34_12, .ref q42_14, .ref q49_16, .ref q60_18, .ref q73_21, .int 0, .int 0, .int 0, .int 0, .int 0])), (q16_9, .inr (1, [.ref u20_10, .int 0, .int 0])), (u20_10, .inl (u20_11, 20, .inl (fun _ => 0)))]) [0, 1, 2] rfl
  have hD9 := hD.sub (ws' := [(h0, .inr (8, [.ref q5_1, .ref q16_9, .int 0, .ref q34_12, .ref q42_14, .ref q49_16, .ref q60_18, .ref q73_21, .int 0, .int 0, .int 0, .int 0, .int 0])), (q16_9, .inr (1, [.ref u20_10, .int 0, .int 0])), (u20_10, .inl (u20_11, 20, .inl (fun _ => 0)))]) [0, 1, 2] (by decide) rfl
  have hK9 := hK.sub (tys' := [(u20_11, .int)]) [0] rfl
  refine W.widen (k := 393) (n := 2774) (by omega) (by omega) ?_
  exact W.vret hx hb hr (fun t ht hW => ⟨⟨(q5_1, q16_9, q34_12, q42_14, q49_16, q60_18, q73_21, u20_10, u20_11), rfl, trivial, by rw [ht]; exact hP9, va_K.moved hW.alike hK9, hD9⟩, hS.F ht⟩) hS.2.2 d_NRunner_init_158
set_option maxHeartbeats 4000000 in
set_option maxRecDepth 100000 in
/-- BigRunner(): a fresh object -/
theorem c_BigRunner_init (l : Launch) (dC : Nat → ClassId) (dI : Nat → Nat → Nat) (sz : Nat) (h0 : Nat) : Met l ⟨"BigRunner", "<init>", "()V"⟩ [Cond.code ⟨"BigRunner", "<init>", "()V"⟩ prog_1_method_1_code 1 none] ({ frames := 7, cells := 736, slots := 5133, locals := 111 }) (va_Pc [.ref h0] (fun U => U.heap.size = sz ∧ TB U ∧ va_P (dC, dI) vcl [(h0, .inr (0, [.null, .int 0, .null, .null, .int 0]))] U.heap ∧ va_K (dC, dI) vcl [] U ∧ va_D (fun _ => True) [(h0, .inr (0, [.null, .int 0, .null, .null, .int 0]))])) (va_Qv (fun (u : Nat × ClassId × Nat × Nat × Nat × Nat × Nat × ClassId × (Nat → Option Nat) × Nat × Nat × Nat × Nat × Nat × Nat × Nat × Nat × Nat × Nat × Nat × Nat × ClassId) => match u with | (ql, cl, rd, rn, qt, pr, qs, cs, fs, q0, qn, qv, qi, pn, qi2, qm, qw, qh, qd, qk, qr, cr) => fs 0 = some q0) (fun (u : Nat × ClassId × Nat × Nat × Nat × Nat × Nat × ClassId × (Nat → Option Nat) × Nat × Nat × Nat × Nat × Nat × Nat × Nat × Nat × Nat × Nat × Nat × Nat × ClassId) (t : State) => match u with | (ql, cl, rd, rn, qt, pr, qs, cs, fs, q0, qn, qv, qi, pn, qi2, qm, qw, qh, qd, qk, qr, cr) => va_P (dC, dI) vcl [(h0, .inr (0, [.ref ql, .int 0, .ref rd, .ref rn, .int 0])), (ql, .inl (cl, 72, .inl (fun _ => 0))), (rd, .inr (7, [.ref qt, .int 0, .int 0, .ref pr])), (pr, .inr (6, [.ref qs, .int 0, .ref qn, .int 0, .ref qv, .ref qi])), (qs, .inl (cs, 36, .inr (.inr (.inr (.inr (fs)))))), (q0, .inr (9, [.int 5, .int 0, .int 0, .int (-1), .int 0])), (rn, .inr (8, [.ref pn, .ref qi2, .int 0, .ref qm, .ref qw, .ref qh, .ref qd, .ref qk, .int 0, .int 0, .int 0, .int 0, .int 0])), (qi2, .inr (1, [.ref qr, .int 0, .int 0])), (qr, .inl (cr, 20, .inl (fun _ => 0)))] t.heap ∧ va_K (dC, dI) vcl [(cl, .char), (cs, (.object "BigRunner$Statement")), (cr, .int)] t ∧ va_D (va_A [(h0, .inr (0, [.null, .int 0, .null, .null, .int 0]))] sz) [(h0, .inr (0, [.ref ql, .int 0, .ref rd, .ref rn, .int 0])), (ql, .inl (cl, 72, .inl (fun _ => 0))), (rd, .inr (7, [.ref qt, .int 0, .int 0, .ref pr])), (pr, .inr (6, [.ref qs, .int 0, .ref qn, .int 0, .ref qv, .ref qi])), (qs, .inl (cs, 36, .inr (.inr (.inr (.inr (fs)))))), (q0, .inr (9, [.int 5, .int 0, .int 0, .int (-1), .int 0])), (rn, .inr (8, [.ref pn, .ref qi2, .int 0, .ref qm, .ref qw, .ref qh, .ref qd, .ref qk, .int 0, .int 0, .int 0, .int 0, .int 0])), (qi2, .inr (1, [.ref qr, .int 0, .int 0])), (qr, .inl (cr, 20, .inl (fun _ => 0)))]) (va_A [(h0, .inr (0, [.null, .int 0, .null, .null, .int 0]))] sz)) 736 5133 (va_A [(h0, .inr (0, [.null, .int 0, .null, .null, .int 0]))] sz) := by
  refine Met.ofW (cc := prog_1_method_1_code) (maxL := 1) (ret := none) (by decide) rfl ?_
  intro p e s m args below meth c s₁ B hml hv
  obtain ⟨rfl, hsz, hB, hP, hK, hD0⟩ := hv
  have hx := B.exec
  have hb := B.bytes
  have hr := B.returns
  have hown : s.vm.findClass "BigRunner" = some m.cls := findClass_of_methodNamed B.named
  have hlocks := B.notSynchronized
  have hin : meth.name = "<init>" := (name_of_methodNamed B.named B.method).1
  subst hsz
  have hD := hD0.self (sz := s.heap.size)
  generalize hAe : va_A [(h0, .inr (0, [.null, .int 0, .null, .null, .int 0]))] s.heap.size = A at hD ⊢
  have hA : ∀ q : Nat, s.heap.size ≤ q → A q := fun q h => by rw [← hAe]; exact Or.inr h
  have hS : va_S A s.heap s.heap [] := va_S.rf
  have hP : va_P (dC, dI) vcl [(h0, .inr (0, [.null, .int 0, .null, .null, .int 0]))] s.heap := hP
  have hl := lv_entry ([.ref h0]) (n := 1) (Nat.le_of_ble_eq_true rfl)
  rw [lg_entry_eq]
  generalize (lg_sl ([.ref h0]) ++ List.replicate (1 - (lg_sl ([.ref h0])).length) Slot.unset).toArray = ls at hl ⊢
  have hl : lv_has ls 1 [(0, .ref h0)] := hl
  refine lv_aload_n hx hb d_B_init_0 rfl (lv_at hl 0 rfl) ?_
  refine W.objInit hx hb hown (wd_100 hB _) (wd_101 hB _) (wd_102 hB _) rfl (by rw [hml]; exact hl.1) rfl d_B_init_1 (Nat.le_of_ble_eq_true rfl) (Nat.le_of_ble_eq_true rfl) ?_
  refine W.eq (g2 := F0 m 4 ls []) rfl ?_
  refine lv_aload_n hx hb d_B_init_4 rfl (lv_at hl 0 rfl) ?_
  refine lv_bipush (v := 72) hx hb d_B_init_5 (by decide) ?_
  refine va_newa (atype := .char) (a0 := (72, .inl (fun _ => 0))) (N' := 72) (ty := .char) hx hb (wd_137 hB _) rfl hK hP hD hS hA (fun _ => rfl) (by decide +kernel) (by decide +kernel) (by decide +kernel) (Nat.le_of_ble_eq_true rfl) (Nat.le_of_ble_eq_true rfl) d_B_init_7 (fun q7_1 cA7_2 H hK hP hD hS => ?_)
  have hP : va_P (dC, dI) vcl [(h0, .inr (0, [.null, .int 0, .null, .null, .int 0])), (q7_1, .inl (cA7_2, 72, .inl (fun _ => 0)))] H := hP
  have hD : va_D A [(h0, .inr (0, [.null, .int 0, .null, .null, .int 0])), (q7_1, .inl (cA7_2, 72, .inl (fun _ => 0)))] := hD
  have hK : va_K (dC, dI) vcl [(cA7_2, .char)] s := hK
  refine W.widen (k := 1) (n := 72) (by omega) (by omega) ?_
  refine va_putF (D := (dC, dI)) (ci := 0) (v := .ref q7_1) (ty := (.array .char)) (C := "BigRunner") (T := FT0) (N := 5) hx hb (hw0 hB _) (fun _ h9 => h9) TY0 ok0 nm0 hown hK hP hD hS 0 rfl rfl 0 (by decide) (wd_378 hB _) (fun _ h9 => h9) rfl hin rfl (by decide +kernel) rfl rfl (Nat.le_of_ble_eq_true rfl) d_B_init_9 (fun H locs hP hD hS => ?_)
  have hP : va_P (dC, dI) vcl [(h0, .inr (0, [.ref q7_1, .int 0, .null, .null, .int 0])), (q7_1, .inl (cA7_2, 72, .inl (fun _ => 0)))] H := hP
  have hD : va_D A [(h0, .inr (0, [.ref q7_1, .int 0, .null, .null, .int 0])), (q7_1, .inl (cA7_2, 72, .inl (fun _ => 0)))] := hD
  refine lv_aload_n hx hb d_B_init_12 rfl (lv_at hl 0 rfl) ?_
  refine lv_iconst (v := 0) hx hb d_B_init_13 (by decide) ?_
  refine va_put (D := (dC, dI)) (ci := 0) (v := .int 0) (ty := .int) (C := "BigRunner") (T := FT0) (N := 5) hx hb (hw0 hB _) (fun _ h9 => h9) TY0 ok0 nm0 hown hK hP hD hS 0 rfl rfl 1 (by decide) (wd_379 hB _) (fun _ h9 => h9) rfl (by decide +kernel) rfl rfl (Nat.le_of_ble_eq_true rfl) d_B_init_14 (fun H locs hP hD hS => ?_)
  have hP : va_P (dC, dI) vcl [(h0, .inr (0, [.ref q7_1, .int 0, .null, .null, .int 0])), (q7_1, .inl (cA7_2, 72, .inl (fun _ => 0)))] H := hP
  have hD : va_D A [(h0, .inr (0, [.ref q7_1, .int 0, .null, .null, .int 0])), (q7_1, .inl (cA7_2, 72, .inl (fun _ => 0)))] := hD
  refine lv_aload_n hx hb d_B_init_17 rfl (lv_at hl 0 rfl) ?_
  refine va_new (ci := 7) (fs := [.null, .int 0, .int 0, .null]) (C := "BigRunner$Reader") (T := FT7) (N := 4) hx hb (hw7 hB _) (fun _ h9 => h9) TY7 ok7 hown (wd_103 hB _) (wd_104 hB _) (wd_73 hB _) hK hP hD hS hA rfl (fun j hj => by rcases (show j = 0 ∨ j = 1 ∨ j = 2 ∨ j = 3 by omega) with rfl | rfl | rfl | rfl <;> rfl) (Nat.le_of_ble_eq_true rfl) (Nat.le_of_ble_eq_true rfl) d_B_init_18 (fun q18_3 H hP hD hS => ?_)
  have hP : va_P (dC, dI) vcl [(h0, .inr (0, [.ref q7_1, .int 0, .null, .null, .int 0])), (q7_1, .inl (cA7_2, 72, .inl (fun _ => 0))), (q18_3, .inr (7, [.null, .int 0, .int 0, .null]))] H := hP
  have hD : va_D A [(h0, .inr (0, [.ref q7_1, .int 0, .null, .null, .int 0])), (q7_1, .inl (cA7_2, 72, .inl (fun _ => 0))), (q18_3, .inr (7, [.null, .int 0, .int 0, .null]))] := hD
  refine W.widen (k := 2) (n := 76) (by omega) (by omega) ?_
  refine lv_dup hx hb d_B_init_21 rfl ?_
  have hPc := hP.sub (ws' := [(q18_3, .inr (7, [.null, .int 0, .int 0, .null]))]) [2] rfl
  have hDc := hD.sub (ws' := [(q18_3, .inr (7, [.null, .int 0, .int 0, .null]))]) [2] (by decide) rfl
  have hKc := hK.sub (tys' := []) [] rfl
  have hFc := va_free (wc := [(q18_3, .inr (7, [.null, .int 0, .int 0, .null]))]) hD hS hA [2] rfl
  refine va_callv (va_runIN (As := []) (rest := [.ref q18_3, .ref h0]) ⟨hx, hb, hml, hown, tb_nil⟩ (c_Reader_init l dC dI H.size q18_3) ⟨(va_cnB 0 (tb_one (wd_107 hB _)) tb_good1 rfl rfl rfl (va_Nw.of (A := #[]) rfl (wd_105 hB _)) (wd_73 hB _) (by decide +kernel) ⟨Nat.le_of_ble_eq_true rfl, Nat.le_of_ble_eq_true rfl⟩), rfl, (wd_106 hB _)⟩ ⟨fun a U g mk q => by obtain ⟨q0, q1, qB, qP, qK, qD⟩ := q; exact ⟨q0, q1, TB.same (s := U) (U := U.calling g mk a) rfl qB, qP, va_K.moved (u := U) (U := U.calling g mk a) (Vm.Alike.refl U.vm) qK, qD⟩, fun U hU hW => ⟨rfl, by rw [hU], hB.moved hW, by rw [hU]; exact hPc, va_K.moved hW.alike hKc, hDc.weaken (fun _ _ _ _ => trivial)⟩⟩ rfl rfl hl.1 rfl (lv_room (Nat.le_of_ble_eq_true rfl)) d_B_init_22 ⟨(Nat.le_of_ble_eq_true rfl), (Nat.le_of_ble_eq_true rfl)⟩) hS (fun q _ h => hFc q h) hFc (fun u_ t H1 locs ht hvm hw_ hB1 hz1 hk1 hS => ?_)
  obtain ⟨u22_4, u22_5, u22_6, u22_7, u22_8, u22_9, u22_10, u22_11, u22_12⟩ := u_
  obtain ⟨hP1, hK1, hD1⟩ := hB1
  rw [ht] at hP1
  have hK1 := va_K.moved hvm.symm hK1
  try dsimp only at hw_
  obtain ⟨hP, hD⟩ := va_join (wr := [(h0, .inr (0, [.ref q7_1, .int 0, .null, .null, .int 0])), (q7_1, .inl (cA7_2, 72, .inl (fun _ => 0)))]) (w1 := [(q18_3, .inr (7, [.ref u22_4, .int 0, .int 0, .ref u22_5])), (u22_5, .inr (6, [.ref u22_6, .int 0, .ref u22_10, .int 0, .ref u22_11, .ref u22_12])), (u22_6, .inl (u22_7, 36, .inr (.inr (.inr (.inr (u22_8)))))), (u22_9, .inr (9, [.int 5, .int 0, .int 0, .int (-1), .int 0]))]) hP hD [2] [0, 1] rfl rfl (by decide) (by decide) hk1 hFc hP1 hD1
  have hK := (hK.sub (tys' := [(cA7_2, .char)]) [0] rfl).app hK1
  clear hk1 hFc hPc hDc hKc hP1 hD1 hK1 hz1 ht hvm
  generalize H1 = H at hP hS ⊢
  have hP : va_P (dC, dI) vcl [(h0, .inr (0, [.ref q7_1, .int 0, .null, .null, .int 0])), (q7_1, .inl (cA7_2, 72, .inl (fun _ => 0))), (q18_3, .inr (7, [.ref u22_4, .int 0, .int 0, .ref u22_5])), (u22_5, .inr (6, [.ref u22_6, .int 0, .ref u22_10, .int 0, .ref u22_11, .ref u22_12])), (u22_6, .inl (u22_7, 36, .inr (.inr (.inr (.inr (u22_8)))))), (u22_9, .inr (9, [.int 5, .int 0, .int 0, .int (-1), .int 0]))] H := hP
  have hD : va_D A [(h0, .inr (0, [.ref q7_1, .int 0, .null, .null, .int 0])), (q7_1, .inl (cA7_2, 72, .inl (fun _ => 0))), (q18_3, .inr (7, [.ref u22_4, .int 0, .int 0, .ref u22_5])), (u22_5, .inr (6, [.ref u22_6, .int 0, .ref u22_10, .int 0, .ref u22_11, .ref u22_12])), (u22_6, .inl (u22_7, 36, .inr (.inr (.inr (.inr (u22_8)))))), (u22_9, .inr (9, [.int 5, .int 0, .int 0, .int (-1), .int 0]))] := hD
  have hK : va_K (dC, dI) vcl [(cA7_2, .char), (u22_7, (.object "BigRunner$Statement"))] s := hK
  refine W.widen (k := 342) (n := 2346) (by omega) (by omega) ?_
  have hf0 := hw_
  refine va_putF (D := (dC, dI)) (ci := 0) (v := .ref q18_3) (ty := (.object "BigRunner$Reader")) (C := "BigRunner") (T := FT0) (N := 5) hx hb (hw0 hB _) (fun _ h9 => h9) TY0 ok0 nm0 hown hK hP hD hS 0 rfl rfl 2 (by decide) (wd_380 hB _) (fun _ h9 => h9) rfl hin rfl (by decide +kernel) rfl rfl (Nat.le_of_ble_eq_true rfl) d_B_init_25 (fun H locs hP hD hS => ?_)
  have hP : va_P (dC, dI) vcl [(h0, .inr (0, [.ref q7_1, .int 0, .ref q18_3, .null, .int 0])), (q7_1, .inl (cA7_2, 72, .inl (fun _ => 0))), (q18_3, .inr (7, [.ref u22_4, .int 0, .int 0, .ref u22_5])), (u22_5, .inr (6, [.ref u22_6, .int 0, .ref u22_10, .int 0, .ref u22_11, .ref u22_12])), (u22_6, .inl (u22_7, 36, .inr (.inr (.inr (.inr (u22_8)))))), (u22_9, .inr (9, [.int 5, .int 0, .int 0, .int (-1), .int 0]))] H := hP
  have hD : va_D A [(h0, .inr (0, [.ref q7_1, .int 0, .ref q18_3, .null, .int 0])), (q7_1, .inl (cA7_2, 72, .inl (fun _ => 0))), (q18_3, .inr (7, [.ref u22_4, .int 0, .int 0, .ref u22_5])), (u22_5, .inr (6, [.ref u22_6, .int 0, .ref u22_10, .int 0, .ref u22_11, .ref u22_12])), (u22_6, .inl (u22_7, 36, .inr (.inr (.inr (.inr (u22_8)))))), (u22_9, .inr (9, [.int 5, .int 0, .int 0, .int (-1), .int 0]))] := hD
  refine lv_aload_n hx hb d_B_init_28 rfl (lv_at hl 0 rfl) ?_
  refine va_new (ci := 8) (fs := [.null, .null, .int 0, .null, .null, .null, .null, .null, .int 0, .int 0, .int 0, .int 0, .int 0]) (C := "BigRunner$Runner") (T := FT8) (N := 13) hx hb (hw8 hB _) (fun _ h9 => h9) TY8 ok8 hown (wd_284 hB _) (wd_285 hB _) (wd_79 hB _) hK hP hD hS hA rfl (fun j hj => by rcases (show j = 0 ∨ j = 1 ∨ j = 2 ∨ j = 3 ∨ j = 4 ∨ j = 5 ∨ j = 6 ∨ j = 7 ∨ j = 8 ∨ j = 9 ∨ j = 10 ∨ j = 11 ∨ j = 12 by omega) with rfl | rfl | rfl | rfl | rfl | rfl | rfl | rfl | rfl | rfl | rfl | rfl | rfl <;> rfl) (Nat.le_of_ble_eq_true rfl) (Nat.le_of_ble_eq_true rfl) d_B_init_29 (fun q29_13 H hP hD hS => ?_)
  have hP : va_P (dC, dI) vcl [(h0, .inr (0, [.ref q7_1, .int 0, .ref q18_3, .null, .int 0])), (q7_1, .inl (cA7_2, 72, .inl (fun _ => 0))), (q18_3, .inr (7, [.ref u22_4, .int 0, .int 0, .ref u22_5])), (u22_5, .inr (6, [.ref u22_6, .int 0, .ref u22_10, .int 0, .ref u22_11, .ref u22_12])), (u22_6, .inl (u22_7, 36, .inr (.inr (.inr (.inr (u22_8)))))), (u22_9, .inr (9, [.int 5, .int 0, .int 0, .int (-1), .int 0])), (q29_13, .inr (8, [.null, .null, .int 0, .null, .null, .null, .null, .null, .int 0, .int 0, .int 0, .int 0, .int 0]))] H := hP
  have hD : va_D A [(h0, .inr (0, [.ref q7_1, .int 0, .ref q18_3, .null, .int 0])), (q7_1, .inl (cA7_2, 72, .inl (fun _ => 0))), (q18_3, .inr (7, [.ref u22_4, .int 0, .int 0, .ref u22_5])), (u22_5, .inr (6, [.ref u22_6, .int 0, .ref u22_10, .int 0, .ref u22_11, .ref u22_12])), (u22_6, .inl (u22_7, 36, .inr (.inr (.inr (.inr (u22_8)))))), (u22_9, .inr (9, [.int 5, .int 0, .int 0, .int (-1), .int 0])), (q29_13, .inr (8, [.null, .null, .int 0, .null, .null, .null, .null, .null, .int 0, .int 0, .int 0, .int 0, .int 0]))] := hD
  refine W.widen (k := 343) (n := 2359) (by omega) (by omega) ?_
  refine lv_dup hx hb d_B_init_32 rfl ?_
  have hPc := hP.sub (ws' := [(q29_13, .inr (8, [.null, .null, .int 0, .null, .null, .null, .null, .null, .int 0, .int 0, .int 0, .int 0, .int 0]))]) [6] rfl
  have hDc := hD.sub (ws' := [(q29_13, .inr (8, [.null, .null, .int 0, .null, .null, .null, .null, .null, .int 0, .int 0, .int 0, .int 0, .int 0]))]) [6] (by decide) rfl
  have hKc := hK.sub (tys' := []) [] rfl
  have hFc := va_free (wc := [(q29_13, .inr (8, [.null, .null, .int 0, .null, .null, .null, .null, .null, .int 0, .int 0, .int 0, .int 0, .int 0]))]) hD hS hA [6] rfl
  refine va_callv (va_runI (As := []) (rest := [.ref q29_13, .ref h0]) ⟨hx, hb, hml, hown, tb_nil⟩ (c_Runner_init l dC dI H.size q29_13) ⟨(callB_of 0 (tb_one (wd_288 hB _)) tb_good1 rfl rfl rfl (wd_79 hB _) (wd_286 hB _) (by decide +kernel) ⟨Nat.le_of_ble_eq_true rfl, Nat.le_of_ble_eq_true rfl⟩), rfl, (wd_287 hB _)⟩ ⟨fun a U g mk q => by obtain ⟨q0, q1, qB, qP, qK, qD⟩ := q; exact ⟨q0, q1, TB.same (s := U) (U := U.calling g mk a) rfl qB, qP, va_K.moved (u := U) (U := U.calling g mk a) (Vm.Alike.refl U.vm) qK, qD⟩, fun U hU hW => ⟨rfl, by rw [hU], hB.moved hW, by rw [hU]; exact hPc, va_K.moved hW.alike hKc, hDc.weaken (fun _ _ _ _ => trivial)⟩⟩ rfl rfl hl.1 rfl (lv_room (Nat.le_of_ble_eq_true rfl)) d_B_init_33 ⟨(Nat.le_of_ble_eq_true rfl), (Nat.le_of_ble_eq_true rfl)⟩) hS (fun q _ h => hFc q h) hFc (fun u_ t H1 locs ht hvm hw_ hB1 hz1 hk1 hS => ?_)
  obtain ⟨u33_14, u33_15, u33_16, u33_17, u33_18, u33_19, u33_20, u33_21, u33_22⟩ := u_
  obtain ⟨hP1, hK1, hD1⟩ := hB1
  rw [ht] at hP1
  have hK1 := va_K.moved hvm.symm hK1
  try dsimp only at hw_
  obtain ⟨hP, hD⟩ := va_join (wr := [(h0, .inr (0, [.ref q7_1, .int 0, .ref q18_3, .null, .int 0])), (q7_1, .inl (cA7_2, 72, .inl (fun _ => 0))), (q18_3, .inr (7, [.ref u22_4, .int 0, .int 0, .ref u22_5])), (u22_5, .inr (6, [.ref u22_6, .int 0, .ref u22_10, .int 0, .ref u22_11, .ref u22_12])), (u22_6, .inl (u22_7, 36, .inr (.inr (.inr (.inr (u22_8)))))), (u22_9, .inr (9, [.int 5, .int 0, .int 0, .int (-1), .int 0]))]) (w1 := [(q29_13, .inr (8, [.ref u33_14, .ref u33_15, .int 0, .ref u33_16, .ref u33_17, .ref u33_18, .ref u33_19, .ref u33_20, .int 0, .int 0, .int 0, .int 0, .int 0])), (u33_15, .inr (1, [.ref u33_21, .int 0, .int 0])), (u33_21, .inl (u33_22, 20, .inl (fun _ => 0)))]) hP hD [6] [0, 1, 2, 3, 4, 5] rfl rfl (by decide) (by decide) hk1 hFc hP1 hD1
  have hK := (hK.sub (tys' := [(cA7_2, .char), (u22_7, (.object "BigRunner$Statement"))]) [0, 1] rfl).app hK1
  clear hk1 hFc hPc hDc hKc hP1 hD1 hK1 hz1 ht hvm
  generalize H1 = H at hP hS ⊢
  have hP : va_P (dC, dI) vcl [(h0, .inr (0, [.ref q7_1, .int 0, .ref q18_3, .null, .int 0])), (q7_1, .inl (cA7_2, 72, .inl (fun _ => 0))), (q18_3, .inr (7, [.ref u22_4, .int 0, .int 0, .ref u22_5])), (u22_5, .inr (6, [.ref u22_6, .int 0, .ref u22_10, .int 0, .ref u22_11, .ref u22_12])), (u22_6, .inl (u22_7, 36, .inr (.inr (.inr (.inr (u22_8)))))), (u22_9, .inr (9, [.int 5, .int 0, .int 0, .int (-1), .int 0])), (q29_13, .inr (8, [.ref u33_14, .ref u33_15, .int 0, .ref u33_16, .ref u33_17, .ref u33_18, .ref u33_19, .ref u33_20, .int 0, .int 0, .int 0, .int 0, .int 0])), (u33_15, .inr (1, [.ref u33_21, .int 0, .int 0])), (u33_21, .inl (u33_22, 20, .inl (fun _ => 0)))] H := hP
  have hD : va_D A [(h0, .inr (0, [.ref q7_1, .int 0, .ref q18_3, .null, .int 0])), (q7_1, .inl (cA7_2, 72, .inl (fun _ => 0))), (q18_3, .inr (7, [.ref u22_4, .int 0, .int 0, .ref u22_5])), (u22_5, .inr (6, [.ref u22_6, .int 0, .ref u22_10, .int 0, .ref u22_11, .ref u22_12])), (u22_6, .inl (u22_7, 36, .inr (.inr (.inr (.inr (u22_8)))))), (u22_9, .inr (9, [.int 5, .int 0, .int 0, .int (-1), .int 0])), (q29_13, .inr (8, [.ref u33_14, .ref u33_15, .int 0, .ref u33_16, .ref u33_17, .ref u33_18, .ref u33_19, .ref u33_20, .int 0, .int 0, .int 0, .int 0, .int 0])), (u33_15, .inr (1, [.ref u33_21, .int 0, .int 0])), (u33_21, .inl (u33_22, 20, .inl (fun _ => 0)))] := hD
  have hK : va_K (dC, dI) vcl [(cA7_2, .char), (u22_7, (.object "BigRunner$Statement")), (u33_22, .int)] s := hK
  refine W.widen (k := 736) (n := 5133) (by omega) (by omega) ?_
  refine va_putF (D := (dC, dI)) (ci := 0) (v := .ref q29_13) (ty := (.object "BigRunner$Runner")) (C := "BigRunner") (T := FT0) (N := 5) hx hb (hw0 hB _) (fun _ h9 => h9) TY0 ok0 nm0 hown hK hP hD hS 0 rfl rfl 3 (by decide) (wd_381 hB _) (fun _ h9 => h9) rfl hin rfl (by decide +kernel) rfl rfl (Nat.le_of_ble_eq_true rfl) d_B_init_36 (fun H locs hP hD hS => ?_)
  have hP : va_P (dC, dI) vcl [(h0, .inr (0, [.ref q7_1, .int 0, .ref q18_3, .ref q29_13, .int 0])), (q7_1, .inl (cA7_2, 72, .inl (fun _ => 0))), (q18_3, .inr (7, [.ref u22_4, .int 0, .int 0, .ref u22_5])), (u22_5, .inr (6, [.ref u22_6, .int 0, .ref u22_10, .int 0, .ref u22_11, .ref u22_12])), (u22_6, .inl (u22_7, 36, .inr (.inr (.inr (.inr (u22_8)))))), (u22_9, .inr (9, [.int 5, .int 0, .int 0, .int (-1), .int 0])), (q29_13, .inr (8, [.ref u33_14, .ref u33_15, .int 0, .ref u33_16, .ref u33_17, .ref u33_18, .ref u33_19, .ref u33_20, .int 0, .int 0, .int 0, .int 0, .int 0])), (u33_15, .inr (1, [.ref u33_21, .int 0, .int 0])), (u33_21, .inl (u33_22, 20, .inl (fun _ => 0)))] H := hP
  have hD : va_D A [(h0, .inr (0, [.ref q7_1, .int 0, .ref q18_3, .ref q29_13, .int 0])), (q7_1, .inl (cA7_2, 72, .inl (fun _ => 0))), (q18_3, .inr (7, [.ref u22_4, .int 0, .int 0, .ref u22_5])), (u22_5, .inr (6, [.ref u22_6, .int 0, .ref u22_10, .int 0, .ref u22_11, .ref u22_12])), (u22_6, .inl (u22_7, 36, .inr (.inr (.inr (.inr (u22_8)))))), (u22_9, .inr (9, [.int 5, .int 0, .int 0, .int (-1), .int 0])), (q29_13, .inr (8, [.ref u33_14, .ref u33_15, .int 0, .ref u33_16, .ref u33_17, .ref u33_18, .ref u33_19, .ref u33_20, .int 0, .int 0, .int 0, .int 0, .int 0])), (u33_15, .inr (1, [.ref u33_21, .int 0, .int 0])), (u33_21, .inl (u33_22, 20, .inl (fun _ => 0)))] := hD
  refine lv_aload_n hx hb d_B_init_39 rfl (lv_at hl 0 rfl) ?_
  refine lv_iconst (v := 0) hx hb d_B_init_40 (by decide) ?_
  refine va_put (D := (dC, dI)) (ci := 0) (v := .int 0) (ty := .boolean) (C := "BigRunner") (T := FT0) (N := 5) hx hb (hw0 hB _) (fun _ h9 => h9) TY0 ok0 nm0 hown hK hP hD hS 0 rfl rfl 4 (by decide) (wd_382 hB _) (fun _ h9 => h9) rfl (by decide +kernel) rfl rfl (Nat.le_of_ble_eq_true rfl) d_B_init_41 (fun H locs hP hD hS => ?_)
  have hP : va_P (dC, dI) vcl [(h0, .inr (0, [.ref q7_1, .int 0, .ref q18_3, .ref q29_13, .int 0])), (q7_1, .inl (cA7_2, 72, .inl (fun _ => 0))), (q18_3, .inr (7, [.ref u22_4, .int 0, .int 0, .ref u22_5])), (u22_5, .inr (6, [.ref u22_6, .int 0, .ref u22_10, .int 0, .ref u22_11, .ref u22_12])), (u22_6, .inl (u22_7, 36, .inr (.inr (.inr (.inr (u22_8)))))), (u22_9, .inr (9, [.int 5, .int 0, .int 0, .int (-1), .int 0])), (q29_13, .inr (8, [.ref u33_14, .ref u33_15, .int 0, .ref u33_16, .ref u33_17, .ref u33_18, .ref u33_19, .ref u33_20, .int 0, .int 0, .int 0, .int 0, .int 0])), (u33_15, .inr (1, [.ref u33_21, .int 0, .int 0])), (u33_21, .inl (u33_22, 20, .inl (fun _ => 0)))] H := hP
  have hD : va_D A [(h0, .inr (0, [.ref q7_1, .int 0, .ref q18_3, .ref q29_13, .int 0])), (q7_1, .inl (cA7_2, 72, .inl (fun _ => 0))), (q18_3, .inr (7, [.ref u22_4, .int 0, .int 0, .ref u22_5])), (u22_5, .inr (6, [.ref u22_6, .int 0, .ref u22_10, .int 0, .ref u22_11, .ref u22_12])), (u22_6, .inl (u22_7, 36, .inr (.inr (.inr (.inr (u22_8)))))), (u22_9, .inr (9, [.int 5, .int 0, .int 0, .int (-1), .int 0])), (q29_13, .inr (8, [.ref u33_14, .ref u33_15, .int 0, .ref u33_16, .ref u33_17, .ref u33_18, .ref u33_19, .ref u33_20, .int 0, .int 0, .int 0, .int 0, .int 0])), (u33_15, .inr (1, [.ref u33_21, .int 0, .int 0])), (u33_21, .inl (u33_22, 20, .inl (fun _ => 0)))] := hD
  have hP9 := hP.sub (ws' := [(h0, .inr (0, [.ref q7_1, .int 0, .ref q18_3, .ref q29_13, .int 0])), (q7_1, .inl (cA7_2, 72, .inl (fun _ => 0))), (q18_3, .inr (7, [.ref u22_4, .int 0, .int 0, .ref u22_5])), (u22_5, .inr (6, [.ref u22_6, .int 0, .ref u22_10, .int 0, .ref u22_11, .ref u22_12])), (u22_6, .inl (u22_7, 36, .inr (.inr (.inr (.inr (u22_8)))))), (u22_9, .inr (9, [.int 5, .int 0, .int 0, .int (-1), .int 0])), (q29_13, .inr (8, [.ref u33_14, .ref u33_15, .int 0, .ref u33_16, .ref u33_17, .ref u33_18, .ref u33_19, .ref u33_20, .int 0, .int 0, .int 0, .int 0, .int 0])), (u33_15, .inr (1, [.ref u33_21, .int 0, .int 0])), (u33_21, .inl (u33_22, 20, .inl (fun _ => 0)))]) [0, 1, 2, 3, 4, 5, 6, 7, 8] rfl
  have hD9 := hD.sub (ws' := [(h0, .inr (0, [.ref q7_1, .int 0, .ref q18_3, .ref q29_13, .int 0])), (q7_1, .inl (cA7_2, 72, .inl (fun _ => 0))), (q18_3, .inr (7, [.ref u22_4, .int 0, .int 0, .ref u22_5])), (u22_5, .inr (6, [.ref u22_6, .int 0, .ref u22_10, .int 0, .ref u22_11, .ref u22_12])), (u22_6, .inl (u22_7, 36, .inr (.inr (.inr (.inr (u22_8)))))), (u22_9, .inr (9, [.int 5, .int 0, .int 0, .int (-1), .int 0])), (q29_13, .inr (8, [.ref u33_14, .ref u33_15, .int 0, .ref u33_16, .ref u33_17, .ref u33_18, .ref u33_19, .ref u33_20, .int 0, .int 0, .int 0, .int 0, .int 0])), (u33_15, .inr (1, [.ref u33_21, .int 0, .int 0])), (u33_21, .inl (u33_22, 20, .inl (fun _ => 0)))]) [0, 1, 2, 3, 4, 5, 6, 7, 8] (by decide) rfl
  have hK9 := hK.sub (tys' := [(cA7_2, .char), (u22_7, (.object "BigRunner$Statement")), (u33_22, .int)]) [0, 1, 2] rfl
  refine W.widen (k := 736) (n := 5133) (by omega) (by omega) ?_
  exact W.vret hx hb hr (fun t ht hW => ⟨⟨(q7_1, cA7_2, q18_3, q29_13, u22_4, u22_5, u22_6, u22_7, u22_8, u22_9, u22_10, u22_11, u22_12, u33_14, u33_15, u33_16, u33_17, u33_18, u33_19, u33_20, u33_21, u33_22), rfl, hf0, by rw [ht]; exact hP9, va_K.moved hW.alike hK9, hD9⟩, hS.F ht⟩) hS.2.2 d_B_init_44
end
section
def vt_type (k : Int32) : Int32 := if k < 33 then 0 else if 126 < k then 0 else 1
def vt_give (k : Int32) : Int32 := if k < (-1000000000) then 0 else if 1000000000 < k then 0 else 1
def vt_look (k : Int32) : Int32 := if k = 0 then 0 else if k = 1 then 0 else if k = 2 then 0 else if k = 3 then 0 else if k = 4 then 0 else if k = 5 then 0 else if k = 6 then 0 else -1
theorem vt_give_b (k : Int32) : narrow .boolean (.int (vt_give k)) = .int (vt_give k) := by
  unfold vt_give
  split
  · rfl
  · split <;> rfl
set_option maxHeartbeats 4000000 in
set_option maxRecDepth 100000 in
/-- type on a fresh object: its answer -/
theorem c_B_type (l : Launch) (dC : Nat → ClassId) (dI : Nat → Nat → Nat) (sz : Nat) (x : Nat) (ql : Nat) (cl : ClassId) (rd : Nat) (rn : Nat) (qt : Nat) (pr : Nat) (qs : Nat) (cs : ClassId) (fs : Nat → Option Nat) (q0 : Nat) (qn : Nat) (qv : Nat) (qi : Nat) (pn : Nat) (qi2 : Nat) (qm : Nat) (qw : Nat) (qh : Nat) (qd : Nat) (qk : Nat) (qr : Nat) (cr : ClassId) (k : Int32) : Met l ⟨"BigRunner", "type", "(C)Z"⟩ [Cond.code ⟨"BigRunner", "type", "(C)Z"⟩ prog_1_method_2_code 2 (some .boolean)] ({ frames := 0, cells := 0, slots := 0, locals := 0 }) (va_Pc [.ref x, .int k] (fun U => U.heap.size = sz ∧ TB U ∧ va_P (dC, dI) vcl [(x, .inr (0, [.ref ql, .int 0, .ref rd, .ref rn, .int 0])), (ql, .inl (cl, 72, .inl (fun _ => 0))), (rd, .inr (7, [.ref qt, .int 0, .int 0, .ref pr])), (pr, .inr (6, [.ref qs, .int 0, .ref qn, .int 0, .ref qv, .ref qi])), (qs, .inl (cs, 36, .inr (.inr (.inr (.inr (fs)))))), (q0, .inr (9, [.int 5, .int 0, .int 0, .int (-1), .int 0])), (rn, .inr (8, [.ref pn, .ref qi2, .int 0, .ref qm, .ref qw, .ref qh, .ref qd, .ref qk, .int 0, .int 0, .int 0, .int 0, .int 0])), (qi2, .inr (1, [.ref qr, .int 0, .int 0])), (qr, .inl (cr, 20, .inl (fun _ => 0)))] U.heap ∧ va_K (dC, dI) vcl [(cl, .char), (cs, (.object "BigRunner$Statement")), (cr, .int)] U ∧ va_D (fun _ => True) [(x, .inr (0, [.ref ql, .int 0, .ref rd, .ref rn, .int 0])), (ql, .inl (cl, 72, .inl (fun _ => 0))), (rd, .inr (7, [.ref qt, .int 0, .int 0, .ref pr])), (pr, .inr (6, [.ref qs, .int 0, .ref qn, .int 0, .ref qv, .ref qi])), (qs, .inl (cs, 36, .inr (.inr (.inr (.inr (fs)))))), (q0, .inr (9, [.int 5, .int 0, .int 0, .int (-1), .int 0])), (rn, .inr (8, [.ref pn, .ref qi2, .int 0, .ref qm, .ref qw, .ref qh, .ref qd, .ref qk, .int 0, .int 0, .int 0, .int 0, .int 0])), (qi2, .inr (1, [.ref qr, .int 0, .int 0])), (qr, .inl (cr, 20, .inl (fun _ => 0)))])) (va_Qi (fun (r : Int32) (u : Unit) => match u with | _ => r = vt_type k) (fun (u : Unit) (t : State) => match u with | _ => va_P (dC, dI) vcl [] t.heap ∧ va_K (dC, dI) vcl [] t ∧ va_D (va_A [(x, .inr (0, [.ref ql, .int 0, .ref rd, .ref rn, .int 0])), (ql, .inl (cl, 72, .inl (fun _ => 0))), (rd, .inr (7, [.ref qt, .int 0, .int 0, .ref pr])), (pr, .inr (6, [.ref qs, .int 0, .ref qn, .int 0, .ref qv, .ref qi])), (qs, .inl (cs, 36, .inr (.inr (.inr (.inr (fs)))))), (q0, .inr (9, [.int 5, .int 0, .int 0, .int (-1), .int 0])), (rn, .inr (8, [.ref pn, .ref qi2, .int 0, .ref qm, .ref qw, .ref qh, .ref qd, .ref qk, .int 0, .int 0, .int 0, .int 0, .int 0])), (qi2, .inr (1, [.ref qr, .int 0, .int 0])), (qr, .inl (cr, 20, .inl (fun _ => 0)))] sz) []) (va_A [(x, .inr (0, [.ref ql, .int 0, .ref rd, .ref rn, .int 0])), (ql, .inl (cl, 72, .inl (fun _ => 0))), (rd, .inr (7, [.ref qt, .int 0, .int 0, .ref pr])), (pr, .inr (6, [.ref qs, .int 0, .ref qn, .int 0, .ref qv, .ref qi])), (qs, .inl (cs, 36, .inr (.inr (.inr (.inr (fs)))))), (q0, .inr (9, [.int 5, .int 0, .int 0, .int (-1), .int 0])), (rn, .inr (8, [.ref pn, .ref qi2, .int 0, .ref qm, .ref qw, .ref qh, .ref qd, .ref qk, .int 0, .int 0, .int 0, .int 0, .int 0])), (qi2, .inr (1, [.ref qr, .int 0, .int 0])), (qr, .inl (cr, 20, .inl (fun _ => 0)))] sz)) 0 0 (va_A [(x, .inr (0, [.ref ql, .int 0, .ref rd, .ref rn, .int 0])), (ql, .inl (cl, 72, .inl (fun _ => 0))), (rd, .inr (7, [.ref qt, .int 0, .int 0, .ref pr])), (pr, .inr (6, [.ref qs, .int 0, .ref qn, .int 0, .ref qv, .ref qi])), (qs, .inl (cs, 36, .inr (.inr (.inr (.inr (fs)))))), (q0, .inr (9, [.int 5, .int 0, .int 0, .int (-1), .int 0])), (rn, .inr (8, [.ref pn, .ref qi2, .int 0, .ref qm, .ref qw, .ref qh, .ref qd, .ref qk, .int 0, .int 0, .int 0, .int 0, .int 0])), (qi2, .inr (1, [.ref qr, .int 0, .int 0])), (qr, .inl (cr, 20, .inl (fun _ => 0)))] sz) := by
  refine Met.ofW (cc := prog_1_method_2_code) (maxL := 2) (ret := (some .boolean)) (by decide) rfl ?_
  intro p e s m args below meth c s₁ B hml hv
  obtain ⟨rfl, hsz, hB, hP, hK, hD0⟩ := hv
  have hx := B.exec
  have hb := B.bytes
  have hr := B.returns
  have hown : s.vm.findClass "BigRunner" = some m.cls := findClass_of_methodNamed B.named
  have hlocks := B.notSynchronized
  subst hsz
  have hD := hD0.self (sz := s.heap.size)
  generalize hAe : va_A [(x, .inr (0, [.ref ql, .int 0, .ref rd, .ref rn, .int 0])), (ql, .inl (cl, 72, .inl (fun _ => 0))), (rd, .inr (7, [.ref qt, .int 0, .int 0, .ref pr])), (pr, .inr (6, [.ref qs, .int 0, .ref qn, .int 0, .ref qv, .ref qi])), (qs, .inl (cs, 36, .inr (.inr (.inr (.inr (fs)))))), (q0, .inr (9, [.int 5, .int 0, .int 0, .int (-1), .int 0])), (rn, .inr (8, [.ref pn, .ref qi2, .int 0, .ref qm, .ref qw, .ref qh, .ref qd, .ref qk, .int 0, .int 0, .int 0, .int 0, .int 0])), (qi2, .inr (1, [.ref qr, .int 0, .int 0])), (qr, .inl (cr, 20, .inl (fun _ => 0)))] s.heap.size = A at hD ⊢
  have hA : ∀ q : Nat, s.heap.size ≤ q → A q := fun q h => by rw [← hAe]; exact Or.inr h
  have hS : va_S A s.heap s.heap [] := va_S.rf
  have hP : va_P (dC, dI) vcl [(x, .inr (0, [.ref ql, .int 0, .ref rd, .ref rn, .int 0])), (ql, .inl (cl, 72, .inl (fun _ => 0))), (rd, .inr (7, [.ref qt, .int 0, .int 0, .ref pr])), (pr, .inr (6, [.ref qs, .int 0, .ref qn, .int 0, .ref qv, .ref qi])), (qs, .inl (cs, 36, .inr (.inr (.inr (.inr (fs)))))), (q0, .inr (9, [.int 5, .int 0, .int 0, .int (-1), .int 0])), (rn, .inr (8, [.ref pn, .ref qi2, .int 0, .ref qm, .ref qw, .ref qh, .ref qd, .ref qk, .int 0, .int 0, .int 0, .int 0, .int 0])), (qi2, .inr (1, [.ref qr, .int 0, .int 0])), (qr, .inl (cr, 20, .inl (fun _ => 0)))] s.heap := hP
  have hl := lv_entry ([.ref x, .int k]) (n := 2) (Nat.le_of_ble_eq_true rfl)
  rw [lg_entry_eq]
  generalize (lg_sl ([.ref x, .int k]) ++ List.replicate (2 - (lg_sl ([.ref x, .int k])).length) Slot.unset).toArray = ls at hl ⊢
  have hl : lv_has ls 2 [(0, .ref x), (1, .int k)] := hl
  refine lv_iload_n hx hb d_B_type_0 rfl (lv_at hl 1 rfl) ?_
  refine lv_bipush (v := 33) hx hb d_B_type_1 (by decide) ?_
  refine lv_icmp_lt (tgt := 21) hx hb d_B_type_3 (by decide) (fun h1 => ?_) (fun h1 => ?_)
  · skip
    refine lv_iconst (v := 0) hx hb d_B_type_21 (by decide) ?_
    have hP9 := hP.sub (ws' := []) [] rfl
    have hD9 := hD.sub (ws' := []) [] (by decide) rfl
    have hK9 := hK.sub (tys' := []) [] rfl
    refine W.widen (k := 0) (n := 0) (by omega) (by omega) ?_
    exact W.zret (v := 0) (ty := .boolean) hx hb hr rfl (fun t ht hW => ⟨⟨0, (), rfl, (by simp [vt_type, h1]), by rw [ht]; exact hP9, va_K.moved hW.alike hK9, hD9⟩, hS.F ht⟩) hS.2.2 d_B_type_22
  · skip
    refine lv_iload_n hx hb d_B_type_6 rfl (lv_at hl 1 rfl) ?_
    refine lv_bipush (v := 126) hx hb d_B_type_7 (by decide) ?_
    refine lv_icmp_gt (tgt := 21) hx hb d_B_type_9 (by decide) (fun h2 => ?_) (fun h2 => ?_)
    · skip
      refine lv_iconst (v := 0) hx hb d_B_type_21 (by decide) ?_
      have hP9 := hP.sub (ws' := []) [] rfl
      have hD9 := hD.sub (ws' := []) [] (by decide) rfl
      have hK9 := hK.sub (tys' := []) [] rfl
      refine W.widen (k := 0) (n := 0) (by omega) (by omega) ?_
      exact W.zret (v := 0) (ty := .boolean) hx hb hr rfl (fun t ht hW => ⟨⟨0, (), rfl, (by simp [vt_type, h1, h2]), by rw [ht]; exact hP9, va_K.moved hW.alike hK9, hD9⟩, hS.F ht⟩) hS.2.2 d_B_type_22
    · skip
      refine lv_aload_n hx hb d_B_type_12 rfl (lv_at hl 0 rfl) ?_
      refine va_get (D := (dC, dI)) (ci := 0) (v := .int 0) (C := "BigRunner") (T := FT0) (N := 5) hx hb (hw0 hB _) (fun _ h9 => h9) hown hK hP 0 rfl rfl 1 (by decide) (wd_379 hB _) (fun _ h9 => h9) rfl d_B_type_13 ?_
      refine lv_bipush (v := 72) hx hb d_B_type_16 (by decide) ?_
      refine lv_icmp_lt (tgt := 23) hx hb d_B_type_18 (by decide) (fun _ => ?_) (fun hq => absurd (by decide) hq)
      refine lv_aload_n hx hb d_B_type_23 rfl (lv_at hl 0 rfl) ?_
      refine va_get (D := (dC, dI)) (ci := 0) (v := .ref ql) (C := "BigRunner") (T := FT0) (N := 5) hx hb (hw0 hB _) (fun _ h9 => h9) hown hK hP 0 rfl rfl 0 (by decide) (wd_378 hB _) (fun _ h9 => h9) rfl d_B_type_24 ?_
      refine lv_aload_n hx hb d_B_type_27 rfl (lv_at hl 0 rfl) ?_
      refine va_get (D := (dC, dI)) (ci := 0) (v := .int 0) (C := "BigRunner") (T := FT0) (N := 5) hx hb (hw0 hB _) (fun _ h9 => h9) hown hK hP 0 rfl rfl 1 (by decide) (wd_379 hB _) (fun _ h9 => h9) rfl d_B_type_28 ?_
      refine lv_iload_n hx hb d_B_type_31 rfl (lv_at hl 1 rfl) ?_
      refine va_cast (D := (dC, dI)) hx hb hK hP hD hS 1 0 rfl rfl (vp_in_nI (n := 0) (by decide) (by decide)) d_B_type_32 (fun H locs hP hD hS => ?_)
      have hP : va_P (dC, dI) vcl [(x, .inr (0, [.ref ql, .int 0, .ref rd, .ref rn, .int 0])), (ql, .inl (cl, 72, .inl (upd (fun _ => 0) (0 : Int32).toNatClampNeg (vp_nar .char k)))), (rd, .inr (7, [.ref qt, .int 0, .int 0, .ref pr])), (pr, .inr (6, [.ref qs, .int 0, .ref qn, .int 0, .ref qv, .ref qi])), (qs, .inl (cs, 36, .inr (.inr (.inr (.inr (fs)))))), (q0, .inr (9, [.int 5, .int 0, .int 0, .int (-1), .int 0])), (rn, .inr (8, [.ref pn, .ref qi2, .int 0, .ref qm, .ref qw, .ref qh, .ref qd, .ref qk, .int 0, .int 0, .int 0, .int 0, .int 0])), (qi2, .inr (1, [.ref qr, .int 0, .int 0])), (qr, .inl (cr, 20, .inl (fun _ => 0)))] H := hP
      have hD : va_D A [(x, .inr (0, [.ref ql, .int 0, .ref rd, .ref rn, .int 0])), (ql, .inl (cl, 72, .inl (upd (fun _ => 0) (0 : Int32).toNatClampNeg (vp_nar .char k)))), (rd, .inr (7, [.ref qt, .int 0, .int 0, .ref pr])), (pr, .inr (6, [.ref qs, .int 0, .ref qn, .int 0, .ref qv, .ref qi])), (qs, .inl (cs, 36, .inr (.inr (.inr (.inr (fs)))))), (q0, .inr (9, [.int 5, .int 0, .int 0, .int (-1), .int 0])), (rn, .inr (8, [.ref pn, .ref qi2, .int 0, .ref qm, .ref qw, .ref qh, .ref qd, .ref qk, .int 0, .int 0, .int 0, .int 0, .int 0])), (qi2, .inr (1, [.ref qr, .int 0, .int 0])), (qr, .inl (cr, 20, .inl (fun _ => 0)))] := hD
      refine lv_aload_n hx hb d_B_type_33 rfl (lv_at hl 0 rfl) ?_
      refine lv_dup hx hb d_B_type_34 rfl ?_
      refine va_get (D := (dC, dI)) (ci := 0) (v := .int 0) (C := "BigRunner") (T := FT0) (N := 5) hx hb (hw0 hB _) (fun _ h9 => h9) hown hK hP 0 rfl rfl 1 (by decide) (wd_379 hB _) (fun _ h9 => h9) rfl d_B_type_35 ?_
      refine lv_iconst (v := 1) hx hb d_B_type_38 (by decide) ?_
      refine lv_iadd hx hb d_B_type_39 ?_
      refine lv_topi (fun z_ hz_ => ?_)
      have hz_ : z_ = 1 := hz_.trans (by decide)
      subst hz_
      refine va_put (D := (dC, dI)) (ci := 0) (v := .int 1) (ty := .int) (C := "BigRunner") (T := FT0) (N := 5) hx hb (hw0 hB _) (fun _ h9 => h9) TY0 ok0 nm0 hown hK hP hD hS 0 rfl rfl 1 (by decide) (wd_379 hB _) (fun _ h9 => h9) rfl (by decide +kernel) rfl rfl (Nat.le_of_ble_eq_true rfl) d_B_type_40 (fun H locs hP hD hS => ?_)
      have hP : va_P (dC, dI) vcl [(x, .inr (0, [.ref ql, .int 1, .ref rd, .ref rn, .int 0])), (ql, .inl (cl, 72, .inl (upd (fun _ => 0) (0 : Int32).toNatClampNeg (vp_nar .char k)))), (rd, .inr (7, [.ref qt, .int 0, .int 0, .ref pr])), (pr, .inr (6, [.ref qs, .int 0, .ref qn, .int 0, .ref qv, .ref qi])), (qs, .inl (cs, 36, .inr (.inr (.inr (.inr (fs)))))), (q0, .inr (9, [.int 5, .int 0, .int 0, .int (-1), .int 0])), (rn, .inr (8, [.ref pn, .ref qi2, .int 0, .ref qm, .ref qw, .ref qh, .ref qd, .ref qk, .int 0, .int 0, .int 0, .int 0, .int 0])), (qi2, .inr (1, [.ref qr, .int 0, .int 0])), (qr, .inl (cr, 20, .inl (fun _ => 0)))] H := hP
      have hD : va_D A [(x, .inr (0, [.ref ql, .int 1, .ref rd, .ref rn, .int 0])), (ql, .inl (cl, 72, .inl (upd (fun _ => 0) (0 : Int32).toNatClampNeg (vp_nar .char k)))), (rd, .inr (7, [.ref qt, .int 0, .int 0, .ref pr])), (pr, .inr (6, [.ref qs, .int 0, .ref qn, .int 0, .ref qv, .ref qi])), (qs, .inl (cs, 36, .inr (.inr (.inr (.inr (fs)))))), (q0, .inr (9, [.int 5, .int 0, .int 0, .int (-1), .int 0])), (rn, .inr (8, [.ref pn, .ref qi2, .int 0, .ref qm, .ref qw, .ref qh, .ref qd, .ref qk, .int 0, .int 0, .int 0, .int 0, .int 0])), (qi2, .inr (1, [.ref qr, .int 0, .int 0])), (qr, .inl (cr, 20, .inl (fun _ => 0)))] := hD
      refine lv_iconst (v := 1) hx hb d_B_type_43 (by decide) ?_
      have hP9 := hP.sub (ws' := []) [] rfl
      have hD9 := hD.sub (ws' := []) [] (by decide) rfl
      have hK9 := hK.sub (tys' := []) [] rfl
      refine W.widen (k := 0) (n := 0) (by omega) (by omega) ?_
      exact W.zret (v := 1) (ty := .boolean) hx hb hr rfl (fun t ht hW => ⟨⟨1, (), rfl, (by simp [vt_type, h1, h2]), by rw [ht]; exact hP9, va_K.moved hW.alike hK9, hD9⟩, hS.F ht⟩) hS.2.2 d_B_type_44
set_option maxHeartbeats 4000000 in
set_option maxRecDepth 100000 in
/-- wipe on a fresh object -/
theorem c_B_wipe (l : Launch) (dC : Nat → ClassId) (dI : Nat → Nat → Nat) (sz : Nat) (x : Nat) (ql : Nat) (cl : ClassId) (rd : Nat) (rn : Nat) (qt : Nat) (pr : Nat) (qs : Nat) (cs : ClassId) (fs : Nat → Option Nat) (q0 : Nat) (qn : Nat) (qv : Nat) (qi : Nat) (pn : Nat) (qi2 : Nat) (qm : Nat) (qw : Nat) (qh : Nat) (qd : Nat) (qk : Nat) (qr : Nat) (cr : ClassId) : Met l ⟨"BigRunner", "wipe", "()V"⟩ [Cond.code ⟨"BigRunner", "wipe", "()V"⟩ prog_1_method_3_code 1 none] ({ frames := 0, cells := 0, slots := 0, locals := 0 }) (va_Pc [.ref x] (fun U => U.heap.size = sz ∧ TB U ∧ va_P (dC, dI) vcl [(x, .inr (0, [.ref ql, .int 0, .ref rd, .ref rn, .int 0])), (ql, .inl (cl, 72, .inl (fun _ => 0))), (rd, .inr (7, [.ref qt, .int 0, .int 0, .ref pr])), (pr, .inr (6, [.ref qs, .int 0, .ref qn, .int 0, .ref qv, .ref qi])), (qs, .inl (cs, 36, .inr (.inr (.inr (.inr (fs)))))), (q0, .inr (9, [.int 5, .int 0, .int 0, .int (-1), .int 0])), (rn, .inr (8, [.ref pn, .ref qi2, .int 0, .ref qm, .ref qw, .ref qh, .ref qd, .ref qk, .int 0, .int 0, .int 0, .int 0, .int 0])), (qi2, .inr (1, [.ref qr, .int 0, .int 0])), (qr, .inl (cr, 20, .inl (fun _ => 0)))] U.heap ∧ va_K (dC, dI) vcl [(cl, .char), (cs, (.object "BigRunner$Statement")), (cr, .int)] U ∧ va_D (fun _ => True) [(x, .inr (0, [.ref ql, .int 0, .ref rd, .ref rn, .int 0])), (ql, .inl (cl, 72, .inl (fun _ => 0))), (rd, .inr (7, [.ref qt, .int 0, .int 0, .ref pr])), (pr, .inr (6, [.ref qs, .int 0, .ref qn, .int 0, .ref qv, .ref qi])), (qs, .inl (cs, 36, .inr (.inr (.inr (.inr (fs)))))), (q0, .inr (9, [.int 5, .int 0, .int 0, .int (-1), .int 0])), (rn, .inr (8, [.ref pn, .ref qi2, .int 0, .ref qm, .ref qw, .ref qh, .ref qd, .ref qk, .int 0, .int 0, .int 0, .int 0, .int 0])), (qi2, .inr (1, [.ref qr, .int 0, .int 0])), (qr, .inl (cr, 20, .inl (fun _ => 0)))])) (va_Qv (fun (u : Unit) => match u with | _ => True) (fun (u : Unit) (t : State) => match u with | _ => va_P (dC, dI) vcl [] t.heap ∧ va_K (dC, dI) vcl [] t ∧ va_D (va_A [(x, .inr (0, [.ref ql, .int 0, .ref rd, .ref rn, .int 0])), (ql, .inl (cl, 72, .inl (fun _ => 0))), (rd, .inr (7, [.ref qt, .int 0, .int 0, .ref pr])), (pr, .inr (6, [.ref qs, .int 0, .ref qn, .int 0, .ref qv, .ref qi])), (qs, .inl (cs, 36, .inr (.inr (.inr (.inr (fs)))))), (q0, .inr (9, [.int 5, .int 0, .int 0, .int (-1), .int 0])), (rn, .inr (8, [.ref pn, .ref qi2, .int 0, .ref qm, .ref qw, .ref qh, .ref qd, .ref qk, .int 0, .int 0, .int 0, .int 0, .int 0])), (qi2, .inr (1, [.ref qr, .int 0, .int 0])), (qr, .inl (cr, 20, .inl (fun _ => 0)))] sz) []) (va_A [(x, .inr (0, [.ref ql, .int 0, .ref rd, .ref rn, .int 0])), (ql, .inl (cl, 72, .inl (fun _ => 0))), (rd, .inr (7, [.ref qt, .int 0, .int 0, .ref pr])), (pr, .inr (6, [.ref qs, .int 0, .ref qn, .int 0, .ref qv, .ref qi])), (qs, .inl (cs, 36, .inr (.inr (.inr (.inr (fs)))))), (q0, .inr (9, [.int 5, .int 0, .int 0, .int (-1), .int 0])), (rn, .inr (8, [.ref pn, .ref qi2, .int 0, .ref qm, .ref qw, .ref qh, .ref qd, .ref qk, .int 0, .int 0, .int 0, .int 0, .int 0])), (qi2, .inr (1, [.ref qr, .int 0, .int 0])), (qr, .inl (cr, 20, .inl (fun _ => 0)))] sz)) 0 0 (va_A [(x, .inr (0, [.ref ql, .int 0, .ref rd, .ref rn, .int 0])), (ql, .inl (cl, 72, .inl (fun _ => 0))), (rd, .inr (7, [.ref qt, .int 0, .int 0, .ref pr])), (pr, .inr (6, [.ref qs, .int 0, .ref qn, .int 0, .ref qv, .ref qi])), (qs, .inl (cs, 36, .inr (.inr (.inr (.inr (fs)))))), (q0, .inr (9, [.int 5, .int 0, .int 0, .int (-1), .int 0])), (rn, .inr (8, [.ref pn, .ref qi2, .int 0, .ref qm, .ref qw, .ref qh, .ref qd, .ref qk, .int 0, .int 0, .int 0, .int 0, .int 0])), (qi2, .inr (1, [.ref qr, .int 0, .int 0])), (qr, .inl (cr, 20, .inl (fun _ => 0)))] sz) := by
  refine Met.ofW (cc := prog_1_method_3_code) (maxL := 1) (ret := none) (by decide) rfl ?_
  intro p e s m args below meth c s₁ B hml hv
  obtain ⟨rfl, hsz, hB, hP, hK, hD0⟩ := hv
  have hx := B.exec
  have hb := B.bytes
  have hr := B.returns
  have hown : s.vm.findClass "BigRunner" = some m.cls := findClass_of_methodNamed B.named
  have hlocks := B.notSynchronized
  subst hsz
  have hD := hD0.self (sz := s.heap.size)
  generalize hAe : va_A [(x, .inr (0, [.ref ql, .int 0, .ref rd, .ref rn, .int 0])), (ql, .inl (cl, 72, .inl (fun _ => 0))), (rd, .inr (7, [.ref qt, .int 0, .int 0, .ref pr])), (pr, .inr (6, [.ref qs, .int 0, .ref qn, .int 0, .ref qv, .ref qi])), (qs, .inl (cs, 36, .inr (.inr (.inr (.inr (fs)))))), (q0, .inr (9, [.int 5, .int 0, .int 0, .int (-1), .int 0])), (rn, .inr (8, [.ref pn, .ref qi2, .int 0, .ref qm, .ref qw, .ref qh, .ref qd, .ref qk, .int 0, .int 0, .int 0, .int 0, .int 0])), (qi2, .inr (1, [.ref qr, .int 0, .int 0])), (qr, .inl (cr, 20, .inl (fun _ => 0)))] s.heap.size = A at hD ⊢
  have hA : ∀ q : Nat, s.heap.size ≤ q → A q := fun q h => by rw [← hAe]; exact Or.inr h
  have hS : va_S A s.heap s.heap [] := va_S.rf
  have hP : va_P (dC, dI) vcl [(x, .inr (0, [.ref ql, .int 0, .ref rd, .ref rn, .int 0])), (ql, .inl (cl, 72, .inl (fun _ => 0))), (rd, .inr (7, [.ref qt, .int 0, .int 0, .ref pr])), (pr, .inr (6, [.ref qs, .int 0, .ref qn, .int 0, .ref qv, .ref qi])), (qs, .inl (cs, 36, .inr (.inr (.inr (.inr (fs)))))), (q0, .inr (9, [.int 5, .int 0, .int 0, .int (-1), .int 0])), (rn, .inr (8, [.ref pn, .ref qi2, .int 0, .ref qm, .ref qw, .ref qh, .ref qd, .ref qk, .int 0, .int 0, .int 0, .int 0, .int 0])), (qi2, .inr (1, [.ref qr, .int 0, .int 0])), (qr, .inl (cr, 20, .inl (fun _ => 0)))] s.heap := hP
  have hl := lv_entry ([.ref x]) (n := 1) (Nat.le_of_ble_eq_true rfl)
  rw [lg_entry_eq]
  generalize (lg_sl ([.ref x]) ++ List.replicate (1 - (lg_sl ([.ref x])).length) Slot.unset).toArray = ls at hl ⊢
  have hl : lv_has ls 1 [(0, .ref x)] := hl
  refine lv_aload_n hx hb d_B_wipe_0 rfl (lv_at hl 0 rfl) ?_
  refine lv_iconst (v := 0) hx hb d_B_wipe_1 (by decide) ?_
  refine va_put (D := (dC, dI)) (ci := 0) (v := .int 0) (ty := .int) (C := "BigRunner") (T := FT0) (N := 5) hx hb (hw0 hB _) (fun _ h9 => h9) TY0 ok0 nm0 hown hK hP hD hS 0 rfl rfl 1 (by decide) (wd_379 hB _) (fun _ h9 => h9) rfl (by decide +kernel) rfl rfl (Nat.le_of_ble_eq_true rfl) d_B_wipe_2 (fun H locs hP hD hS => ?_)
  have hP : va_P (dC, dI) vcl [(x, .inr (0, [.ref ql, .int 0, .ref rd, .ref rn, .int 0])), (ql, .inl (cl, 72, .inl (fun _ => 0))), (rd, .inr (7, [.ref qt, .int 0, .int 0, .ref pr])), (pr, .inr (6, [.ref qs, .int 0, .ref qn, .int 0, .ref qv, .ref qi])), (qs, .inl (cs, 36, .inr (.inr (.inr (.inr (fs)))))), (q0, .inr (9, [.int 5, .int 0, .int 0, .int (-1), .int 0])), (rn, .inr (8, [.ref pn, .ref qi2, .int 0, .ref qm, .ref qw, .ref qh, .ref qd, .ref qk, .int 0, .int 0, .int 0, .int 0, .int 0])), (qi2, .inr (1, [.ref qr, .int 0, .int 0])), (qr, .inl (cr, 20, .inl (fun _ => 0)))] H := hP
  have hD : va_D A [(x, .inr (0, [.ref ql, .int 0, .ref rd, .ref rn, .int 0])), (ql, .inl (cl, 72, .inl (fun _ => 0))), (rd, .inr (7, [.ref qt, .int 0, .int 0, .ref pr])), (pr, .inr (6, [.ref qs, .int 0, .ref qn, .int 0, .ref qv, .ref qi])), (qs, .inl (cs, 36, .inr (.inr (.inr (.inr (fs)))))), (q0, .inr (9, [.int 5, .int 0, .int 0, .int (-1), .int 0])), (rn, .inr (8, [.ref pn, .ref qi2, .int 0, .ref qm, .ref qw, .ref qh, .ref qd, .ref qk, .int 0, .int 0, .int 0, .int 0, .int 0])), (qi2, .inr (1, [.ref qr, .int 0, .int 0])), (qr, .inl (cr, 20, .inl (fun _ => 0)))] := hD
  have hP9 := hP.sub (ws' := []) [] rfl
  have hD9 := hD.sub (ws' := []) [] (by decide) rfl
  have hK9 := hK.sub (tys' := []) [] rfl
  refine W.widen (k := 0) (n := 0) (by omega) (by omega) ?_
  exact W.vret hx hb hr (fun t ht hW => ⟨⟨(), rfl, trivial, by rw [ht]; exact hP9, va_K.moved hW.alike hK9, hD9⟩, hS.F ht⟩) hS.2.2 d_B_wipe_5
set_option maxHeartbeats 4000000 in
set_option maxRecDepth 100000 in
theorem c_Inputs_append (l : Launch) (dC : Nat → ClassId) (dI : Nat → Nat → Nat) (sz : Nat) (y : Nat) (qr : Nat) (cr : ClassId) (k : Int32) : Met l ⟨"BigRunner$Inputs", "append", "(I)Z"⟩ [Cond.code ⟨"BigRunner$Inputs", "append", "(I)Z"⟩ prog_2_method_2_code 2 (some .boolean)] ({ frames := 0, cells := 0, slots := 0, locals := 0 }) (va_Pc [.ref y, .int k] (fun U => U.heap.size = sz ∧ TB U ∧ va_P (dC, dI) vcl [(y, .inr (1, [.ref qr, .int 0, .int 0])), (qr, .inl (cr, 20, .inl (fun _ => 0)))] U.heap ∧ va_K (dC, dI) vcl [(cr, .int)] U ∧ va_D (fun _ => True) [(y, .inr (1, [.ref qr, .int 0, .int 0])), (qr, .inl (cr, 20, .inl (fun _ => 0)))])) (va_Qi (fun (r : Int32) (u : Unit) => match u with | _ => r = vt_give k) (fun (u : Unit) (t : State) => match u with | _ => va_P (dC, dI) vcl [] t.heap ∧ va_K (dC, dI) vcl [] t ∧ va_D (va_A [(y, .inr (1, [.ref qr, .int 0, .int 0])), (qr, .inl (cr, 20, .inl (fun _ => 0)))] sz) []) (va_A [(y, .inr (1, [.ref qr, .int 0, .int 0])), (qr, .inl (cr, 20, .inl (fun _ => 0)))] sz)) 0 0 (va_A [(y, .inr (1, [.ref qr, .int 0, .int 0])), (qr, .inl (cr, 20, .inl (fun _ => 0)))] sz) := by
  refine Met.ofW (cc := prog_2_method_2_code) (maxL := 2) (ret := (some .boolean)) (by decide) rfl ?_
  intro p e s m args below meth c s₁ B hml hv
  obtain ⟨rfl, hsz, hB, hP, hK, hD0⟩ := hv
  have hx := B.exec
  have hb := B.bytes
  have hr := B.returns
  have hown : s.vm.findClass "BigRunner$Inputs" = some m.cls := findClass_of_methodNamed B.named
  have hlocks := B.notSynchronized
  subst hsz
  have hD := hD0.self (sz := s.heap.size)
  generalize hAe : va_A [(y, .inr (1, [.ref qr, .int 0, .int 0])), (qr, .inl (cr, 20, .inl (fun _ => 0)))] s.heap.size = A at hD ⊢
  have hA : ∀ q : Nat, s.heap.size ≤ q → A q := fun q h => by rw [← hAe]; exact Or.inr h
  have hS : va_S A s.heap s.heap [] := va_S.rf
  have hP : va_P (dC, dI) vcl [(y, .inr (1, [.ref qr, .int 0, .int 0])), (qr, .inl (cr, 20, .inl (fun _ => 0)))] s.heap := hP
  have hl := lv_entry ([.ref y, .int k]) (n := 2) (Nat.le_of_ble_eq_true rfl)
  rw [lg_entry_eq]
  generalize (lg_sl ([.ref y, .int k]) ++ List.replicate (2 - (lg_sl ([.ref y, .int k])).length) Slot.unset).toArray = ls at hl ⊢
  have hl : lv_has ls 2 [(0, .ref y), (1, .int k)] := hl
  refine lv_iload_n hx hb d_NInputs_append_0 rfl (lv_at hl 1 rfl) ?_
  refine lv_ldc hx hb hown (wd_410 hB _) d_NInputs_append_1 ?_
  refine lv_icmp_lt (tgt := 21) hx hb d_NInputs_append_3 (by decide) (fun h1 => ?_) (fun h1 => ?_)
  · skip
    refine lv_iconst (v := 0) hx hb d_NInputs_append_21 (by decide) ?_
    have hP9 := hP.sub (ws' := []) [] rfl
    have hD9 := hD.sub (ws' := []) [] (by decide) rfl
    have hK9 := hK.sub (tys' := []) [] rfl
    refine W.widen (k := 0) (n := 0) (by omega) (by omega) ?_
    exact W.zret (v := 0) (ty := .boolean) hx hb hr rfl (fun t ht hW => ⟨⟨0, (), rfl, (by simp [vt_give, h1]), by rw [ht]; exact hP9, va_K.moved hW.alike hK9, hD9⟩, hS.F ht⟩) hS.2.2 d_NInputs_append_22
  · skip
    refine lv_iload_n hx hb d_NInputs_append_6 rfl (lv_at hl 1 rfl) ?_
    refine lv_ldc hx hb hown (wd_411 hB _) d_NInputs_append_7 ?_
    refine lv_icmp_gt (tgt := 21) hx hb d_NInputs_append_9 (by decide) (fun h2 => ?_) (fun h2 => ?_)
    · skip
      refine lv_iconst (v := 0) hx hb d_NInputs_append_21 (by decide) ?_
      have hP9 := hP.sub (ws' := []) [] rfl
      have hD9 := hD.sub (ws' := []) [] (by decide) rfl
      have hK9 := hK.sub (tys' := []) [] rfl
      refine W.widen (k := 0) (n := 0) (by omega) (by omega) ?_
      exact W.zret (v := 0) (ty := .boolean) hx hb hr rfl (fun t ht hW => ⟨⟨0, (), rfl, (by simp [vt_give, h1, h2]), by rw [ht]; exact hP9, va_K.moved hW.alike hK9, hD9⟩, hS.F ht⟩) hS.2.2 d_NInputs_append_22
    · skip
      refine lv_aload_n hx hb d_NInputs_append_12 rfl (lv_at hl 0 rfl) ?_
      refine va_get (D := (dC, dI)) (ci := 1) (v := .int 0) (C := "BigRunner$Inputs") (T := FT1) (N := 3) hx hb (hw1 hB _) (fun _ h9 => h9) hown hK hP 0 rfl rfl 2 (by decide) (wd_300 hB _) (fun _ h9 => h9) rfl d_NInputs_append_13 ?_
      refine lv_bipush (v := 20) hx hb d_NInputs_append_16 (by decide) ?_
      refine lv_icmp_lt (tgt := 23) hx hb d_NInputs_append_18 (by decide) (fun _ => ?_) (fun hq => absurd (by decide) hq)
      refine lv_aload_n hx hb d_NInputs_append_23 rfl (lv_at hl 0 rfl) ?_
      refine va_get (D := (dC, dI)) (ci := 1) (v := .ref qr) (C := "BigRunner$Inputs") (T := FT1) (N := 3) hx hb (hw1 hB _) (fun _ h9 => h9) hown hK hP 0 rfl rfl 0 (by decide) (wd_298 hB _) (fun _ h9 => h9) rfl d_NInputs_append_24 ?_
      refine lv_aload_n hx hb d_NInputs_append_27 rfl (lv_at hl 0 rfl) ?_
      refine va_get (D := (dC, dI)) (ci := 1) (v := .int 0) (C := "BigRunner$Inputs") (T := FT1) (N := 3) hx hb (hw1 hB _) (fun _ h9 => h9) hown hK hP 0 rfl rfl 1 (by decide) (wd_299 hB _) (fun _ h9 => h9) rfl d_NInputs_append_28 ?_
      refine lv_aload_n hx hb d_NInputs_append_31 rfl (lv_at hl 0 rfl) ?_
      refine va_get (D := (dC, dI)) (ci := 1) (v := .int 0) (C := "BigRunner$Inputs") (T := FT1) (N := 3) hx hb (hw1 hB _) (fun _ h9 => h9) hown hK hP 0 rfl rfl 2 (by decide) (wd_300 hB _) (fun _ h9 => h9) rfl d_NInputs_append_32 ?_
      refine lv_iadd hx hb d_NInputs_append_35 ?_
      refine lv_bipush (v := 20) hx hb d_NInputs_append_36 (by decide) ?_
      refine lv_irem hx hb d_NInputs_append_38 (by decide) ?_
      refine lv_topi (fun z_ hz_ => ?_)
      have hz_ : z_ = 0 := hz_.trans (by decide)
      subst hz_
      refine lv_iload_n hx hb d_NInputs_append_39 rfl (lv_at hl 1 rfl) ?_
      refine va_iast (D := (dC, dI)) hx hb hK hP hD hS 1 0 rfl rfl (vp_in_nI (n := 0) (by decide) (by decide)) d_NInputs_append_40 (fun H locs hP hD hS => ?_)
      have hP : va_P (dC, dI) vcl [(y, .inr (1, [.ref qr, .int 0, .int 0])), (qr, .inl (cr, 20, .inl (upd (fun _ => 0) (0 : Int32).toNatClampNeg k)))] H := hP
      have hD : va_D A [(y, .inr (1, [.ref qr, .int 0, .int 0])), (qr, .inl (cr, 20, .inl (upd (fun _ => 0) (0 : Int32).toNatClampNeg k)))] := hD
      refine lv_aload_n hx hb d_NInputs_append_41 rfl (lv_at hl 0 rfl) ?_
      refine lv_dup hx hb d_NInputs_append_42 rfl ?_
      refine va_get (D := (dC, dI)) (ci := 1) (v := .int 0) (C := "BigRunner$Inputs") (T := FT1) (N := 3) hx hb (hw1 hB _) (fun _ h9 => h9) hown hK hP 0 rfl rfl 2 (by decide) (wd_300 hB _) (fun _ h9 => h9) rfl d_NInputs_append_43 ?_
      refine lv_iconst (v := 1) hx hb d_NInputs_append_46 (by decide) ?_
      refine lv_iadd hx hb d_NInputs_append_47 ?_
      refine lv_topi (fun z_ hz_ => ?_)
      have hz_ : z_ = 1 := hz_.trans (by decide)
      subst hz_
      refine va_put (D := (dC, dI)) (ci := 1) (v := .int 1) (ty := .int) (C := "BigRunner$Inputs") (T := FT1) (N := 3) hx hb (hw1 hB _) (fun _ h9 => h9) TY1 ok1 nm1 hown hK hP hD hS 0 rfl rfl 2 (by decide) (wd_300 hB _) (fun _ h9 => h9) rfl (by decide +kernel) rfl rfl (Nat.le_of_ble_eq_true rfl) d_NInputs_append_48 (fun H locs hP hD hS => ?_)
      have hP : va_P (dC, dI) vcl [(y, .inr (1, [.ref qr, .int 0, .int 1])), (qr, .inl (cr, 20, .inl (upd (fun _ => 0) (0 : Int32).toNatClampNeg k)))] H := hP
      have hD : va_D A [(y, .inr (1, [.ref qr, .int 0, .int 1])), (qr, .inl (cr, 20, .inl (upd (fun _ => 0) (0 : Int32).toNatClampNeg k)))] := hD
      refine lv_iconst (v := 1) hx hb d_NInputs_append_51 (by decide) ?_
      have hP9 := hP.sub (ws' := []) [] rfl
      have hD9 := hD.sub (ws' := []) [] (by decide) rfl
      have hK9 := hK.sub (tys' := []) [] rfl
      refine W.widen (k := 0) (n := 0) (by omega) (by omega) ?_
      exact W.zret (v := 1) (ty := .boolean) hx hb hr rfl (fun t ht hW => ⟨⟨1, (), rfl, (by simp [vt_give, h1, h2]), by rw [ht]; exact hP9, va_K.moved hW.alike hK9, hD9⟩, hS.F ht⟩) hS.2.2 d_NInputs_append_52
set_option maxHeartbeats 4000000 in
set_option maxRecDepth 100000 in
/-- give on a fresh object -/
theorem c_B_give (l : Launch) (dC : Nat → ClassId) (dI : Nat → Nat → Nat) (sz : Nat) (x : Nat) (ql : Nat) (cl : ClassId) (rd : Nat) (rn : Nat) (qt : Nat) (pr : Nat) (qs : Nat) (cs : ClassId) (fs : Nat → Option Nat) (q0 : Nat) (qn : Nat) (qv : Nat) (qi : Nat) (pn : Nat) (qi2 : Nat) (qm : Nat) (qw : Nat) (qh : Nat) (qd : Nat) (qk : Nat) (qr : Nat) (cr : ClassId) (k : Int32) : Met l ⟨"BigRunner", "give", "(I)Z"⟩ [Cond.code ⟨"BigRunner", "give", "(I)Z"⟩ prog_1_method_5_code 2 (some .boolean)] ({ frames := 1, cells := 0, slots := 0, locals := 21 }) (va_Pc [.ref x, .int k] (fun U => U.heap.size = sz ∧ TB U ∧ va_P (dC, dI) vcl [(x, .inr (0, [.ref ql, .int 0, .ref rd, .ref rn, .int 0])), (ql, .inl (cl, 72, .inl (fun _ => 0))), (rd, .inr (7, [.ref qt, .int 0, .int 0, .ref pr])), (pr, .inr (6, [.ref qs, .int 0, .ref qn, .int 0, .ref qv, .ref qi])), (qs, .inl (cs, 36, .inr (.inr (.inr (.inr (fs)))))), (q0, .inr (9, [.int 5, .int 0, .int 0, .int (-1), .int 0])), (rn, .inr (8, [.ref pn, .ref qi2, .int 0, .ref qm, .ref qw, .ref qh, .ref qd, .ref qk, .int 0, .int 0, .int 0, .int 0, .int 0])), (qi2, .inr (1, [.ref qr, .int 0, .int 0])), (qr, .inl (cr, 20, .inl (fun _ => 0)))] U.heap ∧ va_K (dC, dI) vcl [(cl, .char), (cs, (.object "BigRunner$Statement")), (cr, .int)] U ∧ va_D (fun _ => True) [(x, .inr (0, [.ref ql, .int 0, .ref rd, .ref rn, .int 0])), (ql, .inl (cl, 72, .inl (fun _ => 0))), (rd, .inr (7, [.ref qt, .int 0, .int 0, .ref pr])), (pr, .inr (6, [.ref qs, .int 0, .ref qn, .int 0, .ref qv, .ref qi])), (qs, .inl (cs, 36, .inr (.inr (.inr (.inr (fs)))))), (q0, .inr (9, [.int 5, .int 0, .int 0, .int (-1), .int 0])), (rn, .inr (8, [.ref pn, .ref qi2, .int 0, .ref qm, .ref qw, .ref qh, .ref qd, .ref qk, .int 0, .int 0, .int 0, .int 0, .int 0])), (qi2, .inr (1, [.ref qr, .int 0, .int 0])), (qr, .inl (cr, 20, .inl (fun _ => 0)))])) (va_Qi (fun (r : Int32) (u : Unit) => match u with | _ => r = vt_give k) (fun (u : Unit) (t : State) => match u with | _ => va_P (dC, dI) vcl [] t.heap ∧ va_K (dC, dI) vcl [] t ∧ va_D (va_A [(x, .inr (0, [.ref ql, .int 0, .ref rd, .ref rn, .int 0])), (ql, .inl (cl, 72, .inl (fun _ => 0))), (rd, .inr (7, [.ref qt, .int 0, .int 0, .ref pr])), (pr, .inr (6, [.ref qs, .int 0, .ref qn, .int 0, .ref qv, .ref qi])), (qs, .inl (cs, 36, .inr (.inr (.inr (.inr (fs)))))), (q0, .inr (9, [.int 5, .int 0, .int 0, .int (-1), .int 0])), (rn, .inr (8, [.ref pn, .ref qi2, .int 0, .ref qm, .ref qw, .ref qh, .ref qd, .ref qk, .int 0, .int 0, .int 0, .int 0, .int 0])), (qi2, .inr (1, [.ref qr, .int 0, .int 0])), (qr, .inl (cr, 20, .inl (fun _ => 0)))] sz) []) (va_A [(x, .inr (0, [.ref ql, .int 0, .ref rd, .ref rn, .int 0])), (ql, .inl (cl, 72, .inl (fun _ => 0))), (rd, .inr (7, [.ref qt, .int 0, .int 0, .ref pr])), (pr, .inr (6, [.ref qs, .int 0, .ref qn, .int 0, .ref qv, .ref qi])), (qs, .inl (cs, 36, .inr (.inr (.inr (.inr (fs)))))), (q0, .inr (9, [.int 5, .int 0, .int 0, .int (-1), .int 0])), (rn, .inr (8, [.ref pn, .ref qi2, .int 0, .ref qm, .ref qw, .ref qh, .ref qd, .ref qk, .int 0, .int 0, .int 0, .int 0, .int 0])), (qi2, .inr (1, [.ref qr, .int 0, .int 0])), (qr, .inl (cr, 20, .inl (fun _ => 0)))] sz)) 0 0 (va_A [(x, .inr (0, [.ref ql, .int 0, .ref rd, .ref rn, .int 0])), (ql, .inl (cl, 72, .inl (fun _ => 0))), (rd, .inr (7, [.ref qt, .int 0, .int 0, .ref pr])), (pr, .inr (6, [.ref qs, .int 0, .ref qn, .int 0, .ref qv, .ref qi])), (qs, .inl (cs, 36, .inr (.inr (.inr (.inr (fs)))))), (q0, .inr (9, [.int 5, .int 0, .int 0, .int (-1), .int 0])), (rn, .inr (8, [.ref pn, .ref qi2, .int 0, .ref qm, .ref qw, .ref qh, .ref qd, .ref qk, .int 0, .int 0, .int 0, .int 0, .int 0])), (qi2, .inr (1, [.ref qr, .int 0, .int 0])), (qr, .inl (cr, 20, .inl (fun _ => 0)))] sz) := by
  refine Met.ofW (cc := prog_1_method_5_code) (maxL := 2) (ret := (some .boolean)) (by decide) rfl ?_
  intro p e s m args below meth c s₁ B hml hv
  obtain ⟨rfl, hsz, hB, hP, hK, hD0⟩ := hv
  have hx := B.exec
  have hb := B.bytes
  have hr := B.returns
  have hown : s.vm.findClass "BigRunner" = some m.cls := findClass_of_methodNamed B.named
  have hlocks := B.notSynchronized
  subst hsz
  have hD := hD0.self (sz := s.heap.size)
  generalize hAe : va_A [(x, .inr (0, [.ref ql, .int 0, .ref rd, .ref rn, .int 0])), (ql, .inl (cl, 72, .inl (fun _ => 0))), (rd, .inr (7, [.ref qt, .int 0, .int 0, .ref pr])), (pr, .inr (6, [.ref qs, .int 0, .ref qn, .int 0, .ref qv, .ref qi])), (qs, .inl (cs, 36, .inr (.inr (.inr (.inr (fs)))))), (q0, .inr (9, [.int 5, .int 0, .int 0, .int (-1), .int 0])), (rn, .inr (8, [.ref pn, .ref qi2, .int 0, .ref qm, .ref qw, .ref qh, .ref qd, .ref qk, .int 0, .int 0, .int 0, .int 0, .int 0])), (qi2, .inr (1, [.ref qr, .int 0, .int 0])), (qr, .inl (cr, 20, .inl (fun _ => 0)))] s.heap.size = A at hD ⊢
  have hA : ∀ q : Nat, s.heap.size ≤ q → A q := fun q h => by rw [← hAe]; exact Or.inr h
  have hS : va_S A s.heap s.heap [] := va_S.rf
  have hP : va_P (dC, dI) vcl [(x, .inr (0, [.ref ql, .int 0, .ref rd, .ref rn, .int 0])), (ql, .inl (cl, 72, .inl (fun _ => 0))), (rd, .inr (7, [.ref qt, .int 0, .int 0, .ref pr])), (pr, .inr (6, [.ref qs, .int 0, .ref qn, .int 0, .ref qv, .ref qi])), (qs, .inl (cs, 36, .inr (.inr (.inr (.inr (fs)))))), (q0, .inr (9, [.int 5, .int 0, .int 0, .int (-1), .int 0])), (rn, .inr (8, [.ref pn, .ref qi2, .int 0, .ref qm, .ref qw, .ref qh, .ref qd, .ref qk, .int 0, .int 0, .int 0, .int 0, .int 0])), (qi2, .inr (1, [.ref qr, .int 0, .int 0])), (qr, .inl (cr, 20, .inl (fun _ => 0)))] s.heap := hP
  have hl := lv_entry ([.ref x, .int k]) (n := 2) (Nat.le_of_ble_eq_true rfl)
  rw [lg_entry_eq]
  generalize (lg_sl ([.ref x, .int k]) ++ List.replicate (2 - (lg_sl ([.ref x, .int k])).length) Slot.unset).toArray = ls at hl ⊢
  have hl : lv_has ls 2 [(0, .ref x), (1, .int k)] := hl
  refine lv_aload_n hx hb d_B_give_0 rfl (lv_at hl 0 rfl) ?_
  refine va_get (D := (dC, dI)) (ci := 0) (v := .ref rn) (C := "BigRunner") (T := FT0) (N := 5) hx hb (hw0 hB _) (fun _ h9 => h9) hown hK hP 0 rfl rfl 3 (by decide) (wd_381 hB _) (fun _ h9 => h9) rfl d_B_give_1 ?_
  refine va_get (D := (dC, dI)) (ci := 8) (v := .ref qi2) (C := "BigRunner$Runner") (T := FT8) (N := 13) hx hb (hw8 hB _) (fun _ h9 => h9) hown hK hP 6 rfl rfl 1 (by decide) (wd_333 hB _) (fun _ h9 => h9) rfl d_B_give_4 ?_
  refine lv_iload_n hx hb d_B_give_7 rfl (lv_at hl 1 rfl) ?_
  have hPc := hP.sub (ws' := [(qi2, .inr (1, [.ref qr, .int 0, .int 0])), (qr, .inl (cr, 20, .inl (fun _ => 0)))]) [7, 8] rfl
  have hDc := hD.sub (ws' := [(qi2, .inr (1, [.ref qr, .int 0, .int 0])), (qr, .inl (cr, 20, .inl (fun _ => 0)))]) [7, 8] (by decide) rfl
  have hKc := hK.sub (tys' := [(cr, .int)]) [2] rfl
  have hFc := va_free (wc := [(qi2, .inr (1, [.ref qr, .int 0, .int 0])), (qr, .inl (cr, 20, .inl (fun _ => 0)))]) hD hS hA [7, 8] rfl
  refine va_calli (va_runV (C := "BigRunner$Inputs") (As := [.int k]) (rest := []) ⟨hx, hb, hml, hown, tb_nil⟩ (c_Inputs_append l dC dI s.heap.size qi2 qr cr k) ⟨(callB_of 1 (tb_one (wd_409 hB _)) tb_good1 rfl rfl rfl (wd_80 hB _) (wd_406 hB _) (by decide +kernel) ⟨Nat.le_of_ble_eq_true rfl, Nat.le_of_ble_eq_true rfl⟩), (wd_407 hB _), (wd_408 hB _)⟩ ⟨fun a U g mk q => by obtain ⟨q0, q1, qB, qP, qK, qD⟩ := q; exact ⟨q0, q1, TB.same (s := U) (U := U.calling g mk a) rfl qB, qP, va_K.moved (u := U) (U := U.calling g mk a) (Vm.Alike.refl U.vm) qK, qD⟩, va_recv hK hP (q0 := 7) (ci := 1) rfl rfl, fun U hU hW => ⟨rfl, by rw [hU], hB.moved hW, by rw [hU]; exact hPc, va_K.moved hW.alike hKc, hDc.weaken (fun _ _ _ _ => trivial)⟩⟩ rfl rfl hl.1 rfl (lv_room (Nat.le_of_ble_eq_true rfl)) d_B_give_8 ⟨(Nat.le_of_ble_eq_true rfl), (Nat.le_of_ble_eq_true rfl)⟩) hS (fun q _ h => hFc q h) hFc (fun r_ u_ t H1 locs ht hvm hw_ hB1 hz1 hk1 hS => ?_)
  obtain ⟨hP1, hK1, hD1⟩ := hB1
  rw [ht] at hP1
  have hK1 := va_K.moved hvm.symm hK1
  try dsimp only at hw_
  obtain ⟨hP, hD⟩ := va_join (wr := [(x, .inr (0, [.ref ql, .int 0, .ref rd, .ref rn, .int 0])), (ql, .inl (cl, 72, .inl (fun _ => 0))), (rd, .inr (7, [.ref qt, .int 0, .int 0, .ref pr])), (pr, .inr (6, [.ref qs, .int 0, .ref qn, .int 0, .ref qv, .ref qi])), (qs, .inl (cs, 36, .inr (.inr (.inr (.inr (fs)))))), (q0, .inr (9, [.int 5, .int 0, .int 0, .int (-1), .int 0])), (rn, .inr (8, [.ref pn, .ref qi2, .int 0, .ref qm, .ref qw, .ref qh, .ref qd, .ref qk, .int 0, .int 0, .int 0, .int 0, .int 0]))]) (w1 := []) hP hD [7, 8] [0, 1, 2, 3, 4, 5, 6] rfl rfl (by decide) (by decide) hk1 hFc hP1 hD1
  have hK := (hK.sub (tys' := [(cl, .char), (cs, (.object "BigRunner$Statement"))]) [0, 1] rfl).app hK1
  clear hk1 hFc hPc hDc hKc hP1 hD1 hK1 hz1 ht hvm
  generalize H1 = H at hP hS ⊢
  have hP : va_P (dC, dI) vcl [(x, .inr (0, [.ref ql, .int 0, .ref rd, .ref rn, .int 0])), (ql, .inl (cl, 72, .inl (fun _ => 0))), (rd, .inr (7, [.ref qt, .int 0, .int 0, .ref pr])), (pr, .inr (6, [.ref qs, .int 0, .ref qn, .int 0, .ref qv, .ref qi])), (qs, .inl (cs, 36, .inr (.inr (.inr (.inr (fs)))))), (q0, .inr (9, [.int 5, .int 0, .int 0, .int (-1), .int 0])), (rn, .inr (8, [.ref pn, .ref qi2, .int 0, .ref qm, .ref qw, .ref qh, .ref qd, .ref qk, .int 0, .int 0, .int 0, .int 0, .int 0]))] H := hP
  have hD : va_D A [(x, .inr (0, [.ref ql, .int 0, .ref rd, .ref rn, .int 0])), (ql, .inl (cl, 72, .inl (fun _ => 0))), (rd, .inr (7, [.ref qt, .int 0, .int 0, .ref pr])), (pr, .inr (6, [.ref qs, .int 0, .ref qn, .int 0, .ref qv, .ref qi])), (qs, .inl (cs, 36, .inr (.inr (.inr (.inr (fs)))))), (q0, .inr (9, [.int 5, .int 0, .int 0, .int (-1), .int 0])), (rn, .inr (8, [.ref pn, .ref qi2, .int 0, .ref qm, .ref qw, .ref qh, .ref qd, .ref qk, .int 0, .int 0, .int 0, .int 0, .int 0]))] := hD
  have hK : va_K (dC, dI) vcl [(cl, .char), (cs, (.object "BigRunner$Statement"))] s := hK
  refine W.widen (k := 0) (n := 0) (by omega) (by omega) ?_
  subst hw_
  have hP9 := hP.sub (ws' := []) [] rfl
  have hD9 := hD.sub (ws' := []) [] (by decide) rfl
  have hK9 := hK.sub (tys' := []) [] rfl
  refine W.widen (k := 0) (n := 0) (by omega) (by omega) ?_
  exact W.zret (v := (vt_give k)) (ty := .boolean) hx hb hr (vt_give_b k) (fun t ht hW => ⟨⟨(vt_give k), (), rfl, rfl, by rw [ht]; exact hP9, va_K.moved hW.alike hK9, hD9⟩, hS.F ht⟩) hS.2.2 d_B_give_11
set_option maxHeartbeats 4000000 in
set_option maxRecDepth 100000 in
theorem c_B_state (l : Launch) (dC : Nat → ClassId) (dI : Nat → Nat → Nat) (sz : Nat) (x : Nat) (ql : Nat) (cl : ClassId) (rd : Nat) (rn : Nat) (qt : Nat) (pr : Nat) (qs : Nat) (cs : ClassId) (fs : Nat → Option Nat) (q0 : Nat) (qn : Nat) (qv : Nat) (qi : Nat) (pn : Nat) (qi2 : Nat) (qm : Nat) (qw : Nat) (qh : Nat) (qd : Nat) (qk : Nat) (qr : Nat) (cr : ClassId) : Met l ⟨"BigRunner", "state", "()I"⟩ [Cond.code ⟨"BigRunner", "state", "()I"⟩ prog_1_method_13_code 1 (some .int)] ({ frames := 0, cells := 0, slots := 0, locals := 0 }) (va_Pc [.ref x] (fun U => U.heap.size = sz ∧ TB U ∧ va_P (dC, dI) vcl [(x, .inr (0, [.ref ql, .int 0, .ref rd, .ref rn, .int 0])), (ql, .inl (cl, 72, .inl (fun _ => 0))), (rd, .inr (7, [.ref qt, .int 0, .int 0, .ref pr])), (pr, .inr (6, [.ref qs, .int 0, .ref qn, .int 0, .ref qv, .ref qi])), (qs, .inl (cs, 36, .inr (.inr (.inr (.inr (fs)))))), (q0, .inr (9, [.int 5, .int 0, .int 0, .int (-1), .int 0])), (rn, .inr (8, [.ref pn, .ref qi2, .int 0, .ref qm, .ref qw, .ref qh, .ref qd, .ref qk, .int 0, .int 0, .int 0, .int 0, .int 0])), (qi2, .inr (1, [.ref qr, .int 0, .int 0])), (qr, .inl (cr, 20, .inl (fun _ => 0)))] U.heap ∧ va_K (dC, dI) vcl [(cl, .char), (cs, (.object "BigRunner$Statement")), (cr, .int)] U ∧ va_D (fun _ => True) [(x, .inr (0, [.ref ql, .int 0, .ref rd, .ref rn, .int 0])), (ql, .inl (cl, 72, .inl (fun _ => 0))), (rd, .inr (7, [.ref qt, .int 0, .int 0, .ref pr])), (pr, .inr (6, [.ref qs, .int 0, .ref qn, .int 0, .ref qv, .ref qi])), (qs, .inl (cs, 36, .inr (.inr (.inr (.inr (fs)))))), (q0, .inr (9, [.int 5, .int 0, .int 0, .int (-1), .int 0])), (rn, .inr (8, [.ref pn, .ref qi2, .int 0, .ref qm, .ref qw, .ref qh, .ref qd, .ref qk, .int 0, .int 0, .int 0, .int 0, .int 0])), (qi2, .inr (1, [.ref qr, .int 0, .int 0])), (qr, .inl (cr, 20, .inl (fun _ => 0)))])) (va_Qi (fun (r : Int32) (u : Unit) => match u with | _ => r = 0) (fun (u : Unit) (t : State) => match u with | _ => va_P (dC, dI) vcl [] t.heap ∧ va_K (dC, dI) vcl [] t ∧ va_D (va_A [(x, .inr (0, [.ref ql, .int 0, .ref rd, .ref rn, .int 0])), (ql, .inl (cl, 72, .inl (fun _ => 0))), (rd, .inr (7, [.ref qt, .int 0, .int 0, .ref pr])), (pr, .inr (6, [.ref qs, .int 0, .ref qn, .int 0, .ref qv, .ref qi])), (qs, .inl (cs, 36, .inr (.inr (.inr (.inr (fs)))))), (q0, .inr (9, [.int 5, .int 0, .int 0, .int (-1), .int 0])), (rn, .inr (8, [.ref pn, .ref qi2, .int 0, .ref qm, .ref qw, .ref qh, .ref qd, .ref qk, .int 0, .int 0, .int 0, .int 0, .int 0])), (qi2, .inr (1, [.ref qr, .int 0, .int 0])), (qr, .inl (cr, 20, .inl (fun _ => 0)))] sz) []) (va_A [(x, .inr (0, [.ref ql, .int 0, .ref rd, .ref rn, .int 0])), (ql, .inl (cl, 72, .inl (fun _ => 0))), (rd, .inr (7, [.ref qt, .int 0, .int 0, .ref pr])), (pr, .inr (6, [.ref qs, .int 0, .ref qn, .int 0, .ref qv, .ref qi])), (qs, .inl (cs, 36, .inr (.inr (.inr (.inr (fs)))))), (q0, .inr (9, [.int 5, .int 0, .int 0, .int (-1), .int 0])), (rn, .inr (8, [.ref pn, .ref qi2, .int 0, .ref qm, .ref qw, .ref qh, .ref qd, .ref qk, .int 0, .int 0, .int 0, .int 0, .int 0])), (qi2, .inr (1, [.ref qr, .int 0, .int 0])), (qr, .inl (cr, 20, .inl (fun _ => 0)))] sz)) 0 0 (va_A [(x, .inr (0, [.ref ql, .int 0, .ref rd, .ref rn, .int 0])), (ql, .inl (cl, 72, .inl (fun _ => 0))), (rd, .inr (7, [.ref qt, .int 0, .int 0, .ref pr])), (pr, .inr (6, [.ref qs, .int 0, .ref qn, .int 0, .ref qv, .ref qi])), (qs, .inl (cs, 36, .inr (.inr (.inr (.inr (fs)))))), (q0, .inr (9, [.int 5, .int 0, .int 0, .int (-1), .int 0])), (rn, .inr (8, [.ref pn, .ref qi2, .int 0, .ref qm, .ref qw, .ref qh, .ref qd, .ref qk, .int 0, .int 0, .int 0, .int 0, .int 0])), (qi2, .inr (1, [.ref qr, .int 0, .int 0])), (qr, .inl (cr, 20, .inl (fun _ => 0)))] sz) := by
  refine Met.ofW (cc := prog_1_method_13_code) (maxL := 1) (ret := (some .int)) (by decide) rfl ?_
  intro p e s m args below meth c s₁ B hml hv
  obtain ⟨rfl, hsz, hB, hP, hK, hD0⟩ := hv
  have hx := B.exec
  have hb := B.bytes
  have hr := B.returns
  have hown : s.vm.findClass "BigRunner" = some m.cls := findClass_of_methodNamed B.named
  have hlocks := B.notSynchronized
  subst hsz
  have hD := hD0.self (sz := s.heap.size)
  generalize hAe : va_A [(x, .inr (0, [.ref ql, .int 0, .ref rd, .ref rn, .int 0])), (ql, .inl (cl, 72, .inl (fun _ => 0))), (rd, .inr (7, [.ref qt, .int 0, .int 0, .ref pr])), (pr, .inr (6, [.ref qs, .int 0, .ref qn, .int 0, .ref qv, .ref qi])), (qs, .inl (cs, 36, .inr (.inr (.inr (.inr (fs)))))), (q0, .inr (9, [.int 5, .int 0, .int 0, .int (-1), .int 0])), (rn, .inr (8, [.ref pn, .ref qi2, .int 0, .ref qm, .ref qw, .ref qh, .ref qd, .ref qk, .int 0, .int 0, .int 0, .int 0, .int 0])), (qi2, .inr (1, [.ref qr, .int 0, .int 0])), (qr, .inl (cr, 20, .inl (fun _ => 0)))] s.heap.size = A at hD ⊢
  have hA : ∀ q : Nat, s.heap.size ≤ q → A q := fun q h => by rw [← hAe]; exact Or.inr h
  have hS : va_S A s.heap s.heap [] := va_S.rf
  have hP : va_P (dC, dI) vcl [(x, .inr (0, [.ref ql, .int 0, .ref rd, .ref rn, .int 0])), (ql, .inl (cl, 72, .inl (fun _ => 0))), (rd, .inr (7, [.ref qt, .int 0, .int 0, .ref pr])), (pr, .inr (6, [.ref qs, .int 0, .ref qn, .int 0, .ref qv, .ref qi])), (qs, .inl (cs, 36, .inr (.inr (.inr (.inr (fs)))))), (q0, .inr (9, [.int 5, .int 0, .int 0, .int (-1), .int 0])), (rn, .inr (8, [.ref pn, .ref qi2, .int 0, .ref qm, .ref qw, .ref qh, .ref qd, .ref qk, .int 0, .int 0, .int 0, .int 0, .int 0])), (qi2, .inr (1, [.ref qr, .int 0, .int 0])), (qr, .inl (cr, 20, .inl (fun _ => 0)))] s.heap := hP
  have hl := lv_entry ([.ref x]) (n := 1) (Nat.le_of_ble_eq_true rfl)
  rw [lg_entry_eq]
  generalize (lg_sl ([.ref x]) ++ List.replicate (1 - (lg_sl ([.ref x])).length) Slot.unset).toArray = ls at hl ⊢
  have hl : lv_has ls 1 [(0, .ref x)] := hl
  refine lv_aload_n hx hb d_B_state_0 rfl (lv_at hl 0 rfl) ?_
  refine va_get (D := (dC, dI)) (ci := 0) (v := .int 0) (C := "BigRunner") (T := FT0) (N := 5) hx hb (hw0 hB _) (fun _ h9 => h9) hown hK hP 0 rfl rfl 4 (by decide) (wd_382 hB _) (fun _ h9 => h9) rfl d_B_state_1 ?_
  refine lv_if_ne (tgt := 9) hx hb d_B_state_4 (by decide) (fun hq => absurd hq (fun h => h rfl)) (fun _ => ?_)
  refine lv_iconst (v := 0) hx hb d_B_state_7 (by decide) ?_
  have hP9 := hP.sub (ws' := []) [] rfl
  have hD9 := hD.sub (ws' := []) [] (by decide) rfl
  have hK9 := hK.sub (tys' := []) [] rfl
  refine W.widen (k := 0) (n := 0) (by omega) (by omega) ?_
  exact W.iret (v := 0) hx hb hr (fun t ht hW => ⟨⟨0, (), rfl, rfl, by rw [ht]; exact hP9, va_K.moved hW.alike hK9, hD9⟩, hS.F ht⟩) hS.2.2 d_B_state_8
set_option maxHeartbeats 4000000 in
set_option maxRecDepth 100000 in
/-- look on a fresh object -/
theorem c_B_look (l : Launch) (dC : Nat → ClassId) (dI : Nat → Nat → Nat) (sz : Nat) (x : Nat) (ql : Nat) (cl : ClassId) (rd : Nat) (rn : Nat) (qt : Nat) (pr : Nat) (qs : Nat) (cs : ClassId) (fs : Nat → Option Nat) (q0 : Nat) (qn : Nat) (qv : Nat) (qi : Nat) (pn : Nat) (qi2 : Nat) (qm : Nat) (qw : Nat) (qh : Nat) (qd : Nat) (qk : Nat) (qr : Nat) (cr : ClassId) (k : Int32) : Met l ⟨"BigRunner", "look", "(I)I"⟩ [Cond.code ⟨"BigRunner", "look", "(I)I"⟩ prog_1_method_7_code 2 (some .int)] ({ frames := 1, cells := 0, slots := 0, locals := 20 }) (va_Pc [.ref x, .int k] (fun U => U.heap.size = sz ∧ TB U ∧ va_P (dC, dI) vcl [(x, .inr (0, [.ref ql, .int 0, .ref rd, .ref rn, .int 0])), (ql, .inl (cl, 72, .inl (fun _ => 0))), (rd, .inr (7, [.ref qt, .int 0, .int 0, .ref pr])), (pr, .inr (6, [.ref qs, .int 0, .ref qn, .int 0, .ref qv, .ref qi])), (qs, .inl (cs, 36, .inr (.inr (.inr (.inr (fs)))))), (q0, .inr (9, [.int 5, .int 0, .int 0, .int (-1), .int 0])), (rn, .inr (8, [.ref pn, .ref qi2, .int 0, .ref qm, .ref qw, .ref qh, .ref qd, .ref qk, .int 0, .int 0, .int 0, .int 0, .int 0])), (qi2, .inr (1, [.ref qr, .int 0, .int 0])), (qr, .inl (cr, 20, .inl (fun _ => 0)))] U.heap ∧ va_K (dC, dI) vcl [(cl, .char), (cs, (.object "BigRunner$Statement")), (cr, .int)] U ∧ va_D (fun _ => True) [(x, .inr (0, [.ref ql, .int 0, .ref rd, .ref rn, .int 0])), (ql, .inl (cl, 72, .inl (fun _ => 0))), (rd, .inr (7, [.ref qt, .int 0, .int 0, .ref pr])), (pr, .inr (6, [.ref qs, .int 0, .ref qn, .int 0, .ref qv, .ref qi])), (qs, .inl (cs, 36, .inr (.inr (.inr (.inr (fs)))))), (q0, .inr (9, [.int 5, .int 0, .int 0, .int (-1), .int 0])), (rn, .inr (8, [.ref pn, .ref qi2, .int 0, .ref qm, .ref qw, .ref qh, .ref qd, .ref qk, .int 0, .int 0, .int 0, .int 0, .int 0])), (qi2, .inr (1, [.ref qr, .int 0, .int 0])), (qr, .inl (cr, 20, .inl (fun _ => 0)))])) (va_Qi (fun (r : Int32) (u : Unit) => match u with | _ => r = vt_look k) (fun (u : Unit) (t : State) => match u with | _ => va_P (dC, dI) vcl [] t.heap ∧ va_K (dC, dI) vcl [] t ∧ va_D (va_A [(x, .inr (0, [.ref ql, .int 0, .ref rd, .ref rn, .int 0])), (ql, .inl (cl, 72, .inl (fun _ => 0))), (rd, .inr (7, [.ref qt, .int 0, .int 0, .ref pr])), (pr, .inr (6, [.ref qs, .int 0, .ref qn, .int 0, .ref qv, .ref qi])), (qs, .inl (cs, 36, .inr (.inr (.inr (.inr (fs)))))), (q0, .inr (9, [.int 5, .int 0, .int 0, .int (-1), .int 0])), (rn, .inr (8, [.ref pn, .ref qi2, .int 0, .ref qm, .ref qw, .ref qh, .ref qd, .ref qk, .int 0, .int 0, .int 0, .int 0, .int 0])), (qi2, .inr (1, [.ref qr, .int 0, .int 0])), (qr, .inl (cr, 20, .inl (fun _ => 0)))] sz) []) (va_A [(x, .inr (0, [.ref ql, .int 0, .ref rd, .ref rn, .int 0])), (ql, .inl (cl, 72, .inl (fun _ => 0))), (rd, .inr (7, [.ref qt, .int 0, .int 0, .ref pr])), (pr, .inr (6, [.ref qs, .int 0, .ref qn, .int 0, .ref qv, .ref qi])), (qs, .inl (cs, 36, .inr (.inr (.inr (.inr (fs)))))), (q0, .inr (9, [.int 5, .int 0, .int 0, .int (-1), .int 0])), (rn, .inr (8, [.ref pn, .ref qi2, .int 0, .ref qm, .ref qw, .ref qh, .ref qd, .ref qk, .int 0, .int 0, .int 0, .int 0, .int 0])), (qi2, .inr (1, [.ref qr, .int 0, .int 0])), (qr, .inl (cr, 20, .inl (fun _ => 0)))] sz)) 0 0 (va_A [(x, .inr (0, [.ref ql, .int 0, .ref rd, .ref rn, .int 0])), (ql, .inl (cl, 72, .inl (fun _ => 0))), (rd, .inr (7, [.ref qt, .int 0, .int 0, .ref pr])), (pr, .inr (6, [.ref qs, .int 0, .ref qn, .int 0, .ref qv, .ref qi])), (qs, .inl (cs, 36, .inr (.inr (.inr (.inr (fs)))))), (q0, .inr (9, [.int 5, .int 0, .int 0, .int (-1), .int 0])), (rn, .inr (8, [.ref pn, .ref qi2, .int 0, .ref qm, .ref qw, .ref qh, .ref qd, .ref qk, .int 0, .int 0, .int 0, .int 0, .int 0])), (qi2, .inr (1, [.ref qr, .int 0, .int 0])), (qr, .inl (cr, 20, .inl (fun _ => 0)))] sz) := by
  refine Met.ofW (cc := prog_1_method_7_code) (maxL := 2) (ret := (some .int)) (by decide) rfl ?_
  intro p e s m args below meth c s₁ B hml hv
  obtain ⟨rfl, hsz, hB, hP, hK, hD0⟩ := hv
  have hx := B.exec
  have hb := B.bytes
  have hr := B.returns
  have hown : s.vm.findClass "BigRunner" = some m.cls := findClass_of_methodNamed B.named
  have hlocks := B.notSynchronized
  subst hsz
  have hD := hD0.self (sz := s.heap.size)
  generalize hAe : va_A [(x, .inr (0, [.ref ql, .int 0, .ref rd, .ref rn, .int 0])), (ql, .inl (cl, 72, .inl (fun _ => 0))), (rd, .inr (7, [.ref qt, .int 0, .int 0, .ref pr])), (pr, .inr (6, [.ref qs, .int 0, .ref qn, .int 0, .ref qv, .ref qi])), (qs, .inl (cs, 36, .inr (.inr (.inr (.inr (fs)))))), (q0, .inr (9, [.int 5, .int 0, .int 0, .int (-1), .int 0])), (rn, .inr (8, [.ref pn, .ref qi2, .int 0, .ref qm, .ref qw, .ref qh, .ref qd, .ref qk, .int 0, .int 0, .int 0, .int 0, .int 0])), (qi2, .inr (1, [.ref qr, .int 0, .int 0])), (qr, .inl (cr, 20, .inl (fun _ => 0)))] s.heap.size = A at hD ⊢
  have hA : ∀ q : Nat, s.heap.size ≤ q → A q := fun q h => by rw [← hAe]; exact Or.inr h
  have hS : va_S A s.heap s.heap [] := va_S.rf
  have hP : va_P (dC, dI) vcl [(x, .inr (0, [.ref ql, .int 0, .ref rd, .ref rn, .int 0])), (ql, .inl (cl, 72, .inl (fun _ => 0))), (rd, .inr (7, [.ref qt, .int 0, .int 0, .ref pr])), (pr, .inr (6, [.ref qs, .int 0, .ref qn, .int 0, .ref qv, .ref qi])), (qs, .inl (cs, 36, .inr (.inr (.inr (.inr (fs)))))), (q0, .inr (9, [.int 5, .int 0, .int 0, .int (-1), .int 0])), (rn, .inr (8, [.ref pn, .ref qi2, .int 0, .ref qm, .ref qw, .ref qh, .ref qd, .ref qk, .int 0, .int 0, .int 0, .int 0, .int 0])), (qi2, .inr (1, [.ref qr, .int 0, .int 0])), (qr, .inl (cr, 20, .inl (fun _ => 0)))] s.heap := hP
  have hl := lv_entry ([.ref x, .int k]) (n := 2) (Nat.le_of_ble_eq_true rfl)
  rw [lg_entry_eq]
  generalize (lg_sl ([.ref x, .int k]) ++ List.replicate (2 - (lg_sl ([.ref x, .int k])).length) Slot.unset).toArray = ls at hl ⊢
  have hl : lv_has ls 2 [(0, .ref x), (1, .int k)] := hl
  refine lv_iload_n hx hb d_B_look_0 rfl (lv_at hl 1 rfl) ?_
  by_cases hk0 : k = 0
  · skip
    subst hk0
    refine lv_tableIn (off := 43) (tgt := 44) hx hb d_B_look_1 (by decide) (by decide) (by decide) (by decide) ?_
    refine lv_aload_n hx hb d_B_look_44 rfl (lv_at hl 0 rfl) ?_
    have hPc := hP.sub (ws' := [(x, .inr (0, [.ref ql, .int 0, .ref rd, .ref rn, .int 0])), (ql, .inl (cl, 72, .inl (fun _ => 0))), (rd, .inr (7, [.ref qt, .int 0, .int 0, .ref pr])), (pr, .inr (6, [.ref qs, .int 0, .ref qn, .int 0, .ref qv, .ref qi])), (qs, .inl (cs, 36, .inr (.inr (.inr (.inr (fs)))))), (q0, .inr (9, [.int 5, .int 0, .int 0, .int (-1), .int 0])), (rn, .inr (8, [.ref pn, .ref qi2, .int 0, .ref qm, .ref qw, .ref qh, .ref qd, .ref qk, .int 0, .int 0, .int 0, .int 0, .int 0])), (qi2, .inr (1, [.ref qr, .int 0, .int 0])), (qr, .inl (cr, 20, .inl (fun _ => 0)))]) [0, 1, 2, 3, 4, 5, 6, 7, 8] rfl
    have hDc := hD.sub (ws' := [(x, .inr (0, [.ref ql, .int 0, .ref rd, .ref rn, .int 0])), (ql, .inl (cl, 72, .inl (fun _ => 0))), (rd, .inr (7, [.ref qt, .int 0, .int 0, .ref pr])), (pr, .inr (6, [.ref qs, .int 0, .ref qn, .int 0, .ref qv, .ref qi])), (qs, .inl (cs, 36, .inr (.inr (.inr (.inr (fs)))))), (q0, .inr (9, [.int 5, .int 0, .int 0, .int (-1), .int 0])), (rn, .inr (8, [.ref pn, .ref qi2, .int 0, .ref qm, .ref qw, .ref qh, .ref qd, .ref qk, .int 0, .int 0, .int 0, .int 0, .int 0])), (qi2, .inr (1, [.ref qr, .int 0, .int 0])), (qr, .inl (cr, 20, .inl (fun _ => 0)))]) [0, 1, 2, 3, 4, 5, 6, 7, 8] (by decide) rfl
    have hKc := hK.sub (tys' := [(cl, .char), (cs, (.object "BigRunner$Statement")), (cr, .int)]) [0, 1, 2] rfl
    have hFc := va_free (wc := [(x, .inr (0, [.ref ql, .int 0, .ref rd, .ref rn, .int 0])), (ql, .inl (cl, 72, .inl (fun _ => 0))), (rd, .inr (7, [.ref qt, .int 0, .int 0, .ref pr])), (pr, .inr (6, [.ref qs, .int 0, .ref qn, .int 0, .ref qv, .ref qi])), (qs, .inl (cs, 36, .inr (.inr (.inr (.inr (fs)))))), (q0, .inr (9, [.int 5, .int 0, .int 0, .int (-1), .int 0])), (rn, .inr (8, [.ref pn, .ref qi2, .int 0, .ref qm, .ref qw, .ref qh, .ref qd, .ref qk, .int 0, .int 0, .int 0, .int 0, .int 0])), (qi2, .inr (1, [.ref qr, .int 0, .int 0])), (qr, .inl (cr, 20, .inl (fun _ => 0)))]) hD hS hA [0, 1, 2, 3, 4, 5, 6, 7, 8] rfl
    refine va_calli (va_runV (C := "BigRunner") (As := []) (rest := []) ⟨hx, hb, hml, hown, tb_nil⟩ (c_B_state l dC dI s.heap.size x ql cl rd rn qt pr qs cs fs q0 qn qv qi pn qi2 qm qw qh qd qk qr cr) ⟨(callB_of 0 (tb_one (wd_419 hB _)) tb_good1 rfl rfl rfl (wd_72 hB _) (wd_416 hB _) (by decide +kernel) ⟨Nat.le_of_ble_eq_true rfl, Nat.le_of_ble_eq_true rfl⟩), (wd_418 hB _), (wd_0 hB _)⟩ ⟨fun a U g mk q => by obtain ⟨q0, q1, qB, qP, qK, qD⟩ := q; exact ⟨q0, q1, TB.same (s := U) (U := U.calling g mk a) rfl qB, qP, va_K.moved (u := U) (U := U.calling g mk a) (Vm.Alike.refl U.vm) qK, qD⟩, va_recv hK hP (q0 := 0) (ci := 0) rfl rfl, fun U hU hW => ⟨rfl, by rw [hU], hB.moved hW, by rw [hU]; exact hPc, va_K.moved hW.alike hKc, hDc.weaken (fun _ _ _ _ => trivial)⟩⟩ rfl rfl hl.1 rfl (lv_room (Nat.le_of_ble_eq_true rfl)) d_B_look_45 ⟨(Nat.le_of_ble_eq_true rfl), (Nat.le_of_ble_eq_true rfl)⟩) hS (fun q _ h => hFc q h) hFc (fun r_ u_ t H1 locs ht hvm hw_ hB1 hz1 hk1 hS => ?_)
    obtain ⟨hP1, hK1, hD1⟩ := hB1
    rw [ht] at hP1
    have hK1 := va_K.moved hvm.symm hK1
    try dsimp only at hw_
    obtain ⟨hP, hD⟩ := va_join (wr := []) (w1 := []) hP hD [0, 1, 2, 3, 4, 5, 6, 7, 8] [] rfl rfl (by decide) (by decide) hk1 hFc hP1 hD1
    have hK := (hK.sub (tys' := []) [] rfl).app hK1
    clear hk1 hFc hPc hDc hKc hP1 hD1 hK1 hz1 ht hvm
    generalize H1 = H at hP hS ⊢
    have hP : va_P (dC, dI) vcl [] H := hP
    have hD : va_D A [] := hD
    have hK : va_K (dC, dI) vcl [] s := hK
    refine W.widen (k := 0) (n := 0) (by omega) (by omega) ?_
    subst hw_
    have hP9 := hP.sub (ws' := []) [] rfl
    have hD9 := hD.sub (ws' := []) [] (by decide) rfl
    have hK9 := hK.sub (tys' := []) [] rfl
    refine W.widen (k := 0) (n := 0) (by omega) (by omega) ?_
    exact W.iret (v := 0) hx hb hr (fun t ht hW => ⟨⟨0, (), rfl, (by decide), by rw [ht]; exact hP9, va_K.moved hW.alike hK9, hD9⟩, hS.F ht⟩) hS.2.2 d_B_look_48
  by_cases hk1 : k = 1
  · skip
    subst hk1
    refine lv_tableIn (off := 48) (tgt := 49) hx hb d_B_look_1 (by decide) (by decide) (by decide) (by decide) ?_
    refine lv_aload_n hx hb d_B_look_49 rfl (lv_at hl 0 rfl) ?_
    refine va_get (D := (dC, dI)) (ci := 0) (v := .ref rn) (C := "BigRunner") (T := FT0) (N := 5) hx hb (hw0 hB _) (fun _ h9 => h9) hown hK hP 0 rfl rfl 3 (by decide) (wd_381 hB _) (fun _ h9 => h9) rfl d_B_look_50 ?_
    refine va_get (D := (dC, dI)) (ci := 8) (v := .int 0) (C := "BigRunner$Runner") (T := FT8) (N := 13) hx hb (hw8 hB _) (fun _ h9 => h9) hown hK hP 6 rfl rfl 12 (by decide) (wd_350 hB _) (fun _ h9 => h9) rfl d_B_look_53 ?_
    have hP9 := hP.sub (ws' := []) [] rfl
    have hD9 := hD.sub (ws' := []) [] (by decide) rfl
    have hK9 := hK.sub (tys' := []) [] rfl
    refine W.widen (k := 0) (n := 0) (by omega) (by omega) ?_
    exact W.iret (v := 0) hx hb hr (fun t ht hW => ⟨⟨0, (), rfl, (by decide), by rw [ht]; exact hP9, va_K.moved hW.alike hK9, hD9⟩, hS.F ht⟩) hS.2.2 d_B_look_56
  by_cases hk2 : k = 2
  · skip
    subst hk2
    refine lv_tableIn (off := 56) (tgt := 57) hx hb d_B_look_1 (by decide) (by decide) (by decide) (by decide) ?_
    refine lv_aload_n hx hb d_B_look_57 rfl (lv_at hl 0 rfl) ?_
    refine va_get (D := (dC, dI)) (ci := 0) (v := .ref rn) (C := "BigRunner") (T := FT0) (N := 5) hx hb (hw0 hB _) (fun _ h9 => h9) hown hK hP 0 rfl rfl 3 (by decide) (wd_381 hB _) (fun _ h9 => h9) rfl d_B_look_58 ?_
    refine va_get (D := (dC, dI)) (ci := 8) (v := .int 0) (C := "BigRunner$Runner") (T := FT8) (N := 13) hx hb (hw8 hB _) (fun _ h9 => h9) hown hK hP 6 rfl rfl 9 (by decide) (wd_344 hB _) (fun _ h9 => h9) rfl d_B_look_61 ?_
    have hP9 := hP.sub (ws' := []) [] rfl
    have hD9 := hD.sub (ws' := []) [] (by decide) rfl
    have hK9 := hK.sub (tys' := []) [] rfl
    refine W.widen (k := 0) (n := 0) (by omega) (by omega) ?_
    exact W.iret (v := 0) hx hb hr (fun t ht hW => ⟨⟨0, (), rfl, (by decide), by rw [ht]; exact hP9, va_K.moved hW.alike hK9, hD9⟩, hS.F ht⟩) hS.2.2 d_B_look_64
  by_cases hk3 : k = 3
  · skip
    subst hk3
    refine lv_tableIn (off := 64) (tgt := 65) hx hb d_B_look_1 (by decide) (by decide) (by decide) (by decide) ?_
    refine lv_aload_n hx hb d_B_look_65 rfl (lv_at hl 0 rfl) ?_
    refine va_get (D := (dC, dI)) (ci := 0) (v := .ref rn) (C := "BigRunner") (T := FT0) (N := 5) hx hb (hw0 hB _) (fun _ h9 => h9) hown hK hP 0 rfl rfl 3 (by decide) (wd_381 hB _) (fun _ h9 => h9) rfl d_B_look_66 ?_
    refine va_get (D := (dC, dI)) (ci := 8) (v := .int 0) (C := "BigRunner$Runner") (T := FT8) (N := 13) hx hb (hw8 hB _) (fun _ h9 => h9) hown hK hP 6 rfl rfl 10 (by decide) (wd_346 hB _) (fun _ h9 => h9) rfl d_B_look_69 ?_
    have hP9 := hP.sub (ws' := []) [] rfl
    have hD9 := hD.sub (ws' := []) [] (by decide) rfl
    have hK9 := hK.sub (tys' := []) [] rfl
    refine W.widen (k := 0) (n := 0) (by omega) (by omega) ?_
    exact W.iret (v := 0) hx hb hr (fun t ht hW => ⟨⟨0, (), rfl, (by decide), by rw [ht]; exact hP9, va_K.moved hW.alike hK9, hD9⟩, hS.F ht⟩) hS.2.2 d_B_look_72
  by_cases hk4 : k = 4
  · skip
    subst hk4
    refine lv_tableIn (off := 72) (tgt := 73) hx hb d_B_look_1 (by decide) (by decide) (by decide) (by decide) ?_
    refine lv_aload_n hx hb d_B_look_73 rfl (lv_at hl 0 rfl) ?_
    refine va_get (D := (dC, dI)) (ci := 0) (v := .ref rn) (C := "BigRunner") (T := FT0) (N := 5) hx hb (hw0 hB _) (fun _ h9 => h9) hown hK hP 0 rfl rfl 3 (by decide) (wd_381 hB _) (fun _ h9 => h9) rfl d_B_look_74 ?_
    refine va_get (D := (dC, dI)) (ci := 8) (v := .int 0) (C := "BigRunner$Runner") (T := FT8) (N := 13) hx hb (hw8 hB _) (fun _ h9 => h9) hown hK hP 6 rfl rfl 11 (by decide) (wd_348 hB _) (fun _ h9 => h9) rfl d_B_look_77 ?_
    have hP9 := hP.sub (ws' := []) [] rfl
    have hD9 := hD.sub (ws' := []) [] (by decide) rfl
    have hK9 := hK.sub (tys' := []) [] rfl
    refine W.widen (k := 0) (n := 0) (by omega) (by omega) ?_
    exact W.iret (v := 0) hx hb hr (fun t ht hW => ⟨⟨0, (), rfl, (by decide), by rw [ht]; exact hP9, va_K.moved hW.alike hK9, hD9⟩, hS.F ht⟩) hS.2.2 d_B_look_80
  by_cases hk5 : k = 5
  · skip
    subst hk5
    refine lv_tableIn (off := 80) (tgt := 81) hx hb d_B_look_1 (by decide) (by decide) (by decide) (by decide) ?_
    refine lv_aload_n hx hb d_B_look_81 rfl (lv_at hl 0 rfl) ?_
    refine va_get (D := (dC, dI)) (ci := 0) (v := .ref rn) (C := "BigRunner") (T := FT0) (N := 5) hx hb (hw0 hB _) (fun _ h9 => h9) hown hK hP 0 rfl rfl 3 (by decide) (wd_381 hB _) (fun _ h9 => h9) rfl d_B_look_82 ?_
    refine va_get (D := (dC, dI)) (ci := 8) (v := .int 0) (C := "BigRunner$Runner") (T := FT8) (N := 13) hx hb (hw8 hB _) (fun _ h9 => h9) hown hK hP 6 rfl rfl 8 (by decide) (wd_342 hB _) (fun _ h9 => h9) rfl d_B_look_85 ?_
    have hP9 := hP.sub (ws' := []) [] rfl
    have hD9 := hD.sub (ws' := []) [] (by decide) rfl
    have hK9 := hK.sub (tys' := []) [] rfl
    refine W.widen (k := 0) (n := 0) (by omega) (by omega) ?_
    exact W.iret (v := 0) hx hb hr (fun t ht hW => ⟨⟨0, (), rfl, (by decide), by rw [ht]; exact hP9, va_K.moved hW.alike hK9, hD9⟩, hS.F ht⟩) hS.2.2 d_B_look_88
  by_cases hk6 : k = 6
  · skip
    subst hk6
    refine lv_tableIn (off := 88) (tgt := 89) hx hb d_B_look_1 (by decide) (by decide) (by decide) (by decide) ?_
    refine lv_aload_n hx hb d_B_look_89 rfl (lv_at hl 0 rfl) ?_
    refine va_get (D := (dC, dI)) (ci := 0) (v := .ref rn) (C := "BigRunner") (T := FT0) (N := 5) hx hb (hw0 hB _) (fun _ h9 => h9) hown hK hP 0 rfl rfl 3 (by decide) (wd_381 hB _) (fun _ h9 => h9) rfl d_B_look_90 ?_
    refine va_get (D := (dC, dI)) (ci := 8) (v := .ref qi2) (C := "BigRunner$Runner") (T := FT8) (N := 13) hx hb (hw8 hB _) (fun _ h9 => h9) hown hK hP 6 rfl rfl 1 (by decide) (wd_333 hB _) (fun _ h9 => h9) rfl d_B_look_93 ?_
    refine va_get (D := (dC, dI)) (ci := 1) (v := .int 0) (C := "BigRunner$Inputs") (T := FT1) (N := 3) hx hb (hw1 hB _) (fun _ h9 => h9) hown hK hP 7 rfl rfl 2 (by decide) (wd_302 hB _) (fun _ h9 => h9) rfl d_B_look_96 ?_
    have hP9 := hP.sub (ws' := []) [] rfl
    have hD9 := hD.sub (ws' := []) [] (by decide) rfl
    have hK9 := hK.sub (tys' := []) [] rfl
    refine W.widen (k := 0) (n := 0) (by omega) (by omega) ?_
    exact W.iret (v := 0) hx hb hr (fun t ht hW => ⟨⟨0, (), rfl, (by decide), by rw [ht]; exact hP9, va_K.moved hW.alike hK9, hD9⟩, hS.F ht⟩) hS.2.2 d_B_look_99
  refine lv_tableOut (tgt := 100) hx hb d_B_look_1 (by have := lv_neT hk0 (a := 0) (by decide); have := lv_neT hk1 (a := 1) (by decide); have := lv_neT hk2 (a := 2) (by decide); have := lv_neT hk3 (a := 3) (by decide); have := lv_neT hk4 (a := 4) (by decide); have := lv_neT hk5 (a := 5) (by decide); have := lv_neT hk6 (a := 6) (by decide); omega) (by decide) ?_
  refine lv_iconst (v := (-1)) hx hb d_B_look_100 (by decide) ?_
  have hP9 := hP.sub (ws' := []) [] rfl
  have hD9 := hD.sub (ws' := []) [] (by decide) rfl
  have hK9 := hK.sub (tys' := []) [] rfl
  refine W.widen (k := 0) (n := 0) (by omega) (by omega) ?_
  exact W.iret (v := (-1)) hx hb hr (fun t ht hW => ⟨⟨(-1), (), rfl, (by simp [vt_look, hk0, hk1, hk2, hk3, hk4, hk5, hk6]), by rw [ht]; exact hP9, va_K.moved hW.alike hK9, hD9⟩, hS.F ht⟩) hS.2.2 d_B_look_101
set_option maxHeartbeats 4000000 in
set_option maxRecDepth 100000 in
theorem c_B_hasVariable (l : Launch) (dC : Nat → ClassId) (dI : Nat → Nat → Nat) (sz : Nat) (x : Nat) (ql : Nat) (cl : ClassId) (rd : Nat) (rn : Nat) (qt : Nat) (pr : Nat) (qs : Nat) (cs : ClassId) (fs : Nat → Option Nat) (q0 : Nat) (qn : Nat) (qv : Nat) (qi : Nat) (pn : Nat) (qi2 : Nat) (qm : Nat) (qw : Nat) (qh : Nat) (qd : Nat) (qk : Nat) (qr : Nat) (cr : ClassId) (k : Int32) : Met l ⟨"BigRunner", "hasVariable", "(I)Z"⟩ [Cond.code ⟨"BigRunner", "hasVariable", "(I)Z"⟩ prog_1_method_12_code 2 (some .boolean)] ({ frames := 0, cells := 0, slots := 0, locals := 0 }) (va_Pc [.ref x, .int k] (fun U => U.heap.size = sz ∧ TB U ∧ va_P (dC, dI) vcl [(x, .inr (0, [.ref ql, .int 0, .ref rd, .ref rn, .int 0])), (ql, .inl (cl, 72, .inl (fun _ => 0))), (rd, .inr (7, [.ref qt, .int 0, .int 0, .ref pr])), (pr, .inr (6, [.ref qs, .int 0, .ref qn, .int 0, .ref qv, .ref qi])), (qs, .inl (cs, 36, .inr (.inr (.inr (.inr (fs)))))), (q0, .inr (9, [.int 5, .int 0, .int 0, .int (-1), .int 0])), (rn, .inr (8, [.ref pn, .ref qi2, .int 0, .ref qm, .ref qw, .ref qh, .ref qd, .ref qk, .int 0, .int 0, .int 0, .int 0, .int 0])), (qi2, .inr (1, [.ref qr, .int 0, .int 0])), (qr, .inl (cr, 20, .inl (fun _ => 0)))] U.heap ∧ va_K (dC, dI) vcl [(cl, .char), (cs, (.object "BigRunner$Statement")), (cr, .int)] U ∧ va_D (fun _ => True) [(x, .inr (0, [.ref ql, .int 0, .ref rd, .ref rn, .int 0])), (ql, .inl (cl, 72, .inl (fun _ => 0))), (rd, .inr (7, [.ref qt, .int 0, .int 0, .ref pr])), (pr, .inr (6, [.ref qs, .int 0, .ref qn, .int 0, .ref qv, .ref qi])), (qs, .inl (cs, 36, .inr (.inr (.inr (.inr (fs)))))), (q0, .inr (9, [.int 5, .int 0, .int 0, .int (-1), .int 0])), (rn, .inr (8, [.ref pn, .ref qi2, .int 0, .ref qm, .ref qw, .ref qh, .ref qd, .ref qk, .int 0, .int 0, .int 0, .int 0, .int 0])), (qi2, .inr (1, [.ref qr, .int 0, .int 0])), (qr, .inl (cr, 20, .inl (fun _ => 0)))])) (va_Qi (fun (r : Int32) (u : Unit) => match u with | _ => r = 0) (fun (u : Unit) (t : State) => match u with | _ => va_P (dC, dI) vcl [] t.heap ∧ va_K (dC, dI) vcl [] t ∧ va_D (va_A [(x, .inr (0, [.ref ql, .int 0, .ref rd, .ref rn, .int 0])), (ql, .inl (cl, 72, .inl (fun _ => 0))), (rd, .inr (7, [.ref qt, .int 0, .int 0, .ref pr])), (pr, .inr (6, [.ref qs, .int 0, .ref qn, .int 0, .ref qv, .ref qi])), (qs, .inl (cs, 36, .inr (.inr (.inr (.inr (fs)))))), (q0, .inr (9, [.int 5, .int 0, .int 0, .int (-1), .int 0])), (rn, .inr (8, [.ref pn, .ref qi2, .int 0, .ref qm, .ref qw, .ref qh, .ref qd, .ref qk, .int 0, .int 0, .int 0, .int 0, .int 0])), (qi2, .inr (1, [.ref qr, .int 0, .int 0])), (qr, .inl (cr, 20, .inl (fun _ => 0)))] sz) []) (va_A [(x, .inr (0, [.ref ql, .int 0, .ref rd, .ref rn, .int 0])), (ql, .inl (cl, 72, .inl (fun _ => 0))), (rd, .inr (7, [.ref qt, .int 0, .int 0, .ref pr])), (pr, .inr (6, [.ref qs, .int 0, .ref qn, .int 0, .ref qv, .ref qi])), (qs, .inl (cs, 36, .inr (.inr (.inr (.inr (fs)))))), (q0, .inr (9, [.int 5, .int 0, .int 0, .int (-1), .int 0])), (rn, .inr (8, [.ref pn, .ref qi2, .int 0, .ref qm, .ref qw, .ref qh, .ref qd, .ref qk, .int 0, .int 0, .int 0, .int 0, .int 0])), (qi2, .inr (1, [.ref qr, .int 0, .int 0])), (qr, .inl (cr, 20, .inl (fun _ => 0)))] sz)) 0 0 (va_A [(x, .inr (0, [.ref ql, .int 0, .ref rd, .ref rn, .int 0])), (ql, .inl (cl, 72, .inl (fun _ => 0))), (rd, .inr (7, [.ref qt, .int 0, .int 0, .ref pr])), (pr, .inr (6, [.ref qs, .int 0, .ref qn, .int 0, .ref qv, .ref qi])), (qs, .inl (cs, 36, .inr (.inr (.inr (.inr (fs)))))), (q0, .inr (9, [.int 5, .int 0, .int 0, .int (-1), .int 0])), (rn, .inr (8, [.ref pn, .ref qi2, .int 0, .ref qm, .ref qw, .ref qh, .ref qd, .ref qk, .int 0, .int 0, .int 0, .int 0, .int 0])), (qi2, .inr (1, [.ref qr, .int 0, .int 0])), (qr, .inl (cr, 20, .inl (fun _ => 0)))] sz) := by
  refine Met.ofW (cc := prog_1_method_12_code) (maxL := 2) (ret := (some .boolean)) (by decide) rfl ?_
  intro p e s m args below meth c s₁ B hml hv
  obtain ⟨rfl, hsz, hB, hP, hK, hD0⟩ := hv
  have hx := B.exec
  have hb := B.bytes
  have hr := B.returns
  have hown : s.vm.findClass "BigRunner" = some m.cls := findClass_of_methodNamed B.named
  have hlocks := B.notSynchronized
  subst hsz
  have hD := hD0.self (sz := s.heap.size)
  generalize hAe : va_A [(x, .inr (0, [.ref ql, .int 0, .ref rd, .ref rn, .int 0])), (ql, .inl (cl, 72, .inl (fun _ => 0))), (rd, .inr (7, [.ref qt, .int 0, .int 0, .ref pr])), (pr, .inr (6, [.ref qs, .int 0, .ref qn, .int 0, .ref qv, .ref qi])), (qs, .inl (cs, 36, .inr (.inr (.inr (.inr (fs)))))), (q0, .inr (9, [.int 5, .int 0, .int 0, .int (-1), .int 0])), (rn, .inr (8, [.ref pn, .ref qi2, .int 0, .ref qm, .ref qw, .ref qh, .ref qd, .ref qk, .int 0, .int 0, .int 0, .int 0, .int 0])), (qi2, .inr (1, [.ref qr, .int 0, .int 0])), (qr, .inl (cr, 20, .inl (fun _ => 0)))] s.heap.size = A at hD ⊢
  have hA : ∀ q : Nat, s.heap.size ≤ q → A q := fun q h => by rw [← hAe]; exact Or.inr h
  have hS : va_S A s.heap s.heap [] := va_S.rf
  have hP : va_P (dC, dI) vcl [(x, .inr (0, [.ref ql, .int 0, .ref rd, .ref rn, .int 0])), (ql, .inl (cl, 72, .inl (fun _ => 0))), (rd, .inr (7, [.ref qt, .int 0, .int 0, .ref pr])), (pr, .inr (6, [.ref qs, .int 0, .ref qn, .int 0, .ref qv, .ref qi])), (qs, .inl (cs, 36, .inr (.inr (.inr (.inr (fs)))))), (q0, .inr (9, [.int 5, .int 0, .int 0, .int (-1), .int 0])), (rn, .inr (8, [.ref pn, .ref qi2, .int 0, .ref qm, .ref qw, .ref qh, .ref qd, .ref qk, .int 0, .int 0, .int 0, .int 0, .int 0])), (qi2, .inr (1, [.ref qr, .int 0, .int 0])), (qr, .inl (cr, 20, .inl (fun _ => 0)))] s.heap := hP
  have hl := lv_entry ([.ref x, .int k]) (n := 2) (Nat.le_of_ble_eq_true rfl)
  rw [lg_entry_eq]
  generalize (lg_sl ([.ref x, .int k]) ++ List.replicate (2 - (lg_sl ([.ref x, .int k])).length) Slot.unset).toArray = ls at hl ⊢
  have hl : lv_has ls 2 [(0, .ref x), (1, .int k)] := hl
  refine lv_aload_n hx hb d_B_hasVariable_0 rfl (lv_at hl 0 rfl) ?_
  refine va_get (D := (dC, dI)) (ci := 0) (v := .int 0) (C := "BigRunner") (T := FT0) (N := 5) hx hb (hw0 hB _) (fun _ h9 => h9) hown hK hP 0 rfl rfl 4 (by decide) (wd_382 hB _) (fun _ h9 => h9) rfl d_B_hasVariable_1 ?_
  refine lv_if_eq (tgt := 21) hx hb d_B_hasVariable_4 (by decide) (fun _ => ?_) (fun hq => absurd rfl hq)
  refine lv_iconst (v := 0) hx hb d_B_hasVariable_21 (by decide) ?_
  have hP9 := hP.sub (ws' := []) [] rfl
  have hD9 := hD.sub (ws' := []) [] (by decide) rfl
  have hK9 := hK.sub (tys' := []) [] rfl
  refine W.widen (k := 0) (n := 0) (by omega) (by omega) ?_
  exact W.zret (v := 0) (ty := .boolean) hx hb hr rfl (fun t ht hW => ⟨⟨0, (), rfl, rfl, by rw [ht]; exact hP9, va_K.moved hW.alike hK9, hD9⟩, hS.F ht⟩) hS.2.2 d_B_hasVariable_22
set_option maxHeartbeats 4000000 in
set_option maxRecDepth 100000 in
/-- small on a fresh object -/
theorem c_B_small (l : Launch) (dC : Nat → ClassId) (dI : Nat → Nat → Nat) (sz : Nat) (x : Nat) (ql : Nat) (cl : ClassId) (rd : Nat) (rn : Nat) (qt : Nat) (pr : Nat) (qs : Nat) (cs : ClassId) (fs : Nat → Option Nat) (q0 : Nat) (qn : Nat) (qv : Nat) (qi : Nat) (pn : Nat) (qi2 : Nat) (qm : Nat) (qw : Nat) (qh : Nat) (qd : Nat) (qk : Nat) (qr : Nat) (cr : ClassId) (k : Int32) : Met l ⟨"BigRunner", "small", "(I)Z"⟩ [Cond.code ⟨"BigRunner", "small", "(I)Z"⟩ prog_1_method_9_code 2 (some .boolean)] ({ frames := 1, cells := 0, slots := 0, locals := 21 }) (va_Pc [.ref x, .int k] (fun U => U.heap.size = sz ∧ TB U ∧ va_P (dC, dI) vcl [(x, .inr (0, [.ref ql, .int 0, .ref rd, .ref rn, .int 0])), (ql, .inl (cl, 72, .inl (fun _ => 0))), (rd, .inr (7, [.ref qt, .int 0, .int 0, .ref pr])), (pr, .inr (6, [.ref qs, .int 0, .ref qn, .int 0, .ref qv, .ref qi])), (qs, .inl (cs, 36, .inr (.inr (.inr (.inr (fs)))))), (q0, .inr (9, [.int 5, .int 0, .int 0, .int (-1), .int 0])), (rn, .inr (8, [.ref pn, .ref qi2, .int 0, .ref qm, .ref qw, .ref qh, .ref qd, .ref qk, .int 0, .int 0, .int 0, .int 0, .int 0])), (qi2, .inr (1, [.ref qr, .int 0, .int 0])), (qr, .inl (cr, 20, .inl (fun _ => 0)))] U.heap ∧ va_K (dC, dI) vcl [(cl, .char), (cs, (.object "BigRunner$Statement")), (cr, .int)] U ∧ va_D (fun _ => True) [(x, .inr (0, [.ref ql, .int 0, .ref rd, .ref rn, .int 0])), (ql, .inl (cl, 72, .inl (fun _ => 0))), (rd, .inr (7, [.ref qt, .int 0, .int 0, .ref pr])), (pr, .inr (6, [.ref qs, .int 0, .ref qn, .int 0, .ref qv, .ref qi])), (qs, .inl (cs, 36, .inr (.inr (.inr (.inr (fs)))))), (q0, .inr (9, [.int 5, .int 0, .int 0, .int (-1), .int 0])), (rn, .inr (8, [.ref pn, .ref qi2, .int 0, .ref qm, .ref qw, .ref qh, .ref qd, .ref qk, .int 0, .int 0, .int 0, .int 0, .int 0])), (qi2, .inr (1, [.ref qr, .int 0, .int 0])), (qr, .inl (cr, 20, .inl (fun _ => 0)))])) (va_Qi (fun (r : Int32) (u : Unit) => match u with | _ => r = 0) (fun (u : Unit) (t : State) => match u with | _ => va_P (dC, dI) vcl [] t.heap ∧ va_K (dC, dI) vcl [] t ∧ va_D (va_A [(x, .inr (0, [.ref ql, .int 0, .ref rd, .ref rn, .int 0])), (ql, .inl (cl, 72, .inl (fun _ => 0))), (rd, .inr (7, [.ref qt, .int 0, .int 0, .ref pr])), (pr, .inr (6, [.ref qs, .int 0, .ref qn, .int 0, .ref qv, .ref qi])), (qs, .inl (cs, 36, .inr (.inr (.inr (.inr (fs)))))), (q0, .inr (9, [.int 5, .int 0, .int 0, .int (-1), .int 0])), (rn, .inr (8, [.ref pn, .ref qi2, .int 0, .ref qm, .ref qw, .ref qh, .ref qd, .ref qk, .int 0, .int 0, .int 0, .int 0, .int 0])), (qi2, .inr (1, [.ref qr, .int 0, .int 0])), (qr, .inl (cr, 20, .inl (fun _ => 0)))] sz) []) (va_A [(x, .inr (0, [.ref ql, .int 0, .ref rd, .ref rn, .int 0])), (ql, .inl (cl, 72, .inl (fun _ => 0))), (rd, .inr (7, [.ref qt, .int 0, .int 0, .ref pr])), (pr, .inr (6, [.ref qs, .int 0, .ref qn, .int 0, .ref qv, .ref qi])), (qs, .inl (cs, 36, .inr (.inr (.inr (.inr (fs)))))), (q0, .inr (9, [.int 5, .int 0, .int 0, .int (-1), .int 0])), (rn, .inr (8, [.ref pn, .ref qi2, .int 0, .ref qm, .ref qw, .ref qh, .ref qd, .ref qk, .int 0, .int 0, .int 0, .int 0, .int 0])), (qi2, .inr (1, [.ref qr, .int 0, .int 0])), (qr, .inl (cr, 20, .inl (fun _ => 0)))] sz)) 0 0 (va_A [(x, .inr (0, [.ref ql, .int 0, .ref rd, .ref rn, .int 0])), (ql, .inl (cl, 72, .inl (fun _ => 0))), (rd, .inr (7, [.ref qt, .int 0, .int 0, .ref pr])), (pr, .inr (6, [.ref qs, .int 0, .ref qn, .int 0, .ref qv, .ref qi])), (qs, .inl (cs, 36, .inr (.inr (.inr (.inr (fs)))))), (q0, .inr (9, [.int 5, .int 0, .int 0, .int (-1), .int 0])), (rn, .inr (8, [.ref pn, .ref qi2, .int 0, .ref qm, .ref qw, .ref qh, .ref qd, .ref qk, .int 0, .int 0, .int 0, .int 0, .int 0])), (qi2, .inr (1, [.ref qr, .int 0, .int 0])), (qr, .inl (cr, 20, .inl (fun _ => 0)))] sz) := by
  refine Met.ofW (cc := prog_1_method_9_code) (maxL := 2) (ret := (some .boolean)) (by decide) rfl ?_
  intro p e s m args below meth c s₁ B hml hv
  obtain ⟨rfl, hsz, hB, hP, hK, hD0⟩ := hv
  have hx := B.exec
  have hb := B.bytes
  have hr := B.returns
  have hown : s.vm.findClass "BigRunner" = some m.cls := findClass_of_methodNamed B.named
  have hlocks := B.notSynchronized
  subst hsz
  have hD := hD0.self (sz := s.heap.size)
  generalize hAe : va_A [(x, .inr (0, [.ref ql, .int 0, .ref rd, .ref rn, .int 0])), (ql, .inl (cl, 72, .inl (fun _ => 0))), (rd, .inr (7, [.ref qt, .int 0, .int 0, .ref pr])), (pr, .inr (6, [.ref qs, .int 0, .ref qn, .int 0, .ref qv, .ref qi])), (qs, .inl (cs, 36, .inr (.inr (.inr (.inr (fs)))))), (q0, .inr (9, [.int 5, .int 0, .int 0, .int (-1), .int 0])), (rn, .inr (8, [.ref pn, .ref qi2, .int 0, .ref qm, .ref qw, .ref qh, .ref qd, .ref qk, .int 0, .int 0, .int 0, .int 0, .int 0])), (qi2, .inr (1, [.ref qr, .int 0, .int 0])), (qr, .inl (cr, 20, .inl (fun _ => 0)))] s.heap.size = A at hD ⊢
  have hA : ∀ q : Nat, s.heap.size ≤ q → A q := fun q h => by rw [← hAe]; exact Or.inr h
  have hS : va_S A s.heap s.heap [] := va_S.rf
  have hP : va_P (dC, dI) vcl [(x, .inr (0, [.ref ql, .int 0, .ref rd, .ref rn, .int 0])), (ql, .inl (cl, 72, .inl (fun _ => 0))), (rd, .inr (7, [.ref qt, .int 0, .int 0, .ref pr])), (pr, .inr (6, [.ref qs, .int 0, .ref qn, .int 0, .ref qv, .ref qi])), (qs, .inl (cs, 36, .inr (.inr (.inr (.inr (fs)))))), (q0, .inr (9, [.int 5, .int 0, .int 0, .int (-1), .int 0])), (rn, .inr (8, [.ref pn, .ref qi2, .int 0, .ref qm, .ref qw, .ref qh, .ref qd, .ref qk, .int 0, .int 0, .int 0, .int 0, .int 0])), (qi2, .inr (1, [.ref qr, .int 0, .int 0])), (qr, .inl (cr, 20, .inl (fun _ => 0)))] s.heap := hP
  have hl := lv_entry ([.ref x, .int k]) (n := 2) (Nat.le_of_ble_eq_true rfl)
  rw [lg_entry_eq]
  generalize (lg_sl ([.ref x, .int k]) ++ List.replicate (2 - (lg_sl ([.ref x, .int k])).length) Slot.unset).toArray = ls at hl ⊢
  have hl : lv_has ls 2 [(0, .ref x), (1, .int k)] := hl
  refine lv_aload_n hx hb d_B_small_0 rfl (lv_at hl 0 rfl) ?_
  refine lv_iload_n hx hb d_B_small_1 rfl (lv_at hl 1 rfl) ?_
  have hPc := hP.sub (ws' := [(x, .inr (0, [.ref ql, .int 0, .ref rd, .ref rn, .int 0])), (ql, .inl (cl, 72, .inl (fun _ => 0))), (rd, .inr (7, [.ref qt, .int 0, .int 0, .ref pr])), (pr, .inr (6, [.ref qs, .int 0, .ref qn, .int 0, .ref qv, .ref qi])), (qs, .inl (cs, 36, .inr (.inr (.inr (.inr (fs)))))), (q0, .inr (9, [.int 5, .int 0, .int 0, .int (-1), .int 0])), (rn, .inr (8, [.ref pn, .ref qi2, .int 0, .ref qm, .ref qw, .ref qh, .ref qd, .ref qk, .int 0, .int 0, .int 0, .int 0, .int 0])), (qi2, .inr (1, [.ref qr, .int 0, .int 0])), (qr, .inl (cr, 20, .inl (fun _ => 0)))]) [0, 1, 2, 3, 4, 5, 6, 7, 8] rfl
  have hDc := hD.sub (ws' := [(x, .inr (0, [.ref ql, .int 0, .ref rd, .ref rn, .int 0])), (ql, .inl (cl, 72, .inl (fun _ => 0))), (rd, .inr (7, [.ref qt, .int 0, .int 0, .ref pr])), (pr, .inr (6, [.ref qs, .int 0, .ref qn, .int 0, .ref qv, .ref qi])), (qs, .inl (cs, 36, .inr (.inr (.inr (.inr (fs)))))), (q0, .inr (9, [.int 5, .int 0, .int 0, .int (-1), .int 0])), (rn, .inr (8, [.ref pn, .ref qi2, .int 0, .ref qm, .ref qw, .ref qh, .ref qd, .ref qk, .int 0, .int 0, .int 0, .int 0, .int 0])), (qi2, .inr (1, [.ref qr, .int 0, .int 0])), (qr, .inl (cr, 20, .inl (fun _ => 0)))]) [0, 1, 2, 3, 4, 5, 6, 7, 8] (by decide) rfl
  have hKc := hK.sub (tys' := [(cl, .char), (cs, (.object "BigRunner$Statement")), (cr, .int)]) [0, 1, 2] rfl
  have hFc := va_free (wc := [(x, .inr (0, [.ref ql, .int 0, .ref rd, .ref rn, .int 0])), (ql, .inl (cl, 72, .inl (fun _ => 0))), (rd, .inr (7, [.ref qt, .int 0, .int 0, .ref pr])), (pr, .inr (6, [.ref qs, .int 0, .ref qn, .int 0, .ref qv, .ref qi])), (qs, .inl (cs, 36, .inr (.inr (.inr (.inr (fs)))))), (q0, .inr (9, [.int 5, .int 0, .int 0, .int (-1), .int 0])), (rn, .inr (8, [.ref pn, .ref qi2, .int 0, .ref qm, .ref qw, .ref qh, .ref qd, .ref qk, .int 0, .int 0, .int 0, .int 0, .int 0])), (qi2, .inr (1, [.ref qr, .int 0, .int 0])), (qr, .inl (cr, 20, .inl (fun _ => 0)))]) hD hS hA [0, 1, 2, 3, 4, 5, 6, 7, 8] rfl
  refine va_calli (va_runV (C := "BigRunner") (As := [.int k]) (rest := []) ⟨hx, hb, hml, hown, tb_nil⟩ (c_B_hasVariable l dC dI s.heap.size x ql cl rd rn qt pr qs cs fs q0 qn qv qi pn qi2 qm qw qh qd qk qr cr k) ⟨(callB_of 1 (tb_one (wd_436 hB _)) tb_good1 rfl rfl rfl (wd_72 hB _) (wd_433 hB _) (by decide +kernel) ⟨Nat.le_of_ble_eq_true rfl, Nat.le_of_ble_eq_true rfl⟩), (wd_435 hB _), (wd_1 hB _)⟩ ⟨fun a U g mk q => by obtain ⟨q0, q1, qB, qP, qK, qD⟩ := q; exact ⟨q0, q1, TB.same (s := U) (U := U.calling g mk a) rfl qB, qP, va_K.moved (u := U) (U := U.calling g mk a) (Vm.Alike.refl U.vm) qK, qD⟩, va_recv hK hP (q0 := 0) (ci := 0) rfl rfl, fun U hU hW => ⟨rfl, by rw [hU], hB.moved hW, by rw [hU]; exact hPc, va_K.moved hW.alike hKc, hDc.weaken (fun _ _ _ _ => trivial)⟩⟩ rfl rfl hl.1 rfl (lv_room (Nat.le_of_ble_eq_true rfl)) d_B_small_2 ⟨(Nat.le_of_ble_eq_true rfl), (Nat.le_of_ble_eq_true rfl)⟩) hS (fun q _ h => hFc q h) hFc (fun r_ u_ t H1 locs ht hvm hw_ hB1 hz1 hk1 hS => ?_)
  obtain ⟨hP1, hK1, hD1⟩ := hB1
  rw [ht] at hP1
  have hK1 := va_K.moved hvm.symm hK1
  try dsimp only at hw_
  obtain ⟨hP, hD⟩ := va_join (wr := []) (w1 := []) hP hD [0, 1, 2, 3, 4, 5, 6, 7, 8] [] rfl rfl (by decide) (by decide) hk1 hFc hP1 hD1
  have hK := (hK.sub (tys' := []) [] rfl).app hK1
  clear hk1 hFc hPc hDc hKc hP1 hD1 hK1 hz1 ht hvm
  generalize H1 = H at hP hS ⊢
  have hP : va_P (dC, dI) vcl [] H := hP
  have hD : va_D A [] := hD
  have hK : va_K (dC, dI) vcl [] s := hK
  refine W.widen (k := 0) (n := 0) (by omega) (by omega) ?_
  subst hw_
  refine lv_if_eq (tgt := 30) hx hb d_B_small_5 (by decide) (fun _ => ?_) (fun hq => absurd rfl hq)
  refine lv_iconst (v := 0) hx hb d_B_small_30 (by decide) ?_
  have hP9 := hP.sub (ws' := []) [] rfl
  have hD9 := hD.sub (ws' := []) [] (by decide) rfl
  have hK9 := hK.sub (tys' := []) [] rfl
  refine W.widen (k := 0) (n := 0) (by omega) (by omega) ?_
  exact W.zret (v := 0) (ty := .boolean) hx hb hr rfl (fun t ht hW => ⟨⟨0, (), rfl, rfl, by rw [ht]; exact hP9, va_K.moved hW.alike hK9, hD9⟩, hS.F ht⟩) hS.2.2 d_B_small_31
end
section
set_option maxHeartbeats 4000000 in
set_option maxRecDepth 100000 in
theorem c_R_next (l : Launch) (dC : Nat → ClassId) (dI : Nat → Nat → Nat) (sz : Nat) (y : Nat) (qt : Nat) (pr : Nat) : Met l ⟨"BigRunner$Reader", "next", "()C"⟩ [Cond.code ⟨"BigRunner$Reader", "next", "()C"⟩ prog_8_method_3_code 1 (some .char)] ({ frames := 0, cells := 0, slots := 0, locals := 0 }) (va_Pc [.ref y] (fun U => U.heap.size = sz ∧ TB U ∧ va_P (dC, dI) vcl [(y, .inr (7, [.ref qt, .int 0, .int 0, .ref pr]))] U.heap ∧ va_K (dC, dI) vcl [] U ∧ va_D (fun _ => True) [(y, .inr (7, [.ref qt, .int 0, .int 0, .ref pr]))])) (va_Qi (fun (r : Int32) (u : Unit) => match u with | _ => r = 32) (fun (u : Unit) (t : State) => match u with | _ => va_P (dC, dI) vcl [(y, .inr (7, [.ref qt, .int 0, .int 0, .ref pr]))] t.heap ∧ va_K (dC, dI) vcl [] t ∧ va_D (va_A [(y, .inr (7, [.ref qt, .int 0, .int 0, .ref pr]))] sz) [(y, .inr (7, [.ref qt, .int 0, .int 0, .ref pr]))]) (va_A [(y, .inr (7, [.ref qt, .int 0, .int 0, .ref pr]))] sz)) 0 0 (va_A [(y, .inr (7, [.ref qt, .int 0, .int 0, .ref pr]))] sz) := by
  refine Met.ofW (cc := prog_8_method_3_code) (maxL := 1) (ret := (some .char)) (by decide) rfl ?_
  intro p e s m args below meth c s₁ B hml hv
  obtain ⟨rfl, hsz, hB, hP, hK, hD0⟩ := hv
  have hx := B.exec
  have hb := B.bytes
  have hr := B.returns
  have hown : s.vm.findClass "BigRunner$Reader" = some m.cls := findClass_of_methodNamed B.named
  have hlocks := B.notSynchronized
  subst hsz
  have hD := hD0.self (sz := s.heap.size)
  generalize hAe : va_A [(y, .inr (7, [.ref qt, .int 0, .int 0, .ref pr]))] s.heap.size = A at hD ⊢
  have hA : ∀ q : Nat, s.heap.size ≤ q → A q := fun q h => by rw [← hAe]; exact Or.inr h
  have hS : va_S A s.heap s.heap [] := va_S.rf
  have hP : va_P (dC, dI) vcl [(y, .inr (7, [.ref qt, .int 0, .int 0, .ref pr]))] s.heap := hP
  have hl := lv_entry ([.ref y]) (n := 1) (Nat.le_of_ble_eq_true rfl)
  rw [lg_entry_eq]
  generalize (lg_sl ([.ref y]) ++ List.replicate (1 - (lg_sl ([.ref y])).length) Slot.unset).toArray = ls at hl ⊢
  have hl : lv_has ls 1 [(0, .ref y)] := hl
  refine lv_aload_n hx hb d_NReader_next_0 rfl (lv_at hl 0 rfl) ?_
  refine va_get (D := (dC, dI)) (ci := 7) (v := .int 0) (C := "BigRunner$Reader") (T := FT7) (N := 4) hx hb (hw7 hB _) (fun _ h9 => h9) hown hK hP 0 rfl rfl 2 (by decide) (wd_272 hB _) (fun _ h9 => h9) rfl d_NReader_next_1 ?_
  refine lv_aload_n hx hb d_NReader_next_4 rfl (lv_at hl 0 rfl) ?_
  refine va_get (D := (dC, dI)) (ci := 7) (v := .int 0) (C := "BigRunner$Reader") (T := FT7) (N := 4) hx hb (hw7 hB _) (fun _ h9 => h9) hown hK hP 0 rfl rfl 1 (by decide) (wd_271 hB _) (fun _ h9 => h9) rfl d_NReader_next_5 ?_
  refine lv_icmp_ge (tgt := 23) hx hb d_NReader_next_8 (by decide) (fun _ => ?_) (fun hq => absurd (by decide) hq)
  refine lv_bipush (v := 32) hx hb d_NReader_next_23 (by decide) ?_
  have hP9 := hP.sub (ws' := [(y, .inr (7, [.ref qt, .int 0, .int 0, .ref pr]))]) [0] rfl
  have hD9 := hD.sub (ws' := [(y, .inr (7, [.ref qt, .int 0, .int 0, .ref pr]))]) [0] (by decide) rfl
  have hK9 := hK.sub (tys' := []) [] rfl
  refine W.widen (k := 0) (n := 0) (by omega) (by omega) ?_
  exact W.zret (v := 32) (ty := .char) hx hb hr rfl (fun t ht hW => ⟨⟨32, (), rfl, rfl, by rw [ht]; exact hP9, va_K.moved hW.alike hK9, hD9⟩, hS.F ht⟩) hS.2.2 d_NReader_next_25
set_option maxHeartbeats 4000000 in
set_option maxRecDepth 100000 in
theorem c_R_accept (l : Launch) (dC : Nat → ClassId) (dI : Nat → Nat → Nat) (sz : Nat) (y : Nat) (qt : Nat) (pr : Nat) (k : Int32) (hk : ¬ (32 : Int32) = k) : Met l ⟨"BigRunner$Reader", "accept", "(C)Z"⟩ [Cond.code ⟨"BigRunner$Reader", "accept", "(C)Z"⟩ prog_8_method_4_code 2 (some .boolean)] ({ frames := 1, cells := 0, slots := 0, locals := 20 }) (va_Pc [.ref y, .int k] (fun U => U.heap.size = sz ∧ TB U ∧ va_P (dC, dI) vcl [(y, .inr (7, [.ref qt, .int 0, .int 0, .ref pr]))] U.heap ∧ va_K (dC, dI) vcl [] U ∧ va_D (fun _ => True) [(y, .inr (7, [.ref qt, .int 0, .int 0, .ref pr]))])) (va_Qi (fun (r : Int32) (u : Unit) => match u with | _ => r = 0) (fun (u : Unit) (t : State) => match u with | _ => va_P (dC, dI) vcl [(y, .inr (7, [.ref qt, .int 0, .int 0, .ref pr]))] t.heap ∧ va_K (dC, dI) vcl [] t ∧ va_D (va_A [(y, .inr (7, [.ref qt, .int 0, .int 0, .ref pr]))] sz) [(y, .inr (7, [.ref qt, .int 0, .int 0, .ref pr]))]) (va_A [(y, .inr (7, [.ref qt, .int 0, .int 0, .ref pr]))] sz)) 0 0 (va_A [(y, .inr (7, [.ref qt, .int 0, .int 0, .ref pr]))] sz) := by
  refine Met.ofW (cc := prog_8_method_4_code) (maxL := 2) (ret := (some .boolean)) (by decide) rfl ?_
  intro p e s m args below meth c s₁ B hml hv
  obtain ⟨rfl, hsz, hB, hP, hK, hD0⟩ := hv
  have hx := B.exec
  have hb := B.bytes
  have hr := B.returns
  have hown : s.vm.findClass "BigRunner$Reader" = some m.cls := findClass_of_methodNamed B.named
  have hlocks := B.notSynchronized
  subst hsz
  have hD := hD0.self (sz := s.heap.size)
  generalize hAe : va_A [(y, .inr (7, [.ref qt, .int 0, .int 0, .ref pr]))] s.heap.size = A at hD ⊢
  have hA : ∀ q : Nat, s.heap.size ≤ q → A q := fun q h => by rw [← hAe]; exact Or.inr h
  have hS : va_S A s.heap s.heap [] := va_S.rf
  have hP : va_P (dC, dI) vcl [(y, .inr (7, [.ref qt, .int 0, .int 0, .ref pr]))] s.heap := hP
  have hl := lv_entry ([.ref y, .int k]) (n := 2) (Nat.le_of_ble_eq_true rfl)
  rw [lg_entry_eq]
  generalize (lg_sl ([.ref y, .int k]) ++ List.replicate (2 - (lg_sl ([.ref y, .int k])).length) Slot.unset).toArray = ls at hl ⊢
  have hl : lv_has ls 2 [(0, .ref y), (1, .int k)] := hl
  refine lv_aload_n hx hb d_NReader_accept_0 rfl (lv_at hl 0 rfl) ?_
  have hPc := hP.sub (ws' := [(y, .inr (7, [.ref qt, .int 0, .int 0, .ref pr]))]) [0] rfl
  have hDc := hD.sub (ws' := [(y, .inr (7, [.ref qt, .int 0, .int 0, .ref pr]))]) [0] (by decide) rfl
  have hKc := hK.sub (tys' := []) [] rfl
  have hFc := va_free (wc := [(y, .inr (7, [.ref qt, .int 0, .int 0, .ref pr]))]) hD hS hA [0] rfl
  refine va_calli (va_runV (C := "BigRunner$Reader") (As := []) (rest := []) ⟨hx, hb, hml, hown, tb_nil⟩ (c_R_next l dC dI s.heap.size y qt pr) ⟨(callB_of 0 (tb_one (wd_476 hB _)) tb_good1 rfl rfl rfl (wd_73 hB _) (wd_473 hB _) (by decide +kernel) ⟨Nat.le_of_ble_eq_true rfl, Nat.le_of_ble_eq_true rfl⟩), (wd_475 hB _), (wd_5 hB _)⟩ ⟨fun a U g mk q => by obtain ⟨q0, q1, qB, qP, qK, qD⟩ := q; exact ⟨q0, q1, TB.same (s := U) (U := U.calling g mk a) rfl qB, qP, va_K.moved (u := U) (U := U.calling g mk a) (Vm.Alike.refl U.vm) qK, qD⟩, va_recv hK hP (q0 := 0) (ci := 7) rfl rfl, fun U hU hW => ⟨rfl, by rw [hU], hB.moved hW, by rw [hU]; exact hPc, va_K.moved hW.alike hKc, hDc.weaken (fun _ _ _ _ => trivial)⟩⟩ rfl rfl hl.1 rfl (lv_room (Nat.le_of_ble_eq_true rfl)) d_NReader_accept_1 ⟨(Nat.le_of_ble_eq_true rfl), (Nat.le_of_ble_eq_true rfl)⟩) hS (fun q _ h => hFc q h) hFc (fun r_ u_ t H1 locs ht hvm hw_ hB1 hz1 hk1 hS => ?_)
  obtain ⟨hP1, hK1, hD1⟩ := hB1
  rw [ht] at hP1
  have hK1 := va_K.moved hvm.symm hK1
  try dsimp only at hw_
  obtain ⟨hP, hD⟩ := va_join (wr := []) (w1 := [(y, .inr (7, [.ref qt, .int 0, .int 0, .ref pr]))]) hP hD [0] [] rfl rfl (by decide) (by decide) hk1 hFc hP1 hD1
  have hK := (hK.sub (tys' := []) [] rfl).app hK1
  clear hk1 hFc hPc hDc hKc hP1 hD1 hK1 hz1 ht hvm
  generalize H1 = H at hP hS ⊢
  have hP : va_P (dC, dI) vcl [(y, .inr (7, [.ref qt, .int 0, .int 0, .ref pr]))] H := hP
  have hD : va_D A [(y, .inr (7, [.ref qt, .int 0, .int 0, .ref pr]))] := hD
  have hK : va_K (dC, dI) vcl [] s := hK
  refine W.widen (k := 0) (n := 0) (by omega) (by omega) ?_
  refine lv_iload_n hx hb d_NReader_accept_4 rfl (lv_at hl 1 rfl) ?_
  subst hw_
  refine lv_icmp_eq (tgt := 10) hx hb d_NReader_accept_5 (by decide) (fun hq => absurd hq hk) (fun _ => ?_)
  refine lv_iconst (v := 0) hx hb d_NReader_accept_8 (by decide) ?_
  have hP9 := hP.sub (ws' := [(y, .inr (7, [.ref qt, .int 0, .int 0, .ref pr]))]) [0] rfl
  have hD9 := hD.sub (ws' := [(y, .inr (7, [.ref qt, .int 0, .int 0, .ref pr]))]) [0] (by decide) rfl
  have hK9 := hK.sub (tys' := []) [] rfl
  refine W.widen (k := 0) (n := 0) (by omega) (by omega) ?_
  exact W.zret (v := 0) (ty := .boolean) hx hb hr rfl (fun t ht hW => ⟨⟨0, (), rfl, rfl, by rw [ht]; exact hP9, va_K.moved hW.alike hK9, hD9⟩, hS.F ht⟩) hS.2.2 d_NReader_accept_9
set_option maxHeartbeats 4000000 in
set_option maxRecDepth 100000 in
theorem c_R_addStatement (l : Launch) (dC : Nat → ClassId) (dI : Nat → Nat → Nat) (sz : Nat) (y : Nat) (qt : Nat) (pr : Nat) (qs : Nat) (cs : ClassId) (fs : Nat → Option Nat) (q0 : Nat) (qn : Nat) (qv : Nat) (qi : Nat) (k : Int32) (hf : fs 0 = some q0) : Met l ⟨"BigRunner$Reader", "addStatement", "(I)I"⟩ [Cond.code ⟨"BigRunner$Reader", "addStatement", "(I)I"⟩ prog_8_method_16_code 2 (some .int)] ({ frames := 0, cells := 0, slots := 0, locals := 0 }) (va_Pc [.ref y, .int k] (fun U => U.heap.size = sz ∧ TB U ∧ va_P (dC, dI) vcl [(y, .inr (7, [.ref qt, .int 0, .int 0, .ref pr])), (pr, .inr (6, [.ref qs, .int 0, .ref qn, .int 0, .ref qv, .ref qi])), (qs, .inl (cs, 36, .inr (.inr (.inr (.inr (fs)))))), (q0, .inr (9, [.int 5, .int 0, .int 0, .int (-1), .int 0]))] U.heap ∧ va_K (dC, dI) vcl [(cs, (.object "BigRunner$Statement"))] U ∧ va_D (fun _ => True) [(y, .inr (7, [.ref qt, .int 0, .int 0, .ref pr])), (pr, .inr (6, [.ref qs, .int 0, .ref qn, .int 0, .ref qv, .ref qi])), (qs, .inl (cs, 36, .inr (.inr (.inr (.inr (fs)))))), (q0, .inr (9, [.int 5, .int 0, .int 0, .int (-1), .int 0]))])) (va_Qi (fun (r : Int32) (u : Unit) => match u with | _ => r = 0) (fun (u : Unit) (t : State) => match u with | _ => va_P (dC, dI) vcl [(y, .inr (7, [.ref qt, .int 0, .int 0, .ref pr]))] t.heap ∧ va_K (dC, dI) vcl [] t ∧ va_D (va_A [(y, .inr (7, [.ref qt, .int 0, .int 0, .ref pr])), (pr, .inr (6, [.ref qs, .int 0, .ref qn, .int 0, .ref qv, .ref qi])), (qs, .inl (cs, 36, .inr (.inr (.inr (.inr (fs)))))), (q0, .inr (9, [.int 5, .int 0, .int 0, .int (-1), .int 0]))] sz) [(y, .inr (7, [.ref qt, .int 0, .int 0, .ref pr]))]) (va_A [(y, .inr (7, [.ref qt, .int 0, .int 0, .ref pr])), (pr, .inr (6, [.ref qs, .int 0, .ref qn, .int 0, .ref qv, .ref qi])), (qs, .inl (cs, 36, .inr (.inr (.inr (.inr (fs)))))), (q0, .inr (9, [.int 5, .int 0, .int 0, .int (-1), .int 0]))] sz)) 0 0 (va_A [(y, .inr (7, [.ref qt, .int 0, .int 0, .ref pr])), (pr, .inr (6, [.ref qs, .int 0, .ref qn, .int 0, .ref qv, .ref qi])), (qs, .inl (cs, 36, .inr (.inr (.inr (.inr (fs)))))), (q0, .inr (9, [.int 5, .int 0, .int 0, .int (-1), .int 0]))] sz) := by
  refine Met.ofW (cc := prog_8_method_16_code) (maxL := 2) (ret := (some .int)) (by decide) rfl ?_
  intro p e s m args below meth c s₁ B hml hv
  obtain ⟨rfl, hsz, hB, hP, hK, hD0⟩ := hv
  have hx := B.exec
  have hb := B.bytes
  have hr := B.returns
  have hown : s.vm.findClass "BigRunner$Reader" = some m.cls := findClass_of_methodNamed B.named
  have hlocks := B.notSynchronized
  subst hsz
  have hD := hD0.self (sz := s.heap.size)
  generalize hAe : va_A [(y, .inr (7, [.ref qt, .int 0, .int 0, .ref pr])), (pr, .inr (6, [.ref qs, .int 0, .ref qn, .int 0, .ref qv, .ref qi])), (qs, .inl (cs, 36, .inr (.inr (.inr (.inr (fs)))))), (q0, .inr (9, [.int 5, .int 0, .int 0, .int (-1), .int 0]))] s.heap.size = A at hD ⊢
  have hA : ∀ q : Nat, s.heap.size ≤ q → A q := fun q h => by rw [← hAe]; exact Or.inr h
  have hS : va_S A s.heap s.heap [] := va_S.rf
  have hP : va_P (dC, dI) vcl [(y, .inr (7, [.ref qt, .int 0, .int 0, .ref pr])), (pr, .inr (6, [.ref qs, .int 0, .ref qn, .int 0, .ref qv, .ref qi])), (qs, .inl (cs, 36, .inr (.inr (.inr (.inr (fs)))))), (q0, .inr (9, [.int 5, .int 0, .int 0, .int (-1), .int 0]))] s.heap := hP
  have hl := lv_entry ([.ref y, .int k]) (n := 2) (Nat.le_of_ble_eq_true rfl)
  rw [lg_entry_eq]
  generalize (lg_sl ([.ref y, .int k]) ++ List.replicate (2 - (lg_sl ([.ref y, .int k])).length) Slot.unset).toArray = ls at hl ⊢
  have hl : lv_has ls 2 [(0, .ref y), (1, .int k)] := hl
  refine lv_aload_n hx hb d_NReader_addStatement_0 rfl (lv_at hl 0 rfl) ?_
  refine va_get (D := (dC, dI)) (ci := 7) (v := .ref pr) (C := "BigRunner$Reader") (T := FT7) (N := 4) hx hb (hw7 hB _) (fun _ h9 => h9) hown hK hP 0 rfl rfl 3 (by decide) (wd_273 hB _) (fun _ h9 => h9) rfl d_NReader_addStatement_1 ?_
  refine va_get (D := (dC, dI)) (ci := 6) (v := .int 0) (C := "BigRunner$Program") (T := FT6) (N := 6) hx hb (hw6 hB _) (fun _ h9 => h9) hown hK hP 1 rfl rfl 1 (by decide) (wd_246 hB _) (fun _ h9 => h9) rfl d_NReader_addStatement_4 ?_
  refine lv_aload_n hx hb d_NReader_addStatement_7 rfl (lv_at hl 0 rfl) ?_
  refine va_get (D := (dC, dI)) (ci := 7) (v := .ref pr) (C := "BigRunner$Reader") (T := FT7) (N := 4) hx hb (hw7 hB _) (fun _ h9 => h9) hown hK hP 0 rfl rfl 3 (by decide) (wd_273 hB _) (fun _ h9 => h9) rfl d_NReader_addStatement_8 ?_
  refine va_get (D := (dC, dI)) (ci := 6) (v := .ref qs) (C := "BigRunner$Program") (T := FT6) (N := 6) hx hb (hw6 hB _) (fun _ h9 => h9) hown hK hP 1 rfl rfl 0 (by decide) (wd_244 hB _) (fun _ h9 => h9) rfl d_NReader_addStatement_11 ?_
  refine va_alen (D := (dC, dI)) (v := 36) hx hb hK hP 2 0 rfl rfl rfl d_NReader_addStatement_14 ?_
  refine lv_icmp_lt (tgt := 20) hx hb d_NReader_addStatement_15 (by decide) (fun _ => ?_) (fun hq => absurd (by decide) hq)
  refine lv_aload_n hx hb d_NReader_addStatement_20 rfl (lv_at hl 0 rfl) ?_
  refine va_get (D := (dC, dI)) (ci := 7) (v := .ref pr) (C := "BigRunner$Reader") (T := FT7) (N := 4) hx hb (hw7 hB _) (fun _ h9 => h9) hown hK hP 0 rfl rfl 3 (by decide) (wd_273 hB _) (fun _ h9 => h9) rfl d_NReader_addStatement_21 ?_
  refine va_get (D := (dC, dI)) (ci := 6) (v := .ref qs) (C := "BigRunner$Program") (T := FT6) (N := 6) hx hb (hw6 hB _) (fun _ h9 => h9) hown hK hP 1 rfl rfl 0 (by decide) (wd_244 hB _) (fun _ h9 => h9) rfl d_NReader_addStatement_24 ?_
  refine lv_aload_n hx hb d_NReader_addStatement_27 rfl (lv_at hl 0 rfl) ?_
  refine va_get (D := (dC, dI)) (ci := 7) (v := .ref pr) (C := "BigRunner$Reader") (T := FT7) (N := 4) hx hb (hw7 hB _) (fun _ h9 => h9) hown hK hP 0 rfl rfl 3 (by decide) (wd_273 hB _) (fun _ h9 => h9) rfl d_NReader_addStatement_28 ?_
  refine va_get (D := (dC, dI)) (ci := 6) (v := .int 0) (C := "BigRunner$Program") (T := FT6) (N := 6) hx hb (hw6 hB _) (fun _ h9 => h9) hown hK hP 1 rfl rfl 1 (by decide) (wd_246 hB _) (fun _ h9 => h9) rfl d_NReader_addStatement_31 ?_
  refine va_aldq (D := (dC, dI)) hx hb hK hP 2 0 rfl rfl (vp_in_nI (n := 0) (by decide) (by decide)) d_NReader_addStatement_34 ?_
  rw [show fs (0 : Int32).toNatClampNeg = some q0 from hf]
  refine W.eq (g2 := F0 m 35 ls [.ref q0]) rfl ?_
  refine lv_iload_n hx hb d_NReader_addStatement_35 rfl (lv_at hl 1 rfl) ?_
  refine va_put (D := (dC, dI)) (ci := 9) (v := .int k) (ty := .int) (C := "BigRunner$Statement") (T := FT9) (N := 5) hx hb (hw9 hB _) (fun _ h9 => h9) TY9 ok9 nm9 hown hK hP hD hS 3 rfl rfl 0 (by decide) (wd_146 hB _) (fun _ h9 => h9) rfl (by decide +kernel) rfl rfl (Nat.le_of_ble_eq_true rfl) d_NReader_addStatement_36 (fun H locs hP hD hS => ?_)
  have hP : va_P (dC, dI) vcl [(y, .inr (7, [.ref qt, .int 0, .int 0, .ref pr])), (pr, .inr (6, [.ref qs, .int 0, .ref qn, .int 0, .ref qv, .ref qi])), (qs, .inl (cs, 36, .inr (.inr (.inr (.inr (fs)))))), (q0, .inr (9, [.int k, .int 0, .int 0, .int (-1), .int 0]))] H := hP
  have hD : va_D A [(y, .inr (7, [.ref qt, .int 0, .int 0, .ref pr])), (pr, .inr (6, [.ref qs, .int 0, .ref qn, .int 0, .ref qv, .ref qi])), (qs, .inl (cs, 36, .inr (.inr (.inr (.inr (fs)))))), (q0, .inr (9, [.int k, .int 0, .int 0, .int (-1), .int 0]))] := hD
  refine lv_aload_n hx hb d_NReader_addStatement_39 rfl (lv_at hl 0 rfl) ?_
  refine va_get (D := (dC, dI)) (ci := 7) (v := .ref pr) (C := "BigRunner$Reader") (T := FT7) (N := 4) hx hb (hw7 hB _) (fun _ h9 => h9) hown hK hP 0 rfl rfl 3 (by decide) (wd_273 hB _) (fun _ h9 => h9) rfl d_NReader_addStatement_40 ?_
  refine lv_dup hx hb d_NReader_addStatement_43 rfl ?_
  refine va_get (D := (dC, dI)) (ci := 6) (v := .int 0) (C := "BigRunner$Program") (T := FT6) (N := 6) hx hb (hw6 hB _) (fun _ h9 => h9) hown hK hP 1 rfl rfl 1 (by decide) (wd_246 hB _) (fun _ h9 => h9) rfl d_NReader_addStatement_44 ?_
  refine lv_iconst (v := 1) hx hb d_NReader_addStatement_47 (by decide) ?_
  refine lv_iadd hx hb d_NReader_addStatement_48 ?_
  refine lv_topi (fun z_ hz_ => ?_)
  have hz_ : z_ = 1 := hz_.trans (by decide)
  subst hz_
  refine va_put (D := (dC, dI)) (ci := 6) (v := .int 1) (ty := .int) (C := "BigRunner$Program") (T := FT6) (N := 6) hx hb (hw6 hB _) (fun _ h9 => h9) TY6 ok6 nm6 hown hK hP hD hS 1 rfl rfl 1 (by decide) (wd_246 hB _) (fun _ h9 => h9) rfl (by decide +kernel) rfl rfl (Nat.le_of_ble_eq_true rfl) d_NReader_addStatement_49 (fun H locs hP hD hS => ?_)
  have hP : va_P (dC, dI) vcl [(y, .inr (7, [.ref qt, .int 0, .int 0, .ref pr])), (pr, .inr (6, [.ref qs, .int 1, .ref qn, .int 0, .ref qv, .ref qi])), (qs, .inl (cs, 36, .inr (.inr (.inr (.inr (fs)))))), (q0, .inr (9, [.int k, .int 0, .int 0, .int (-1), .int 0]))] H := hP
  have hD : va_D A [(y, .inr (7, [.ref qt, .int 0, .int 0, .ref pr])), (pr, .inr (6, [.ref qs, .int 1, .ref qn, .int 0, .ref qv, .ref qi])), (qs, .inl (cs, 36, .inr (.inr (.inr (.inr (fs)))))), (q0, .inr (9, [.int k, .int 0, .int 0, .int (-1), .int 0]))] := hD
  refine lv_aload_n hx hb d_NReader_addStatement_52 rfl (lv_at hl 0 rfl) ?_
  refine va_get (D := (dC, dI)) (ci := 7) (v := .ref pr) (C := "BigRunner$Reader") (T := FT7) (N := 4) hx hb (hw7 hB _) (fun _ h9 => h9) hown hK hP 0 rfl rfl 3 (by decide) (wd_273 hB _) (fun _ h9 => h9) rfl d_NReader_addStatement_53 ?_
  refine va_get (D := (dC, dI)) (ci := 6) (v := .int 1) (C := "BigRunner$Program") (T := FT6) (N := 6) hx hb (hw6 hB _) (fun _ h9 => h9) hown hK hP 1 rfl rfl 1 (by decide) (wd_246 hB _) (fun _ h9 => h9) rfl d_NReader_addStatement_56 ?_
  refine lv_iconst (v := 1) hx hb d_NReader_addStatement_59 (by decide) ?_
  refine lv_isub hx hb d_NReader_addStatement_60 ?_
  refine lv_topi (fun z_ hz_ => ?_)
  have hz_ : z_ = 0 := hz_.trans (by decide)
  subst hz_
  have hP9 := hP.sub (ws' := [(y, .inr (7, [.ref qt, .int 0, .int 0, .ref pr]))]) [0] rfl
  have hD9 := hD.sub (ws' := [(y, .inr (7, [.ref qt, .int 0, .int 0, .ref pr]))]) [0] (by decide) rfl
  have hK9 := hK.sub (tys' := []) [] rfl
  refine W.widen (k := 0) (n := 0) (by omega) (by omega) ?_
  exact W.iret (v := 0) hx hb hr (fun t ht hW => ⟨⟨0, (), rfl, rfl, by rw [ht]; exact hP9, va_K.moved hW.alike hK9, hD9⟩, hS.F ht⟩) hS.2.2 d_NReader_addStatement_61
set_option maxHeartbeats 4000000 in
set_option maxRecDepth 100000 in
theorem c_R_readName (l : Launch) (dC : Nat → ClassId) (dI : Nat → Nat → Nat) (sz : Nat) (y : Nat) (qt : Nat) (pr : Nat) : Met l ⟨"BigRunner$Reader", "readName", "(I)Z"⟩ [Cond.code ⟨"BigRunner$Reader", "readName", "(I)Z"⟩ prog_8_method_9_code 3 (some .boolean)] ({ frames := 1, cells := 0, slots := 0, locals := 20 }) (va_Pc [.ref y, .int 0] (fun U => U.heap.size = sz ∧ TB U ∧ va_P (dC, dI) vcl [(y, .inr (7, [.ref qt, .int 0, .int 0, .ref pr]))] U.heap ∧ va_K (dC, dI) vcl [] U ∧ va_D (fun _ => True) [(y, .inr (7, [.ref qt, .int 0, .int 0, .ref pr]))])) (va_Qi (fun (r : Int32) (u : Unit) => match u with | _ => r = 0) (fun (u : Unit) (t : State) => match u with | _ => va_P (dC, dI) vcl [(y, .inr (7, [.ref qt, .int 0, .int 0, .ref pr]))] t.heap ∧ va_K (dC, dI) vcl [] t ∧ va_D (va_A [(y, .inr (7, [.ref qt, .int 0, .int 0, .ref pr]))] sz) [(y, .inr (7, [.ref qt, .int 0, .int 0, .ref pr]))]) (va_A [(y, .inr (7, [.ref qt, .int 0, .int 0, .ref pr]))] sz)) 0 0 (va_A [(y, .inr (7, [.ref qt, .int 0, .int 0, .ref pr]))] sz) := by
  refine Met.ofW (cc := prog_8_method_9_code) (maxL := 3) (ret := (some .boolean)) (by decide) rfl ?_
  intro p e s m args below meth c s₁ B hml hv
  obtain ⟨rfl, hsz, hB, hP, hK, hD0⟩ := hv
  have hx := B.exec
  have hb := B.bytes
  have hr := B.returns
  have hown : s.vm.findClass "BigRunner$Reader" = some m.cls := findClass_of_methodNamed B.named
  have hlocks := B.notSynchronized
  subst hsz
  have hD := hD0.self (sz := s.heap.size)
  generalize hAe : va_A [(y, .inr (7, [.ref qt, .int 0, .int 0, .ref pr]))] s.heap.size = A at hD ⊢
  have hA : ∀ q : Nat, s.heap.size ≤ q → A q := fun q h => by rw [← hAe]; exact Or.inr h
  have hS : va_S A s.heap s.heap [] := va_S.rf
  have hP : va_P (dC, dI) vcl [(y, .inr (7, [.ref qt, .int 0, .int 0, .ref pr]))] s.heap := hP
  have hl := lv_entry ([.ref y, .int 0]) (n := 3) (Nat.le_of_ble_eq_true rfl)
  rw [lg_entry_eq]
  generalize (lg_sl ([.ref y, .int 0]) ++ List.replicate (3 - (lg_sl ([.ref y, .int 0])).length) Slot.unset).toArray = ls at hl ⊢
  have hl : lv_has ls 3 [(0, .ref y), (1, .int 0)] := hl
  refine lv_aload_n hx hb d_NReader_readName_0 rfl (lv_at hl 0 rfl) ?_
  have hPc := hP.sub (ws' := [(y, .inr (7, [.ref qt, .int 0, .int 0, .ref pr]))]) [0] rfl
  have hDc := hD.sub (ws' := [(y, .inr (7, [.ref qt, .int 0, .int 0, .ref pr]))]) [0] (by decide) rfl
  have hKc := hK.sub (tys' := []) [] rfl
  have hFc := va_free (wc := [(y, .inr (7, [.ref qt, .int 0, .int 0, .ref pr]))]) hD hS hA [0] rfl
  refine va_calli (va_runV (C := "BigRunner$Reader") (As := []) (rest := []) ⟨hx, hb, hml, hown, tb_nil⟩ (c_R_next l dC dI s.heap.size y qt pr) ⟨(callB_of 0 (tb_one (wd_476 hB _)) tb_good1 rfl rfl rfl (wd_73 hB _) (wd_473 hB _) (by decide +kernel) ⟨Nat.le_of_ble_eq_true rfl, Nat.le_of_ble_eq_true rfl⟩), (wd_475 hB _), (wd_5 hB _)⟩ ⟨fun a U g mk q => by obtain ⟨q0, q1, qB, qP, qK, qD⟩ := q; exact ⟨q0, q1, TB.same (s := U) (U := U.calling g mk a) rfl qB, qP, va_K.moved (u := U) (U := U.calling g mk a) (Vm.Alike.refl U.vm) qK, qD⟩, va_recv hK hP (q0 := 0) (ci := 7) rfl rfl, fun U hU hW => ⟨rfl, by rw [hU], hB.moved hW, by rw [hU]; exact hPc, va_K.moved hW.alike hKc, hDc.weaken (fun _ _ _ _ => trivial)⟩⟩ rfl rfl hl.1 rfl (lv_room (Nat.le_of_ble_eq_true rfl)) d_NReader_readName_1 ⟨(Nat.le_of_ble_eq_true rfl), (Nat.le_of_ble_eq_true rfl)⟩) hS (fun q _ h => hFc q h) hFc (fun r_ u_ t H1 locs ht hvm hw_ hB1 hz1 hk1 hS => ?_)
  obtain ⟨hP1, hK1, hD1⟩ := hB1
  rw [ht] at hP1
  have hK1 := va_K.moved hvm.symm hK1
  try dsimp only at hw_
  obtain ⟨hP, hD⟩ := va_join (wr := []) (w1 := [(y, .inr (7, [.ref qt, .int 0, .int 0, .ref pr]))]) hP hD [0] [] rfl rfl (by decide) (by decide) hk1 hFc hP1 hD1
  have hK := (hK.sub (tys' := []) [] rfl).app hK1
  clear hk1 hFc hPc hDc hKc hP1 hD1 hK1 hz1 ht hvm
  generalize H1 = H at hP hS ⊢
  have hP : va_P (dC, dI) vcl [(y, .inr (7, [.ref qt, .int 0, .int 0, .ref pr]))] H := hP
  have hD : va_D A [(y, .inr (7, [.ref qt, .int 0, .int 0, .ref pr]))] := hD
  have hK : va_K (dC, dI) vcl [] s := hK
  refine W.widen (k := 0) (n := 0) (by omega) (by omega) ?_
  subst hw_
  refine lv_istore_n (lv' := [(2, .int 32), (0, .ref y), (1, .int 0)]) hx hb d_NReader_readName_4 rfl hl (by decide) rfl (fun ls hl => ?_)
  refine lv_iload_n hx hb d_NReader_readName_5 rfl (lv_at hl 2 rfl) ?_
  refine lv_iconst (v := (-1)) hx hb d_NReader_readName_6 (by decide) ?_
  refine lv_icmp_eq (tgt := 22) hx hb d_NReader_readName_7 (by decide) (fun hq => absurd hq (by decide)) (fun _ => ?_)
  refine lv_iload_n hx hb d_NReader_readName_10 rfl (lv_at hl 0 rfl) ?_
  refine lv_bipush (v := 97) hx hb d_NReader_readName_11 (by decide) ?_
  refine lv_icmp_lt (tgt := 22) hx hb d_NReader_readName_13 (by decide) (fun _ => ?_) (fun hq => absurd (by decide) hq)
  refine lv_iconst (v := 0) hx hb d_NReader_readName_22 (by decide) ?_
  have hP9 := hP.sub (ws' := [(y, .inr (7, [.ref qt, .int 0, .int 0, .ref pr]))]) [0] rfl
  have hD9 := hD.sub (ws' := [(y, .inr (7, [.ref qt, .int 0, .int 0, .ref pr]))]) [0] (by decide) rfl
  have hK9 := hK.sub (tys' := []) [] rfl
  refine W.widen (k := 0) (n := 0) (by omega) (by omega) ?_
  exact W.zret (v := 0) (ty := .boolean) hx hb hr rfl (fun t ht hW => ⟨⟨0, (), rfl, rfl, by rw [ht]; exact hP9, va_K.moved hW.alike hK9, hD9⟩, hS.F ht⟩) hS.2.2 d_NReader_readName_23
set_option maxHeartbeats 4000000 in
set_option maxRecDepth 100000 in
theorem c_R_readStatement (l : Launch) (dC : Nat → ClassId) (dI : Nat → Nat → Nat) (sz : Nat) (y : Nat) (qt : Nat) (pr : Nat) (qs : Nat) (cs : ClassId) (fs : Nat → Option Nat) (q0 : Nat) (qn : Nat) (qv : Nat) (qi : Nat) (hf : fs 0 = some q0) : Met l ⟨"BigRunner$Reader", "readStatement", "(I)Z"⟩ [Cond.code ⟨"BigRunner$Reader", "readStatement", "(I)Z"⟩ prog_8_method_6_code 3 (some .boolean)] ({ frames := 2, cells := 0, slots := 0, locals := 42 }) (va_Pc [.ref y, .int 1] (fun U => U.heap.size = sz ∧ TB U ∧ va_P (dC, dI) vcl [(y, .inr (7, [.ref qt, .int 0, .int 0, .ref pr])), (pr, .inr (6, [.ref qs, .int 0, .ref qn, .int 0, .ref qv, .ref qi])), (qs, .inl (cs, 36, .inr (.inr (.inr (.inr (fs)))))), (q0, .inr (9, [.int 5, .int 0, .int 0, .int (-1), .int 0]))] U.heap ∧ va_K (dC, dI) vcl [(cs, (.object "BigRunner$Statement"))] U ∧ va_D (fun _ => True) [(y, .inr (7, [.ref qt, .int 0, .int 0, .ref pr])), (pr, .inr (6, [.ref qs, .int 0, .ref qn, .int 0, .ref qv, .ref qi])), (qs, .inl (cs, 36, .inr (.inr (.inr (.inr (fs)))))), (q0, .inr (9, [.int 5, .int 0, .int 0, .int (-1), .int 0]))])) (va_Qi (fun (r : Int32) (u : Unit) => match u with | _ => r = 0) (fun (u : Unit) (t : State) => match u with | _ => va_P (dC, dI) vcl [] t.heap ∧ va_K (dC, dI) vcl [] t ∧ va_D (va_A [(y, .inr (7, [.ref qt, .int 0, .int 0, .ref pr])), (pr, .inr (6, [.ref qs, .int 0, .ref qn, .int 0, .ref qv, .ref qi])), (qs, .inl (cs, 36, .inr (.inr (.inr (.inr (fs)))))), (q0, .inr (9, [.int 5, .int 0, .int 0, .int (-1), .int 0]))] sz) []) (va_A [(y, .inr (7, [.ref qt, .int 0, .int 0, .ref pr])), (pr, .inr (6, [.ref qs, .int 0, .ref qn, .int 0, .ref qv, .ref qi])), (qs, .inl (cs, 36, .inr (.inr (.inr (.inr (fs)))))), (q0, .inr (9, [.int 5, .int 0, .int 0, .int (-1), .int 0]))] sz)) 0 0 (va_A [(y, .inr (7, [.ref qt, .int 0, .int 0, .ref pr])), (pr, .inr (6, [.ref qs, .int 0, .ref qn, .int 0, .ref qv, .ref qi])), (qs, .inl (cs, 36, .inr (.inr (.inr (.inr (fs)))))), (q0, .inr (9, [.int 5, .int 0, .int 0, .int (-1), .int 0]))] sz) := by
  refine Met.ofW (cc := prog_8_method_6_code) (maxL := 3) (ret := (some .boolean)) (by decide) rfl ?_
  intro p e s m args below meth c s₁ B hml hv
  obtain ⟨rfl, hsz, hB, hP, hK, hD0⟩ := hv
  have hx := B.exec
  have hb := B.bytes
  have hr := B.returns
  have hown : s.vm.findClass "BigRunner$Reader" = some m.cls := findClass_of_methodNamed B.named
  have hlocks := B.notSynchronized
  subst hsz
  have hD := hD0.self (sz := s.heap.size)
  generalize hAe : va_A [(y, .inr (7, [.ref qt, .int 0, .int 0, .ref pr])), (pr, .inr (6, [.ref qs, .int 0, .ref qn, .int 0, .ref qv, .ref qi])), (qs, .inl (cs, 36, .inr (.inr (.inr (.inr (fs)))))), (q0, .inr (9, [.int 5, .int 0, .int 0, .int (-1), .int 0]))] s.heap.size = A at hD ⊢
  have hA : ∀ q : Nat, s.heap.size ≤ q → A q := fun q h => by rw [← hAe]; exact Or.inr h
  have hS : va_S A s.heap s.heap [] := va_S.rf
  have hP : va_P (dC, dI) vcl [(y, .inr (7, [.ref qt, .int 0, .int 0, .ref pr])), (pr, .inr (6, [.ref qs, .int 0, .ref qn, .int 0, .ref qv, .ref qi])), (qs, .inl (cs, 36, .inr (.inr (.inr (.inr (fs)))))), (q0, .inr (9, [.int 5, .int 0, .int 0, .int (-1), .int 0]))] s.heap := hP
  have hl := lv_entry ([.ref y, .int 1]) (n := 3) (Nat.le_of_ble_eq_true rfl)
  rw [lg_entry_eq]
  generalize (lg_sl ([.ref y, .int 1]) ++ List.replicate (3 - (lg_sl ([.ref y, .int 1])).length) Slot.unset).toArray = ls at hl ⊢
  have hl : lv_has ls 3 [(0, .ref y), (1, .int 1)] := hl
  refine lv_aload_n hx hb d_NReader_readStatement_0 rfl (lv_at hl 0 rfl) ?_
  refine lv_bipush (v := 63) hx hb d_NReader_readStatement_1 (by decide) ?_
  have hPc := hP.sub (ws' := [(y, .inr (7, [.ref qt, .int 0, .int 0, .ref pr]))]) [0] rfl
  have hDc := hD.sub (ws' := [(y, .inr (7, [.ref qt, .int 0, .int 0, .ref pr]))]) [0] (by decide) rfl
  have hKc := hK.sub (tys' := []) [] rfl
  have hFc := va_free (wc := [(y, .inr (7, [.ref qt, .int 0, .int 0, .ref pr]))]) hD hS hA [0] rfl
  refine va_calli (va_runV (C := "BigRunner$Reader") (As := [.int 63]) (rest := []) ⟨hx, hb, hml, hown, tb_nil⟩ (c_R_accept l dC dI s.heap.size y qt pr 63 (by decide)) ⟨(callB_of 1 (tb_one (wd_472 hB _)) tb_good1 rfl rfl rfl (wd_73 hB _) (wd_469 hB _) (by decide +kernel) ⟨Nat.le_of_ble_eq_true rfl, Nat.le_of_ble_eq_true rfl⟩), (wd_471 hB _), (wd_4 hB _)⟩ ⟨fun a U g mk q => by obtain ⟨q0, q1, qB, qP, qK, qD⟩ := q; exact ⟨q0, q1, TB.same (s := U) (U := U.calling g mk a) rfl qB, qP, va_K.moved (u := U) (U := U.calling g mk a) (Vm.Alike.refl U.vm) qK, qD⟩, va_recv hK hP (q0 := 0) (ci := 7) rfl rfl, fun U hU hW => ⟨rfl, by rw [hU], hB.moved hW, by rw [hU]; exact hPc, va_K.moved hW.alike hKc, hDc.weaken (fun _ _ _ _ => trivial)⟩⟩ rfl rfl hl.1 rfl (lv_room (Nat.le_of_ble_eq_true rfl)) d_NReader_readStatement_3 ⟨(Nat.le_of_ble_eq_true rfl), (Nat.le_of_ble_eq_true rfl)⟩) hS (fun q _ h => hFc q h) hFc (fun r_ u_ t H1 locs ht hvm hw_ hB1 hz1 hk1 hS => ?_)
  obtain ⟨hP1, hK1, hD1⟩ := hB1
  rw [ht] at hP1
  have hK1 := va_K.moved hvm.symm hK1
  try dsimp only at hw_
  obtain ⟨hP, hD⟩ := va_join (wr := [(pr, .inr (6, [.ref qs, .int 0, .ref qn, .int 0, .ref qv, .ref qi])), (qs, .inl (cs, 36, .inr (.inr (.inr (.inr (fs)))))), (q0, .inr (9, [.int 5, .int 0, .int 0, .int (-1), .int 0]))]) (w1 := [(y, .inr (7, [.ref qt, .int 0, .int 0, .ref pr]))]) hP hD [0] [1, 2, 3] rfl rfl (by decide) (by decide) hk1 hFc hP1 hD1
  have hK := (hK.sub (tys' := [(cs, (.object "BigRunner$Statement"))]) [0] rfl).app hK1
  clear hk1 hFc hPc hDc hKc hP1 hD1 hK1 hz1 ht hvm
  generalize H1 = H at hP hS ⊢
  have hP : va_P (dC, dI) vcl [(pr, .inr (6, [.ref qs, .int 0, .ref qn, .int 0, .ref qv, .ref qi])), (qs, .inl (cs, 36, .inr (.inr (.inr (.inr (fs)))))), (q0, .inr (9, [.int 5, .int 0, .int 0, .int (-1), .int 0])), (y, .inr (7, [.ref qt, .int 0, .int 0, .ref pr]))] H := hP
  have hD : va_D A [(pr, .inr (6, [.ref qs, .int 0, .ref qn, .int 0, .ref qv, .ref qi])), (qs, .inl (cs, 36, .inr (.inr (.inr (.inr (fs)))))), (q0, .inr (9, [.int 5, .int 0, .int 0, .int (-1), .int 0])), (y, .inr (7, [.ref qt, .int 0, .int 0, .ref pr]))] := hD
  have hK : va_K (dC, dI) vcl [(cs, (.object "BigRunner$Statement"))] s := hK
  refine W.widen (k := 0) (n := 0) (by omega) (by omega) ?_
  subst hw_
  refine lv_if_eq (tgt := 19) hx hb d_NReader_readStatement_6 (by decide) (fun _ => ?_) (fun hq => absurd rfl hq)
  refine lv_aload_n hx hb d_NReader_readStatement_19 rfl (lv_at hl 0 rfl) ?_
  refine lv_bipush (v := 33) hx hb d_NReader_readStatement_20 (by decide) ?_
  have hPc := hP.sub (ws' := [(y, .inr (7, [.ref qt, .int 0, .int 0, .ref pr]))]) [3] rfl
  have hDc := hD.sub (ws' := [(y, .inr (7, [.ref qt, .int 0, .int 0, .ref pr]))]) [3] (by decide) rfl
  have hKc := hK.sub (tys' := []) [] rfl
  have hFc := va_free (wc := [(y, .inr (7, [.ref qt, .int 0, .int 0, .ref pr]))]) hD hS hA [3] rfl
  refine va_calli (va_runV (C := "BigRunner$Reader") (As := [.int 33]) (rest := []) ⟨hx, hb, hml, hown, tb_nil⟩ (c_R_accept l dC dI H.size y qt pr 33 (by decide)) ⟨(callB_of 1 (tb_one (wd_472 hB _)) tb_good1 rfl rfl rfl (wd_73 hB _) (wd_469 hB _) (by decide +kernel) ⟨Nat.le_of_ble_eq_true rfl, Nat.le_of_ble_eq_true rfl⟩), (wd_471 hB _), (wd_4 hB _)⟩ ⟨fun a U g mk q => by obtain ⟨q0, q1, qB, qP, qK, qD⟩ := q; exact ⟨q0, q1, TB.same (s := U) (U := U.calling g mk a) rfl qB, qP, va_K.moved (u := U) (U := U.calling g mk a) (Vm.Alike.refl U.vm) qK, qD⟩, va_recv hK hP (q0 := 3) (ci := 7) rfl rfl, fun U hU hW => ⟨rfl, by rw [hU], hB.moved hW, by rw [hU]; exact hPc, va_K.moved hW.alike hKc, hDc.weaken (fun _ _ _ _ => trivial)⟩⟩ rfl rfl hl.1 rfl (lv_room (Nat.le_of_ble_eq_true rfl)) d_NReader_readStatement_22 ⟨(Nat.le_of_ble_eq_true rfl), (Nat.le_of_ble_eq_true rfl)⟩) hS (fun q _ h => hFc q h) hFc (fun r_ u_ t H1 locs ht hvm hw_ hB1 hz1 hk1 hS => ?_)
  obtain ⟨hP1, hK1, hD1⟩ := hB1
  rw [ht] at hP1
  have hK1 := va_K.moved hvm.symm hK1
  try dsimp only at hw_
  obtain ⟨hP, hD⟩ := va_join (wr := [(pr, .inr (6, [.ref qs, .int 0, .ref qn, .int 0, .ref qv, .ref qi])), (qs, .inl (cs, 36, .inr (.inr (.inr (.inr (fs)))))), (q0, .inr (9, [.int 5, .int 0, .int 0, .int (-1), .int 0]))]) (w1 := [(y, .inr (7, [.ref qt, .int 0, .int 0, .ref pr]))]) hP hD [3] [0, 1, 2] rfl rfl (by decide) (by decide) hk1 hFc hP1 hD1
  have hK := (hK.sub (tys' := [(cs, (.object "BigRunner$Statement"))]) [0] rfl).app hK1
  clear hk1 hFc hPc hDc hKc hP1 hD1 hK1 hz1 ht hvm
  generalize H1 = H at hP hS ⊢
  have hP : va_P (dC, dI) vcl [(pr, .inr (6, [.ref qs, .int 0, .ref qn, .int 0, .ref qv, .ref qi])), (qs, .inl (cs, 36, .inr (.inr (.inr (.inr (fs)))))), (q0, .inr (9, [.int 5, .int 0, .int 0, .int (-1), .int 0])), (y, .inr (7, [.ref qt, .int 0, .int 0, .ref pr]))] H := hP
  have hD : va_D A [(pr, .inr (6, [.ref qs, .int 0, .ref qn, .int 0, .ref qv, .ref qi])), (qs, .inl (cs, 36, .inr (.inr (.inr (.inr (fs)))))), (q0, .inr (9, [.int 5, .int 0, .int 0, .int (-1), .int 0])), (y, .inr (7, [.ref qt, .int 0, .int 0, .ref pr]))] := hD
  have hK : va_K (dC, dI) vcl [(cs, (.object "BigRunner$Statement"))] s := hK
  refine W.widen (k := 0) (n := 0) (by omega) (by omega) ?_
  subst hw_
  refine lv_if_eq (tgt := 39) hx hb d_NReader_readStatement_25 (by decide) (fun _ => ?_) (fun hq => absurd rfl hq)
  refine lv_aload_n hx hb d_NReader_readStatement_39 rfl (lv_at hl 0 rfl) ?_
  refine lv_bipush (v := 91) hx hb d_NReader_readStatement_40 (by decide) ?_
  have hPc := hP.sub (ws' := [(y, .inr (7, [.ref qt, .int 0, .int 0, .ref pr]))]) [3] rfl
  have hDc := hD.sub (ws' := [(y, .inr (7, [.ref qt, .int 0, .int 0, .ref pr]))]) [3] (by decide) rfl
  have hKc := hK.sub (tys' := []) [] rfl
  have hFc := va_free (wc := [(y, .inr (7, [.ref qt, .int 0, .int 0, .ref pr]))]) hD hS hA [3] rfl
  refine va_calli (va_runV (C := "BigRunner$Reader") (As := [.int 91]) (rest := []) ⟨hx, hb, hml, hown, tb_nil⟩ (c_R_accept l dC dI H.size y qt pr 91 (by decide)) ⟨(callB_of 1 (tb_one (wd_472 hB _)) tb_good1 rfl rfl rfl (wd_73 hB _) (wd_469 hB _) (by decide +kernel) ⟨Nat.le_of_ble_eq_true rfl, Nat.le_of_ble_eq_true rfl⟩), (wd_471 hB _), (wd_4 hB _)⟩ ⟨fun a U g mk q => by obtain ⟨q0, q1, qB, qP, qK, qD⟩ := q; exact ⟨q0, q1, TB.same (s := U) (U := U.calling g mk a) rfl qB, qP, va_K.moved (u := U) (U := U.calling g mk a) (Vm.Alike.refl U.vm) qK, qD⟩, va_recv hK hP (q0 := 3) (ci := 7) rfl rfl, fun U hU hW => ⟨rfl, by rw [hU], hB.moved hW, by rw [hU]; exact hPc, va_K.moved hW.alike hKc, hDc.weaken (fun _ _ _ _ => trivial)⟩⟩ rfl rfl hl.1 rfl (lv_room (Nat.le_of_ble_eq_true rfl)) d_NReader_readStatement_42 ⟨(Nat.le_of_ble_eq_true rfl), (Nat.le_of_ble_eq_true rfl)⟩) hS (fun q _ h => hFc q h) hFc (fun r_ u_ t H1 locs ht hvm hw_ hB1 hz1 hk1 hS => ?_)
  obtain ⟨hP1, hK1, hD1⟩ := hB1
  rw [ht] at hP1
  have hK1 := va_K.moved hvm.symm hK1
  try dsimp only at hw_
  obtain ⟨hP, hD⟩ := va_join (wr := [(pr, .inr (6, [.ref qs, .int 0, .ref qn, .int 0, .ref qv, .ref qi])), (qs, .inl (cs, 36, .inr (.inr (.inr (.inr (fs)))))), (q0, .inr (9, [.int 5, .int 0, .int 0, .int (-1), .int 0]))]) (w1 := [(y, .inr (7, [.ref qt, .int 0, .int 0, .ref pr]))]) hP hD [3] [0, 1, 2] rfl rfl (by decide) (by decide) hk1 hFc hP1 hD1
  have hK := (hK.sub (tys' := [(cs, (.object "BigRunner$Statement"))]) [0] rfl).app hK1
  clear hk1 hFc hPc hDc hKc hP1 hD1 hK1 hz1 ht hvm
  generalize H1 = H at hP hS ⊢
  have hP : va_P (dC, dI) vcl [(pr, .inr (6, [.ref qs, .int 0, .ref qn, .int 0, .ref qv, .ref qi])), (qs, .inl (cs, 36, .inr (.inr (.inr (.inr (fs)))))), (q0, .inr (9, [.int 5, .int 0, .int 0, .int (-1), .int 0])), (y, .inr (7, [.ref qt, .int 0, .int 0, .ref pr]))] H := hP
  have hD : va_D A [(pr, .inr (6, [.ref qs, .int 0, .ref qn, .int 0, .ref qv, .ref qi])), (qs, .inl (cs, 36, .inr (.inr (.inr (.inr (fs)))))), (q0, .inr (9, [.int 5, .int 0, .int 0, .int (-1), .int 0])), (y, .inr (7, [.ref qt, .int 0, .int 0, .ref pr]))] := hD
  have hK : va_K (dC, dI) vcl [(cs, (.object "BigRunner$Statement"))] s := hK
  refine W.widen (k := 0) (n := 0) (by omega) (by omega) ?_
  subst hw_
  refine lv_if_eq (tgt := 54) hx hb d_NReader_readStatement_45 (by decide) (fun _ => ?_) (fun hq => absurd rfl hq)
  refine lv_aload_n hx hb d_NReader_readStatement_54 rfl (lv_at hl 0 rfl) ?_
  refine lv_bipush (v := 123) hx hb d_NReader_readStatement_55 (by decide) ?_
  have hPc := hP.sub (ws' := [(y, .inr (7, [.ref qt, .int 0, .int 0, .ref pr]))]) [3] rfl
  have hDc := hD.sub (ws' := [(y, .inr (7, [.ref qt, .int 0, .int 0, .ref pr]))]) [3] (by decide) rfl
  have hKc := hK.sub (tys' := []) [] rfl
  have hFc := va_free (wc := [(y, .inr (7, [.ref qt, .int 0, .int 0, .ref pr]))]) hD hS hA [3] rfl
  refine va_calli (va_runV (C := "BigRunner$Reader") (As := [.int 123]) (rest := []) ⟨hx, hb, hml, hown, tb_nil⟩ (c_R_accept l dC dI H.size y qt pr 123 (by decide)) ⟨(callB_of 1 (tb_one (wd_472 hB _)) tb_good1 rfl rfl rfl (wd_73 hB _) (wd_469 hB _) (by decide +kernel) ⟨Nat.le_of_ble_eq_true rfl, Nat.le_of_ble_eq_true rfl⟩), (wd_471 hB _), (wd_4 hB _)⟩ ⟨fun a U g mk q => by obtain ⟨q0, q1, qB, qP, qK, qD⟩ := q; exact ⟨q0, q1, TB.same (s := U) (U := U.calling g mk a) rfl qB, qP, va_K.moved (u := U) (U := U.calling g mk a) (Vm.Alike.refl U.vm) qK, qD⟩, va_recv hK hP (q0 := 3) (ci := 7) rfl rfl, fun U hU hW => ⟨rfl, by rw [hU], hB.moved hW, by rw [hU]; exact hPc, va_K.moved hW.alike hKc, hDc.weaken (fun _ _ _ _ => trivial)⟩⟩ rfl rfl hl.1 rfl (lv_room (Nat.le_of_ble_eq_true rfl)) d_NReader_readStatement_57 ⟨(Nat.le_of_ble_eq_true rfl), (Nat.le_of_ble_eq_true rfl)⟩) hS (fun q _ h => hFc q h) hFc (fun r_ u_ t H1 locs ht hvm hw_ hB1 hz1 hk1 hS => ?_)
  obtain ⟨hP1, hK1, hD1⟩ := hB1
  rw [ht] at hP1
  have hK1 := va_K.moved hvm.symm hK1
  try dsimp only at hw_
  obtain ⟨hP, hD⟩ := va_join (wr := [(pr, .inr (6, [.ref qs, .int 0, .ref qn, .int 0, .ref qv, .ref qi])), (qs, .inl (cs, 36, .inr (.inr (.inr (.inr (fs)))))), (q0, .inr (9, [.int 5, .int 0, .int 0, .int (-1), .int 0]))]) (w1 := [(y, .inr (7, [.ref qt, .int 0, .int 0, .ref pr]))]) hP hD [3] [0, 1, 2] rfl rfl (by decide) (by decide) hk1 hFc hP1 hD1
  have hK := (hK.sub (tys' := [(cs, (.object "BigRunner$Statement"))]) [0] rfl).app hK1
  clear hk1 hFc hPc hDc hKc hP1 hD1 hK1 hz1 ht hvm
  generalize H1 = H at hP hS ⊢
  have hP : va_P (dC, dI) vcl [(pr, .inr (6, [.ref qs, .int 0, .ref qn, .int 0, .ref qv, .ref qi])), (qs, .inl (cs, 36, .inr (.inr (.inr (.inr (fs)))))), (q0, .inr (9, [.int 5, .int 0, .int 0, .int (-1), .int 0])), (y, .inr (7, [.ref qt, .int 0, .int 0, .ref pr]))] H := hP
  have hD : va_D A [(pr, .inr (6, [.ref qs, .int 0, .ref qn, .int 0, .ref qv, .ref qi])), (qs, .inl (cs, 36, .inr (.inr (.inr (.inr (fs)))))), (q0, .inr (9, [.int 5, .int 0, .int 0, .int (-1), .int 0])), (y, .inr (7, [.ref qt, .int 0, .int 0, .ref pr]))] := hD
  have hK : va_K (dC, dI) vcl [(cs, (.object "BigRunner$Statement"))] s := hK
  refine W.widen (k := 0) (n := 0) (by omega) (by omega) ?_
  subst hw_
  refine lv_if_eq (tgt := 69) hx hb d_NReader_readStatement_60 (by decide) (fun _ => ?_) (fun hq => absurd rfl hq)
  refine lv_aload_n hx hb d_NReader_readStatement_69 rfl (lv_at hl 0 rfl) ?_
  refine lv_iconst (v := 0) hx hb d_NReader_readStatement_70 (by decide) ?_
  have hPc := hP.sub (ws' := [(y, .inr (7, [.ref qt, .int 0, .int 0, .ref pr])), (pr, .inr (6, [.ref qs, .int 0, .ref qn, .int 0, .ref qv, .ref qi])), (qs, .inl (cs, 36, .inr (.inr (.inr (.inr (fs)))))), (q0, .inr (9, [.int 5, .int 0, .int 0, .int (-1), .int 0]))]) [3, 0, 1, 2] rfl
  have hDc := hD.sub (ws' := [(y, .inr (7, [.ref qt, .int 0, .int 0, .ref pr])), (pr, .inr (6, [.ref qs, .int 0, .ref qn, .int 0, .ref qv, .ref qi])), (qs, .inl (cs, 36, .inr (.inr (.inr (.inr (fs)))))), (q0, .inr (9, [.int 5, .int 0, .int 0, .int (-1), .int 0]))]) [3, 0, 1, 2] (by decide) rfl
  have hKc := hK.sub (tys' := [(cs, (.object "BigRunner$Statement"))]) [0] rfl
  have hFc := va_free (wc := [(y, .inr (7, [.ref qt, .int 0, .int 0, .ref pr])), (pr, .inr (6, [.ref qs, .int 0, .ref qn, .int 0, .ref qv, .ref qi])), (qs, .inl (cs, 36, .inr (.inr (.inr (.inr (fs)))))), (q0, .inr (9, [.int 5, .int 0, .int 0, .int (-1), .int 0]))]) hD hS hA [3, 0, 1, 2] rfl
  refine va_calli (va_runV (C := "BigRunner$Reader") (As := [.int 0]) (rest := []) ⟨hx, hb, hml, hown, tb_nil⟩ (c_R_addStatement l dC dI H.size y qt pr qs cs fs q0 qn qv qi 0 hf) ⟨(callB_of 1 (tb_one (wd_480 hB _)) tb_good1 rfl rfl rfl (wd_73 hB _) (wd_477 hB _) (by decide +kernel) ⟨Nat.le_of_ble_eq_true rfl, Nat.le_of_ble_eq_true rfl⟩), (wd_479 hB _), (wd_6 hB _)⟩ ⟨fun a U g mk q => by obtain ⟨q0, q1, qB, qP, qK, qD⟩ := q; exact ⟨q0, q1, TB.same (s := U) (U := U.calling g mk a) rfl qB, qP, va_K.moved (u := U) (U := U.calling g mk a) (Vm.Alike.refl U.vm) qK, qD⟩, va_recv hK hP (q0 := 3) (ci := 7) rfl rfl, fun U hU hW => ⟨rfl, by rw [hU], hB.moved hW, by rw [hU]; exact hPc, va_K.moved hW.alike hKc, hDc.weaken (fun _ _ _ _ => trivial)⟩⟩ rfl rfl hl.1 rfl (lv_room (Nat.le_of_ble_eq_true rfl)) d_NReader_readStatement_71 ⟨(Nat.le_of_ble_eq_true rfl), (Nat.le_of_ble_eq_true rfl)⟩) hS (fun q _ h => hFc q h) hFc (fun r_ u_ t H1 locs ht hvm hw_ hB1 hz1 hk1 hS => ?_)
  obtain ⟨hP1, hK1, hD1⟩ := hB1
  rw [ht] at hP1
  have hK1 := va_K.moved hvm.symm hK1
  try dsimp only at hw_
  obtain ⟨hP, hD⟩ := va_join (wr := []) (w1 := [(y, .inr (7, [.ref qt, .int 0, .int 0, .ref pr]))]) hP hD [3, 0, 1, 2] [] rfl rfl (by decide) (by decide) hk1 hFc hP1 hD1
  have hK := (hK.sub (tys' := []) [] rfl).app hK1
  clear hk1 hFc hPc hDc hKc hP1 hD1 hK1 hz1 ht hvm
  generalize H1 = H at hP hS ⊢
  have hP : va_P (dC, dI) vcl [(y, .inr (7, [.ref qt, .int 0, .int 0, .ref pr]))] H := hP
  have hD : va_D A [(y, .inr (7, [.ref qt, .int 0, .int 0, .ref pr]))] := hD
  have hK : va_K (dC, dI) vcl [] s := hK
  refine W.widen (k := 0) (n := 0) (by omega) (by omega) ?_
  subst hw_
  refine lv_istore_n (lv' := [(2, .int 0), (0, .ref y), (1, .int 1)]) hx hb d_NReader_readStatement_74 rfl hl (by decide) rfl (fun ls hl => ?_)
  refine lv_aload_n hx hb d_NReader_readStatement_75 rfl (lv_at hl 1 rfl) ?_
  refine lv_iload_n hx hb d_NReader_readStatement_76 rfl (lv_at hl 0 rfl) ?_
  have hPc := hP.sub (ws' := [(y, .inr (7, [.ref qt, .int 0, .int 0, .ref pr]))]) [0] rfl
  have hDc := hD.sub (ws' := [(y, .inr (7, [.ref qt, .int 0, .int 0, .ref pr]))]) [0] (by decide) rfl
  have hKc := hK.sub (tys' := []) [] rfl
  have hFc := va_free (wc := [(y, .inr (7, [.ref qt, .int 0, .int 0, .ref pr]))]) hD hS hA [0] rfl
  refine va_calli (va_runV (C := "BigRunner$Reader") (As := [.int 0]) (rest := []) ⟨hx, hb, hml, hown, tb_nil⟩ (c_R_readName l dC dI H.size y qt pr) ⟨(callB_of 1 (tb_one (wd_484 hB _)) tb_good1 rfl rfl rfl (wd_73 hB _) (wd_481 hB _) (by decide +kernel) ⟨Nat.le_of_ble_eq_true rfl, Nat.le_of_ble_eq_true rfl⟩), (wd_483 hB _), (wd_7 hB _)⟩ ⟨fun a U g mk q => by obtain ⟨q0, q1, qB, qP, qK, qD⟩ := q; exact ⟨q0, q1, TB.same (s := U) (U := U.calling g mk a) rfl qB, qP, va_K.moved (u := U) (U := U.calling g mk a) (Vm.Alike.refl U.vm) qK, qD⟩, va_recv hK hP (q0 := 0) (ci := 7) rfl rfl, fun U hU hW => ⟨rfl, by rw [hU], hB.moved hW, by rw [hU]; exact hPc, va_K.moved hW.alike hKc, hDc.weaken (fun _ _ _ _ => trivial)⟩⟩ rfl rfl hl.1 rfl (lv_room (Nat.le_of_ble_eq_true rfl)) d_NReader_readStatement_77 ⟨(Nat.le_of_ble_eq_true rfl), (Nat.le_of_ble_eq_true rfl)⟩) hS (fun q _ h => hFc q h) hFc (fun r_ u_ t H1 locs ht hvm hw_ hB1 hz1 hk1 hS => ?_)
  obtain ⟨hP1, hK1, hD1⟩ := hB1
  rw [ht] at hP1
  have hK1 := va_K.moved hvm.symm hK1
  try dsimp only at hw_
  obtain ⟨hP, hD⟩ := va_join (wr := []) (w1 := [(y, .inr (7, [.ref qt, .int 0, .int 0, .ref pr]))]) hP hD [0] [] rfl rfl (by decide) (by decide) hk1 hFc hP1 hD1
  have hK := (hK.sub (tys' := []) [] rfl).app hK1
  clear hk1 hFc hPc hDc hKc hP1 hD1 hK1 hz1 ht hvm
  generalize H1 = H at hP hS ⊢
  have hP : va_P (dC, dI) vcl [(y, .inr (7, [.ref qt, .int 0, .int 0, .ref pr]))] H := hP
  have hD : va_D A [(y, .inr (7, [.ref qt, .int 0, .int 0, .ref pr]))] := hD
  have hK : va_K (dC, dI) vcl [] s := hK
  refine W.widen (k := 0) (n := 0) (by omega) (by omega) ?_
  subst hw_
  refine lv_if_eq (tgt := 105) hx hb d_NReader_readStatement_80 (by decide) (fun _ => ?_) (fun hq => absurd rfl hq)
  refine lv_iconst (v := 0) hx hb d_NReader_readStatement_105 (by decide) ?_
  have hP9 := hP.sub (ws' := []) [] rfl
  have hD9 := hD.sub (ws' := []) [] (by decide) rfl
  have hK9 := hK.sub (tys' := []) [] rfl
  refine W.widen (k := 0) (n := 0) (by omega) (by omega) ?_
  exact W.zret (v := 0) (ty := .boolean) hx hb hr rfl (fun t ht hW => ⟨⟨0, (), rfl, rfl, by rw [ht]; exact hP9, va_K.moved hW.alike hK9, hD9⟩, hS.F ht⟩) hS.2.2 d_NReader_readStatement_106
set_option maxHeartbeats 4000000 in
set_option maxRecDepth 100000 in
theorem c_R_readProgram (l : Launch) (dC : Nat → ClassId) (dI : Nat → Nat → Nat) (sz : Nat) (y : Nat) (qt : Nat) (pr : Nat) (qs : Nat) (cs : ClassId) (fs : Nat → Option Nat) (q0 : Nat) (qn : Nat) (qv : Nat) (qi : Nat) (hf : fs 0 = some q0) : Met l ⟨"BigRunner$Reader", "readProgram", "(I)Z"⟩ [Cond.code ⟨"BigRunner$Reader", "readProgram", "(I)Z"⟩ prog_8_method_5_code 3 (some .boolean)] ({ frames := 3, cells := 0, slots := 0, locals := 64 }) (va_Pc [.ref y, .int 1] (fun U => U.heap.size = sz ∧ TB U ∧ va_P (dC, dI) vcl [(y, .inr (7, [.ref qt, .int 0, .int 0, .ref pr])), (pr, .inr (6, [.ref qs, .int 0, .ref qn, .int 0, .ref qv, .ref qi])), (qs, .inl (cs, 36, .inr (.inr (.inr (.inr (fs)))))), (q0, .inr (9, [.int 5, .int 0, .int 0, .int (-1), .int 0]))] U.heap ∧ va_K (dC, dI) vcl [(cs, (.object "BigRunner$Statement"))] U ∧ va_D (fun _ => True) [(y, .inr (7, [.ref qt, .int 0, .int 0, .ref pr])), (pr, .inr (6, [.ref qs, .int 0, .ref qn, .int 0, .ref qv, .ref qi])), (qs, .inl (cs, 36, .inr (.inr (.inr (.inr (fs)))))), (q0, .inr (9, [.int 5, .int 0, .int 0, .int (-1), .int 0]))])) (va_Qi (fun (r : Int32) (u : Unit) => match u with | _ => r = 0) (fun (u : Unit) (t : State) => match u with | _ => va_P (dC, dI) vcl [] t.heap ∧ va_K (dC, dI) vcl [] t ∧ va_D (va_A [(y, .inr (7, [.ref qt, .int 0, .int 0, .ref pr])), (pr, .inr (6, [.ref qs, .int 0, .ref qn, .int 0, .ref qv, .ref qi])), (qs, .inl (cs, 36, .inr (.inr (.inr (.inr (fs)))))), (q0, .inr (9, [.int 5, .int 0, .int 0, .int (-1), .int 0]))] sz) []) (va_A [(y, .inr (7, [.ref qt, .int 0, .int 0, .ref pr])), (pr, .inr (6, [.ref qs, .int 0, .ref qn, .int 0, .ref qv, .ref qi])), (qs, .inl (cs, 36, .inr (.inr (.inr (.inr (fs)))))), (q0, .inr (9, [.int 5, .int 0, .int 0, .int (-1), .int 0]))] sz)) 0 0 (va_A [(y, .inr (7, [.ref qt, .int 0, .int 0, .ref pr])), (pr, .inr (6, [.ref qs, .int 0, .ref qn, .int 0, .ref qv, .ref qi])), (qs, .inl (cs, 36, .inr (.inr (.inr (.inr (fs)))))), (q0, .inr (9, [.int 5, .int 0, .int 0, .int (-1), .int 0]))] sz) := by
  refine Met.ofW (cc := prog_8_method_5_code) (maxL := 3) (ret := (some .boolean)) (by decide) rfl ?_
  intro p e s m args below meth c s₁ B hml hv
  obtain ⟨rfl, hsz, hB, hP, hK, hD0⟩ := hv
  have hx := B.exec
  have hb := B.bytes
  have hr := B.returns
  have hown : s.vm.findClass "BigRunner$Reader" = some m.cls := findClass_of_methodNamed B.named
  have hlocks := B.notSynchronized
  subst hsz
  have hD := hD0.self (sz := s.heap.size)
  generalize hAe : va_A [(y, .inr (7, [.ref qt, .int 0, .int 0, .ref pr])), (pr, .inr (6, [.ref qs, .int 0, .ref qn, .int 0, .ref qv, .ref qi])), (qs, .inl (cs, 36, .inr (.inr (.inr (.inr (fs)))))), (q0, .inr (9, [.int 5, .int 0, .int 0, .int (-1), .int 0]))] s.heap.size = A at hD ⊢
  have hA : ∀ q : Nat, s.heap.size ≤ q → A q := fun q h => by rw [← hAe]; exact Or.inr h
  have hS : va_S A s.heap s.heap [] := va_S.rf
  have hP : va_P (dC, dI) vcl [(y, .inr (7, [.ref qt, .int 0, .int 0, .ref pr])), (pr, .inr (6, [.ref qs, .int 0, .ref qn, .int 0, .ref qv, .ref qi])), (qs, .inl (cs, 36, .inr (.inr (.inr (.inr (fs)))))), (q0, .inr (9, [.int 5, .int 0, .int 0, .int (-1), .int 0]))] s.heap := hP
  have hl := lv_entry ([.ref y, .int 1]) (n := 3) (Nat.le_of_ble_eq_true rfl)
  rw [lg_entry_eq]
  generalize (lg_sl ([.ref y, .int 1]) ++ List.replicate (3 - (lg_sl ([.ref y, .int 1])).length) Slot.unset).toArray = ls at hl ⊢
  have hl : lv_has ls 3 [(0, .ref y), (1, .int 1)] := hl
  refine lv_iload_n hx hb d_NReader_readProgram_0 rfl (lv_at hl 1 rfl) ?_
  refine lv_bipush (v := 10) hx hb d_NReader_readProgram_1 (by decide) ?_
  refine lv_icmp_le (tgt := 8) hx hb d_NReader_readProgram_3 (by decide) (fun _ => ?_) (fun hq => absurd (by decide) hq)
  refine lv_iconst (v := 0) hx hb d_NReader_readProgram_8 (by decide) ?_
  refine lv_istore_n (lv' := [(2, .int 0), (0, .ref y), (1, .int 1)]) hx hb d_NReader_readProgram_9 rfl hl (by decide) rfl (fun ls hl => ?_)
  refine lv_iload_n hx hb d_NReader_readProgram_10 rfl (lv_at hl 0 rfl) ?_
  refine lv_bipush (v := 72) hx hb d_NReader_readProgram_11 (by decide) ?_
  refine lv_icmp_ge (tgt := 43) hx hb d_NReader_readProgram_13 (by decide) (fun hq => absurd hq (by decide)) (fun _ => ?_)
  refine lv_aload_n hx hb d_NReader_readProgram_16 rfl (lv_at hl 1 rfl) ?_
  refine lv_iload_n hx hb d_NReader_readProgram_17 rfl (lv_at hl 2 rfl) ?_
  have hPc := hP.sub (ws' := [(y, .inr (7, [.ref qt, .int 0, .int 0, .ref pr])), (pr, .inr (6, [.ref qs, .int 0, .ref qn, .int 0, .ref qv, .ref qi])), (qs, .inl (cs, 36, .inr (.inr (.inr (.inr (fs)))))), (q0, .inr (9, [.int 5, .int 0, .int 0, .int (-1), .int 0]))]) [0, 1, 2, 3] rfl
  have hDc := hD.sub (ws' := [(y, .inr (7, [.ref qt, .int 0, .int 0, .ref pr])), (pr, .inr (6, [.ref qs, .int 0, .ref qn, .int 0, .ref qv, .ref qi])), (qs, .inl (cs, 36, .inr (.inr (.inr (.inr (fs)))))), (q0, .inr (9, [.int 5, .int 0, .int 0, .int (-1), .int 0]))]) [0, 1, 2, 3] (by decide) rfl
  have hKc := hK.sub (tys' := [(cs, (.object "BigRunner$Statement"))]) [0] rfl
  have hFc := va_free (wc := [(y, .inr (7, [.ref qt, .int 0, .int 0, .ref pr])), (pr, .inr (6, [.ref qs, .int 0, .ref qn, .int 0, .ref qv, .ref qi])), (qs, .inl (cs, 36, .inr (.inr (.inr (.inr (fs)))))), (q0, .inr (9, [.int 5, .int 0, .int 0, .int (-1), .int 0]))]) hD hS hA [0, 1, 2, 3] rfl
  refine va_calli (va_runV (C := "BigRunner$Reader") (As := [.int 1]) (rest := []) ⟨hx, hb, hml, hown, tb_nil⟩ (c_R_readStatement l dC dI s.heap.size y qt pr qs cs fs q0 qn qv qi hf) ⟨(callB_of 1 (tb_one (wd_468 hB _)) tb_good1 rfl rfl rfl (wd_73 hB _) (wd_465 hB _) (by decide +kernel) ⟨Nat.le_of_ble_eq_true rfl, Nat.le_of_ble_eq_true rfl⟩), (wd_467 hB _), (wd_3 hB _)⟩ ⟨fun a U g mk q => by obtain ⟨q0, q1, qB, qP, qK, qD⟩ := q; exact ⟨q0, q1, TB.same (s := U) (U := U.calling g mk a) rfl qB, qP, va_K.moved (u := U) (U := U.calling g mk a) (Vm.Alike.refl U.vm) qK, qD⟩, va_recv hK hP (q0 := 0) (ci := 7) rfl rfl, fun U hU hW => ⟨rfl, by rw [hU], hB.moved hW, by rw [hU]; exact hPc, va_K.moved hW.alike hKc, hDc.weaken (fun _ _ _ _ => trivial)⟩⟩ rfl rfl hl.1 rfl (lv_room (Nat.le_of_ble_eq_true rfl)) d_NReader_readProgram_18 ⟨(Nat.le_of_ble_eq_true rfl), (Nat.le_of_ble_eq_true rfl)⟩) hS (fun q _ h => hFc q h) hFc (fun r_ u_ t H1 locs ht hvm hw_ hB1 hz1 hk1 hS => ?_)
  obtain ⟨hP1, hK1, hD1⟩ := hB1
  rw [ht] at hP1
  have hK1 := va_K.moved hvm.symm hK1
  try dsimp only at hw_
  obtain ⟨hP, hD⟩ := va_join (wr := []) (w1 := []) hP hD [0, 1, 2, 3] [] rfl rfl (by decide) (by decide) hk1 hFc hP1 hD1
  have hK := (hK.sub (tys' := []) [] rfl).app hK1
  clear hk1 hFc hPc hDc hKc hP1 hD1 hK1 hz1 ht hvm
  generalize H1 = H at hP hS ⊢
  have hP : va_P (dC, dI) vcl [] H := hP
  have hD : va_D A [] := hD
  have hK : va_K (dC, dI) vcl [] s := hK
  refine W.widen (k := 0) (n := 0) (by omega) (by omega) ?_
  subst hw_
  refine lv_if_ne (tgt := 26) hx hb d_NReader_readProgram_21 (by decide) (fun hq => absurd hq (fun h => h rfl)) (fun _ => ?_)
  refine lv_iconst (v := 0) hx hb d_NReader_readProgram_24 (by decide) ?_
  have hP9 := hP.sub (ws' := []) [] rfl
  have hD9 := hD.sub (ws' := []) [] (by decide) rfl
  have hK9 := hK.sub (tys' := []) [] rfl
  refine W.widen (k := 0) (n := 0) (by omega) (by omega) ?_
  exact W.zret (v := 0) (ty := .boolean) hx hb hr rfl (fun t ht hW => ⟨⟨0, (), rfl, rfl, by rw [ht]; exact hP9, va_K.moved hW.alike hK9, hD9⟩, hS.F ht⟩) hS.2.2 d_NReader_readProgram_25
set_option maxHeartbeats 4000000 in
set_option maxRecDepth 100000 in
/-- reads over an empty line: no PROGRAM -/
theorem c_R_reads (l : Launch) (dC : Nat → ClassId) (dI : Nat → Nat → Nat) (sz : Nat) (y : Nat) (qt : Nat) (pr : Nat) (qs : Nat) (cs : ClassId) (fs : Nat → Option Nat) (q0 : Nat) (qn : Nat) (qv : Nat) (qi : Nat) (ql : Nat) (cl : ClassId) (hf : fs 0 = some q0) : Met l ⟨"BigRunner$Reader", "reads", "([CI)Z"⟩ [Cond.code ⟨"BigRunner$Reader", "reads", "([CI)Z"⟩ prog_8_method_2_code 3 (some .boolean)] ({ frames := 4, cells := 0, slots := 0, locals := 86 }) (va_Pc [.ref y, .ref ql, .int 0] (fun U => U.heap.size = sz ∧ TB U ∧ va_P (dC, dI) vcl [(y, .inr (7, [.ref qt, .int 0, .int 0, .ref pr])), (pr, .inr (6, [.ref qs, .int 0, .ref qn, .int 0, .ref qv, .ref qi])), (qs, .inl (cs, 36, .inr (.inr (.inr (.inr (fs)))))), (q0, .inr (9, [.int 5, .int 0, .int 0, .int (-1), .int 0])), (ql, .inl (cl, 72, .inl (fun _ => 0)))] U.heap ∧ va_K (dC, dI) vcl [(cs, (.object "BigRunner$Statement")), (cl, .char)] U ∧ va_D (fun _ => True) [(y, .inr (7, [.ref qt, .int 0, .int 0, .ref pr])), (pr, .inr (6, [.ref qs, .int 0, .ref qn, .int 0, .ref qv, .ref qi])), (qs, .inl (cs, 36, .inr (.inr (.inr (.inr (fs)))))), (q0, .inr (9, [.int 5, .int 0, .int 0, .int (-1), .int 0])), (ql, .inl (cl, 72, .inl (fun _ => 0)))])) (va_Qi (fun (r : Int32) (u : Unit) => match u with | _ => r = 0) (fun (u : Unit) (t : State) => match u with | _ => va_P (dC, dI) vcl [] t.heap ∧ va_K (dC, dI) vcl [] t ∧ va_D (va_A [(y, .inr (7, [.ref qt, .int 0, .int 0, .ref pr])), (pr, .inr (6, [.ref qs, .int 0, .ref qn, .int 0, .ref qv, .ref qi])), (qs, .inl (cs, 36, .inr (.inr (.inr (.inr (fs)))))), (q0, .inr (9, [.int 5, .int 0, .int 0, .int (-1), .int 0])), (ql, .inl (cl, 72, .inl (fun _ => 0)))] sz) []) (va_A [(y, .inr (7, [.ref qt, .int 0, .int 0, .ref pr])), (pr, .inr (6, [.ref qs, .int 0, .ref qn, .int 0, .ref qv, .ref qi])), (qs, .inl (cs, 36, .inr (.inr (.inr (.inr (fs)))))), (q0, .inr (9, [.int 5, .int 0, .int 0, .int (-1), .int 0])), (ql, .inl (cl, 72, .inl (fun _ => 0)))] sz)) 0 0 (va_A [(y, .inr (7, [.ref qt, .int 0, .int 0, .ref pr])), (pr, .inr (6, [.ref qs, .int 0, .ref qn, .int 0, .ref qv, .ref qi])), (qs, .inl (cs, 36, .inr (.inr (.inr (.inr (fs)))))), (q0, .inr (9, [.int 5, .int 0, .int 0, .int (-1), .int 0])), (ql, .inl (cl, 72, .inl (fun _ => 0)))] sz) := by
  refine Met.ofW (cc := prog_8_method_2_code) (maxL := 3) (ret := (some .boolean)) (by decide) rfl ?_
  intro p e s m args below meth c s₁ B hml hv
  obtain ⟨rfl, hsz, hB, hP, hK, hD0⟩ := hv
  have hx := B.exec
  have hb := B.bytes
  have hr := B.returns
  have hown : s.vm.findClass "BigRunner$Reader" = some m.cls := findClass_of_methodNamed B.named
  have hlocks := B.notSynchronized
  subst hsz
  have hD := hD0.self (sz := s.heap.size)
  generalize hAe : va_A [(y, .inr (7, [.ref qt, .int 0, .int 0, .ref pr])), (pr, .inr (6, [.ref qs, .int 0, .ref qn, .int 0, .ref qv, .ref qi])), (qs, .inl (cs, 36, .inr (.inr (.inr (.inr (fs)))))), (q0, .inr (9, [.int 5, .int 0, .int 0, .int (-1), .int 0])), (ql, .inl (cl, 72, .inl (fun _ => 0)))] s.heap.size = A at hD ⊢
  have hA : ∀ q : Nat, s.heap.size ≤ q → A q := fun q h => by rw [← hAe]; exact Or.inr h
  have hS : va_S A s.heap s.heap [] := va_S.rf
  have hP : va_P (dC, dI) vcl [(y, .inr (7, [.ref qt, .int 0, .int 0, .ref pr])), (pr, .inr (6, [.ref qs, .int 0, .ref qn, .int 0, .ref qv, .ref qi])), (qs, .inl (cs, 36, .inr (.inr (.inr (.inr (fs)))))), (q0, .inr (9, [.int 5, .int 0, .int 0, .int (-1), .int 0])), (ql, .inl (cl, 72, .inl (fun _ => 0)))] s.heap := hP
  have hl := lv_entry ([.ref y, .ref ql, .int 0]) (n := 3) (Nat.le_of_ble_eq_true rfl)
  rw [lg_entry_eq]
  generalize (lg_sl ([.ref y, .ref ql, .int 0]) ++ List.replicate (3 - (lg_sl ([.ref y, .ref ql, .int 0])).length) Slot.unset).toArray = ls at hl ⊢
  have hl : lv_has ls 3 [(0, .ref y), (1, .ref ql), (2, .int 0)] := hl
  refine lv_aload_n hx hb d_NReader_reads_0 rfl (lv_at hl 0 rfl) ?_
  refine lv_aload_n hx hb d_NReader_reads_1 rfl (lv_at hl 1 rfl) ?_
  refine va_put (D := (dC, dI)) (ci := 7) (v := .ref ql) (ty := (.array .char)) (C := "BigRunner$Reader") (T := FT7) (N := 4) hx hb (hw7 hB _) (fun _ h9 => h9) TY7 ok7 nm7 hown hK hP hD hS 0 rfl rfl 0 (by decide) (wd_270 hB _) (fun _ h9 => h9) rfl (by decide +kernel) rfl rfl (Nat.le_of_ble_eq_true rfl) d_NReader_reads_2 (fun H locs hP hD hS => ?_)
  have hP : va_P (dC, dI) vcl [(y, .inr (7, [.ref ql, .int 0, .int 0, .ref pr])), (pr, .inr (6, [.ref qs, .int 0, .ref qn, .int 0, .ref qv, .ref qi])), (qs, .inl (cs, 36, .inr (.inr (.inr (.inr (fs)))))), (q0, .inr (9, [.int 5, .int 0, .int 0, .int (-1), .int 0])), (ql, .inl (cl, 72, .inl (fun _ => 0)))] H := hP
  have hD : va_D A [(y, .inr (7, [.ref ql, .int 0, .int 0, .ref pr])), (pr, .inr (6, [.ref qs, .int 0, .ref qn, .int 0, .ref qv, .ref qi])), (qs, .inl (cs, 36, .inr (.inr (.inr (.inr (fs)))))), (q0, .inr (9, [.int 5, .int 0, .int 0, .int (-1), .int 0])), (ql, .inl (cl, 72, .inl (fun _ => 0)))] := hD
  refine lv_aload_n hx hb d_NReader_reads_5 rfl (lv_at hl 0 rfl) ?_
  refine lv_iload_n hx hb d_NReader_reads_6 rfl (lv_at hl 2 rfl) ?_
  refine lv_aload_n hx hb d_NReader_reads_7 rfl (lv_at hl 1 rfl) ?_
  refine va_alen (D := (dC, dI)) (v := 72) hx hb hK hP 4 1 rfl rfl rfl d_NReader_reads_8 ?_
  refine va_mmin hx hb (hml.trans hl.1.symm) hown (wd_458 hB _) (wd_459 hB _) (wd_83 hB _) (wd_460 hB _) (Nat.le_of_ble_eq_true rfl) (Nat.le_of_ble_eq_true rfl) (Nat.le_of_ble_eq_true rfl) (Nat.le_of_ble_eq_true rfl) d_NReader_reads_9 ?_
  refine lv_topi (fun z_ hz_ => ?_)
  have hz_ : z_ = 0 := hz_.trans (by decide)
  subst hz_
  refine va_put (D := (dC, dI)) (ci := 7) (v := .int 0) (ty := .int) (C := "BigRunner$Reader") (T := FT7) (N := 4) hx hb (hw7 hB _) (fun _ h9 => h9) TY7 ok7 nm7 hown hK hP hD hS 0 rfl rfl 1 (by decide) (wd_271 hB _) (fun _ h9 => h9) rfl (by decide +kernel) rfl rfl (Nat.le_of_ble_eq_true rfl) d_NReader_reads_12 (fun H locs hP hD hS => ?_)
  have hP : va_P (dC, dI) vcl [(y, .inr (7, [.ref ql, .int 0, .int 0, .ref pr])), (pr, .inr (6, [.ref qs, .int 0, .ref qn, .int 0, .ref qv, .ref qi])), (qs, .inl (cs, 36, .inr (.inr (.inr (.inr (fs)))))), (q0, .inr (9, [.int 5, .int 0, .int 0, .int (-1), .int 0])), (ql, .inl (cl, 72, .inl (fun _ => 0)))] H := hP
  have hD : va_D A [(y, .inr (7, [.ref ql, .int 0, .int 0, .ref pr])), (pr, .inr (6, [.ref qs, .int 0, .ref qn, .int 0, .ref qv, .ref qi])), (qs, .inl (cs, 36, .inr (.inr (.inr (.inr (fs)))))), (q0, .inr (9, [.int 5, .int 0, .int 0, .int (-1), .int 0])), (ql, .inl (cl, 72, .inl (fun _ => 0)))] := hD
  refine lv_aload_n hx hb d_NReader_reads_15 rfl (lv_at hl 0 rfl) ?_
  refine lv_iconst (v := 0) hx hb d_NReader_reads_16 (by decide) ?_
  refine va_put (D := (dC, dI)) (ci := 7) (v := .int 0) (ty := .int) (C := "BigRunner$Reader") (T := FT7) (N := 4) hx hb (hw7 hB _) (fun _ h9 => h9) TY7 ok7 nm7 hown hK hP hD hS 0 rfl rfl 2 (by decide) (wd_272 hB _) (fun _ h9 => h9) rfl (by decide +kernel) rfl rfl (Nat.le_of_ble_eq_true rfl) d_NReader_reads_17 (fun H locs hP hD hS => ?_)
  have hP : va_P (dC, dI) vcl [(y, .inr (7, [.ref ql, .int 0, .int 0, .ref pr])), (pr, .inr (6, [.ref qs, .int 0, .ref qn, .int 0, .ref qv, .ref qi])), (qs, .inl (cs, 36, .inr (.inr (.inr (.inr (fs)))))), (q0, .inr (9, [.int 5, .int 0, .int 0, .int (-1), .int 0])), (ql, .inl (cl, 72, .inl (fun _ => 0)))] H := hP
  have hD : va_D A [(y, .inr (7, [.ref ql, .int 0, .int 0, .ref pr])), (pr, .inr (6, [.ref qs, .int 0, .ref qn, .int 0, .ref qv, .ref qi])), (qs, .inl (cs, 36, .inr (.inr (.inr (.inr (fs)))))), (q0, .inr (9, [.int 5, .int 0, .int 0, .int (-1), .int 0])), (ql, .inl (cl, 72, .inl (fun _ => 0)))] := hD
  refine lv_aload_n hx hb d_NReader_reads_20 rfl (lv_at hl 0 rfl) ?_
  refine va_get (D := (dC, dI)) (ci := 7) (v := .ref pr) (C := "BigRunner$Reader") (T := FT7) (N := 4) hx hb (hw7 hB _) (fun _ h9 => h9) hown hK hP 0 rfl rfl 3 (by decide) (wd_273 hB _) (fun _ h9 => h9) rfl d_NReader_reads_21 ?_
  refine lv_iconst (v := 0) hx hb d_NReader_reads_24 (by decide) ?_
  refine va_put (D := (dC, dI)) (ci := 6) (v := .int 0) (ty := .int) (C := "BigRunner$Program") (T := FT6) (N := 6) hx hb (hw6 hB _) (fun _ h9 => h9) TY6 ok6 nm6 hown hK hP hD hS 1 rfl rfl 1 (by decide) (wd_246 hB _) (fun _ h9 => h9) rfl (by decide +kernel) rfl rfl (Nat.le_of_ble_eq_true rfl) d_NReader_reads_25 (fun H locs hP hD hS => ?_)
  have hP : va_P (dC, dI) vcl [(y, .inr (7, [.ref ql, .int 0, .int 0, .ref pr])), (pr, .inr (6, [.ref qs, .int 0, .ref qn, .int 0, .ref qv, .ref qi])), (qs, .inl (cs, 36, .inr (.inr (.inr (.inr (fs)))))), (q0, .inr (9, [.int 5, .int 0, .int 0, .int (-1), .int 0])), (ql, .inl (cl, 72, .inl (fun _ => 0)))] H := hP
  have hD : va_D A [(y, .inr (7, [.ref ql, .int 0, .int 0, .ref pr])), (pr, .inr (6, [.ref qs, .int 0, .ref qn, .int 0, .ref qv, .ref qi])), (qs, .inl (cs, 36, .inr (.inr (.inr (.inr (fs)))))), (q0, .inr (9, [.int 5, .int 0, .int 0, .int (-1), .int 0])), (ql, .inl (cl, 72, .inl (fun _ => 0)))] := hD
  refine lv_aload_n hx hb d_NReader_reads_28 rfl (lv_at hl 0 rfl) ?_
  refine va_get (D := (dC, dI)) (ci := 7) (v := .ref pr) (C := "BigRunner$Reader") (T := FT7) (N := 4) hx hb (hw7 hB _) (fun _ h9 => h9) hown hK hP 0 rfl rfl 3 (by decide) (wd_273 hB _) (fun _ h9 => h9) rfl d_NReader_reads_29 ?_
  refine lv_iconst (v := 0) hx hb d_NReader_reads_32 (by decide) ?_
  refine va_put (D := (dC, dI)) (ci := 6) (v := .int 0) (ty := .int) (C := "BigRunner$Program") (T := FT6) (N := 6) hx hb (hw6 hB _) (fun _ h9 => h9) TY6 ok6 nm6 hown hK hP hD hS 1 rfl rfl 3 (by decide) (wd_252 hB _) (fun _ h9 => h9) rfl (by decide +kernel) rfl rfl (Nat.le_of_ble_eq_true rfl) d_NReader_reads_33 (fun H locs hP hD hS => ?_)
  have hP : va_P (dC, dI) vcl [(y, .inr (7, [.ref ql, .int 0, .int 0, .ref pr])), (pr, .inr (6, [.ref qs, .int 0, .ref qn, .int 0, .ref qv, .ref qi])), (qs, .inl (cs, 36, .inr (.inr (.inr (.inr (fs)))))), (q0, .inr (9, [.int 5, .int 0, .int 0, .int (-1), .int 0])), (ql, .inl (cl, 72, .inl (fun _ => 0)))] H := hP
  have hD : va_D A [(y, .inr (7, [.ref ql, .int 0, .int 0, .ref pr])), (pr, .inr (6, [.ref qs, .int 0, .ref qn, .int 0, .ref qv, .ref qi])), (qs, .inl (cs, 36, .inr (.inr (.inr (.inr (fs)))))), (q0, .inr (9, [.int 5, .int 0, .int 0, .int (-1), .int 0])), (ql, .inl (cl, 72, .inl (fun _ => 0)))] := hD
  refine lv_aload_n hx hb d_NReader_reads_36 rfl (lv_at hl 0 rfl) ?_
  refine lv_iconst (v := 1) hx hb d_NReader_reads_37 (by decide) ?_
  have hPc := hP.sub (ws' := [(y, .inr (7, [.ref ql, .int 0, .int 0, .ref pr])), (pr, .inr (6, [.ref qs, .int 0, .ref qn, .int 0, .ref qv, .ref qi])), (qs, .inl (cs, 36, .inr (.inr (.inr (.inr (fs)))))), (q0, .inr (9, [.int 5, .int 0, .int 0, .int (-1), .int 0]))]) [0, 1, 2, 3] rfl
  have hDc := hD.sub (ws' := [(y, .inr (7, [.ref ql, .int 0, .int 0, .ref pr])), (pr, .inr (6, [.ref qs, .int 0, .ref qn, .int 0, .ref qv, .ref qi])), (qs, .inl (cs, 36, .inr (.inr (.inr (.inr (fs)))))), (q0, .inr (9, [.int 5, .int 0, .int 0, .int (-1), .int 0]))]) [0, 1, 2, 3] (by decide) rfl
  have hKc := hK.sub (tys' := [(cs, (.object "BigRunner$Statement"))]) [0] rfl
  have hFc := va_free (wc := [(y, .inr (7, [.ref ql, .int 0, .int 0, .ref pr])), (pr, .inr (6, [.ref qs, .int 0, .ref qn, .int 0, .ref qv, .ref qi])), (qs, .inl (cs, 36, .inr (.inr (.inr (.inr (fs)))))), (q0, .inr (9, [.int 5, .int 0, .int 0, .int (-1), .int 0]))]) hD hS hA [0, 1, 2, 3] rfl
  refine va_calli (va_runV (C := "BigRunner$Reader") (As := [.int 1]) (rest := []) ⟨hx, hb, hml, hown, tb_nil⟩ (c_R_readProgram l dC dI H.size y ql pr qs cs fs q0 qn qv qi hf) ⟨(callB_of 1 (tb_one (wd_464 hB _)) tb_good1 rfl rfl rfl (wd_73 hB _) (wd_461 hB _) (by decide +kernel) ⟨Nat.le_of_ble_eq_true rfl, Nat.le_of_ble_eq_true rfl⟩), (wd_463 hB _), (wd_2 hB _)⟩ ⟨fun a U g mk q => by obtain ⟨q0, q1, qB, qP, qK, qD⟩ := q; exact ⟨q0, q1, TB.same (s := U) (U := U.calling g mk a) rfl qB, qP, va_K.moved (u := U) (U := U.calling g mk a) (Vm.Alike.refl U.vm) qK, qD⟩, va_recv hK hP (q0 := 0) (ci := 7) rfl rfl, fun U hU hW => ⟨rfl, by rw [hU], hB.moved hW, by rw [hU]; exact hPc, va_K.moved hW.alike hKc, hDc.weaken (fun _ _ _ _ => trivial)⟩⟩ rfl rfl hl.1 rfl (lv_room (Nat.le_of_ble_eq_true rfl)) d_NReader_reads_38 ⟨(Nat.le_of_ble_eq_true rfl), (Nat.le_of_ble_eq_true rfl)⟩) hS (fun q _ h => hFc q h) hFc (fun r_ u_ t H1 locs ht hvm hw_ hB1 hz1 hk1 hS => ?_)
  obtain ⟨hP1, hK1, hD1⟩ := hB1
  rw [ht] at hP1
  have hK1 := va_K.moved hvm.symm hK1
  try dsimp only at hw_
  obtain ⟨hP, hD⟩ := va_join (wr := [(ql, .inl (cl, 72, .inl (fun _ => 0)))]) (w1 := []) hP hD [0, 1, 2, 3] [4] rfl rfl (by decide) (by decide) hk1 hFc hP1 hD1
  have hK := (hK.sub (tys' := [(cl, .char)]) [1] rfl).app hK1
  clear hk1 hFc hPc hDc hKc hP1 hD1 hK1 hz1 ht hvm
  generalize H1 = H at hP hS ⊢
  have hP : va_P (dC, dI) vcl [(ql, .inl (cl, 72, .inl (fun _ => 0)))] H := hP
  have hD : va_D A [(ql, .inl (cl, 72, .inl (fun _ => 0)))] := hD
  have hK : va_K (dC, dI) vcl [(cl, .char)] s := hK
  refine W.widen (k := 0) (n := 0) (by omega) (by omega) ?_
  subst hw_
  refine lv_if_eq (tgt := 59) hx hb d_NReader_reads_41 (by decide) (fun _ => ?_) (fun hq => absurd rfl hq)
  refine lv_iconst (v := 0) hx hb d_NReader_reads_59 (by decide) ?_
  have hP9 := hP.sub (ws' := []) [] rfl
  have hD9 := hD.sub (ws' := []) [] (by decide) rfl
  have hK9 := hK.sub (tys' := []) [] rfl
  refine W.widen (k := 0) (n := 0) (by omega) (by omega) ?_
  exact W.zret (v := 0) (ty := .boolean) hx hb hr rfl (fun t ht hW => ⟨⟨0, (), rfl, rfl, by rw [ht]; exact hP9, va_K.moved hW.alike hK9, hD9⟩, hS.F ht⟩) hS.2.2 d_NReader_reads_60
set_option maxHeartbeats 4000000 in
set_option maxRecDepth 100000 in
theorem c_Rn_keptOutputs (l : Launch) (dC : Nat → ClassId) (dI : Nat → Nat → Nat) (sz : Nat) (y : Nat) (pn : Nat) (qi2 : Nat) (qm : Nat) (qw : Nat) (qh : Nat) (qd : Nat) (qk : Nat) : Met l ⟨"BigRunner$Runner", "keptOutputs", "()I"⟩ [Cond.code ⟨"BigRunner$Runner", "keptOutputs", "()I"⟩ prog_9_method_5_code 1 (some .int)] ({ frames := 1, cells := 0, slots := 0, locals := 30 }) (va_Pc [.ref y] (fun U => U.heap.size = sz ∧ TB U ∧ va_P (dC, dI) vcl [(y, .inr (8, [.ref pn, .ref qi2, .int 0, .ref qm, .ref qw, .ref qh, .ref qd, .ref qk, .int 0, .int 0, .int 0, .int 0, .int 0]))] U.heap ∧ va_K (dC, dI) vcl [] U ∧ va_D (fun _ => True) [(y, .inr (8, [.ref pn, .ref qi2, .int 0, .ref qm, .ref qw, .ref qh, .ref qd, .ref qk, .int 0, .int 0, .int 0, .int 0, .int 0]))])) (va_Qi (fun (r : Int32) (u : Unit) => match u with | _ => r = 0) (fun (u : Unit) (t : State) => match u with | _ => va_P (dC, dI) vcl [] t.heap ∧ va_K (dC, dI) vcl [] t ∧ va_D (va_A [(y, .inr (8, [.ref pn, .ref qi2, .int 0, .ref qm, .ref qw, .ref qh, .ref qd, .ref qk, .int 0, .int 0, .int 0, .int 0, .int 0]))] sz) []) (va_A [(y, .inr (8, [.ref pn, .ref qi2, .int 0, .ref qm, .ref qw, .ref qh, .ref qd, .ref qk, .int 0, .int 0, .int 0, .int 0, .int 0]))] sz)) 0 0 (va_A [(y, .inr (8, [.ref pn, .ref qi2, .int 0, .ref qm, .ref qw, .ref qh, .ref qd, .ref qk, .int 0, .int 0, .int 0, .int 0, .int 0]))] sz) := by
  refine Met.ofW (cc := prog_9_method_5_code) (maxL := 1) (ret := (some .int)) (by decide) rfl ?_
  intro p e s m args below meth c s₁ B hml hv
  obtain ⟨rfl, hsz, hB, hP, hK, hD0⟩ := hv
  have hx := B.exec
  have hb := B.bytes
  have hr := B.returns
  have hown : s.vm.findClass "BigRunner$Runner" = some m.cls := findClass_of_methodNamed B.named
  have hlocks := B.notSynchronized
  subst hsz
  have hD := hD0.self (sz := s.heap.size)
  generalize hAe : va_A [(y, .inr (8, [.ref pn, .ref qi2, .int 0, .ref qm, .ref qw, .ref qh, .ref qd, .ref qk, .int 0, .int 0, .int 0, .int 0, .int 0]))] s.heap.size = A at hD ⊢
  have hA : ∀ q : Nat, s.heap.size ≤ q → A q := fun q h => by rw [← hAe]; exact Or.inr h
  have hS : va_S A s.heap s.heap [] := va_S.rf
  have hP : va_P (dC, dI) vcl [(y, .inr (8, [.ref pn, .ref qi2, .int 0, .ref qm, .ref qw, .ref qh, .ref qd, .ref qk, .int 0, .int 0, .int 0, .int 0, .int 0]))] s.heap := hP
  have hl := lv_entry ([.ref y]) (n := 1) (Nat.le_of_ble_eq_true rfl)
  rw [lg_entry_eq]
  generalize (lg_sl ([.ref y]) ++ List.replicate (1 - (lg_sl ([.ref y])).length) Slot.unset).toArray = ls at hl ⊢
  have hl : lv_has ls 1 [(0, .ref y)] := hl
  refine lv_aload_n hx hb d_NRunner_keptOutputs_0 rfl (lv_at hl 0 rfl) ?_
  refine va_get (D := (dC, dI)) (ci := 8) (v := .int 0) (C := "BigRunner$Runner") (T := FT8) (N := 13) hx hb (hw8 hB _) (fun _ h9 => h9) hown hK hP 0 rfl rfl 8 (by decide) (wd_341 hB _) (fun _ h9 => h9) rfl d_NRunner_keptOutputs_1 ?_
  refine lv_bipush (v := 12) hx hb d_NRunner_keptOutputs_4 (by decide) ?_
  refine va_mmin hx hb (hml.trans hl.1.symm) hown (wd_939 hB _) (wd_459 hB _) (wd_83 hB _) (wd_460 hB _) (Nat.le_of_ble_eq_true rfl) (Nat.le_of_ble_eq_true rfl) (Nat.le_of_ble_eq_true rfl) (Nat.le_of_ble_eq_true rfl) d_NRunner_keptOutputs_6 ?_
  refine lv_topi (fun z_ hz_ => ?_)
  have hz_ : z_ = 0 := hz_.trans (by decide)
  subst hz_
  have hP9 := hP.sub (ws' := []) [] rfl
  have hD9 := hD.sub (ws' := []) [] (by decide) rfl
  have hK9 := hK.sub (tys' := []) [] rfl
  refine W.widen (k := 0) (n := 0) (by omega) (by omega) ?_
  exact W.iret (v := 0) hx hb hr (fun t ht hW => ⟨⟨0, (), rfl, rfl, by rw [ht]; exact hP9, va_K.moved hW.alike hK9, hD9⟩, hS.F ht⟩) hS.2.2 d_NRunner_keptOutputs_9
end
section
/-! ===== contracts of methods that may throw; a call that throws and is caught ===== -/
section tw
variable {p : Program} {l : Launch} {e : Env} {R : Room} {s : State} {m : MethodId} {args : Array Value} {below : List Frame} {meth : Method} {c : Code} {H : Heap} {locs : List Loc} {cells slots : Nat}
/-- an end of any kind: the tables warmer, nothing moved but L and at most k new cells of n slots -/
def tw_End (st t : State) (L : List Loc) (k n : Nat) : Prop := st.WarmedH t.vm ∧ st.sameButNew ({ t with vm := st.vm } : State) L k n
def tw_Met (l : Launch) (y : MethodName) (ws : List Cond) (rm : Room) (Pc : Array Value → State → Prop) (Qc : Array Value → State → Outcome → State → Prop) (mc ms : Nat) (free : Addr → Prop) : Prop :=
  MetFree l y (headSpec ws rm) Pc (fun _ _ _ _ _ => True) (fun a st o t => Qc a st o t ∧ ∃ L, tw_End st t L mc ms ∧ ∀ q ∈ L, free q.base)
def tw_MQ (below : List Frame) (Qc : Array Value → State → Outcome → State → Prop) (a : Array Value) (s : State) (mc ms : Nat) (free : Addr → Prop) : State → Prop := fun t =>
  ∃ o, t.status = .running ∧ Ended t below o ∧ Qc a s o t ∧ ∃ L, tw_End s t L mc ms ∧ ∀ q ∈ L, free q.base
theorem tw_frame {st t : State} {L : List Loc} {k n : Nat} {A : Nat → Prop} (h : tw_End st t L k n) (hL : ∀ q ∈ L, A q.base) : va_F A st t := by
  obtain ⟨-, -, h2, -, -, -, h6⟩ := h
  refine ⟨h2, fun q hq hA => ?_⟩
  have hc : st.heap[q]? = some (st.heap[q]) := Array.getElem?_eq_getElem hq
  obtain ⟨c', h1, h3, h4, h5⟩ := h6 q _ hc
  have hs : c'.slots = (st.heap[q]).slots := Array.ext_getElem? (fun i => h5 i (fun hm => hA (hL _ hm)))
  have : c' = st.heap[q] := by rw [h3, hs]
  rw [hc, ← this]
  exact h1
theorem tw_nostat {D : va_G} {cl : List vw_C} {ws : va_W} {H : Heap} (hP : va_P D cl ws H) : ∀ q, va_A ws H.size q → ∀ cell, H[q]? = some cell → cell.vm.isStatics = false := by
  intro q hq cell hc
  rcases hq with ⟨k, en, hk⟩ | hq
  · have h1 := hP k (q, en) hk
    cases en with
    | inl a =>
      have h2 : H[q]? = some (vp_cell a.1 a.2) := h1
      cases h2.symm.trans hc
      obtain ⟨cA, n, f⟩ := a
      rcases f with f | f | f | f | f <;> rfl
    | inr ob =>
      obtain ⟨r, -, cell', h2, -, h3, -⟩ := h1
      cases h2.symm.trans hc
      rw [h3]; rfl
  · have : q < H.size := (Array.getElem?_eq_some_iff.mp hc).1
    omega
theorem tw_ofW {y : MethodName} {ws ws' : List Cond} {rm : Room} {Pc : Array Value → State → Prop} {Qc : Array Value → State → Outcome → State → Prop} {mc ms : Nat} {free : Addr → Prop} {cc : ByteArray} {maxL : Nat} {ret : Option FieldType}
    (hy : plainName y.cls = true) (hw : ws = Cond.code y cc maxL ret :: ws')
    (body : ∀ p e s m args below meth c s₁, BodyLoose p l y (headSpec ws rm) cc maxL ret e s m args below meth c s₁ → c.maxLocals = maxL → c.exceptionTable.isEmpty = true → Pc args s →
      W p l e (headSpec ws rm).room s m args below meth c s.heap [] 0 0 (tw_MQ below Qc args s mc ms free) (entryFrame m args maxL)) : tw_Met l y ws rm Pc Qc mc ms free := by
  refine MetFree.of_bodyS (code := cc) (maxLocals := maxL) (ret := ret) hy (fun args s m h hn => ?_) (fun p e s m args below meth c s₁ B hml hP _ => ?_)
  · obtain ⟨meth, c, h1, h2, h3, h4, h5, h6, -, -⟩ := Cond.code_spec hn (atoms_spec (ws := ws) h _ (by rw [hw]; exact List.mem_cons_self))
    exact ⟨meth, c, h1, h2, h3, h4, h5, h6⟩
  · have hcode : (Cond.code y cc maxL ret).before args s = true := atoms_spec (ws := ws) B.pre _ (by rw [hw]; exact List.mem_cons_self)
    obtain ⟨t, a1, o, b1, b2, b3, b4⟩ := body p e s m args below meth c s₁ B hml (B.noHandlers hcode) hP s₁ (by rw [B.state]; rfl) (Stand.of_body B)
    exact ⟨t, o, a1, b1, b2, b3, b4⟩
/-- throw new X("text"), to the method's end -/
theorem tw_throw {cc : ByteArray} {own cls text : String} {ik is ic pc : Nat} {ls : Array Slot} {rest : List Value} {names : List String} {A : Nat → Prop} {Qc : Array Value → State → Outcome → State → Prop} {free : Addr → Prop}
    (hexec : p.tables.exec = Jvm.exec) (hb : c.code = cc) (hsz : ls.size = c.maxLocals) (hlocks : meth.locks = false) (hno : c.exceptionTable.isEmpty = true) (htr : l.stackTraces = false)
    (hown : s.vm.findClass own = some m.cls) (hcl : (Cond.classLink own ik cls).before args s = true) (hins : (Cond.instantiable cls 6).before args s = true) (hini : (Cond.initialized cls).before args s = true) (hstr : (Cond.stringRef own is text).before args s = true)
    (hfit : Bundle.fit cls = true) (hnames : ∀ n ∈ names, Bundle.fit n = true) (h : ∀ a ∈ Bundle.ownAtoms own ic cls names, a.before args s = true)
    (hS : va_S A s.heap H locs) (hAs : ∀ q, A q → ∀ cell, s.heap[q]? = some cell → cell.vm.isStatics = false) (hf : ∀ q, A q → free q)
    (d0 : decode cc pc = .ok (.new ik, 3)) (d3 : decode cc (pc + 3) = .ok (.dup, 1)) (d4 : decode cc (pc + 4) = .ok (.ldc is, 2)) (d6 : decode cc (pc + 6) = .ok (.invokespecial ic, 3)) (d9 : decode cc (pc + 9) = .ok (.athrow, 1))
    (hRf : names.length + 3 < R.frames) (hRl : (rest.map fun v => v.category).sum + (13 * (names.length + 1) + 50) ≤ R.locals) (hRc : cells + 1 ≤ R.cells) (hRs : slots + 6 ≤ R.slots)
    (hq : ∀ (t : State) (a : Addr) (ce : Cell), t.heap[a]? = some ce → s.vm.findClass cls = some ce.cls → ce.vm = .none → va_F A s t → Qc args s (.threw a) t) :
    W p l e R s m args below meth c H locs cells slots (tw_MQ below Qc args s (cells + 1) (slots + 6) free) (F0 m pc ls rest) := by
  intro T hT X
  have htr' : e.platform.stackTraces = false := by rw [X.admits.platform]; exact htr
  obtain ⟨vm₁, cX, kX, hfX, hkX, -, -, X₁, st1⟩ := X.newCold hexec hown hcl hins hini (g := F0 m pc ls rest) rfl (by rw [hb]; exact d0) hRc hRs
  have hnew : s.heap.size ≤ T.heap.size := X.same.2.1
  generalize hT1 : (T.setVm vm₁).pushCell { cls := cX, slots := kX.instanceTypes.map defaultValue, vm := .none } = T1 at X₁ st1
  have hcellA : T1.heap[T.heap.size]? = some (freshCell cX kX) := by rw [← hT1]; exact State.heap_pushCell_size _ _
  obtain ⟨k, cf, i, sa, -, -, -, -, -, hev⟩ := Cond.stringRef_spec hown hstr
  have st2 := X₁.ldcString hexec hown hstr hev (g := F0 m (pc + 4) ls (.ref T.heap.size :: .ref T.heap.size :: rest)) rfl (by rw [hb]; exact d4)
  obtain ⟨U, hsteps, hrun, hend, hW, hsame, ce, hce, K⟩ := X₁.ctorThrowS hexec htr' (own := own) (cls := cls) (names := names) (ic := ic) hown hfit hnames h
    (fun x hx cell hc => hAs _ (hS.2.2 x hx) cell hc) hfX hkX hcellA hnew (msg := .ref sa) rfl
    (g := F0 m (pc + 6) ls (.ref sa :: .ref T.heap.size :: .ref T.heap.size :: rest)) rfl hsz rfl rfl (rest := rest) rfl (by rw [hb]; exact d6) (by rw [hb]; exact d9) (covers_of_empty hno _) hRf
    (by show 2 * 0 + (1 + (rest.map fun v => v.category).sum) + _ ≤ _; omega)
  refine ⟨U, ?_, .threw T.heap.size, hrun, hend, hq U _ ce hce K.cls K.vm (tw_frame ⟨hW, hsame⟩ hS.2.2), locs, ⟨hW, hsame⟩, fun q hq' => hf _ (hS.2.2 q hq')⟩
  refine st1 _ ?_
  show Steps p.tables e below (T1.setTop (F0 m (pc + 3) ls (.ref T.heap.size :: rest))) _
  jvm_step X₁.here [X₁.here.top, hexec, hb, d3, Value.category]
  exact st2 _ hsteps
/-! a handler whose class isn't resolved yet -/
theorem tw_go {E : CtlPost} {d : Bool} {acts : List Action} {f : JFrame} {a : Addr} {Q : Handler → Pre} {x : ExceptionTableEntry} {t : List ExceptionTableEntry} {cC : ClassId} {cell : Cell} {vm' : Vm} (hx : covers x f.pc = true) (h0 : x.catchType ≠ 0)
    (hg : (Jvm.resolveClass f.method.cls x.catchType).Gives e.toSetting s.vm (.ok cC) vm') (hsz : vm'.classes.size ≤ s.vm.classes.size) (hcell : s.heap[a]? = some cell) (hobj : ∀ k, cell.vm ≠ .statics k)
    (hk : ∃ k, vm'.classes[cell.cls]? = some k) (hc : ∃ k, vm'.classes[cC]? = some k) (hfit : vm'.assignable cell.cls cC = true) :
    wp (findHandler.go f a (x :: t)) Q E e d acts s ↔ Q (.found x.handlerPc) d acts (s.setVm vm') := by
  simp only [covers] at hx
  obtain ⟨ha, ht⟩ := hg.op (op := VmOp.resolveClass f.method.cls x.catchType) rfl
  have hcell' : (s.setVm vm').heap[a]? = some cell := hcell
  have hk' : ∃ k, (s.setVm vm').vm.classes[cell.cls]? = some k := hk
  have hc' : ∃ k, (s.setVm vm').vm.classes[cC]? = some k := hc
  have hfit' : (s.setVm vm').vm.assignable cell.cls cC = true := hfit
  simp [findHandler.go, hx, h0, ha, ht, hsz, hcell, hcell', hobj, hk, hc, hk', hc', hfit, hfit', VmOp.dirties, VmOp.acts]
theorem tw_step {S : State} {f : JFrame} {a : Addr} {r : List Frame} {pc : Nat} {vm' : Vm} (hfind : ∀ (Q : Handler → Pre) (E : CtlPost) (d : Bool) (acts : List Action), wp (findHandler f a) Q E e d acts S ↔ Q (.found pc) d acts (S.setVm vm')) :
    (stepThrowing e S a (.java f :: r)).Is ((S.setVm vm').setFrames (.java { f with pc := pc, stack := [.ref a] } :: r)) [] := by
  simp only [stepThrowing, searchFrame, vmDo]
  generalize hr : Sem.go _ e false [] S = res
  obtain ⟨as, rfl, ha⟩ := Sem.eq_ok_of hr (a := Handler.found pc) (s' := S.setVm vm') (acts' := []) (by simp [hfind _ _ _ _])
  exact ⟨rfl, ha⟩
theorem tw_caught {T : State} (X : Stand p l e R s m args below meth c T locs cells slots) {g : JFrame} (hg : g.method = m) {a : Addr} {cell : Cell} {own Cn : String} {hd : ExceptionTableEntry} {tl : List ExceptionTableEntry} (htab : c.exceptionTable.toList = hd :: tl) (hcov : covers hd g.pc = true) (h0 : hd.catchType ≠ 0)
    (hown : s.vm.findClass own = some m.cls) (hlink : (Cond.classLink own hd.catchType Cn).before args s = true) (hcell : T.heap[a]? = some cell) (hvm : cell.vm = .none) (hcls : s.vm.findClass Cn = some cell.cls) :
    ∃ vm', Stand p l e R s m args below meth c (T.setVm vm') locs cells slots ∧ ∀ target, Steps p.tables e below ((T.setVm vm').setTop { g with pc := hd.handlerPc, stack := [.ref a] }) target → Steps p.tables e below ((T.setTop g).pushFrame (.throwing a)) target := by
  subst hg
  have hpl : e.platform.magicAccessors = ({} : Platform).magicAccessors := by rw [X.admits.platform]
  obtain ⟨cK, hfcc, hcl⟩ := Cond.classLink_spec hown hlink e.platform hpl
  cases hcls.symm.trans hfcc
  obtain ⟨hg₁, hwarm₁, hready₁⟩ := State.classEntry (e := e) X.warmed hcl
  have hsz : (T.vm.noted g.method.cls hd.catchType (.cls cell.cls)).classes.size ≤ T.vm.classes.size := by no_record
  generalize T.vm.noted g.method.cls hd.catchType (.cls cell.cls) = vm₁ at hg₁ hwarm₁ hready₁ hsz
  obtain ⟨kk, hkk⟩ := Vm.classAt_of_findClass hfcc
  obtain ⟨k₁, hk₁, -⟩ := hwarm₁.alike.2.2 _ _ hkk
  have hat : At T g.method c below := X.here
  have hfind : ∀ (Q : Handler → Pre) (E : CtlPost) (d : Bool) (acts : List Action), wp (findHandler g a) Q E e d acts ((T.setTop g).pushFrame (.throwing a)) ↔ Q (.found hd.handlerPc) d acts (((T.setTop g).pushFrame (.throwing a)).setVm vm₁) := by
    intro Q E d acts
    rw [W.findHandler_eq (meth := meth) (code := c) (by rw [Stand.throwing_vm]; exact X.method') X.code, htab]
    exact tw_go hcov h0 (by rw [Stand.throwing_vm]; exact hg₁) (by rw [Stand.throwing_vm]; exact hsz) (by rw [Stand.throwing_heap]; exact hcell) (fun k => by rw [hvm]; intro h; cases h) ⟨k₁, hk₁⟩ ⟨k₁, hk₁⟩ (va_asg _ _)
  refine ⟨vm₁, X.noted hwarm₁, fun target hrest => ?_⟩
  obtain ⟨hgo, hw⟩ := hat.throwing a
  refine Steps.head hgo hw ?_
  rw [stepThread_throwing (frames_entered hat.top _), (tw_step hfind).1]
  obtain ⟨g₀, hg0⟩ := Option.isSome_iff_exists.mp hat.top
  obtain ⟨r, hr⟩ := State.topJava?_eq_some.mp hg0
  have hr' : (T.setVm vm₁).frames = .java g₀ :: r := hr
  rw [State.setTop_of_frames _ hr'] at hrest
  have e1 : (((T.setTop g).pushFrame (.throwing a)).setVm vm₁) = ((T.setVm vm₁).setFrames (.throwing a :: .java g :: r)) := by
    rw [State.pushFrame, State.frames_setTop _ hr, State.setTop_of_frames _ hr, State.setFrames_setFrames]
    rfl
  rw [e1, State.setFrames_setFrames, hr]
  exact hrest
theorem tw_back {y : MethodName} {bytes : ByteArray} {maxL : Nat} {ret : Option FieldType} {rm : Room} {Pc : Array Value → State → Prop} {Qc : Array Value → State → Outcome → State → Prop} {mc ms : Nat} {free : Addr → Prop} {U : State}
    (hM : tw_Met l y [Cond.code y bytes maxL ret] rm Pc Qc mc ms free) (hbl : FrameBlind Pc) (hth : ∀ a st o t, Qc a st o t → ∃ x, o = .threw x) (X : Stand p l e R s m args below meth c U locs cells slots)
    (hrc : rm.cells = mc) (hrs : rm.slots = ms) (hfr : rm.frames + 1 ≤ R.frames) (hlo : 8 + (maxL + 11) + rm.locals ≤ R.locals) (hcode : ∀ a, (Cond.code y bytes maxL ret).before a U = true) (hini : (Cond.initialized y.cls).before args U = true)
    {g : JFrame} (hg : g.method = m) (hsize : g.locals.size = c.maxLocals) {ig : Instr} {len : Nat} (hdg : decode c.code g.pc = .ok (ig, len)) (hW : 2 * g.monitorRoom + (g.stack.map fun v => v.category).sum ≤ 8) {mk : MethodId} (hn : U.methodNamed? y = some mk) {a : Array Value} (hp : Pc a U) (hf : cells + mc ≤ R.cells ∧ slots + ms ≤ R.slots) :
    ∃ (x : Addr) (st t : State) (L : List Loc) (U' : State), st.heap = U.heap ∧ st.vm = U.vm ∧ Qc a st (.threw x) t ∧ (∀ q ∈ L, free q.base) ∧ U'.heap = t.heap ∧ Stand p l e R s m args below meth c U' (locs ++ L) (cells + mc) (slots + ms) ∧ Steps p.tables e below (doInvoke e (U.setTop g) [] mk a).1 ((U'.setTop g).pushFrame (.throwing x)) := by
  subst hg
  subst hrc; subst hrs
  obtain ⟨mY, cY, hmY, hcY, -, hlY, -, -, -, -⟩ := Cond.code_spec hn (hcode a)
  obtain ⟨kY, hkY, -⟩ := className_of_methodNamed hn
  have hat : At U g.method c below := X.here
  have happ : (headSpec [Cond.code y bytes maxL ret] rm).appliesLoose y e.platform (U.calling g mk a) = true :=
    Spec.appliesLoose_calling (g := g) hat hdg hn hkY (Cond.initialized_spec (findClass_of_methodNamed hn) hkY hini)
      (X.room_calling (g := g) (R' := rm) hsize hmY hcY hfr (by rw [hlY]; omega) hf.1 hf.2) (atoms_intro (tb_one (hcode a)))
  obtain ⟨mid, hmid⟩ := hat.above
  have hfrm : (U.setTop g).frames = (.java g :: mid) ++ below := by rw [State.frames_setTop' g hat.top, hmid]; rfl
  obtain ⟨o, t, hsteps, -, hend, hq, L, ⟨hWt, e2, q2, q3, q4, q5, q6⟩, hL⟩ := Steps.callFree hM p X.admits X.cas X.clock (acts := []) hfrm happ (hbl _ _ _ _ hp) trivial
  obtain ⟨x, rfl⟩ := hth _ _ _ _ hq
  rw [State.frames_setTop' g hat.top] at hend
  have hft : t.frames = .throwing x :: .java g :: U.frames.tail := hend
  obtain ⟨g₀, hg0⟩ := Option.isSome_iff_exists.mp hat.top
  obtain ⟨r, hr⟩ := State.topJava?_eq_some.mp hg0
  have hWU : U.WarmedH t.vm := hWt
  have e2 : ({ t with vm := (U.calling g mk a).vm } : State) = { (U.calling g mk a).setFrames t.frames with heap := t.heap, slotsUsed := t.slotsUsed } := e2
  have e3 : t = ({ (U.calling g mk a).setFrames t.frames with heap := t.heap, slotsUsed := t.slotsUsed } : State).setVm t.vm := by
    have h1 : t = ({ t with vm := (U.calling g mk a).vm } : State).setVm t.vm := rfl
    rw [e2] at h1
    exact h1
  have hr' : (({ U with heap := t.heap, slotsUsed := t.slotsUsed } : State).setVm t.vm).frames = .java g₀ :: r := hr
  have ht : t = ((({ U with heap := t.heap, slotsUsed := t.slotsUsed } : State).setVm t.vm).setTop g).pushFrame (.throwing x) := by
    refine e3.trans ?_
    rw [hft, State.calling_eq hat.top, State.setFrames_setFrames, State.pushFrame, State.frames_setTop _ hr', State.setTop_of_frames _ hr', State.setFrames_setFrames, hr]
    rfl
  have hsame : U.sameButNew ({ U with heap := t.heap, slotsUsed := t.slotsUsed } : State) L rm.cells rm.slots := by
    refine ⟨?_, q2, q3, q4, q5, q6⟩
    obtain ⟨th, hth', -⟩ := State.frames_cons hr
    show ({ U with heap := t.heap, slotsUsed := t.slotsUsed } : State) = { U.setFrames U.frames with heap := t.heap, slotsUsed := t.slotsUsed }
    rw [State.setFrames_self hth']
  refine ⟨x, U.calling g mk a, t, L, (({ U with heap := t.heap, slotsUsed := t.slotsUsed } : State).setVm t.vm), rfl, rfl, hq, hL, rfl,
    ⟨X.admits, X.cas, X.clock, X.frames, X.room, X.hears, X.method, X.code, (X.here.setHeapUsed t.heap t.slotsUsed).setVm hWU.alike, X.tail, State.WarmedH.trans X.warmed hWU, X.limits, X.bytes, X.same.trans (hsame.setVm s.vm)⟩, ?_⟩
  rw [← ht]
  exact hsteps
/-- invokevirtual of a method that throws what the first row of the caller's table catches -/
theorem tw_callV {cc : ByteArray} {own C Cn : String} {index pc nL n : Nat} {ls : Array Slot} {y : MethodName} {bytes : ByteArray} {maxL : Nat} {ret : Option FieldType} {rm : Room} {Pc : Array Value → State → Prop} {Qc : Array Value → State → Outcome → State → Prop} {mc ms : Nat} {free : Addr → Prop} {b : Addr} {As rest : List Value} {Q : State → Prop} {hd : ExceptionTableEntry} {tl : List ExceptionTableEntry}
    (hx : p.tables.exec = Jvm.exec) (hb : c.code = cc) (hml : c.maxLocals = nL) (hown : s.vm.findClass own = some m.cls) (hM : tw_Met l y [Cond.code y bytes maxL ret] rm Pc Qc mc ms free)
    (hcode : (Cond.code y bytes maxL ret).before args s = true) (hini : (Cond.initialized y.cls).before args s = true) (hlk : (Cond.methodLink own index y).before args s = true) (hinst : (Cond.instanceMethod y).before args s = true) (hsel : (Cond.selects C y y).before args s = true)
    (hy : y.cls ≠ "java/lang/invoke/MethodHandle" ∧ y.cls ≠ "java/lang/invoke/VarHandle" ∧ (parseMethodDescriptor y.desc).map (fun d => d.parameters.length) = some n) (hR : rm.frames + 1 ≤ R.frames ∧ 8 + (maxL + 11) + rm.locals ≤ R.locals) (hrc : rm.cells = mc) (hrs : rm.slots = ms)
    (hp : PreV s H C b Pc As) (hn : As.length = n) (hsz : ls.size = nL) (hW : (rest.map fun v => v.category).sum ≤ 8) (hdg : decode cc pc = .ok (.invokevirtual index, 3)) (hf : cells + mc ≤ R.cells ∧ slots + ms ≤ R.slots)
    (htab : c.exceptionTable.toList = hd :: tl) (hcov : covers hd pc = true) (h0 : hd.catchType ≠ 0) (hlink : (Cond.classLink own hd.catchType Cn).before args s = true)
    (hth : ∀ a st o t, Qc a st o t → ∃ x ce, o = .threw x ∧ t.heap[x]? = some ce ∧ st.vm.findClass Cn = some ce.cls ∧ ce.vm = .none)
    (kk : ∀ (x : Addr) (st t : State) (L : List Loc), st.heap = H → Qc (Value.ref b :: As).toArray st (.threw x) t → (∀ q ∈ L, free q.base) → W p l e R s m args below meth c t.heap (locs ++ L) (cells + mc) (slots + ms) Q (F0 m hd.handlerPc ls [.ref x])) :
    W p l e R s m args below meth c H locs cells slots Q (F0 m pc ls (As.reverse ++ .ref b :: rest)) := by
  intro T hT X
  obtain ⟨hbl, ⟨cellB, hcB, hoB, hclB⟩, hPc⟩ := hp
  obtain ⟨mk, methM, hnamed, hmethM, hstM, habM⟩ := Cond.instanceMethod_spec hinst
  obtain ⟨methM', cM, hmethM', -, -, -, -, -, -, hsigM⟩ := Cond.code_spec hnamed hcode
  cases hmethM.symm.trans hmethM'
  obtain ⟨c2, r2, m2, q1, q2, q3, q4, kP, hkP, hkPi⟩ := Cond.selects_spec hsel
  cases hclB.symm.trans q1
  cases (State.methodFound?_of_named hnamed ⟨hy.1, hy.2.1⟩).symm.trans q2
  cases hnamed.symm.trans q3
  have hselP : selectMethod e.platform s.vm cellB.cls mk = .method mk := by rw [Launch.admits_selectMethod X.admits]; exact q4
  have hlen : As.length = methM.sig.parameters.length := by
    have h2 := hy.2.2
    rw [hsigM] at h2
    exact hn.trans (Option.some.inj h2).symm
  obtain ⟨vm₁, X₁, hstep₁⟩ := X.invokevirtual hx hown hlk hnamed hmethM hstM hkP hkPi ⟨hy.1, hy.2.1⟩ (a := b) (cell := cellB) (by rw [hT]; exact hcB)
    (fun z h => by rw [h] at hoB; cases hoB) hselP hmethM habM hkP hkPi (g := F0 m pc ls (As.reverse ++ .ref b :: rest)) rfl (argsL := As) (rest := rest) hlen rfl (by rw [hb]; exact hdg)
  obtain ⟨x, st, t, L, U', h1, h2, hq, hL, h3, X', hs⟩ := tw_back hM hbl (fun a st o t h => by obtain ⟨x, -, h1, -⟩ := hth a st o t h; exact ⟨x, h1⟩) X₁ hrc hrs hR.1 hR.2 (fun a => word_at X₁.warmed (Or.inl rfl) hcode) (word_at X₁.warmed (Or.inl rfl) hini)
    (g := F0 m pc ls rest) rfl (hsz.trans hml.symm) (by rw [hb]; exact hdg) (by show 2 * 0 + (rest.map fun v => v.category).sum ≤ 8; omega) (X₁.named hnamed) (hPc (T.setVm vm₁) hT X₁.warmed) hf
  obtain ⟨x', ce, e1, hce, hcc, hcv⟩ := hth _ _ _ _ hq
  cases e1
  obtain ⟨vm₂, X₂, hs₂⟩ := tw_caught X' (g := F0 m pc ls rest) rfl (a := x) (cell := ce) htab hcov h0 hown hlink (by rw [h3]; exact hce) hcv (by rw [h2] at hcc; rw [← X₁.warmed.alike.findClass]; exact hcc)
  obtain ⟨tt, s1, s2⟩ := kk x st t L (by rw [h1]; exact hT) hq hL (U'.setVm vm₂) h3 X₂
  refine ⟨tt, hstep₁ _ (fun acts => ?_), s2⟩
  rw [doInvoke_state]
  exact hs.trans (hs₂ _ s1)
end tw
end
section
/-! ===== what a throw wants of Throwable's statics; a method with handlers ===== -/
section tw2
variable {p : Program} {l : Launch} {e : Env} {R : Room} {s : State} {m : MethodId} {args : Array Value} {below : List Frame} {meth : Method} {c : Code} {H : Heap} {locs : List Loc} {cells slots : Nat}
abbrev th_S : Cond := .isRef (.static "java/lang/Throwable" "UNASSIGNED_STACK" "[Ljava/lang/StackTraceElement;")
abbrev th_L : Cond := .isRef (.static "java/lang/Throwable" "SUPPRESSED_SENTINEL" "Ljava/util/List;")
/-- a static of Throwable's: laid, and it holds a reference or null -/
def th_Z (n d : String) (A : Nat → Prop) (U : State) (H : Heap) : Prop := ∃ (c : ClassId) (k : Class) (i : Nat) (f : Field) (a : Nat) (cell : Cell) (v : Value), U.vm.findClass "java/lang/Throwable" = some c ∧ U.fieldFound? "java/lang/Throwable" n d = some (c, k, i, f) ∧ f.isStatic = true ∧ k.statics = some a ∧ k.staticTypes[f.slot]? = some f.type ∧ H[a]? = some cell ∧ cell.vm.isStatics = true ∧ cell.cls = c ∧ f.slot < cell.slots.size ∧ cell.slots[f.slot]? = some v ∧ v.isRef = true ∧ ¬ A a
theorem th_Z.moved {n d : String} {A : Nat → Prop} {u U : State} {H : Heap} (hv : u.vm.Alike U.vm) (h : th_Z n d A u H) : th_Z n d A U H := by
  obtain ⟨c, k, i, f, a, cell, v, h1, h2, h3, h4, h5, h6⟩ := h
  obtain ⟨k', hi', he⟩ := State.fieldFound?_setVm hv h2
  exact ⟨c, k', i, f, a, cell, v, by rw [hv.findClass]; exact h1, hi', h3, by rw [he]; exact h4, by rw [he]; exact h5, h6⟩
theorem th_Z.kept {n d : String} {A : Nat → Prop} {U : State} {H H1 : Heap} (h : th_Z n d A U H) (hq : ∀ a : Nat, a < H.size → ¬ A a → H1[a]? = H[a]?) : th_Z n d A U H1 := by
  obtain ⟨c, k, i, f, a, cell, v, h1, h2, h3, h4, h5, h6, h7, h8, h9, h10, h11, h12⟩ := h
  exact ⟨c, k, i, f, a, cell, v, h1, h2, h3, h4, h5, by rw [hq a (Array.getElem?_eq_some_iff.mp h6).1 h12]; exact h6, h7, h8, h9, h10, h11, h12⟩
theorem th_Z.narrow {n d : String} {A B : Nat → Prop} {U : State} {H : Heap} (h : th_Z n d A U H) (hAB : ∀ q, B q → A q) : th_Z n d B U H := by
  obtain ⟨c, k, i, f, a, cell, v, h1, h2, h3, h4, h5, h6, h7, h8, h9, h10, h11, h12⟩ := h
  exact ⟨c, k, i, f, a, cell, v, h1, h2, h3, h4, h5, h6, h7, h8, h9, h10, h11, fun z => h12 (hAB a z)⟩
theorem th_Z.of {n d : String} {A : Nat → Prop} {s : State} {args : Array Value} (hl : (Cond.laysStatic "java/lang/Throwable" n d).before args s = true) (h : (Cond.isRef (.static "java/lang/Throwable" n d)).before args s = true) (hA : ∀ a : Nat, a < s.heap.size → ¬ A a) : th_Z n d A s s.heap := by
  obtain ⟨c, k, i, f, a, cell, hc, hi, hst, ha, hcell, hs, hcls, hlt, hty⟩ := Cond.laysStatic_spec hl
  cases hv : (Term.static "java/lang/Throwable" n d).eval args s none [] s with
  | none => simp [Cond.before, Cond.holds, Cond.value, hv] at h
  | some w =>
    obtain ⟨-, a', cell', ha', hcell', -, hslot⟩ := Term.static_spec hi hv
    cases ha.symm.trans ha'
    cases hcell.symm.trans hcell'
    refine ⟨c, k, i, f, a, cell, w, hc, hi, hst, ha, hty, hcell, hs, hcls, hlt, hslot, ?_, hA a (Array.getElem?_eq_some_iff.mp hcell).1⟩
    simp only [Cond.before, Cond.holds, Cond.value, hv] at h
    cases w <;> first | rfl | simp at h
theorem th_Z.lays {n d : String} {A : Nat → Prop} {U : State} (h : th_Z n d A U U.heap) (args : Array Value) : (Cond.laysStatic "java/lang/Throwable" n d).before args U = true := by
  obtain ⟨c, k, i, f, a, cell, v, h1, h2, h3, h4, h5, h6, h7, h8, h9, h10, h11, h12⟩ := h
  exact Cond.laysStatic_of h1 h2 h3 h4 h6 h7 h8 h9 h5
theorem th_Z.ref {n d : String} {A : Nat → Prop} {U : State} (h : th_Z n d A U U.heap) (args : Array Value) : (Cond.isRef (.static "java/lang/Throwable" n d)).before args U = true := by
  obtain ⟨c, k, i, f, a, cell, v, h1, h2, h3, h4, h5, h6, h7, h8, h9, h10, h11, h12⟩ := h
  have e : (Term.static "java/lang/Throwable" n d).eval args U none [] U = some v := by simp [Term.eval, State.fieldNamed?, h2, h3, h4, h6, h7, h10]
  simp only [Cond.before, Cond.holds, Cond.value, e]
  cases v <;> first | rfl | simp [Value.isRef] at h11
def TH (U : State) : Prop := th_Z "UNASSIGNED_STACK" "[Ljava/lang/StackTraceElement;" (fun _ => False) U U.heap ∧ th_Z "SUPPRESSED_SENTINEL" "Ljava/util/List;" (fun _ => False) U U.heap
theorem TH.moved {s U : State} (hv : s.vm.Alike U.vm) (hh : U.heap = s.heap) (h : TH s) : TH U := by
  unfold TH
  rw [hh]
  exact ⟨h.1.moved hv, h.2.moved hv⟩
abbrev th_S' : Cond := .laysStatic "java/lang/Throwable" "UNASSIGNED_STACK" "[Ljava/lang/StackTraceElement;"
abbrev th_L' : Cond := .laysStatic "java/lang/Throwable" "SUPPRESSED_SENTINEL" "Ljava/util/List;"
theorem tw_oa {U : State} (hB : TB U) (hH : TH U) (ws : List Cond) (is : List Nat) (h1 : ws.filter tb_rides = is.filterMap (fun i => lw_tbl[i]?)) (h2 : (ws.filter (fun a => !tb_rides a)).all (fun a => (decide (a = th_S) || decide (a = th_L)) || (decide (a = th_S') || decide (a = th_L'))) = true) (args : Array Value) : ∀ a ∈ ws, a.before args U = true := by
  intro a ha
  by_cases hr : tb_rides a = true
  · have h3 : a ∈ ws.filter tb_rides := List.mem_filter.mpr ⟨ha, hr⟩
    rw [h1] at h3
    obtain ⟨i, -, hi⟩ := List.mem_filterMap.mp h3
    exact hB.w i hi hr args
  · have h3 := List.all_eq_true.mp h2 a (List.mem_filter.mpr ⟨ha, by simpa using hr⟩)
    simp only [Bool.or_eq_true, decide_eq_true_eq] at h3
    rcases h3 with (rfl | rfl) | (rfl | rfl)
    · exact hH.1.ref args
    · exact hH.2.ref args
    · exact hH.1.lays args
    · exact hH.2.lays args
/-- it threw an object of the class -/
def tw_Q (cls : String) (A : Nat → Prop) : Array Value → State → Outcome → State → Prop := fun _ st o t => ∃ x ce, o = .threw x ∧ t.heap[x]? = some ce ∧ st.vm.findClass cls = some ce.cls ∧ ce.vm = .none ∧ va_F A st t
theorem tw_ofWith {y : MethodName} {rm : Room} {Pc : Array Value → State → Prop} {Qc : Array Value → State → Outcome → State → Prop} {mc ms : Nat} {free : Addr → Prop} {cc : ByteArray} {maxL : Nat} {ret : Option FieldType} {hs : List (Nat × Nat × Nat × Nat)}
    (hy : plainName y.cls = true)
    (body : ∀ p e s m args below meth c s₁, BodyLoose p l y (headSpec [Cond.codeWith y cc maxL ret hs] rm) cc maxL ret e s m args below meth c s₁ → c.maxLocals = maxL → c.exceptionTable.toList = tableOf hs → Pc args s →
      W p l e (headSpec [Cond.codeWith y cc maxL ret hs] rm).room s m args below meth c s.heap [] 0 0 (MQ below Qc args s mc ms free) (entryFrame m args maxL)) : Met l y [Cond.codeWith y cc maxL ret hs] rm Pc Qc mc ms free := by
  refine MetFree.of_bodyS (code := cc) (maxLocals := maxL) (ret := ret) hy (fun args s m h hn => ?_) (fun p e s m args below meth c s₁ B hml hP _ => ?_)
  · obtain ⟨m', meth, c, hn', h1, h2, h3, h4, -, h5, h6, -⟩ := Cond.codeWith_spec (atoms_spec (ws := [Cond.codeWith y cc maxL ret hs]) h _ List.mem_cons_self)
    cases hn.symm.trans hn'
    exact ⟨meth, c, h1, h2, h3, h4, h5, h6⟩
  · obtain ⟨m', meth', c', hn', h1, h2, h3, h4, htab, -, -, -⟩ := Cond.codeWith_spec (atoms_spec (ws := [Cond.codeWith y cc maxL ret hs]) B.pre _ List.mem_cons_self)
    cases B.named.symm.trans hn'
    cases B.method.symm.trans h1
    cases (Stand.of_body B).code.symm.trans h2
    obtain ⟨t, a1, o, b1, b2, b3, b4⟩ := body p e s m args below meth c s₁ B hml (by rw [← htab, table_eq]) hP s₁ (by rw [B.state]; rfl) (Stand.of_body B)
    exact ⟨t, o, a1, b1, b2, b3, b4⟩
/-- invokestatic of a method with handlers -/
theorem tw_runS {cc : ByteArray} {own : String} {index nL n : Nat} {y : MethodName} {bytes : ByteArray} {maxL : Nat} {ret : Option FieldType} {hs : List (Nat × Nat × Nat × Nat)} {rm : Room} {Pc : Array Value → State → Prop} {Qc : Array Value → State → Outcome → State → Prop} {mc ms : Nat} {free : Addr → Prop} {As rest : List Value} {g : JFrame}
    (hx : p.tables.exec = Jvm.exec) (hb : c.code = cc) (hml : c.maxLocals = nL) (hown : s.vm.findClass own = some m.cls) (hM : Met l y [Cond.codeWith y bytes maxL ret hs] rm Pc Qc mc ms free)
    (hcode : (Cond.codeWith y bytes maxL ret hs).before args s = true) (hini : (Cond.initialized y.cls).before args s = true) (hlk : (Cond.methodLink own index y).before args s = true) (hst : (Cond.static y).before args s = true)
    (hy : y.cls ≠ "java/lang/invoke/MethodHandle" ∧ y.cls ≠ "java/lang/invoke/VarHandle" ∧ (parseMethodDescriptor y.desc).map (fun d => d.parameters.length) = some n) (hR : rm.frames + 1 ≤ R.frames ∧ 8 + (maxL + 11) + rm.locals ≤ R.locals) (hrc : rm.cells = mc) (hrs : rm.slots = ms)
    (hp : PreS s H Pc As) (hg : g.method = m) (hn : As.length = n) (hsize : g.locals.size = nL) (hstack : g.stack = As.reverse ++ rest) (hW : 2 * g.monitorRoom + (rest.map fun v => v.category).sum ≤ 8) (hdg : decode cc g.pc = .ok (.invokestatic index, 3)) (hf : cells + mc ≤ R.cells ∧ slots + ms ≤ R.slots) :
    va_Run p l e R s m args below meth c H locs cells slots mc ms g rest (Qc As.toArray) free := by
  have hK : Back l R p e below s args y 3 8 (PreOf R mc ms Pc) (PostOf Qc mc ms free) := by
    refine Back.of_freeWith (handlers := hs) (S := headSpec [Cond.codeWith y bytes maxL ret hs] rm) (P := Pc) (K := fun _ _ _ _ _ => True) (Q := fun a st o t => Qc a st o t ∧ ∃ L, FrameEnd st o t L mc ms ∧ ∀ q ∈ L, free q.base) (bytes := bytes) (maxL := maxL) (ret := ret)
      (E := fun a st o t L k n => k = mc ∧ n = ms ∧ ∀ q ∈ L, free q.base) hM hR.1 hR.2 (fun m meth c A a X hp => ?_) (fun m meth c A a g mk X hp' => ?_) (fun _ _ _ _ _ _ _ _ _ => trivial) (fun a st o t hq => ?_) (fun m meth c A a g mk v t L k n X hp hq hF hE => ?_)
    · have hw : ∀ a, (Cond.codeWith y bytes maxL ret hs).before a A.U = true := fun a => word_at X.warmed (Or.inl rfl) hcode
      exact ⟨atoms_intro (tb_one (hw a)), hw a, word_at X.warmed (Or.inl rfl) hini, by rw [show (headSpec [Cond.codeWith y bytes maxL ret hs] rm).room.cells = mc from hrc]; exact hp.1, by rw [show (headSpec [Cond.codeWith y bytes maxL ret hs] rm).room.slots = ms from hrs]; exact hp.2.1⟩
    · exact hp.1 _ _ _ _ hp'.2.2
    · obtain ⟨-, L, hF, hL⟩ := hq
      exact ⟨L, mc, ms, hF, rfl, rfl, hL⟩
    · obtain ⟨e1, e2, hL⟩ := hE
      subst e1; subst e2
      exact ⟨g, mk, t, L, rfl, rfl, hq.1, rfl, hL, rfl, rfl⟩
  intro T hT X
  obtain ⟨mk, methM, cM, hnamed, hmethM, -, -, -, -, -, -, hsigM⟩ := Cond.codeWith_spec hcode
  obtain ⟨kP, hkP, -⟩ := className_of_methodNamed hnamed
  have hlen : As.length = methM.sig.parameters.length := by
    have h2 := hy.2.2
    rw [hsigM] at h2
    exact hn.trans (Option.some.inj h2).symm
  obtain ⟨vm₁, X₁, hstep₁⟩ := X.invokestatic hx hown hlk hnamed hmethM (Cond.static_spec hnamed hmethM hst) hkP (Cond.initialized_spec (findClass_of_methodNamed hnamed) hkP hini) ⟨hy.1, hy.2.1⟩ (g := g) hg (argsL := As) (rest := rest) hlen hstack (by rw [hb]; exact hdg)
  obtain ⟨v, ⟨U', l2, c2, s2⟩, X', ⟨g', mk', t, L, e1, e2, hq, h1, hL, h2, h3⟩, st⟩ := hK m meth c ⟨T.setVm vm₁, locs, cells, slots⟩ { g with stack := rest } (.invokestatic index) mk As.toArray X₁ hg (hsize.trans hml.symm) (by rw [hb]; exact hdg) hW (X₁.named hnamed) ⟨hf.1, hf.2, hp.2 (T.setVm vm₁) hT X₁.warmed⟩
  dsimp only [Pt.U, Pt.locs, Pt.cells, Pt.slots] at X' e1 e2 h1 h2 h3 st
  subst h1; subst h2; subst h3
  exact ⟨v, (T.setVm vm₁).calling g' mk' As.toArray, t, U', L, hT, X', hL, e1, e2, hq, fun tg h => hstep₁ _ fun acts => by rw [doInvoke_state]; exact st.trans h⟩
end tw2
end
section
theorem wd_87 {U : State} (h : TB U) (args : Array Value) : (Cond.initialized "java/lang/IllegalArgumentException").before args U = true := h.w 87 (by decide +kernel) rfl args
theorem wd_89 {U : State} (h : TB U) (args : Array Value) : (Cond.initialized "java/lang/IllegalStateException").before args U = true := h.w 89 (by decide +kernel) rfl args
theorem wd_94 {U : State} (h : TB U) (args : Array Value) : (Cond.initialized "java/lang/IndexOutOfBoundsException").before args U = true := h.w 94 (by decide +kernel) rfl args
theorem wd_454 {U : State} (h : TB U) (args : Array Value) : (Cond.methodLink "BigRunner" 35 ⟨"BigRunner$Reader", "reads", "([CI)Z"⟩).before args U = true := h.w 454 (by decide +kernel) rfl args
theorem wd_455 {U : State} (h : TB U) (args : Array Value) : (Cond.instanceMethod ⟨"BigRunner$Reader", "reads", "([CI)Z"⟩).before args U = true := h.w 455 (by decide +kernel) rfl args
theorem wd_456 {U : State} (h : TB U) (args : Array Value) : (Cond.selects "BigRunner$Reader" ⟨"BigRunner$Reader", "reads", "([CI)Z"⟩ ⟨"BigRunner$Reader", "reads", "([CI)Z"⟩).before args U = true := h.w 456 (by decide +kernel) rfl args
theorem wd_457 {U : State} (h : TB U) (args : Array Value) : (Cond.code ⟨"BigRunner$Reader", "reads", "([CI)Z"⟩ prog_8_method_2_code 3 (some .boolean)).before args U = true := h.w 457 (by decide +kernel) rfl args
theorem wd_521 {U : State} (h : TB U) (args : Array Value) : (Cond.classLink "BigRunner" 39 "java/lang/IllegalArgumentException").before args U = true := h.w 521 (by decide +kernel) rfl args
theorem wd_522 {U : State} (h : TB U) (args : Array Value) : (Cond.instantiable "java/lang/IllegalArgumentException" 6).before args U = true := h.w 522 (by decide +kernel) rfl args
theorem wd_564 {U : State} (h : TB U) (args : Array Value) : (Cond.stringRef "BigRunner" 41 "the line is no PROGRAM").before args U = true := h.w 564 (by decide +kernel) rfl args
theorem wd_696 {U : State} (h : TB U) (args : Array Value) : (Cond.classLink "BigRunner" 78 "java/lang/IllegalStateException").before args U = true := h.w 696 (by decide +kernel) rfl args
theorem wd_697 {U : State} (h : TB U) (args : Array Value) : (Cond.instantiable "java/lang/IllegalStateException" 6).before args U = true := h.w 697 (by decide +kernel) rfl args
theorem wd_705 {U : State} (h : TB U) (args : Array Value) : (Cond.stringRef "BigRunner" 80 "no program is under way").before args U = true := h.w 705 (by decide +kernel) rfl args
theorem wd_888 {U : State} (h : TB U) (args : Array Value) : (Cond.classLink "BigRunner" 122 "java/lang/IndexOutOfBoundsException").before args U = true := h.w 888 (by decide +kernel) rfl args
theorem wd_889 {U : State} (h : TB U) (args : Array Value) : (Cond.instantiable "java/lang/IndexOutOfBoundsException" 6).before args U = true := h.w 889 (by decide +kernel) rfl args
theorem wd_897 {U : State} (h : TB U) (args : Array Value) : (Cond.stringRef "BigRunner" 124 "no such variable").before args U = true := h.w 897 (by decide +kernel) rfl args
theorem wd_913 {U : State} (h : TB U) (args : Array Value) : (Cond.stringRef "BigRunner" 151 "no such variable or part of it").before args U = true := h.w 913 (by decide +kernel) rfl args
theorem wd_935 {U : State} (h : TB U) (args : Array Value) : (Cond.methodLink "BigRunner" 161 ⟨"BigRunner$Runner", "keptOutputs", "()I"⟩).before args U = true := h.w 935 (by decide +kernel) rfl args
theorem wd_936 {U : State} (h : TB U) (args : Array Value) : (Cond.instanceMethod ⟨"BigRunner$Runner", "keptOutputs", "()I"⟩).before args U = true := h.w 936 (by decide +kernel) rfl args
theorem wd_937 {U : State} (h : TB U) (args : Array Value) : (Cond.selects "BigRunner$Runner" ⟨"BigRunner$Runner", "keptOutputs", "()I"⟩ ⟨"BigRunner$Runner", "keptOutputs", "()I"⟩).before args U = true := h.w 937 (by decide +kernel) rfl args
theorem wd_938 {U : State} (h : TB U) (args : Array Value) : (Cond.code ⟨"BigRunner$Runner", "keptOutputs", "()I"⟩ prog_9_method_5_code 1 (some .int)).before args U = true := h.w 938 (by decide +kernel) rfl args
theorem wd_940 {U : State} (h : TB U) (args : Array Value) : (Cond.stringRef "BigRunner" 164 "no such output or part of it").before args U = true := h.w 940 (by decide +kernel) rfl args
theorem d_B_bound_0 : decode prog_1_method_8_code 0 = .ok (.aload_n 0, 1) := by decide +kernel
theorem d_B_bound_1 : decode prog_1_method_8_code 1 = .ok (.iload_n 1, 1) := by decide +kernel
theorem d_B_bound_2 : decode prog_1_method_8_code 2 = .ok (.invokevirtual 119, 3) := by decide +kernel
theorem d_B_bound_5 : decode prog_1_method_8_code 5 = .ok (.ifCond .ne 13, 3) := by decide +kernel
theorem d_B_bound_8 : decode prog_1_method_8_code 8 = .ok (.new 122, 3) := by decide +kernel
theorem d_B_bound_11 : decode prog_1_method_8_code 11 = .ok (.dup, 1) := by decide +kernel
theorem d_B_bound_12 : decode prog_1_method_8_code 12 = .ok (.ldc 124, 2) := by decide +kernel
theorem d_B_bound_14 : decode prog_1_method_8_code 14 = .ok (.invokespecial 126, 3) := by decide +kernel
theorem d_B_bound_17 : decode prog_1_method_8_code 17 = .ok (.athrow, 1) := by decide +kernel
theorem d_B_load_0 : decode prog_1_method_4_code 0 = .ok (.aload_n 0, 1) := by decide +kernel
theorem d_B_load_1 : decode prog_1_method_4_code 1 = .ok (.getfield 20, 3) := by decide +kernel
theorem d_B_load_4 : decode prog_1_method_4_code 4 = .ok (.aload_n 0, 1) := by decide +kernel
theorem d_B_load_5 : decode prog_1_method_4_code 5 = .ok (.getfield 9, 3) := by decide +kernel
theorem d_B_load_8 : decode prog_1_method_4_code 8 = .ok (.aload_n 0, 1) := by decide +kernel
theorem d_B_load_9 : decode prog_1_method_4_code 9 = .ok (.getfield 13, 3) := by decide +kernel
theorem d_B_load_12 : decode prog_1_method_4_code 12 = .ok (.invokevirtual 35, 3) := by decide +kernel
theorem d_B_load_15 : decode prog_1_method_4_code 15 = .ok (.ifCond .ne 13, 3) := by decide +kernel
theorem d_B_load_18 : decode prog_1_method_4_code 18 = .ok (.new 39, 3) := by decide +kernel
theorem d_B_load_21 : decode prog_1_method_4_code 21 = .ok (.dup, 1) := by decide +kernel
theorem d_B_load_22 : decode prog_1_method_4_code 22 = .ok (.ldc 41, 2) := by decide +kernel
theorem d_B_load_24 : decode prog_1_method_4_code 24 = .ok (.invokespecial 43, 3) := by decide +kernel
theorem d_B_load_27 : decode prog_1_method_4_code 27 = .ok (.athrow, 1) := by decide +kernel
theorem d_B_output_0 : decode prog_1_method_11_code 0 = .ok (.iload_n 1, 1) := by decide +kernel
theorem d_B_output_1 : decode prog_1_method_11_code 1 = .ok (.ifCond .lt 20, 3) := by decide +kernel
theorem d_B_output_4 : decode prog_1_method_11_code 4 = .ok (.iload_n 1, 1) := by decide +kernel
theorem d_B_output_5 : decode prog_1_method_11_code 5 = .ok (.aload_n 0, 1) := by decide +kernel
theorem d_B_output_6 : decode prog_1_method_11_code 6 = .ok (.getfield 27, 3) := by decide +kernel
theorem d_B_output_9 : decode prog_1_method_11_code 9 = .ok (.invokevirtual 161, 3) := by decide +kernel
theorem d_B_output_12 : decode prog_1_method_11_code 12 = .ok (.if_icmp .ge 9, 3) := by decide +kernel
theorem d_B_output_21 : decode prog_1_method_11_code 21 = .ok (.new 122, 3) := by decide +kernel
theorem d_B_output_24 : decode prog_1_method_11_code 24 = .ok (.dup, 1) := by decide +kernel
theorem d_B_output_25 : decode prog_1_method_11_code 25 = .ok (.ldc 164, 2) := by decide +kernel
theorem d_B_output_27 : decode prog_1_method_11_code 27 = .ok (.invokespecial 126, 3) := by decide +kernel
theorem d_B_output_30 : decode prog_1_method_11_code 30 = .ok (.athrow, 1) := by decide +kernel
theorem d_B_run_0 : decode prog_1_method_6_code 0 = .ok (.aload_n 0, 1) := by decide +kernel
theorem d_B_run_1 : decode prog_1_method_6_code 1 = .ok (.getfield 31, 3) := by decide +kernel
theorem d_B_run_4 : decode prog_1_method_6_code 4 = .ok (.ifCond .eq 23, 3) := by decide +kernel
theorem d_B_run_27 : decode prog_1_method_6_code 27 = .ok (.new 78, 3) := by decide +kernel
theorem d_B_run_30 : decode prog_1_method_6_code 30 = .ok (.dup, 1) := by decide +kernel
theorem d_B_run_31 : decode prog_1_method_6_code 31 = .ok (.ldc 80, 2) := by decide +kernel
theorem d_B_run_33 : decode prog_1_method_6_code 33 = .ok (.invokespecial 82, 3) := by decide +kernel
theorem d_B_run_36 : decode prog_1_method_6_code 36 = .ok (.athrow, 1) := by decide +kernel
theorem d_B_variable_0 : decode prog_1_method_10_code 0 = .ok (.aload_n 0, 1) := by decide +kernel
theorem d_B_variable_1 : decode prog_1_method_10_code 1 = .ok (.iload_n 1, 1) := by decide +kernel
theorem d_B_variable_2 : decode prog_1_method_10_code 2 = .ok (.invokevirtual 119, 3) := by decide +kernel
theorem d_B_variable_5 : decode prog_1_method_10_code 5 = .ok (.ifCond .eq 9, 3) := by decide +kernel
theorem d_B_variable_14 : decode prog_1_method_10_code 14 = .ok (.new 122, 3) := by decide +kernel
theorem d_B_variable_17 : decode prog_1_method_10_code 17 = .ok (.dup, 1) := by decide +kernel
theorem d_B_variable_18 : decode prog_1_method_10_code 18 = .ok (.ldc 151, 2) := by decide +kernel
theorem d_B_variable_20 : decode prog_1_method_10_code 20 = .ok (.invokespecial 126, 3) := by decide +kernel
theorem d_B_variable_23 : decode prog_1_method_10_code 23 = .ok (.athrow, 1) := by decide +kernel
end
section
set_option maxRecDepth 100000 in
theorem oa_0 {U : State} (hB : TB U) (hH : TH U) (args : Array Value) : ∀ a ∈ Bundle.ownAtoms "BigRunner" 43 "java/lang/IllegalArgumentException" ["java/lang/RuntimeException", "java/lang/Exception"], a.before args U = true := tw_oa hB hH _ [84, 543, 552, 558, 561, 563, 544, 545, 101, 102, 546, 551, 559, 579, 533, 580, 535, 581, 537, 547, 549, 539, 575, 576, 578, 539, 566, 567, 568, 569, 525, 569, 570, 571, 572, 527, 572, 573, 574, 575, 529, 565, 522, 523, 530, 531, 532, 534, 536, 538, 542, 541, 540] (by decide +kernel) (by decide +kernel) args
set_option maxHeartbeats 4000000 in
set_option maxRecDepth 100000 in
theorem c_B_load (l : Launch) (dC : Nat → ClassId) (dI : Nat → Nat → Nat) (sz : Nat) (x : Nat) (ql : Nat) (cl : ClassId) (rd : Nat) (rn : Nat) (qt : Nat) (pr : Nat) (qs : Nat) (cs : ClassId) (fs : Nat → Option Nat) (q0 : Nat) (qn : Nat) (qv : Nat) (qi : Nat) (pn : Nat) (qi2 : Nat) (qm : Nat) (qw : Nat) (qh : Nat) (qd : Nat) (qk : Nat) (qr : Nat) (cr : ClassId) (hf : fs 0 = some q0) (htr : l.stackTraces = false) : tw_Met l ⟨"BigRunner", "load", "()I"⟩ [Cond.code ⟨"BigRunner", "load", "()I"⟩ prog_1_method_4_code 3 (some .int)] ({ frames := 6, cells := 1, slots := 6, locals := 120 }) (va_Pc [.ref x] (fun U => U.heap.size = sz ∧ TB U ∧ TH U ∧ va_P (dC, dI) vcl [(x, .inr (0, [.ref ql, .int 0, .ref rd, .ref rn, .int 0])), (ql, .inl (cl, 72, .inl (fun _ => 0))), (rd, .inr (7, [.ref qt, .int 0, .int 0, .ref pr])), (pr, .inr (6, [.ref qs, .int 0, .ref qn, .int 0, .ref qv, .ref qi])), (qs, .inl (cs, 36, .inr (.inr (.inr (.inr (fs)))))), (q0, .inr (9, [.int 5, .int 0, .int 0, .int (-1), .int 0])), (rn, .inr (8, [.ref pn, .ref qi2, .int 0, .ref qm, .ref qw, .ref qh, .ref qd, .ref qk, .int 0, .int 0, .int 0, .int 0, .int 0])), (qi2, .inr (1, [.ref qr, .int 0, .int 0])), (qr, .inl (cr, 20, .inl (fun _ => 0)))] U.heap ∧ va_K (dC, dI) vcl [(cl, .char), (cs, (.object "BigRunner$Statement")), (cr, .int)] U ∧ va_D (fun _ => True) [(x, .inr (0, [.ref ql, .int 0, .ref rd, .ref rn, .int 0])), (ql, .inl (cl, 72, .inl (fun _ => 0))), (rd, .inr (7, [.ref qt, .int 0, .int 0, .ref pr])), (pr, .inr (6, [.ref qs, .int 0, .ref qn, .int 0, .ref qv, .ref qi])), (qs, .inl (cs, 36, .inr (.inr (.inr (.inr (fs)))))), (q0, .inr (9, [.int 5, .int 0, .int 0, .int (-1), .int 0])), (rn, .inr (8, [.ref pn, .ref qi2, .int 0, .ref qm, .ref qw, .ref qh, .ref qd, .ref qk, .int 0, .int 0, .int 0, .int 0, .int 0])), (qi2, .inr (1, [.ref qr, .int 0, .int 0])), (qr, .inl (cr, 20, .inl (fun _ => 0)))])) (tw_Q "java/lang/IllegalArgumentException" (va_A [(x, .inr (0, [.ref ql, .int 0, .ref rd, .ref rn, .int 0])), (ql, .inl (cl, 72, .inl (fun _ => 0))), (rd, .inr (7, [.ref qt, .int 0, .int 0, .ref pr])), (pr, .inr (6, [.ref qs, .int 0, .ref qn, .int 0, .ref qv, .ref qi])), (qs, .inl (cs, 36, .inr (.inr (.inr (.inr (fs)))))), (q0, .inr (9, [.int 5, .int 0, .int 0, .int (-1), .int 0])), (rn, .inr (8, [.ref pn, .ref qi2, .int 0, .ref qm, .ref qw, .ref qh, .ref qd, .ref qk, .int 0, .int 0, .int 0, .int 0, .int 0])), (qi2, .inr (1, [.ref qr, .int 0, .int 0])), (qr, .inl (cr, 20, .inl (fun _ => 0)))] sz)) 1 6 (va_A [(x, .inr (0, [.ref ql, .int 0, .ref rd, .ref rn, .int 0])), (ql, .inl (cl, 72, .inl (fun _ => 0))), (rd, .inr (7, [.ref qt, .int 0, .int 0, .ref pr])), (pr, .inr (6, [.ref qs, .int 0, .ref qn, .int 0, .ref qv, .ref qi])), (qs, .inl (cs, 36, .inr (.inr (.inr (.inr (fs)))))), (q0, .inr (9, [.int 5, .int 0, .int 0, .int (-1), .int 0])), (rn, .inr (8, [.ref pn, .ref qi2, .int 0, .ref qm, .ref qw, .ref qh, .ref qd, .ref qk, .int 0, .int 0, .int 0, .int 0, .int 0])), (qi2, .inr (1, [.ref qr, .int 0, .int 0])), (qr, .inl (cr, 20, .inl (fun _ => 0)))] sz) := by
  refine tw_ofW (cc := prog_1_method_4_code) (maxL := 3) (ret := (some .int)) (by decide) rfl ?_
  intro p e s m args below meth c s₁ B hml hno hv
  obtain ⟨rfl, hsz, hB, hH, hP, hK, hD0⟩ := hv
  have hx := B.exec
  have hb := B.bytes
  have hr := B.returns
  have hown : s.vm.findClass "BigRunner" = some m.cls := findClass_of_methodNamed B.named
  have hlocks := B.notSynchronized
  subst hsz
  have hD := hD0.self (sz := s.heap.size)
  generalize hAe : va_A [(x, .inr (0, [.ref ql, .int 0, .ref rd, .ref rn, .int 0])), (ql, .inl (cl, 72, .inl (fun _ => 0))), (rd, .inr (7, [.ref qt, .int 0, .int 0, .ref pr])), (pr, .inr (6, [.ref qs, .int 0, .ref qn, .int 0, .ref qv, .ref qi])), (qs, .inl (cs, 36, .inr (.inr (.inr (.inr (fs)))))), (q0, .inr (9, [.int 5, .int 0, .int 0, .int (-1), .int 0])), (rn, .inr (8, [.ref pn, .ref qi2, .int 0, .ref qm, .ref qw, .ref qh, .ref qd, .ref qk, .int 0, .int 0, .int 0, .int 0, .int 0])), (qi2, .inr (1, [.ref qr, .int 0, .int 0])), (qr, .inl (cr, 20, .inl (fun _ => 0)))] s.heap.size = A at hD ⊢
  have hA : ∀ q : Nat, s.heap.size ≤ q → A q := fun q h => by rw [← hAe]; exact Or.inr h
  have hS : va_S A s.heap s.heap [] := va_S.rf
  have hP : va_P (dC, dI) vcl [(x, .inr (0, [.ref ql, .int 0, .ref rd, .ref rn, .int 0])), (ql, .inl (cl, 72, .inl (fun _ => 0))), (rd, .inr (7, [.ref qt, .int 0, .int 0, .ref pr])), (pr, .inr (6, [.ref qs, .int 0, .ref qn, .int 0, .ref qv, .ref qi])), (qs, .inl (cs, 36, .inr (.inr (.inr (.inr (fs)))))), (q0, .inr (9, [.int 5, .int 0, .int 0, .int (-1), .int 0])), (rn, .inr (8, [.ref pn, .ref qi2, .int 0, .ref qm, .ref qw, .ref qh, .ref qd, .ref qk, .int 0, .int 0, .int 0, .int 0, .int 0])), (qi2, .inr (1, [.ref qr, .int 0, .int 0])), (qr, .inl (cr, 20, .inl (fun _ => 0)))] s.heap := hP
  have hl := lv_entry ([.ref x]) (n := 3) (Nat.le_of_ble_eq_true rfl)
  rw [lg_entry_eq]
  generalize (lg_sl ([.ref x]) ++ List.replicate (3 - (lg_sl ([.ref x])).length) Slot.unset).toArray = ls at hl ⊢
  have hl : lv_has ls 3 [(0, .ref x)] := hl
  have hP0 := hP
  refine lv_aload_n hx hb d_B_load_0 rfl (lv_at hl 0 rfl) ?_
  refine va_get (D := (dC, dI)) (ci := 0) (v := .ref rd) (C := "BigRunner") (T := FT0) (N := 5) hx hb (hw0 hB _) (fun _ h9 => h9) hown hK hP 0 rfl rfl 2 (by decide) (wd_380 hB _) (fun _ h9 => h9) rfl d_B_load_1 ?_
  refine lv_aload_n hx hb d_B_load_4 rfl (lv_at hl 0 rfl) ?_
  refine va_get (D := (dC, dI)) (ci := 0) (v := .ref ql) (C := "BigRunner") (T := FT0) (N := 5) hx hb (hw0 hB _) (fun _ h9 => h9) hown hK hP 0 rfl rfl 0 (by decide) (wd_378 hB _) (fun _ h9 => h9) rfl d_B_load_5 ?_
  refine lv_aload_n hx hb d_B_load_8 rfl (lv_at hl 0 rfl) ?_
  refine va_get (D := (dC, dI)) (ci := 0) (v := .int 0) (C := "BigRunner") (T := FT0) (N := 5) hx hb (hw0 hB _) (fun _ h9 => h9) hown hK hP 0 rfl rfl 1 (by decide) (wd_379 hB _) (fun _ h9 => h9) rfl d_B_load_9 ?_
  have hPc := hP.sub (ws' := [(rd, .inr (7, [.ref qt, .int 0, .int 0, .ref pr])), (pr, .inr (6, [.ref qs, .int 0, .ref qn, .int 0, .ref qv, .ref qi])), (qs, .inl (cs, 36, .inr (.inr (.inr (.inr (fs)))))), (q0, .inr (9, [.int 5, .int 0, .int 0, .int (-1), .int 0])), (ql, .inl (cl, 72, .inl (fun _ => 0)))]) [2, 3, 4, 5, 1] rfl
  have hDc := hD.sub (ws' := [(rd, .inr (7, [.ref qt, .int 0, .int 0, .ref pr])), (pr, .inr (6, [.ref qs, .int 0, .ref qn, .int 0, .ref qv, .ref qi])), (qs, .inl (cs, 36, .inr (.inr (.inr (.inr (fs)))))), (q0, .inr (9, [.int 5, .int 0, .int 0, .int (-1), .int 0])), (ql, .inl (cl, 72, .inl (fun _ => 0)))]) [2, 3, 4, 5, 1] (by decide) rfl
  have hKc := hK.sub (tys' := [(cs, (.object "BigRunner$Statement")), (cl, .char)]) [1, 0] rfl
  have hFc := va_free (wc := [(rd, .inr (7, [.ref qt, .int 0, .int 0, .ref pr])), (pr, .inr (6, [.ref qs, .int 0, .ref qn, .int 0, .ref qv, .ref qi])), (qs, .inl (cs, 36, .inr (.inr (.inr (.inr (fs)))))), (q0, .inr (9, [.int 5, .int 0, .int 0, .int (-1), .int 0])), (ql, .inl (cl, 72, .inl (fun _ => 0)))]) hD hS hA [2, 3, 4, 5, 1] rfl
  refine va_calli (va_runV (C := "BigRunner$Reader") (As := [.ref ql, .int 0]) (rest := []) ⟨hx, hb, hml, hown, tb_nil⟩ (c_R_reads l dC dI s.heap.size rd qt pr qs cs fs q0 qn qv qi ql cl hf) ⟨(callB_of 2 (tb_one (wd_457 hB _)) tb_good1 rfl rfl rfl (wd_73 hB _) (wd_454 hB _) (by decide +kernel) ⟨Nat.le_of_ble_eq_true rfl, Nat.le_of_ble_eq_true rfl⟩), (wd_455 hB _), (wd_456 hB _)⟩ ⟨fun a U g mk q => by obtain ⟨q0, q1, qB, qP, qK, qD⟩ := q; exact ⟨q0, q1, TB.same (s := U) (U := U.calling g mk a) rfl qB, qP, va_K.moved (u := U) (U := U.calling g mk a) (Vm.Alike.refl U.vm) qK, qD⟩, va_recv hK hP (q0 := 2) (ci := 7) rfl rfl, fun U hU hW => ⟨rfl, by rw [hU], hB.moved hW, by rw [hU]; exact hPc, va_K.moved hW.alike hKc, hDc.weaken (fun _ _ _ _ => trivial)⟩⟩ rfl rfl hl.1 rfl (lv_room (Nat.le_of_ble_eq_true rfl)) d_B_load_12 ⟨(Nat.le_of_ble_eq_true rfl), (Nat.le_of_ble_eq_true rfl)⟩) hS (fun q _ h => hFc q h) hFc (fun r_ u_ t H1 locs ht hvm hw_ hB1 hz1 hk1 hS => ?_)
  obtain ⟨hP1, hK1, hD1⟩ := hB1
  rw [ht] at hP1
  have hK1 := va_K.moved hvm.symm hK1
  try dsimp only at hw_
  obtain ⟨hP, hD⟩ := va_join (wr := [(x, .inr (0, [.ref ql, .int 0, .ref rd, .ref rn, .int 0])), (rn, .inr (8, [.ref pn, .ref qi2, .int 0, .ref qm, .ref qw, .ref qh, .ref qd, .ref qk, .int 0, .int 0, .int 0, .int 0, .int 0])), (qi2, .inr (1, [.ref qr, .int 0, .int 0])), (qr, .inl (cr, 20, .inl (fun _ => 0)))]) (w1 := []) hP hD [2, 3, 4, 5, 1] [0, 6, 7, 8] rfl rfl (by decide) (by decide) hk1 hFc hP1 hD1
  have hK := (hK.sub (tys' := [(cr, .int)]) [2] rfl).app hK1
  clear hk1 hFc hPc hDc hKc hP1 hD1 hK1 hz1 ht hvm
  generalize H1 = H at hP hS ⊢
  have hP : va_P (dC, dI) vcl [(x, .inr (0, [.ref ql, .int 0, .ref rd, .ref rn, .int 0])), (rn, .inr (8, [.ref pn, .ref qi2, .int 0, .ref qm, .ref qw, .ref qh, .ref qd, .ref qk, .int 0, .int 0, .int 0, .int 0, .int 0])), (qi2, .inr (1, [.ref qr, .int 0, .int 0])), (qr, .inl (cr, 20, .inl (fun _ => 0)))] H := hP
  have hD : va_D A [(x, .inr (0, [.ref ql, .int 0, .ref rd, .ref rn, .int 0])), (rn, .inr (8, [.ref pn, .ref qi2, .int 0, .ref qm, .ref qw, .ref qh, .ref qd, .ref qk, .int 0, .int 0, .int 0, .int 0, .int 0])), (qi2, .inr (1, [.ref qr, .int 0, .int 0])), (qr, .inl (cr, 20, .inl (fun _ => 0)))] := hD
  have hK : va_K (dC, dI) vcl [(cr, .int)] s := hK
  refine W.widen (k := 0) (n := 0) (by omega) (by omega) ?_
  subst hw_
  refine lv_if_ne (tgt := 28) hx hb d_B_load_15 (by decide) (fun hq => absurd hq (fun h => h rfl)) (fun _ => ?_)
  exact tw_throw (names := ["java/lang/RuntimeException", "java/lang/Exception"]) (text := "the line is no PROGRAM") hx hb (hl.1.trans hml.symm) hlocks hno htr hown (wd_521 hB _) (wd_522 hB _) (wd_87 hB _) (wd_564 hB _) (by decide +kernel) (by decide +kernel) (oa_0 hB hH _) hS (by rw [← hAe]; exact tw_nostat hP0) (fun _ h => h) d_B_load_18 d_B_load_21 d_B_load_22 d_B_load_24 d_B_load_27 (Nat.le_of_ble_eq_true rfl) (Nat.le_of_ble_eq_true rfl) (Nat.le_of_ble_eq_true rfl) (Nat.le_of_ble_eq_true rfl) (fun t a ce h1 h2 h3 h4 => ⟨a, ce, rfl, h1, h2, h3, h4⟩)
set_option maxRecDepth 100000 in
theorem oa_1 {U : State} (hB : TB U) (hH : TH U) (args : Array Value) : ∀ a ∈ Bundle.ownAtoms "BigRunner" 82 "java/lang/IllegalStateException" ["java/lang/RuntimeException", "java/lang/Exception"], a.before args U = true := tw_oa hB hH _ [84, 543, 552, 558, 561, 563, 544, 545, 101, 102, 546, 551, 559, 579, 533, 580, 535, 581, 537, 547, 549, 539, 575, 576, 578, 539, 707, 708, 709, 569, 525, 569, 570, 571, 572, 527, 572, 573, 574, 575, 529, 706, 697, 698, 699, 555, 700, 701, 702, 703, 542, 541, 704] (by decide +kernel) (by decide +kernel) args
set_option maxHeartbeats 4000000 in
set_option maxRecDepth 100000 in
theorem c_B_run (l : Launch) (dC : Nat → ClassId) (dI : Nat → Nat → Nat) (sz : Nat) (x : Nat) (ql : Nat) (cl : ClassId) (rd : Nat) (rn : Nat) (qt : Nat) (pr : Nat) (qs : Nat) (cs : ClassId) (fs : Nat → Option Nat) (q0 : Nat) (qn : Nat) (qv : Nat) (qi : Nat) (pn : Nat) (qi2 : Nat) (qm : Nat) (qw : Nat) (qh : Nat) (qd : Nat) (qk : Nat) (qr : Nat) (cr : ClassId) (k : Int32) (htr : l.stackTraces = false) : tw_Met l ⟨"BigRunner", "run", "(I)I"⟩ [Cond.code ⟨"BigRunner", "run", "(I)I"⟩ prog_1_method_6_code 3 (some .int)] ({ frames := 6, cells := 1, slots := 6, locals := 120 }) (va_Pc [.ref x, .int k] (fun U => U.heap.size = sz ∧ TB U ∧ TH U ∧ va_P (dC, dI) vcl [(x, .inr (0, [.ref ql, .int 0, .ref rd, .ref rn, .int 0])), (ql, .inl (cl, 72, .inl (fun _ => 0))), (rd, .inr (7, [.ref qt, .int 0, .int 0, .ref pr])), (pr, .inr (6, [.ref qs, .int 0, .ref qn, .int 0, .ref qv, .ref qi])), (qs, .inl (cs, 36, .inr (.inr (.inr (.inr (fs)))))), (q0, .inr (9, [.int 5, .int 0, .int 0, .int (-1), .int 0])), (rn, .inr (8, [.ref pn, .ref qi2, .int 0, .ref qm, .ref qw, .ref qh, .ref qd, .ref qk, .int 0, .int 0, .int 0, .int 0, .int 0])), (qi2, .inr (1, [.ref qr, .int 0, .int 0])), (qr, .inl (cr, 20, .inl (fun _ => 0)))] U.heap ∧ va_K (dC, dI) vcl [(cl, .char), (cs, (.object "BigRunner$Statement")), (cr, .int)] U ∧ va_D (fun _ => True) [(x, .inr (0, [.ref ql, .int 0, .ref rd, .ref rn, .int 0])), (ql, .inl (cl, 72, .inl (fun _ => 0))), (rd, .inr (7, [.ref qt, .int 0, .int 0, .ref pr])), (pr, .inr (6, [.ref qs, .int 0, .ref qn, .int 0, .ref qv, .ref qi])), (qs, .inl (cs, 36, .inr (.inr (.inr (.inr (fs)))))), (q0, .inr (9, [.int 5, .int 0, .int 0, .int (-1), .int 0])), (rn, .inr (8, [.ref pn, .ref qi2, .int 0, .ref qm, .ref qw, .ref qh, .ref qd, .ref qk, .int 0, .int 0, .int 0, .int 0, .int 0])), (qi2, .inr (1, [.ref qr, .int 0, .int 0])), (qr, .inl (cr, 20, .inl (fun _ => 0)))])) (tw_Q "java/lang/IllegalStateException" (va_A [(x, .inr (0, [.ref ql, .int 0, .ref rd, .ref rn, .int 0])), (ql, .inl (cl, 72, .inl (fun _ => 0))), (rd, .inr (7, [.ref qt, .int 0, .int 0, .ref pr])), (pr, .inr (6, [.ref qs, .int 0, .ref qn, .int 0, .ref qv, .ref qi])), (qs, .inl (cs, 36, .inr (.inr (.inr (.inr (fs)))))), (q0, .inr (9, [.int 5, .int 0, .int 0, .int (-1), .int 0])), (rn, .inr (8, [.ref pn, .ref qi2, .int 0, .ref qm, .ref qw, .ref qh, .ref qd, .ref qk, .int 0, .int 0, .int 0, .int 0, .int 0])), (qi2, .inr (1, [.ref qr, .int 0, .int 0])), (qr, .inl (cr, 20, .inl (fun _ => 0)))] sz)) 1 6 (va_A [(x, .inr (0, [.ref ql, .int 0, .ref rd, .ref rn, .int 0])), (ql, .inl (cl, 72, .inl (fun _ => 0))), (rd, .inr (7, [.ref qt, .int 0, .int 0, .ref pr])), (pr, .inr (6, [.ref qs, .int 0, .ref qn, .int 0, .ref qv, .ref qi])), (qs, .inl (cs, 36, .inr (.inr (.inr (.inr (fs)))))), (q0, .inr (9, [.int 5, .int 0, .int 0, .int (-1), .int 0])), (rn, .inr (8, [.ref pn, .ref qi2, .int 0, .ref qm, .ref qw, .ref qh, .ref qd, .ref qk, .int 0, .int 0, .int 0, .int 0, .int 0])), (qi2, .inr (1, [.ref qr, .int 0, .int 0])), (qr, .inl (cr, 20, .inl (fun _ => 0)))] sz) := by
  refine tw_ofW (cc := prog_1_method_6_code) (maxL := 3) (ret := (some .int)) (by decide) rfl ?_
  intro p e s m args below meth c s₁ B hml hno hv
  obtain ⟨rfl, hsz, hB, hH, hP, hK, hD0⟩ := hv
  have hx := B.exec
  have hb := B.bytes
  have hr := B.returns
  have hown : s.vm.findClass "BigRunner" = some m.cls := findClass_of_methodNamed B.named
  have hlocks := B.notSynchronized
  subst hsz
  have hD := hD0.self (sz := s.heap.size)
  generalize hAe : va_A [(x, .inr (0, [.ref ql, .int 0, .ref rd, .ref rn, .int 0])), (ql, .inl (cl, 72, .inl (fun _ => 0))), (rd, .inr (7, [.ref qt, .int 0, .int 0, .ref pr])), (pr, .inr (6, [.ref qs, .int 0, .ref qn, .int 0, .ref qv, .ref qi])), (qs, .inl (cs, 36, .inr (.inr (.inr (.inr (fs)))))), (q0, .inr (9, [.int 5, .int 0, .int 0, .int (-1), .int 0])), (rn, .inr (8, [.ref pn, .ref qi2, .int 0, .ref qm, .ref qw, .ref qh, .ref qd, .ref qk, .int 0, .int 0, .int 0, .int 0, .int 0])), (qi2, .inr (1, [.ref qr, .int 0, .int 0])), (qr, .inl (cr, 20, .inl (fun _ => 0)))] s.heap.size = A at hD ⊢
  have hA : ∀ q : Nat, s.heap.size ≤ q → A q := fun q h => by rw [← hAe]; exact Or.inr h
  have hS : va_S A s.heap s.heap [] := va_S.rf
  have hP : va_P (dC, dI) vcl [(x, .inr (0, [.ref ql, .int 0, .ref rd, .ref rn, .int 0])), (ql, .inl (cl, 72, .inl (fun _ => 0))), (rd, .inr (7, [.ref qt, .int 0, .int 0, .ref pr])), (pr, .inr (6, [.ref qs, .int 0, .ref qn, .int 0, .ref qv, .ref qi])), (qs, .inl (cs, 36, .inr (.inr (.inr (.inr (fs)))))), (q0, .inr (9, [.int 5, .int 0, .int 0, .int (-1), .int 0])), (rn, .inr (8, [.ref pn, .ref qi2, .int 0, .ref qm, .ref qw, .ref qh, .ref qd, .ref qk, .int 0, .int 0, .int 0, .int 0, .int 0])), (qi2, .inr (1, [.ref qr, .int 0, .int 0])), (qr, .inl (cr, 20, .inl (fun _ => 0)))] s.heap := hP
  have hl := lv_entry ([.ref x, .int k]) (n := 3) (Nat.le_of_ble_eq_true rfl)
  rw [lg_entry_eq]
  generalize (lg_sl ([.ref x, .int k]) ++ List.replicate (3 - (lg_sl ([.ref x, .int k])).length) Slot.unset).toArray = ls at hl ⊢
  have hl : lv_has ls 3 [(0, .ref x), (1, .int k)] := hl
  have hP0 := hP
  refine lv_aload_n hx hb d_B_run_0 rfl (lv_at hl 0 rfl) ?_
  refine va_get (D := (dC, dI)) (ci := 0) (v := .int 0) (C := "BigRunner") (T := FT0) (N := 5) hx hb (hw0 hB _) (fun _ h9 => h9) hown hK hP 0 rfl rfl 4 (by decide) (wd_382 hB _) (fun _ h9 => h9) rfl d_B_run_1 ?_
  refine lv_if_eq (tgt := 27) hx hb d_B_run_4 (by decide) (fun _ => ?_) (fun hq => absurd rfl hq)
  exact tw_throw (names := ["java/lang/RuntimeException", "java/lang/Exception"]) (text := "no program is under way") hx hb (hl.1.trans hml.symm) hlocks hno htr hown (wd_696 hB _) (wd_697 hB _) (wd_89 hB _) (wd_705 hB _) (by decide +kernel) (by decide +kernel) (oa_1 hB hH _) hS (by rw [← hAe]; exact tw_nostat hP0) (fun _ h => h) d_B_run_27 d_B_run_30 d_B_run_31 d_B_run_33 d_B_run_36 (Nat.le_of_ble_eq_true rfl) (Nat.le_of_ble_eq_true rfl) (Nat.le_of_ble_eq_true rfl) (Nat.le_of_ble_eq_true rfl) (fun t a ce h1 h2 h3 h4 => ⟨a, ce, rfl, h1, h2, h3, h4⟩)
set_option maxRecDepth 100000 in
theorem oa_2 {U : State} (hB : TB U) (hH : TH U) (args : Array Value) : ∀ a ∈ Bundle.ownAtoms "BigRunner" 126 "java/lang/IndexOutOfBoundsException" ["java/lang/RuntimeException", "java/lang/Exception"], a.before args U = true := tw_oa hB hH _ [84, 543, 552, 558, 561, 563, 544, 545, 101, 102, 546, 551, 559, 579, 533, 580, 535, 581, 537, 547, 549, 539, 575, 576, 578, 539, 899, 900, 901, 569, 525, 569, 570, 571, 572, 527, 572, 573, 574, 575, 529, 898, 889, 890, 891, 556, 892, 893, 894, 895, 542, 541, 896] (by decide +kernel) (by decide +kernel) args
set_option maxHeartbeats 4000000 in
set_option maxRecDepth 100000 in
theorem c_B_bound (l : Launch) (dC : Nat → ClassId) (dI : Nat → Nat → Nat) (sz : Nat) (x : Nat) (ql : Nat) (cl : ClassId) (rd : Nat) (rn : Nat) (qt : Nat) (pr : Nat) (qs : Nat) (cs : ClassId) (fs : Nat → Option Nat) (q0 : Nat) (qn : Nat) (qv : Nat) (qi : Nat) (pn : Nat) (qi2 : Nat) (qm : Nat) (qw : Nat) (qh : Nat) (qd : Nat) (qk : Nat) (qr : Nat) (cr : ClassId) (k : Int32) (g : Int32) (htr : l.stackTraces = false) : tw_Met l ⟨"BigRunner", "bound", "(IZ)J"⟩ [Cond.code ⟨"BigRunner", "bound", "(IZ)J"⟩ prog_1_method_8_code 6 (some .long)] ({ frames := 6, cells := 1, slots := 6, locals := 120 }) (va_Pc [.ref x, .int k, .int g] (fun U => U.heap.size = sz ∧ TB U ∧ TH U ∧ va_P (dC, dI) vcl [(x, .inr (0, [.ref ql, .int 0, .ref rd, .ref rn, .int 0])), (ql, .inl (cl, 72, .inl (fun _ => 0))), (rd, .inr (7, [.ref qt, .int 0, .int 0, .ref pr])), (pr, .inr (6, [.ref qs, .int 0, .ref qn, .int 0, .ref qv, .ref qi])), (qs, .inl (cs, 36, .inr (.inr (.inr (.inr (fs)))))), (q0, .inr (9, [.int 5, .int 0, .int 0, .int (-1), .int 0])), (rn, .inr (8, [.ref pn, .ref qi2, .int 0, .ref qm, .ref qw, .ref qh, .ref qd, .ref qk, .int 0, .int 0, .int 0, .int 0, .int 0])), (qi2, .inr (1, [.ref qr, .int 0, .int 0])), (qr, .inl (cr, 20, .inl (fun _ => 0)))] U.heap ∧ va_K (dC, dI) vcl [(cl, .char), (cs, (.object "BigRunner$Statement")), (cr, .int)] U ∧ va_D (fun _ => True) [(x, .inr (0, [.ref ql, .int 0, .ref rd, .ref rn, .int 0])), (ql, .inl (cl, 72, .inl (fun _ => 0))), (rd, .inr (7, [.ref qt, .int 0, .int 0, .ref pr])), (pr, .inr (6, [.ref qs, .int 0, .ref qn, .int 0, .ref qv, .ref qi])), (qs, .inl (cs, 36, .inr (.inr (.inr (.inr (fs)))))), (q0, .inr (9, [.int 5, .int 0, .int 0, .int (-1), .int 0])), (rn, .inr (8, [.ref pn, .ref qi2, .int 0, .ref qm, .ref qw, .ref qh, .ref qd, .ref qk, .int 0, .int 0, .int 0, .int 0, .int 0])), (qi2, .inr (1, [.ref qr, .int 0, .int 0])), (qr, .inl (cr, 20, .inl (fun _ => 0)))])) (tw_Q "java/lang/IndexOutOfBoundsException" (va_A [(x, .inr (0, [.ref ql, .int 0, .ref rd, .ref rn, .int 0])), (ql, .inl (cl, 72, .inl (fun _ => 0))), (rd, .inr (7, [.ref qt, .int 0, .int 0, .ref pr])), (pr, .inr (6, [.ref qs, .int 0, .ref qn, .int 0, .ref qv, .ref qi])), (qs, .inl (cs, 36, .inr (.inr (.inr (.inr (fs)))))), (q0, .inr (9, [.int 5, .int 0, .int 0, .int (-1), .int 0])), (rn, .inr (8, [.ref pn, .ref qi2, .int 0, .ref qm, .ref qw, .ref qh, .ref qd, .ref qk, .int 0, .int 0, .int 0, .int 0, .int 0])), (qi2, .inr (1, [.ref qr, .int 0, .int 0])), (qr, .inl (cr, 20, .inl (fun _ => 0)))] sz)) 1 6 (va_A [(x, .inr (0, [.ref ql, .int 0, .ref rd, .ref rn, .int 0])), (ql, .inl (cl, 72, .inl (fun _ => 0))), (rd, .inr (7, [.ref qt, .int 0, .int 0, .ref pr])), (pr, .inr (6, [.ref qs, .int 0, .ref qn, .int 0, .ref qv, .ref qi])), (qs, .inl (cs, 36, .inr (.inr (.inr (.inr (fs)))))), (q0, .inr (9, [.int 5, .int 0, .int 0, .int (-1), .int 0])), (rn, .inr (8, [.ref pn, .ref qi2, .int 0, .ref qm, .ref qw, .ref qh, .ref qd, .ref qk, .int 0, .int 0, .int 0, .int 0, .int 0])), (qi2, .inr (1, [.ref qr, .int 0, .int 0])), (qr, .inl (cr, 20, .inl (fun _ => 0)))] sz) := by
  refine tw_ofW (cc := prog_1_method_8_code) (maxL := 6) (ret := (some .long)) (by decide) rfl ?_
  intro p e s m args below meth c s₁ B hml hno hv
  obtain ⟨rfl, hsz, hB, hH, hP, hK, hD0⟩ := hv
  have hx := B.exec
  have hb := B.bytes
  have hr := B.returns
  have hown : s.vm.findClass "BigRunner" = some m.cls := findClass_of_methodNamed B.named
  have hlocks := B.notSynchronized
  subst hsz
  have hD := hD0.self (sz := s.heap.size)
  generalize hAe : va_A [(x, .inr (0, [.ref ql, .int 0, .ref rd, .ref rn, .int 0])), (ql, .inl (cl, 72, .inl (fun _ => 0))), (rd, .inr (7, [.ref qt, .int 0, .int 0, .ref pr])), (pr, .inr (6, [.ref qs, .int 0, .ref qn, .int 0, .ref qv, .ref qi])), (qs, .inl (cs, 36, .inr (.inr (.inr (.inr (fs)))))), (q0, .inr (9, [.int 5, .int 0, .int 0, .int (-1), .int 0])), (rn, .inr (8, [.ref pn, .ref qi2, .int 0, .ref qm, .ref qw, .ref qh, .ref qd, .ref qk, .int 0, .int 0, .int 0, .int 0, .int 0])), (qi2, .inr (1, [.ref qr, .int 0, .int 0])), (qr, .inl (cr, 20, .inl (fun _ => 0)))] s.heap.size = A at hD ⊢
  have hA : ∀ q : Nat, s.heap.size ≤ q → A q := fun q h => by rw [← hAe]; exact Or.inr h
  have hS : va_S A s.heap s.heap [] := va_S.rf
  have hP : va_P (dC, dI) vcl [(x, .inr (0, [.ref ql, .int 0, .ref rd, .ref rn, .int 0])), (ql, .inl (cl, 72, .inl (fun _ => 0))), (rd, .inr (7, [.ref qt, .int 0, .int 0, .ref pr])), (pr, .inr (6, [.ref qs, .int 0, .ref qn, .int 0, .ref qv, .ref qi])), (qs, .inl (cs, 36, .inr (.inr (.inr (.inr (fs)))))), (q0, .inr (9, [.int 5, .int 0, .int 0, .int (-1), .int 0])), (rn, .inr (8, [.ref pn, .ref qi2, .int 0, .ref qm, .ref qw, .ref qh, .ref qd, .ref qk, .int 0, .int 0, .int 0, .int 0, .int 0])), (qi2, .inr (1, [.ref qr, .int 0, .int 0])), (qr, .inl (cr, 20, .inl (fun _ => 0)))] s.heap := hP
  have hl := lv_entry ([.ref x, .int k, .int g]) (n := 6) (Nat.le_of_ble_eq_true rfl)
  rw [lg_entry_eq]
  generalize (lg_sl ([.ref x, .int k, .int g]) ++ List.replicate (6 - (lg_sl ([.ref x, .int k, .int g])).length) Slot.unset).toArray = ls at hl ⊢
  have hl : lv_has ls 6 [(0, .ref x), (1, .int k), (2, .int g)] := hl
  have hP0 := hP
  refine lv_aload_n hx hb d_B_bound_0 rfl (lv_at hl 0 rfl) ?_
  refine lv_iload_n hx hb d_B_bound_1 rfl (lv_at hl 1 rfl) ?_
  have hPc := hP.sub (ws' := [(x, .inr (0, [.ref ql, .int 0, .ref rd, .ref rn, .int 0])), (ql, .inl (cl, 72, .inl (fun _ => 0))), (rd, .inr (7, [.ref qt, .int 0, .int 0, .ref pr])), (pr, .inr (6, [.ref qs, .int 0, .ref qn, .int 0, .ref qv, .ref qi])), (qs, .inl (cs, 36, .inr (.inr (.inr (.inr (fs)))))), (q0, .inr (9, [.int 5, .int 0, .int 0, .int (-1), .int 0])), (rn, .inr (8, [.ref pn, .ref qi2, .int 0, .ref qm, .ref qw, .ref qh, .ref qd, .ref qk, .int 0, .int 0, .int 0, .int 0, .int 0])), (qi2, .inr (1, [.ref qr, .int 0, .int 0])), (qr, .inl (cr, 20, .inl (fun _ => 0)))]) [0, 1, 2, 3, 4, 5, 6, 7, 8] rfl
  have hDc := hD.sub (ws' := [(x, .inr (0, [.ref ql, .int 0, .ref rd, .ref rn, .int 0])), (ql, .inl (cl, 72, .inl (fun _ => 0))), (rd, .inr (7, [.ref qt, .int 0, .int 0, .ref pr])), (pr, .inr (6, [.ref qs, .int 0, .ref qn, .int 0, .ref qv, .ref qi])), (qs, .inl (cs, 36, .inr (.inr (.inr (.inr (fs)))))), (q0, .inr (9, [.int 5, .int 0, .int 0, .int (-1), .int 0])), (rn, .inr (8, [.ref pn, .ref qi2, .int 0, .ref qm, .ref qw, .ref qh, .ref qd, .ref qk, .int 0, .int 0, .int 0, .int 0, .int 0])), (qi2, .inr (1, [.ref qr, .int 0, .int 0])), (qr, .inl (cr, 20, .inl (fun _ => 0)))]) [0, 1, 2, 3, 4, 5, 6, 7, 8] (by decide) rfl
  have hKc := hK.sub (tys' := [(cl, .char), (cs, (.object "BigRunner$Statement")), (cr, .int)]) [0, 1, 2] rfl
  have hFc := va_free (wc := [(x, .inr (0, [.ref ql, .int 0, .ref rd, .ref rn, .int 0])), (ql, .inl (cl, 72, .inl (fun _ => 0))), (rd, .inr (7, [.ref qt, .int 0, .int 0, .ref pr])), (pr, .inr (6, [.ref qs, .int 0, .ref qn, .int 0, .ref qv, .ref qi])), (qs, .inl (cs, 36, .inr (.inr (.inr (.inr (fs)))))), (q0, .inr (9, [.int 5, .int 0, .int 0, .int (-1), .int 0])), (rn, .inr (8, [.ref pn, .ref qi2, .int 0, .ref qm, .ref qw, .ref qh, .ref qd, .ref qk, .int 0, .int 0, .int 0, .int 0, .int 0])), (qi2, .inr (1, [.ref qr, .int 0, .int 0])), (qr, .inl (cr, 20, .inl (fun _ => 0)))]) hD hS hA [0, 1, 2, 3, 4, 5, 6, 7, 8] rfl
  refine va_calli (va_runV (C := "BigRunner") (As := [.int k]) (rest := []) ⟨hx, hb, hml, hown, tb_nil⟩ (c_B_hasVariable l dC dI s.heap.size x ql cl rd rn qt pr qs cs fs q0 qn qv qi pn qi2 qm qw qh qd qk qr cr k) ⟨(callB_of 1 (tb_one (wd_436 hB _)) tb_good1 rfl rfl rfl (wd_72 hB _) (wd_433 hB _) (by decide +kernel) ⟨Nat.le_of_ble_eq_true rfl, Nat.le_of_ble_eq_true rfl⟩), (wd_435 hB _), (wd_1 hB _)⟩ ⟨fun a U g mk q => by obtain ⟨q0, q1, qB, qP, qK, qD⟩ := q; exact ⟨q0, q1, TB.same (s := U) (U := U.calling g mk a) rfl qB, qP, va_K.moved (u := U) (U := U.calling g mk a) (Vm.Alike.refl U.vm) qK, qD⟩, va_recv hK hP (q0 := 0) (ci := 0) rfl rfl, fun U hU hW => ⟨rfl, by rw [hU], hB.moved hW, by rw [hU]; exact hPc, va_K.moved hW.alike hKc, hDc.weaken (fun _ _ _ _ => trivial)⟩⟩ rfl rfl hl.1 rfl (lv_room (Nat.le_of_ble_eq_true rfl)) d_B_bound_2 ⟨(Nat.le_of_ble_eq_true rfl), (Nat.le_of_ble_eq_true rfl)⟩) hS (fun q _ h => hFc q h) hFc (fun r_ u_ t H1 locs ht hvm hw_ hB1 hz1 hk1 hS => ?_)
  obtain ⟨hP1, hK1, hD1⟩ := hB1
  rw [ht] at hP1
  have hK1 := va_K.moved hvm.symm hK1
  try dsimp only at hw_
  obtain ⟨hP, hD⟩ := va_join (wr := []) (w1 := []) hP hD [0, 1, 2, 3, 4, 5, 6, 7, 8] [] rfl rfl (by decide) (by decide) hk1 hFc hP1 hD1
  have hK := (hK.sub (tys' := []) [] rfl).app hK1
  clear hk1 hFc hPc hDc hKc hP1 hD1 hK1 hz1 ht hvm
  generalize H1 = H at hP hS ⊢
  have hP : va_P (dC, dI) vcl [] H := hP
  have hD : va_D A [] := hD
  have hK : va_K (dC, dI) vcl [] s := hK
  refine W.widen (k := 0) (n := 0) (by omega) (by omega) ?_
  subst hw_
  refine lv_if_ne (tgt := 18) hx hb d_B_bound_5 (by decide) (fun hq => absurd hq (fun h => h rfl)) (fun _ => ?_)
  exact tw_throw (names := ["java/lang/RuntimeException", "java/lang/Exception"]) (text := "no such variable") hx hb (hl.1.trans hml.symm) hlocks hno htr hown (wd_888 hB _) (wd_889 hB _) (wd_94 hB _) (wd_897 hB _) (by decide +kernel) (by decide +kernel) (oa_2 hB hH _) hS (by rw [← hAe]; exact tw_nostat hP0) (fun _ h => h) d_B_bound_8 d_B_bound_11 d_B_bound_12 d_B_bound_14 d_B_bound_17 (Nat.le_of_ble_eq_true rfl) (Nat.le_of_ble_eq_true rfl) (Nat.le_of_ble_eq_true rfl) (Nat.le_of_ble_eq_true rfl) (fun t a ce h1 h2 h3 h4 => ⟨a, ce, rfl, h1, h2, h3, h4⟩)
set_option maxHeartbeats 4000000 in
set_option maxRecDepth 100000 in
theorem c_B_variable (l : Launch) (dC : Nat → ClassId) (dI : Nat → Nat → Nat) (sz : Nat) (x : Nat) (ql : Nat) (cl : ClassId) (rd : Nat) (rn : Nat) (qt : Nat) (pr : Nat) (qs : Nat) (cs : ClassId) (fs : Nat → Option Nat) (q0 : Nat) (qn : Nat) (qv : Nat) (qi : Nat) (pn : Nat) (qi2 : Nat) (qm : Nat) (qw : Nat) (qh : Nat) (qd : Nat) (qk : Nat) (qr : Nat) (cr : ClassId) (k : Int32) (g : Int32) (htr : l.stackTraces = false) : tw_Met l ⟨"BigRunner", "variable", "(II)I"⟩ [Cond.code ⟨"BigRunner", "variable", "(II)I"⟩ prog_1_method_10_code 3 (some .int)] ({ frames := 6, cells := 1, slots := 6, locals := 120 }) (va_Pc [.ref x, .int k, .int g] (fun U => U.heap.size = sz ∧ TB U ∧ TH U ∧ va_P (dC, dI) vcl [(x, .inr (0, [.ref ql, .int 0, .ref rd, .ref rn, .int 0])), (ql, .inl (cl, 72, .inl (fun _ => 0))), (rd, .inr (7, [.ref qt, .int 0, .int 0, .ref pr])), (pr, .inr (6, [.ref qs, .int 0, .ref qn, .int 0, .ref qv, .ref qi])), (qs, .inl (cs, 36, .inr (.inr (.inr (.inr (fs)))))), (q0, .inr (9, [.int 5, .int 0, .int 0, .int (-1), .int 0])), (rn, .inr (8, [.ref pn, .ref qi2, .int 0, .ref qm, .ref qw, .ref qh, .ref qd, .ref qk, .int 0, .int 0, .int 0, .int 0, .int 0])), (qi2, .inr (1, [.ref qr, .int 0, .int 0])), (qr, .inl (cr, 20, .inl (fun _ => 0)))] U.heap ∧ va_K (dC, dI) vcl [(cl, .char), (cs, (.object "BigRunner$Statement")), (cr, .int)] U ∧ va_D (fun _ => True) [(x, .inr (0, [.ref ql, .int 0, .ref rd, .ref rn, .int 0])), (ql, .inl (cl, 72, .inl (fun _ => 0))), (rd, .inr (7, [.ref qt, .int 0, .int 0, .ref pr])), (pr, .inr (6, [.ref qs, .int 0, .ref qn, .int 0, .ref qv, .ref qi])), (qs, .inl (cs, 36, .inr (.inr (.inr (.inr (fs)))))), (q0, .inr (9, [.int 5, .int 0, .int 0, .int (-1), .int 0])), (rn, .inr (8, [.ref pn, .ref qi2, .int 0, .ref qm, .ref qw, .ref qh, .ref qd, .ref qk, .int 0, .int 0, .int 0, .int 0, .int 0])), (qi2, .inr (1, [.ref qr, .int 0, .int 0])), (qr, .inl (cr, 20, .inl (fun _ => 0)))])) (tw_Q "java/lang/IndexOutOfBoundsException" (va_A [(x, .inr (0, [.ref ql, .int 0, .ref rd, .ref rn, .int 0])), (ql, .inl (cl, 72, .inl (fun _ => 0))), (rd, .inr (7, [.ref qt, .int 0, .int 0, .ref pr])), (pr, .inr (6, [.ref qs, .int 0, .ref qn, .int 0, .ref qv, .ref qi])), (qs, .inl (cs, 36, .inr (.inr (.inr (.inr (fs)))))), (q0, .inr (9, [.int 5, .int 0, .int 0, .int (-1), .int 0])), (rn, .inr (8, [.ref pn, .ref qi2, .int 0, .ref qm, .ref qw, .ref qh, .ref qd, .ref qk, .int 0, .int 0, .int 0, .int 0, .int 0])), (qi2, .inr (1, [.ref qr, .int 0, .int 0])), (qr, .inl (cr, 20, .inl (fun _ => 0)))] sz)) 1 6 (va_A [(x, .inr (0, [.ref ql, .int 0, .ref rd, .ref rn, .int 0])), (ql, .inl (cl, 72, .inl (fun _ => 0))), (rd, .inr (7, [.ref qt, .int 0, .int 0, .ref pr])), (pr, .inr (6, [.ref qs, .int 0, .ref qn, .int 0, .ref qv, .ref qi])), (qs, .inl (cs, 36, .inr (.inr (.inr (.inr (fs)))))), (q0, .inr (9, [.int 5, .int 0, .int 0, .int (-1), .int 0])), (rn, .inr (8, [.ref pn, .ref qi2, .int 0, .ref qm, .ref qw, .ref qh, .ref qd, .ref qk, .int 0, .int 0, .int 0, .int 0, .int 0])), (qi2, .inr (1, [.ref qr, .int 0, .int 0])), (qr, .inl (cr, 20, .inl (fun _ => 0)))] sz) := by
  refine tw_ofW (cc := prog_1_method_10_code) (maxL := 3) (ret := (some .int)) (by decide) rfl ?_
  intro p e s m args below meth c s₁ B hml hno hv
  obtain ⟨rfl, hsz, hB, hH, hP, hK, hD0⟩ := hv
  have hx := B.exec
  have hb := B.bytes
  have hr := B.returns
  have hown : s.vm.findClass "BigRunner" = some m.cls := findClass_of_methodNamed B.named
  have hlocks := B.notSynchronized
  subst hsz
  have hD := hD0.self (sz := s.heap.size)
  generalize hAe : va_A [(x, .inr (0, [.ref ql, .int 0, .ref rd, .ref rn, .int 0])), (ql, .inl (cl, 72, .inl (fun _ => 0))), (rd, .inr (7, [.ref qt, .int 0, .int 0, .ref pr])), (pr, .inr (6, [.ref qs, .int 0, .ref qn, .int 0, .ref qv, .ref qi])), (qs, .inl (cs, 36, .inr (.inr (.inr (.inr (fs)))))), (q0, .inr (9, [.int 5, .int 0, .int 0, .int (-1), .int 0])), (rn, .inr (8, [.ref pn, .ref qi2, .int 0, .ref qm, .ref qw, .ref qh, .ref qd, .ref qk, .int 0, .int 0, .int 0, .int 0, .int 0])), (qi2, .inr (1, [.ref qr, .int 0, .int 0])), (qr, .inl (cr, 20, .inl (fun _ => 0)))] s.heap.size = A at hD ⊢
  have hA : ∀ q : Nat, s.heap.size ≤ q → A q := fun q h => by rw [← hAe]; exact Or.inr h
  have hS : va_S A s.heap s.heap [] := va_S.rf
  have hP : va_P (dC, dI) vcl [(x, .inr (0, [.ref ql, .int 0, .ref rd, .ref rn, .int 0])), (ql, .inl (cl, 72, .inl (fun _ => 0))), (rd, .inr (7, [.ref qt, .int 0, .int 0, .ref pr])), (pr, .inr (6, [.ref qs, .int 0, .ref qn, .int 0, .ref qv, .ref qi])), (qs, .inl (cs, 36, .inr (.inr (.inr (.inr (fs)))))), (q0, .inr (9, [.int 5, .int 0, .int 0, .int (-1), .int 0])), (rn, .inr (8, [.ref pn, .ref qi2, .int 0, .ref qm, .ref qw, .ref qh, .ref qd, .ref qk, .int 0, .int 0, .int 0, .int 0, .int 0])), (qi2, .inr (1, [.ref qr, .int 0, .int 0])), (qr, .inl (cr, 20, .inl (fun _ => 0)))] s.heap := hP
  have hl := lv_entry ([.ref x, .int k, .int g]) (n := 3) (Nat.le_of_ble_eq_true rfl)
  rw [lg_entry_eq]
  generalize (lg_sl ([.ref x, .int k, .int g]) ++ List.replicate (3 - (lg_sl ([.ref x, .int k, .int g])).length) Slot.unset).toArray = ls at hl ⊢
  have hl : lv_has ls 3 [(0, .ref x), (1, .int k), (2, .int g)] := hl
  have hP0 := hP
  refine lv_aload_n hx hb d_B_variable_0 rfl (lv_at hl 0 rfl) ?_
  refine lv_iload_n hx hb d_B_variable_1 rfl (lv_at hl 1 rfl) ?_
  have hPc := hP.sub (ws' := [(x, .inr (0, [.ref ql, .int 0, .ref rd, .ref rn, .int 0])), (ql, .inl (cl, 72, .inl (fun _ => 0))), (rd, .inr (7, [.ref qt, .int 0, .int 0, .ref pr])), (pr, .inr (6, [.ref qs, .int 0, .ref qn, .int 0, .ref qv, .ref qi])), (qs, .inl (cs, 36, .inr (.inr (.inr (.inr (fs)))))), (q0, .inr (9, [.int 5, .int 0, .int 0, .int (-1), .int 0])), (rn, .inr (8, [.ref pn, .ref qi2, .int 0, .ref qm, .ref qw, .ref qh, .ref qd, .ref qk, .int 0, .int 0, .int 0, .int 0, .int 0])), (qi2, .inr (1, [.ref qr, .int 0, .int 0])), (qr, .inl (cr, 20, .inl (fun _ => 0)))]) [0, 1, 2, 3, 4, 5, 6, 7, 8] rfl
  have hDc := hD.sub (ws' := [(x, .inr (0, [.ref ql, .int 0, .ref rd, .ref rn, .int 0])), (ql, .inl (cl, 72, .inl (fun _ => 0))), (rd, .inr (7, [.ref qt, .int 0, .int 0, .ref pr])), (pr, .inr (6, [.ref qs, .int 0, .ref qn, .int 0, .ref qv, .ref qi])), (qs, .inl (cs, 36, .inr (.inr (.inr (.inr (fs)))))), (q0, .inr (9, [.int 5, .int 0, .int 0, .int (-1), .int 0])), (rn, .inr (8, [.ref pn, .ref qi2, .int 0, .ref qm, .ref qw, .ref qh, .ref qd, .ref qk, .int 0, .int 0, .int 0, .int 0, .int 0])), (qi2, .inr (1, [.ref qr, .int 0, .int 0])), (qr, .inl (cr, 20, .inl (fun _ => 0)))]) [0, 1, 2, 3, 4, 5, 6, 7, 8] (by decide) rfl
  have hKc := hK.sub (tys' := [(cl, .char), (cs, (.object "BigRunner$Statement")), (cr, .int)]) [0, 1, 2] rfl
  have hFc := va_free (wc := [(x, .inr (0, [.ref ql, .int 0, .ref rd, .ref rn, .int 0])), (ql, .inl (cl, 72, .inl (fun _ => 0))), (rd, .inr (7, [.ref qt, .int 0, .int 0, .ref pr])), (pr, .inr (6, [.ref qs, .int 0, .ref qn, .int 0, .ref qv, .ref qi])), (qs, .inl (cs, 36, .inr (.inr (.inr (.inr (fs)))))), (q0, .inr (9, [.int 5, .int 0, .int 0, .int (-1), .int 0])), (rn, .inr (8, [.ref pn, .ref qi2, .int 0, .ref qm, .ref qw, .ref qh, .ref qd, .ref qk, .int 0, .int 0, .int 0, .int 0, .int 0])), (qi2, .inr (1, [.ref qr, .int 0, .int 0])), (qr, .inl (cr, 20, .inl (fun _ => 0)))]) hD hS hA [0, 1, 2, 3, 4, 5, 6, 7, 8] rfl
  refine va_calli (va_runV (C := "BigRunner") (As := [.int k]) (rest := []) ⟨hx, hb, hml, hown, tb_nil⟩ (c_B_hasVariable l dC dI s.heap.size x ql cl rd rn qt pr qs cs fs q0 qn qv qi pn qi2 qm qw qh qd qk qr cr k) ⟨(callB_of 1 (tb_one (wd_436 hB _)) tb_good1 rfl rfl rfl (wd_72 hB _) (wd_433 hB _) (by decide +kernel) ⟨Nat.le_of_ble_eq_true rfl, Nat.le_of_ble_eq_true rfl⟩), (wd_435 hB _), (wd_1 hB _)⟩ ⟨fun a U g mk q => by obtain ⟨q0, q1, qB, qP, qK, qD⟩ := q; exact ⟨q0, q1, TB.same (s := U) (U := U.calling g mk a) rfl qB, qP, va_K.moved (u := U) (U := U.calling g mk a) (Vm.Alike.refl U.vm) qK, qD⟩, va_recv hK hP (q0 := 0) (ci := 0) rfl rfl, fun U hU hW => ⟨rfl, by rw [hU], hB.moved hW, by rw [hU]; exact hPc, va_K.moved hW.alike hKc, hDc.weaken (fun _ _ _ _ => trivial)⟩⟩ rfl rfl hl.1 rfl (lv_room (Nat.le_of_ble_eq_true rfl)) d_B_variable_2 ⟨(Nat.le_of_ble_eq_true rfl), (Nat.le_of_ble_eq_true rfl)⟩) hS (fun q _ h => hFc q h) hFc (fun r_ u_ t H1 locs ht hvm hw_ hB1 hz1 hk1 hS => ?_)
  obtain ⟨hP1, hK1, hD1⟩ := hB1
  rw [ht] at hP1
  have hK1 := va_K.moved hvm.symm hK1
  try dsimp only at hw_
  obtain ⟨hP, hD⟩ := va_join (wr := []) (w1 := []) hP hD [0, 1, 2, 3, 4, 5, 6, 7, 8] [] rfl rfl (by decide) (by decide) hk1 hFc hP1 hD1
  have hK := (hK.sub (tys' := []) [] rfl).app hK1
  clear hk1 hFc hPc hDc hKc hP1 hD1 hK1 hz1 ht hvm
  generalize H1 = H at hP hS ⊢
  have hP : va_P (dC, dI) vcl [] H := hP
  have hD : va_D A [] := hD
  have hK : va_K (dC, dI) vcl [] s := hK
  refine W.widen (k := 0) (n := 0) (by omega) (by omega) ?_
  subst hw_
  refine lv_if_eq (tgt := 14) hx hb d_B_variable_5 (by decide) (fun _ => ?_) (fun hq => absurd rfl hq)
  exact tw_throw (names := ["java/lang/RuntimeException", "java/lang/Exception"]) (text := "no such variable or part of it") hx hb (hl.1.trans hml.symm) hlocks hno htr hown (wd_888 hB _) (wd_889 hB _) (wd_94 hB _) (wd_913 hB _) (by decide +kernel) (by decide +kernel) (oa_2 hB hH _) hS (by rw [← hAe]; exact tw_nostat hP0) (fun _ h => h) d_B_variable_14 d_B_variable_17 d_B_variable_18 d_B_variable_20 d_B_variable_23 (Nat.le_of_ble_eq_true rfl) (Nat.le_of_ble_eq_true rfl) (Nat.le_of_ble_eq_true rfl) (Nat.le_of_ble_eq_true rfl) (fun t a ce h1 h2 h3 h4 => ⟨a, ce, rfl, h1, h2, h3, h4⟩)
set_option maxHeartbeats 4000000 in
set_option maxRecDepth 100000 in
theorem c_B_output (l : Launch) (dC : Nat → ClassId) (dI : Nat → Nat → Nat) (sz : Nat) (x : Nat) (ql : Nat) (cl : ClassId) (rd : Nat) (rn : Nat) (qt : Nat) (pr : Nat) (qs : Nat) (cs : ClassId) (fs : Nat → Option Nat) (q0 : Nat) (qn : Nat) (qv : Nat) (qi : Nat) (pn : Nat) (qi2 : Nat) (qm : Nat) (qw : Nat) (qh : Nat) (qd : Nat) (qk : Nat) (qr : Nat) (cr : ClassId) (k : Int32) (g : Int32) (htr : l.stackTraces = false) : tw_Met l ⟨"BigRunner", "output", "(II)I"⟩ [Cond.code ⟨"BigRunner", "output", "(II)I"⟩ prog_1_method_11_code 3 (some .int)] ({ frames := 6, cells := 1, slots := 6, locals := 120 }) (va_Pc [.ref x, .int k, .int g] (fun U => U.heap.size = sz ∧ TB U ∧ TH U ∧ va_P (dC, dI) vcl [(x, .inr (0, [.ref ql, .int 0, .ref rd, .ref rn, .int 0])), (ql, .inl (cl, 72, .inl (fun _ => 0))), (rd, .inr (7, [.ref qt, .int 0, .int 0, .ref pr])), (pr, .inr (6, [.ref qs, .int 0, .ref qn, .int 0, .ref qv, .ref qi])), (qs, .inl (cs, 36, .inr (.inr (.inr (.inr (fs)))))), (q0, .inr (9, [.int 5, .int 0, .int 0, .int (-1), .int 0])), (rn, .inr (8, [.ref pn, .ref qi2, .int 0, .ref qm, .ref qw, .ref qh, .ref qd, .ref qk, .int 0, .int 0, .int 0, .int 0, .int 0])), (qi2, .inr (1, [.ref qr, .int 0, .int 0])), (qr, .inl (cr, 20, .inl (fun _ => 0)))] U.heap ∧ va_K (dC, dI) vcl [(cl, .char), (cs, (.object "BigRunner$Statement")), (cr, .int)] U ∧ va_D (fun _ => True) [(x, .inr (0, [.ref ql, .int 0, .ref rd, .ref rn, .int 0])), (ql, .inl (cl, 72, .inl (fun _ => 0))), (rd, .inr (7, [.ref qt, .int 0, .int 0, .ref pr])), (pr, .inr (6, [.ref qs, .int 0, .ref qn, .int 0, .ref qv, .ref qi])), (qs, .inl (cs, 36, .inr (.inr (.inr (.inr (fs)))))), (q0, .inr (9, [.int 5, .int 0, .int 0, .int (-1), .int 0])), (rn, .inr (8, [.ref pn, .ref qi2, .int 0, .ref qm, .ref qw, .ref qh, .ref qd, .ref qk, .int 0, .int 0, .int 0, .int 0, .int 0])), (qi2, .inr (1, [.ref qr, .int 0, .int 0])), (qr, .inl (cr, 20, .inl (fun _ => 0)))])) (tw_Q "java/lang/IndexOutOfBoundsException" (va_A [(x, .inr (0, [.ref ql, .int 0, .ref rd, .ref rn, .int 0])), (ql, .inl (cl, 72, .inl (fun _ => 0))), (rd, .inr (7, [.ref qt, .int 0, .int 0, .ref pr])), (pr, .inr (6, [.ref qs, .int 0, .ref qn, .int 0, .ref qv, .ref qi])), (qs, .inl (cs, 36, .inr (.inr (.inr (.inr (fs)))))), (q0, .inr (9, [.int 5, .int 0, .int 0, .int (-1), .int 0])), (rn, .inr (8, [.ref pn, .ref qi2, .int 0, .ref qm, .ref qw, .ref qh, .ref qd, .ref qk, .int 0, .int 0, .int 0, .int 0, .int 0])), (qi2, .inr (1, [.ref qr, .int 0, .int 0])), (qr, .inl (cr, 20, .inl (fun _ => 0)))] sz)) 1 6 (va_A [(x, .inr (0, [.ref ql, .int 0, .ref rd, .ref rn, .int 0])), (ql, .inl (cl, 72, .inl (fun _ => 0))), (rd, .inr (7, [.ref qt, .int 0, .int 0, .ref pr])), (pr, .inr (6, [.ref qs, .int 0, .ref qn, .int 0, .ref qv, .ref qi])), (qs, .inl (cs, 36, .inr (.inr (.inr (.inr (fs)))))), (q0, .inr (9, [.int 5, .int 0, .int 0, .int (-1), .int 0])), (rn, .inr (8, [.ref pn, .ref qi2, .int 0, .ref qm, .ref qw, .ref qh, .ref qd, .ref qk, .int 0, .int 0, .int 0, .int 0, .int 0])), (qi2, .inr (1, [.ref qr, .int 0, .int 0])), (qr, .inl (cr, 20, .inl (fun _ => 0)))] sz) := by
  refine tw_ofW (cc := prog_1_method_11_code) (maxL := 3) (ret := (some .int)) (by decide) rfl ?_
  intro p e s m args below meth c s₁ B hml hno hv
  obtain ⟨rfl, hsz, hB, hH, hP, hK, hD0⟩ := hv
  have hx := B.exec
  have hb := B.bytes
  have hr := B.returns
  have hown : s.vm.findClass "BigRunner" = some m.cls := findClass_of_methodNamed B.named
  have hlocks := B.notSynchronized
  subst hsz
  have hD := hD0.self (sz := s.heap.size)
  generalize hAe : va_A [(x, .inr (0, [.ref ql, .int 0, .ref rd, .ref rn, .int 0])), (ql, .inl (cl, 72, .inl (fun _ => 0))), (rd, .inr (7, [.ref qt, .int 0, .int 0, .ref pr])), (pr, .inr (6, [.ref qs, .int 0, .ref qn, .int 0, .ref qv, .ref qi])), (qs, .inl (cs, 36, .inr (.inr (.inr (.inr (fs)))))), (q0, .inr (9, [.int 5, .int 0, .int 0, .int (-1), .int 0])), (rn, .inr (8, [.ref pn, .ref qi2, .int 0, .ref qm, .ref qw, .ref qh, .ref qd, .ref qk, .int 0, .int 0, .int 0, .int 0, .int 0])), (qi2, .inr (1, [.ref qr, .int 0, .int 0])), (qr, .inl (cr, 20, .inl (fun _ => 0)))] s.heap.size = A at hD ⊢
  have hA : ∀ q : Nat, s.heap.size ≤ q → A q := fun q h => by rw [← hAe]; exact Or.inr h
  have hS : va_S A s.heap s.heap [] := va_S.rf
  have hP : va_P (dC, dI) vcl [(x, .inr (0, [.ref ql, .int 0, .ref rd, .ref rn, .int 0])), (ql, .inl (cl, 72, .inl (fun _ => 0))), (rd, .inr (7, [.ref qt, .int 0, .int 0, .ref pr])), (pr, .inr (6, [.ref qs, .int 0, .ref qn, .int 0, .ref qv, .ref qi])), (qs, .inl (cs, 36, .inr (.inr (.inr (.inr (fs)))))), (q0, .inr (9, [.int 5, .int 0, .int 0, .int (-1), .int 0])), (rn, .inr (8, [.ref pn, .ref qi2, .int 0, .ref qm, .ref qw, .ref qh, .ref qd, .ref qk, .int 0, .int 0, .int 0, .int 0, .int 0])), (qi2, .inr (1, [.ref qr, .int 0, .int 0])), (qr, .inl (cr, 20, .inl (fun _ => 0)))] s.heap := hP
  have hl := lv_entry ([.ref x, .int k, .int g]) (n := 3) (Nat.le_of_ble_eq_true rfl)
  rw [lg_entry_eq]
  generalize (lg_sl ([.ref x, .int k, .int g]) ++ List.replicate (3 - (lg_sl ([.ref x, .int k, .int g])).length) Slot.unset).toArray = ls at hl ⊢
  have hl : lv_has ls 3 [(0, .ref x), (1, .int k), (2, .int g)] := hl
  have hP0 := hP
  refine lv_iload_n hx hb d_B_output_0 rfl (lv_at hl 1 rfl) ?_
  refine lv_if_lt (tgt := 21) hx hb d_B_output_1 (by decide) (fun h1 => ?_) (fun h1 => ?_)
  · skip
    exact tw_throw (names := ["java/lang/RuntimeException", "java/lang/Exception"]) (text := "no such output or part of it") hx hb (hl.1.trans hml.symm) hlocks hno htr hown (wd_888 hB _) (wd_889 hB _) (wd_94 hB _) (wd_940 hB _) (by decide +kernel) (by decide +kernel) (oa_2 hB hH _) hS (by rw [← hAe]; exact tw_nostat hP0) (fun _ h => h) d_B_output_21 d_B_output_24 d_B_output_25 d_B_output_27 d_B_output_30 (Nat.le_of_ble_eq_true rfl) (Nat.le_of_ble_eq_true rfl) (Nat.le_of_ble_eq_true rfl) (Nat.le_of_ble_eq_true rfl) (fun t a ce h1 h2 h3 h4 => ⟨a, ce, rfl, h1, h2, h3, h4⟩)
  · skip
    refine lv_iload_n hx hb d_B_output_4 rfl (lv_at hl 1 rfl) ?_
    refine lv_aload_n hx hb d_B_output_5 rfl (lv_at hl 0 rfl) ?_
    refine va_get (D := (dC, dI)) (ci := 0) (v := .ref rn) (C := "BigRunner") (T := FT0) (N := 5) hx hb (hw0 hB _) (fun _ h9 => h9) hown hK hP 0 rfl rfl 3 (by decide) (wd_381 hB _) (fun _ h9 => h9) rfl d_B_output_6 ?_
    have hPc := hP.sub (ws' := [(rn, .inr (8, [.ref pn, .ref qi2, .int 0, .ref qm, .ref qw, .ref qh, .ref qd, .ref qk, .int 0, .int 0, .int 0, .int 0, .int 0]))]) [6] rfl
    have hDc := hD.sub (ws' := [(rn, .inr (8, [.ref pn, .ref qi2, .int 0, .ref qm, .ref qw, .ref qh, .ref qd, .ref qk, .int 0, .int 0, .int 0, .int 0, .int 0]))]) [6] (by decide) rfl
    have hKc := hK.sub (tys' := []) [] rfl
    have hFc := va_free (wc := [(rn, .inr (8, [.ref pn, .ref qi2, .int 0, .ref qm, .ref qw, .ref qh, .ref qd, .ref qk, .int 0, .int 0, .int 0, .int 0, .int 0]))]) hD hS hA [6] rfl
    refine va_calli (va_runV (C := "BigRunner$Runner") (As := []) (rest := [.int k]) ⟨hx, hb, hml, hown, tb_nil⟩ (c_Rn_keptOutputs l dC dI s.heap.size rn pn qi2 qm qw qh qd qk) ⟨(callB_of 0 (tb_one (wd_938 hB _)) tb_good1 rfl rfl rfl (wd_79 hB _) (wd_935 hB _) (by decide +kernel) ⟨Nat.le_of_ble_eq_true rfl, Nat.le_of_ble_eq_true rfl⟩), (wd_936 hB _), (wd_937 hB _)⟩ ⟨fun a U g mk q => by obtain ⟨q0, q1, qB, qP, qK, qD⟩ := q; exact ⟨q0, q1, TB.same (s := U) (U := U.calling g mk a) rfl qB, qP, va_K.moved (u := U) (U := U.calling g mk a) (Vm.Alike.refl U.vm) qK, qD⟩, va_recv hK hP (q0 := 6) (ci := 8) rfl rfl, fun U hU hW => ⟨rfl, by rw [hU], hB.moved hW, by rw [hU]; exact hPc, va_K.moved hW.alike hKc, hDc.weaken (fun _ _ _ _ => trivial)⟩⟩ rfl rfl hl.1 rfl (lv_room (Nat.le_of_ble_eq_true rfl)) d_B_output_9 ⟨(Nat.le_of_ble_eq_true rfl), (Nat.le_of_ble_eq_true rfl)⟩) hS (fun q _ h => hFc q h) hFc (fun r_ u_ t H1 locs ht hvm hw_ hB1 hz1 hk1 hS => ?_)
    obtain ⟨hP1, hK1, hD1⟩ := hB1
    rw [ht] at hP1
    have hK1 := va_K.moved hvm.symm hK1
    try dsimp only at hw_
    obtain ⟨hP, hD⟩ := va_join (wr := [(x, .inr (0, [.ref ql, .int 0, .ref rd, .ref rn, .int 0])), (ql, .inl (cl, 72, .inl (fun _ => 0))), (rd, .inr (7, [.ref qt, .int 0, .int 0, .ref pr])), (pr, .inr (6, [.ref qs, .int 0, .ref qn, .int 0, .ref qv, .ref qi])), (qs, .inl (cs, 36, .inr (.inr (.inr (.inr (fs)))))), (q0, .inr (9, [.int 5, .int 0, .int 0, .int (-1), .int 0])), (qi2, .inr (1, [.ref qr, .int 0, .int 0])), (qr, .inl (cr, 20, .inl (fun _ => 0)))]) (w1 := []) hP hD [6] [0, 1, 2, 3, 4, 5, 7, 8] rfl rfl (by decide) (by decide) hk1 hFc hP1 hD1
    have hK := (hK.sub (tys' := [(cl, .char), (cs, (.object "BigRunner$Statement")), (cr, .int)]) [0, 1, 2] rfl).app hK1
    clear hk1 hFc hPc hDc hKc hP1 hD1 hK1 hz1 ht hvm
    generalize H1 = H at hP hS ⊢
    have hP : va_P (dC, dI) vcl [(x, .inr (0, [.ref ql, .int 0, .ref rd, .ref rn, .int 0])), (ql, .inl (cl, 72, .inl (fun _ => 0))), (rd, .inr (7, [.ref qt, .int 0, .int 0, .ref pr])), (pr, .inr (6, [.ref qs, .int 0, .ref qn, .int 0, .ref qv, .ref qi])), (qs, .inl (cs, 36, .inr (.inr (.inr (.inr (fs)))))), (q0, .inr (9, [.int 5, .int 0, .int 0, .int (-1), .int 0])), (qi2, .inr (1, [.ref qr, .int 0, .int 0])), (qr, .inl (cr, 20, .inl (fun _ => 0)))] H := hP
    have hD : va_D A [(x, .inr (0, [.ref ql, .int 0, .ref rd, .ref rn, .int 0])), (ql, .inl (cl, 72, .inl (fun _ => 0))), (rd, .inr (7, [.ref qt, .int 0, .int 0, .ref pr])), (pr, .inr (6, [.ref qs, .int 0, .ref qn, .int 0, .ref qv, .ref qi])), (qs, .inl (cs, 36, .inr (.inr (.inr (.inr (fs)))))), (q0, .inr (9, [.int 5, .int 0, .int 0, .int (-1), .int 0])), (qi2, .inr (1, [.ref qr, .int 0, .int 0])), (qr, .inl (cr, 20, .inl (fun _ => 0)))] := hD
    have hK : va_K (dC, dI) vcl [(cl, .char), (cs, (.object "BigRunner$Statement")), (cr, .int)] s := hK
    refine W.widen (k := 0) (n := 0) (by omega) (by omega) ?_
    subst hw_
    refine lv_icmp_ge (tgt := 21) hx hb d_B_output_12 (by decide) (fun h2 => ?_) (fun h2 => ?_)
    · skip
      exact tw_throw (names := ["java/lang/RuntimeException", "java/lang/Exception"]) (text := "no such output or part of it") hx hb (hl.1.trans hml.symm) hlocks hno htr hown (wd_888 hB _) (wd_889 hB _) (wd_94 hB _) (wd_940 hB _) (by decide +kernel) (by decide +kernel) (oa_2 hB hH _) hS (by rw [← hAe]; exact tw_nostat hP0) (fun _ h => h) d_B_output_21 d_B_output_24 d_B_output_25 d_B_output_27 d_B_output_30 (Nat.le_of_ble_eq_true rfl) (Nat.le_of_ble_eq_true rfl) (Nat.le_of_ble_eq_true rfl) (Nat.le_of_ble_eq_true rfl) (fun t a ce h1 h2 h3 h4 => ⟨a, ce, rfl, h1, h2, h3, h4⟩)
    · skip
      exact absurd (Int32.not_lt.mp h1) h2
end
section
theorem wd_449 {U : State} (h : TB U) (args : Array Value) : (Cond.classLink "BigRunnerLaw" 13 "java/lang/IllegalArgumentException").before args U = true := h.w 449 (by decide +kernel) rfl args
theorem wd_450 {U : State} (h : TB U) (args : Array Value) : (Cond.methodLink "BigRunnerLaw" 7 ⟨"BigRunner", "load", "()I"⟩).before args U = true := h.w 450 (by decide +kernel) rfl args
theorem wd_451 {U : State} (h : TB U) (args : Array Value) : (Cond.instanceMethod ⟨"BigRunner", "load", "()I"⟩).before args U = true := h.w 451 (by decide +kernel) rfl args
theorem wd_452 {U : State} (h : TB U) (args : Array Value) : (Cond.selects "BigRunner" ⟨"BigRunner", "load", "()I"⟩ ⟨"BigRunner", "load", "()I"⟩).before args U = true := h.w 452 (by decide +kernel) rfl args
theorem wd_453 {U : State} (h : TB U) (args : Array Value) : (Cond.code ⟨"BigRunner", "load", "()I"⟩ prog_1_method_4_code 3 (some .int)).before args U = true := h.w 453 (by decide +kernel) rfl args
theorem wd_689 {U : State} (h : TB U) (args : Array Value) : (Cond.classLink "BigRunnerLaw" 19 "java/lang/IllegalStateException").before args U = true := h.w 689 (by decide +kernel) rfl args
theorem wd_692 {U : State} (h : TB U) (args : Array Value) : (Cond.methodLink "BigRunnerLaw" 15 ⟨"BigRunner", "run", "(I)I"⟩).before args U = true := h.w 692 (by decide +kernel) rfl args
theorem wd_693 {U : State} (h : TB U) (args : Array Value) : (Cond.instanceMethod ⟨"BigRunner", "run", "(I)I"⟩).before args U = true := h.w 693 (by decide +kernel) rfl args
theorem wd_694 {U : State} (h : TB U) (args : Array Value) : (Cond.selects "BigRunner" ⟨"BigRunner", "run", "(I)I"⟩ ⟨"BigRunner", "run", "(I)I"⟩).before args U = true := h.w 694 (by decide +kernel) rfl args
theorem wd_695 {U : State} (h : TB U) (args : Array Value) : (Cond.code ⟨"BigRunner", "run", "(I)I"⟩ prog_1_method_6_code 3 (some .int)).before args U = true := h.w 695 (by decide +kernel) rfl args
theorem wd_883 {U : State} (h : TB U) (args : Array Value) : (Cond.classLink "BigRunnerLaw" 29 "java/lang/IndexOutOfBoundsException").before args U = true := h.w 883 (by decide +kernel) rfl args
theorem wd_884 {U : State} (h : TB U) (args : Array Value) : (Cond.methodLink "BigRunnerLaw" 25 ⟨"BigRunner", "bound", "(IZ)J"⟩).before args U = true := h.w 884 (by decide +kernel) rfl args
theorem wd_885 {U : State} (h : TB U) (args : Array Value) : (Cond.instanceMethod ⟨"BigRunner", "bound", "(IZ)J"⟩).before args U = true := h.w 885 (by decide +kernel) rfl args
theorem wd_886 {U : State} (h : TB U) (args : Array Value) : (Cond.selects "BigRunner" ⟨"BigRunner", "bound", "(IZ)J"⟩ ⟨"BigRunner", "bound", "(IZ)J"⟩).before args U = true := h.w 886 (by decide +kernel) rfl args
theorem wd_887 {U : State} (h : TB U) (args : Array Value) : (Cond.code ⟨"BigRunner", "bound", "(IZ)J"⟩ prog_1_method_8_code 6 (some .long)).before args U = true := h.w 887 (by decide +kernel) rfl args
theorem wd_909 {U : State} (h : TB U) (args : Array Value) : (Cond.methodLink "BigRunnerLaw" 31 ⟨"BigRunner", "variable", "(II)I"⟩).before args U = true := h.w 909 (by decide +kernel) rfl args
theorem wd_910 {U : State} (h : TB U) (args : Array Value) : (Cond.instanceMethod ⟨"BigRunner", "variable", "(II)I"⟩).before args U = true := h.w 910 (by decide +kernel) rfl args
theorem wd_911 {U : State} (h : TB U) (args : Array Value) : (Cond.selects "BigRunner" ⟨"BigRunner", "variable", "(II)I"⟩ ⟨"BigRunner", "variable", "(II)I"⟩).before args U = true := h.w 911 (by decide +kernel) rfl args
theorem wd_912 {U : State} (h : TB U) (args : Array Value) : (Cond.code ⟨"BigRunner", "variable", "(II)I"⟩ prog_1_method_10_code 3 (some .int)).before args U = true := h.w 912 (by decide +kernel) rfl args
theorem wd_931 {U : State} (h : TB U) (args : Array Value) : (Cond.methodLink "BigRunnerLaw" 35 ⟨"BigRunner", "output", "(II)I"⟩).before args U = true := h.w 931 (by decide +kernel) rfl args
theorem wd_932 {U : State} (h : TB U) (args : Array Value) : (Cond.instanceMethod ⟨"BigRunner", "output", "(II)I"⟩).before args U = true := h.w 932 (by decide +kernel) rfl args
theorem wd_933 {U : State} (h : TB U) (args : Array Value) : (Cond.selects "BigRunner" ⟨"BigRunner", "output", "(II)I"⟩ ⟨"BigRunner", "output", "(II)I"⟩).before args U = true := h.w 933 (by decide +kernel) rfl args
theorem wd_934 {U : State} (h : TB U) (args : Array Value) : (Cond.code ⟨"BigRunner", "output", "(II)I"⟩ prog_1_method_11_code 3 (some .int)).before args U = true := h.w 934 (by decide +kernel) rfl args
theorem d_L_bound_0 : decode method_5_code 0 = .ok (.aload_n 3, 1) := by decide +kernel
theorem d_L_bound_1 : decode method_5_code 1 = .ok (.iconst 0, 1) := by decide +kernel
theorem d_L_bound_2 : decode method_5_code 2 = .ok (.aload_n 0, 1) := by decide +kernel
theorem d_L_bound_3 : decode method_5_code 3 = .ok (.iload_n 1, 1) := by decide +kernel
theorem d_L_bound_4 : decode method_5_code 4 = .ok (.iload_n 2, 1) := by decide +kernel
theorem d_L_bound_5 : decode method_5_code 5 = .ok (.invokevirtual 25, 3) := by decide +kernel
theorem d_L_bound_12 : decode method_5_code 12 = .ok (.astore 4, 2) := by decide +kernel
theorem d_L_bound_14 : decode method_5_code 14 = .ok (.iconst 1, 1) := by decide +kernel
theorem d_L_bound_15 : decode method_5_code 15 = .ok (.ireturn, 1) := by decide +kernel
theorem d_L_load_0 : decode method_3_code 0 = .ok (.aload_n 1, 1) := by decide +kernel
theorem d_L_load_1 : decode method_3_code 1 = .ok (.iconst 0, 1) := by decide +kernel
theorem d_L_load_2 : decode method_3_code 2 = .ok (.aload_n 0, 1) := by decide +kernel
theorem d_L_load_3 : decode method_3_code 3 = .ok (.invokevirtual 7, 3) := by decide +kernel
theorem d_L_load_11 : decode method_3_code 11 = .ok (.astore_n 2, 1) := by decide +kernel
theorem d_L_load_12 : decode method_3_code 12 = .ok (.iconst 1, 1) := by decide +kernel
theorem d_L_load_13 : decode method_3_code 13 = .ok (.ireturn, 1) := by decide +kernel
theorem d_L_output_0 : decode method_7_code 0 = .ok (.aload_n 3, 1) := by decide +kernel
theorem d_L_output_1 : decode method_7_code 1 = .ok (.iconst 0, 1) := by decide +kernel
theorem d_L_output_2 : decode method_7_code 2 = .ok (.aload_n 0, 1) := by decide +kernel
theorem d_L_output_3 : decode method_7_code 3 = .ok (.iload_n 1, 1) := by decide +kernel
theorem d_L_output_4 : decode method_7_code 4 = .ok (.iload_n 2, 1) := by decide +kernel
theorem d_L_output_5 : decode method_7_code 5 = .ok (.invokevirtual 35, 3) := by decide +kernel
theorem d_L_output_13 : decode method_7_code 13 = .ok (.astore 4, 2) := by decide +kernel
theorem d_L_output_15 : decode method_7_code 15 = .ok (.iconst 1, 1) := by decide +kernel
theorem d_L_output_16 : decode method_7_code 16 = .ok (.ireturn, 1) := by decide +kernel
theorem d_L_run_0 : decode method_4_code 0 = .ok (.aload_n 2, 1) := by decide +kernel
theorem d_L_run_1 : decode method_4_code 1 = .ok (.iconst 0, 1) := by decide +kernel
theorem d_L_run_2 : decode method_4_code 2 = .ok (.aload_n 0, 1) := by decide +kernel
theorem d_L_run_3 : decode method_4_code 3 = .ok (.iload_n 1, 1) := by decide +kernel
theorem d_L_run_4 : decode method_4_code 4 = .ok (.invokevirtual 15, 3) := by decide +kernel
theorem d_L_run_12 : decode method_4_code 12 = .ok (.astore_n 3, 1) := by decide +kernel
theorem d_L_run_13 : decode method_4_code 13 = .ok (.iconst 1, 1) := by decide +kernel
theorem d_L_run_14 : decode method_4_code 14 = .ok (.ireturn, 1) := by decide +kernel
theorem d_L_variable_0 : decode method_6_code 0 = .ok (.aload_n 3, 1) := by decide +kernel
theorem d_L_variable_1 : decode method_6_code 1 = .ok (.iconst 0, 1) := by decide +kernel
theorem d_L_variable_2 : decode method_6_code 2 = .ok (.aload_n 0, 1) := by decide +kernel
theorem d_L_variable_3 : decode method_6_code 3 = .ok (.iload_n 1, 1) := by decide +kernel
theorem d_L_variable_4 : decode method_6_code 4 = .ok (.iload_n 2, 1) := by decide +kernel
theorem d_L_variable_5 : decode method_6_code 5 = .ok (.invokevirtual 31, 3) := by decide +kernel
theorem d_L_variable_13 : decode method_6_code 13 = .ok (.astore 4, 2) := by decide +kernel
theorem d_L_variable_15 : decode method_6_code 15 = .ok (.iconst 1, 1) := by decide +kernel
theorem d_L_variable_16 : decode method_6_code 16 = .ok (.ireturn, 1) := by decide +kernel
end
section
set_option maxHeartbeats 4000000 in
set_option maxRecDepth 100000 in
theorem c_L_load (l : Launch) (dC : Nat → ClassId) (dI : Nat → Nat → Nat) (sz : Nat) (x : Nat) (ql : Nat) (cl : ClassId) (rd : Nat) (rn : Nat) (qt : Nat) (pr : Nat) (qs : Nat) (cs : ClassId) (fs : Nat → Option Nat) (q0 : Nat) (qn : Nat) (qv : Nat) (qi : Nat) (pn : Nat) (qi2 : Nat) (qm : Nat) (qw : Nat) (qh : Nat) (qd : Nat) (qk : Nat) (qr : Nat) (cr : ClassId) (ob : Nat) (hf : fs 0 = some q0) (htr : l.stackTraces = false) : Met l ⟨"BigRunnerLaw", "load", "(LBigRunner;[J)I"⟩ [Cond.codeWith ⟨"BigRunnerLaw", "load", "(LBigRunner;[J)I"⟩ method_3_code 3 (some .int) [(0, 8, 11, 13)]] ({ frames := 7, cells := 1, slots := 6, locals := 142 }) (va_Pc [.ref x, .ref ob] (fun U => U.heap.size = sz ∧ TB U ∧ TH U ∧ va_P (dC, dI) vcl [(x, .inr (0, [.ref ql, .int 0, .ref rd, .ref rn, .int 0])), (ql, .inl (cl, 72, .inl (fun _ => 0))), (rd, .inr (7, [.ref qt, .int 0, .int 0, .ref pr])), (pr, .inr (6, [.ref qs, .int 0, .ref qn, .int 0, .ref qv, .ref qi])), (qs, .inl (cs, 36, .inr (.inr (.inr (.inr (fs)))))), (q0, .inr (9, [.int 5, .int 0, .int 0, .int (-1), .int 0])), (rn, .inr (8, [.ref pn, .ref qi2, .int 0, .ref qm, .ref qw, .ref qh, .ref qd, .ref qk, .int 0, .int 0, .int 0, .int 0, .int 0])), (qi2, .inr (1, [.ref qr, .int 0, .int 0])), (qr, .inl (cr, 20, .inl (fun _ => 0)))] U.heap ∧ va_K (dC, dI) vcl [(cl, .char), (cs, (.object "BigRunner$Statement")), (cr, .int)] U ∧ va_D (fun _ => True) [(x, .inr (0, [.ref ql, .int 0, .ref rd, .ref rn, .int 0])), (ql, .inl (cl, 72, .inl (fun _ => 0))), (rd, .inr (7, [.ref qt, .int 0, .int 0, .ref pr])), (pr, .inr (6, [.ref qs, .int 0, .ref qn, .int 0, .ref qv, .ref qi])), (qs, .inl (cs, 36, .inr (.inr (.inr (.inr (fs)))))), (q0, .inr (9, [.int 5, .int 0, .int 0, .int (-1), .int 0])), (rn, .inr (8, [.ref pn, .ref qi2, .int 0, .ref qm, .ref qw, .ref qh, .ref qd, .ref qk, .int 0, .int 0, .int 0, .int 0, .int 0])), (qi2, .inr (1, [.ref qr, .int 0, .int 0])), (qr, .inl (cr, 20, .inl (fun _ => 0)))])) (va_Qi (fun (r : Int32) (u : Unit) => match u with | _ => r = 1) (fun (u : Unit) (t : State) => match u with | _ => va_P (dC, dI) vcl [] t.heap ∧ va_K (dC, dI) vcl [] t ∧ va_D (va_A [(x, .inr (0, [.ref ql, .int 0, .ref rd, .ref rn, .int 0])), (ql, .inl (cl, 72, .inl (fun _ => 0))), (rd, .inr (7, [.ref qt, .int 0, .int 0, .ref pr])), (pr, .inr (6, [.ref qs, .int 0, .ref qn, .int 0, .ref qv, .ref qi])), (qs, .inl (cs, 36, .inr (.inr (.inr (.inr (fs)))))), (q0, .inr (9, [.int 5, .int 0, .int 0, .int (-1), .int 0])), (rn, .inr (8, [.ref pn, .ref qi2, .int 0, .ref qm, .ref qw, .ref qh, .ref qd, .ref qk, .int 0, .int 0, .int 0, .int 0, .int 0])), (qi2, .inr (1, [.ref qr, .int 0, .int 0])), (qr, .inl (cr, 20, .inl (fun _ => 0)))] sz) []) (va_A [(x, .inr (0, [.ref ql, .int 0, .ref rd, .ref rn, .int 0])), (ql, .inl (cl, 72, .inl (fun _ => 0))), (rd, .inr (7, [.ref qt, .int 0, .int 0, .ref pr])), (pr, .inr (6, [.ref qs, .int 0, .ref qn, .int 0, .ref qv, .ref qi])), (qs, .inl (cs, 36, .inr (.inr (.inr (.inr (fs)))))), (q0, .inr (9, [.int 5, .int 0, .int 0, .int (-1), .int 0])), (rn, .inr (8, [.ref pn, .ref qi2, .int 0, .ref qm, .ref qw, .ref qh, .ref qd, .ref qk, .int 0, .int 0, .int 0, .int 0, .int 0])), (qi2, .inr (1, [.ref qr, .int 0, .int 0])), (qr, .inl (cr, 20, .inl (fun _ => 0)))] sz)) 1 6 (va_A [(x, .inr (0, [.ref ql, .int 0, .ref rd, .ref rn, .int 0])), (ql, .inl (cl, 72, .inl (fun _ => 0))), (rd, .inr (7, [.ref qt, .int 0, .int 0, .ref pr])), (pr, .inr (6, [.ref qs, .int 0, .ref qn, .int 0, .ref qv, .ref qi])), (qs, .inl (cs, 36, .inr (.inr (.inr (.inr (fs)))))), (q0, .inr (9, [.int 5, .int 0, .int 0, .int (-1), .int 0])), (rn, .inr (8, [.ref pn, .ref qi2, .int 0, .ref qm, .ref qw, .ref qh, .ref qd, .ref qk, .int 0, .int 0, .int 0, .int 0, .int 0])), (qi2, .inr (1, [.ref qr, .int 0, .int 0])), (qr, .inl (cr, 20, .inl (fun _ => 0)))] sz) := by
  refine tw_ofWith (by decide) ?_
  intro p e s m args below meth c s₁ B hml htab hv
  obtain ⟨rfl, hsz, hB, hH, hP, hK, hD0⟩ := hv
  have hx := B.exec
  have hb := B.bytes
  have hr := B.returns
  have hown : s.vm.findClass "BigRunnerLaw" = some m.cls := findClass_of_methodNamed B.named
  have hlocks := B.notSynchronized
  subst hsz
  have hD := hD0.self (sz := s.heap.size)
  generalize hAe : va_A [(x, .inr (0, [.ref ql, .int 0, .ref rd, .ref rn, .int 0])), (ql, .inl (cl, 72, .inl (fun _ => 0))), (rd, .inr (7, [.ref qt, .int 0, .int 0, .ref pr])), (pr, .inr (6, [.ref qs, .int 0, .ref qn, .int 0, .ref qv, .ref qi])), (qs, .inl (cs, 36, .inr (.inr (.inr (.inr (fs)))))), (q0, .inr (9, [.int 5, .int 0, .int 0, .int (-1), .int 0])), (rn, .inr (8, [.ref pn, .ref qi2, .int 0, .ref qm, .ref qw, .ref qh, .ref qd, .ref qk, .int 0, .int 0, .int 0, .int 0, .int 0])), (qi2, .inr (1, [.ref qr, .int 0, .int 0])), (qr, .inl (cr, 20, .inl (fun _ => 0)))] s.heap.size = A at hD ⊢
  have hA : ∀ q : Nat, s.heap.size ≤ q → A q := fun q h => by rw [← hAe]; exact Or.inr h
  have hS : va_S A s.heap s.heap [] := va_S.rf
  have hP : va_P (dC, dI) vcl [(x, .inr (0, [.ref ql, .int 0, .ref rd, .ref rn, .int 0])), (ql, .inl (cl, 72, .inl (fun _ => 0))), (rd, .inr (7, [.ref qt, .int 0, .int 0, .ref pr])), (pr, .inr (6, [.ref qs, .int 0, .ref qn, .int 0, .ref qv, .ref qi])), (qs, .inl (cs, 36, .inr (.inr (.inr (.inr (fs)))))), (q0, .inr (9, [.int 5, .int 0, .int 0, .int (-1), .int 0])), (rn, .inr (8, [.ref pn, .ref qi2, .int 0, .ref qm, .ref qw, .ref qh, .ref qd, .ref qk, .int 0, .int 0, .int 0, .int 0, .int 0])), (qi2, .inr (1, [.ref qr, .int 0, .int 0])), (qr, .inl (cr, 20, .inl (fun _ => 0)))] s.heap := hP
  have hl := lv_entry ([.ref x, .ref ob]) (n := 3) (Nat.le_of_ble_eq_true rfl)
  rw [lg_entry_eq]
  generalize (lg_sl ([.ref x, .ref ob]) ++ List.replicate (3 - (lg_sl ([.ref x, .ref ob])).length) Slot.unset).toArray = ls at hl ⊢
  have hl : lv_has ls 3 [(0, .ref x), (1, .ref ob)] := hl
  refine lv_aload_n hx hb d_L_load_0 rfl (lv_at hl 1 rfl) ?_
  refine lv_iconst (v := 0) hx hb d_L_load_1 (by decide) ?_
  refine lv_aload_n hx hb d_L_load_2 rfl (lv_at hl 0 rfl) ?_
  refine tw_callV (C := "BigRunner") (Cn := "java/lang/IllegalArgumentException") (b := x) (As := []) (rest := [.int 0, .ref ob]) (n := 0) (hd := ⟨0, 8, 11, 13⟩) hx hb hml hown (c_B_load l dC dI s.heap.size x ql cl rd rn qt pr qs cs fs q0 qn qv qi pn qi2 qm qw qh qd qk qr cr hf htr) (wd_453 hB _) (wd_72 hB _) (wd_450 hB _) (wd_451 hB _) (wd_452 hB _) (by decide +kernel) ⟨Nat.le_of_ble_eq_true rfl, Nat.le_of_ble_eq_true rfl⟩ rfl rfl ⟨fun a U g mk q => by obtain ⟨q0, q1, qB, qH, qP, qK, qD⟩ := q; exact ⟨q0, q1, TB.same (s := U) (U := U.calling g mk a) rfl qB, TH.moved (s := U) (U := U.calling g mk a) (Vm.Alike.refl U.vm) rfl qH, qP, va_K.moved (u := U) (U := U.calling g mk a) (Vm.Alike.refl U.vm) qK, qD⟩, va_recv hK hP (q0 := 0) (ci := 0) rfl rfl, fun U hU hW => ⟨rfl, by rw [hU], hB.moved hW, hH.moved hW.alike hU, by rw [hU]; exact hP, va_K.moved hW.alike hK, hD.weaken (fun _ _ _ _ => trivial)⟩⟩ rfl hl.1 (Nat.le_of_ble_eq_true rfl) d_L_load_3 ⟨Nat.le_of_ble_eq_true rfl, Nat.le_of_ble_eq_true rfl⟩ (htab.trans rfl) (by decide) (by decide) (wd_449 hB _) (fun a st o t h => by obtain ⟨x, ce, e1, e2, e3, e4, -⟩ := h; exact ⟨x, ce, e1, e2, e3, e4⟩) (fun xx st t L1 h1 hq hL => ?_)
  obtain ⟨-, -, -, -, -, -, hF⟩ := hq
  rw [hAe] at hF
  have hS : va_S A s.heap t.heap ([] ++ L1) := ⟨by rw [← h1]; exact hF.1, fun q h2 h3 => by rw [hF.2 q (by rw [h1]; exact h2) h3, h1], fun q hq => by rw [← hAe]; exact hL q hq⟩
  have hP : va_P (dC, dI) vcl [] t.heap := fun k q h => by simp at h
  have hD := hD.sub (ws' := []) [] (by decide) rfl
  have hK := hK.sub (tys' := []) [] rfl
  refine W.eq (g2 := F0 m 11 ls [.ref xx]) rfl ?_
  refine lv_astore_n (lv' := [(2, .ref xx), (0, .ref x), (1, .ref ob)]) hx hb d_L_load_11 rfl hl (by decide) rfl (fun ls hl => ?_)
  refine lv_iconst (v := 1) hx hb d_L_load_12 (by decide) ?_
  have hP9 := hP.sub (ws' := []) [] rfl
  have hD9 := hD.sub (ws' := []) [] (by decide) rfl
  have hK9 := hK.sub (tys' := []) [] rfl
  refine W.widen (k := 1) (n := 6) (by omega) (by omega) ?_
  exact W.iret (v := 1) hx hb hr (fun t ht hW => ⟨⟨1, (), rfl, rfl, by rw [ht]; exact hP9, va_K.moved hW.alike hK9, hD9⟩, hS.F ht⟩) hS.2.2 d_L_load_13
set_option maxHeartbeats 4000000 in
set_option maxRecDepth 100000 in
theorem c_L_run (l : Launch) (dC : Nat → ClassId) (dI : Nat → Nat → Nat) (sz : Nat) (x : Nat) (ql : Nat) (cl : ClassId) (rd : Nat) (rn : Nat) (qt : Nat) (pr : Nat) (qs : Nat) (cs : ClassId) (fs : Nat → Option Nat) (q0 : Nat) (qn : Nat) (qv : Nat) (qi : Nat) (pn : Nat) (qi2 : Nat) (qm : Nat) (qw : Nat) (qh : Nat) (qd : Nat) (qk : Nat) (qr : Nat) (cr : ClassId) (ob : Nat) (k : Int32) (htr : l.stackTraces = false) : Met l ⟨"BigRunnerLaw", "run", "(LBigRunner;I[J)I"⟩ [Cond.codeWith ⟨"BigRunnerLaw", "run", "(LBigRunner;I[J)I"⟩ method_4_code 4 (some .int) [(0, 9, 12, 19), (0, 9, 15, 13), (0, 9, 18, 21), (0, 9, 21, 23)]] ({ frames := 7, cells := 1, slots := 6, locals := 142 }) (va_Pc [.ref x, .int k, .ref ob] (fun U => U.heap.size = sz ∧ TB U ∧ TH U ∧ va_P (dC, dI) vcl [(x, .inr (0, [.ref ql, .int 0, .ref rd, .ref rn, .int 0])), (ql, .inl (cl, 72, .inl (fun _ => 0))), (rd, .inr (7, [.ref qt, .int 0, .int 0, .ref pr])), (pr, .inr (6, [.ref qs, .int 0, .ref qn, .int 0, .ref qv, .ref qi])), (qs, .inl (cs, 36, .inr (.inr (.inr (.inr (fs)))))), (q0, .inr (9, [.int 5, .int 0, .int 0, .int (-1), .int 0])), (rn, .inr (8, [.ref pn, .ref qi2, .int 0, .ref qm, .ref qw, .ref qh, .ref qd, .ref qk, .int 0, .int 0, .int 0, .int 0, .int 0])), (qi2, .inr (1, [.ref qr, .int 0, .int 0])), (qr, .inl (cr, 20, .inl (fun _ => 0)))] U.heap ∧ va_K (dC, dI) vcl [(cl, .char), (cs, (.object "BigRunner$Statement")), (cr, .int)] U ∧ va_D (fun _ => True) [(x, .inr (0, [.ref ql, .int 0, .ref rd, .ref rn, .int 0])), (ql, .inl (cl, 72, .inl (fun _ => 0))), (rd, .inr (7, [.ref qt, .int 0, .int 0, .ref pr])), (pr, .inr (6, [.ref qs, .int 0, .ref qn, .int 0, .ref qv, .ref qi])), (qs, .inl (cs, 36, .inr (.inr (.inr (.inr (fs)))))), (q0, .inr (9, [.int 5, .int 0, .int 0, .int (-1), .int 0])), (rn, .inr (8, [.ref pn, .ref qi2, .int 0, .ref qm, .ref qw, .ref qh, .ref qd, .ref qk, .int 0, .int 0, .int 0, .int 0, .int 0])), (qi2, .inr (1, [.ref qr, .int 0, .int 0])), (qr, .inl (cr, 20, .inl (fun _ => 0)))])) (va_Qi (fun (r : Int32) (u : Unit) => match u with | _ => r = 1) (fun (u : Unit) (t : State) => match u with | _ => va_P (dC, dI) vcl [] t.heap ∧ va_K (dC, dI) vcl [] t ∧ va_D (va_A [(x, .inr (0, [.ref ql, .int 0, .ref rd, .ref rn, .int 0])), (ql, .inl (cl, 72, .inl (fun _ => 0))), (rd, .inr (7, [.ref qt, .int 0, .int 0, .ref pr])), (pr, .inr (6, [.ref qs, .int 0, .ref qn, .int 0, .ref qv, .ref qi])), (qs, .inl (cs, 36, .inr (.inr (.inr (.inr (fs)))))), (q0, .inr (9, [.int 5, .int 0, .int 0, .int (-1), .int 0])), (rn, .inr (8, [.ref pn, .ref qi2, .int 0, .ref qm, .ref qw, .ref qh, .ref qd, .ref qk, .int 0, .int 0, .int 0, .int 0, .int 0])), (qi2, .inr (1, [.ref qr, .int 0, .int 0])), (qr, .inl (cr, 20, .inl (fun _ => 0)))] sz) []) (va_A [(x, .inr (0, [.ref ql, .int 0, .ref rd, .ref rn, .int 0])), (ql, .inl (cl, 72, .inl (fun _ => 0))), (rd, .inr (7, [.ref qt, .int 0, .int 0, .ref pr])), (pr, .inr (6, [.ref qs, .int 0, .ref qn, .int 0, .ref qv, .ref qi])), (qs, .inl (cs, 36, .inr (.inr (.inr (.inr (fs)))))), (q0, .inr (9, [.int 5, .int 0, .int 0, .int (-1), .int 0])), (rn, .inr (8, [.ref pn, .ref qi2, .int 0, .ref qm, .ref qw, .ref qh, .ref qd, .ref qk, .int 0, .int 0, .int 0, .int 0, .int 0])), (qi2, .inr (1, [.ref qr, .int 0, .int 0])), (qr, .inl (cr, 20, .inl (fun _ => 0)))] sz)) 1 6 (va_A [(x, .inr (0, [.ref ql, .int 0, .ref rd, .ref rn, .int 0])), (ql, .inl (cl, 72, .inl (fun _ => 0))), (rd, .inr (7, [.ref qt, .int 0, .int 0, .ref pr])), (pr, .inr (6, [.ref qs, .int 0, .ref qn, .int 0, .ref qv, .ref qi])), (qs, .inl (cs, 36, .inr (.inr (.inr (.inr (fs)))))), (q0, .inr (9, [.int 5, .int 0, .int 0, .int (-1), .int 0])), (rn, .inr (8, [.ref pn, .ref qi2, .int 0, .ref qm, .ref qw, .ref qh, .ref qd, .ref qk, .int 0, .int 0, .int 0, .int 0, .int 0])), (qi2, .inr (1, [.ref qr, .int 0, .int 0])), (qr, .inl (cr, 20, .inl (fun _ => 0)))] sz) := by
  refine tw_ofWith (by decide) ?_
  intro p e s m args below meth c s₁ B hml htab hv
  obtain ⟨rfl, hsz, hB, hH, hP, hK, hD0⟩ := hv
  have hx := B.exec
  have hb := B.bytes
  have hr := B.returns
  have hown : s.vm.findClass "BigRunnerLaw" = some m.cls := findClass_of_methodNamed B.named
  have hlocks := B.notSynchronized
  subst hsz
  have hD := hD0.self (sz := s.heap.size)
  generalize hAe : va_A [(x, .inr (0, [.ref ql, .int 0, .ref rd, .ref rn, .int 0])), (ql, .inl (cl, 72, .inl (fun _ => 0))), (rd, .inr (7, [.ref qt, .int 0, .int 0, .ref pr])), (pr, .inr (6, [.ref qs, .int 0, .ref qn, .int 0, .ref qv, .ref qi])), (qs, .inl (cs, 36, .inr (.inr (.inr (.inr (fs)))))), (q0, .inr (9, [.int 5, .int 0, .int 0, .int (-1), .int 0])), (rn, .inr (8, [.ref pn, .ref qi2, .int 0, .ref qm, .ref qw, .ref qh, .ref qd, .ref qk, .int 0, .int 0, .int 0, .int 0, .int 0])), (qi2, .inr (1, [.ref qr, .int 0, .int 0])), (qr, .inl (cr, 20, .inl (fun _ => 0)))] s.heap.size = A at hD ⊢
  have hA : ∀ q : Nat, s.heap.size ≤ q → A q := fun q h => by rw [← hAe]; exact Or.inr h
  have hS : va_S A s.heap s.heap [] := va_S.rf
  have hP : va_P (dC, dI) vcl [(x, .inr (0, [.ref ql, .int 0, .ref rd, .ref rn, .int 0])), (ql, .inl (cl, 72, .inl (fun _ => 0))), (rd, .inr (7, [.ref qt, .int 0, .int 0, .ref pr])), (pr, .inr (6, [.ref qs, .int 0, .ref qn, .int 0, .ref qv, .ref qi])), (qs, .inl (cs, 36, .inr (.inr (.inr (.inr (fs)))))), (q0, .inr (9, [.int 5, .int 0, .int 0, .int (-1), .int 0])), (rn, .inr (8, [.ref pn, .ref qi2, .int 0, .ref qm, .ref qw, .ref qh, .ref qd, .ref qk, .int 0, .int 0, .int 0, .int 0, .int 0])), (qi2, .inr (1, [.ref qr, .int 0, .int 0])), (qr, .inl (cr, 20, .inl (fun _ => 0)))] s.heap := hP
  have hl := lv_entry ([.ref x, .int k, .ref ob]) (n := 4) (Nat.le_of_ble_eq_true rfl)
  rw [lg_entry_eq]
  generalize (lg_sl ([.ref x, .int k, .ref ob]) ++ List.replicate (4 - (lg_sl ([.ref x, .int k, .ref ob])).length) Slot.unset).toArray = ls at hl ⊢
  have hl : lv_has ls 4 [(0, .ref x), (1, .int k), (2, .ref ob)] := hl
  refine lv_aload_n hx hb d_L_run_0 rfl (lv_at hl 2 rfl) ?_
  refine lv_iconst (v := 0) hx hb d_L_run_1 (by decide) ?_
  refine lv_aload_n hx hb d_L_run_2 rfl (lv_at hl 0 rfl) ?_
  refine lv_iload_n hx hb d_L_run_3 rfl (lv_at hl 1 rfl) ?_
  refine tw_callV (C := "BigRunner") (Cn := "java/lang/IllegalStateException") (b := x) (As := [.int k]) (rest := [.int 0, .ref ob]) (n := 1) (hd := ⟨0, 9, 12, 19⟩) hx hb hml hown (c_B_run l dC dI s.heap.size x ql cl rd rn qt pr qs cs fs q0 qn qv qi pn qi2 qm qw qh qd qk qr cr k htr) (wd_695 hB _) (wd_72 hB _) (wd_692 hB _) (wd_693 hB _) (wd_694 hB _) (by decide +kernel) ⟨Nat.le_of_ble_eq_true rfl, Nat.le_of_ble_eq_true rfl⟩ rfl rfl ⟨fun a U g mk q => by obtain ⟨q0, q1, qB, qH, qP, qK, qD⟩ := q; exact ⟨q0, q1, TB.same (s := U) (U := U.calling g mk a) rfl qB, TH.moved (s := U) (U := U.calling g mk a) (Vm.Alike.refl U.vm) rfl qH, qP, va_K.moved (u := U) (U := U.calling g mk a) (Vm.Alike.refl U.vm) qK, qD⟩, va_recv hK hP (q0 := 0) (ci := 0) rfl rfl, fun U hU hW => ⟨rfl, by rw [hU], hB.moved hW, hH.moved hW.alike hU, by rw [hU]; exact hP, va_K.moved hW.alike hK, hD.weaken (fun _ _ _ _ => trivial)⟩⟩ rfl hl.1 (Nat.le_of_ble_eq_true rfl) d_L_run_4 ⟨Nat.le_of_ble_eq_true rfl, Nat.le_of_ble_eq_true rfl⟩ (htab.trans rfl) (by decide) (by decide) (wd_689 hB _) (fun a st o t h => by obtain ⟨x, ce, e1, e2, e3, e4, -⟩ := h; exact ⟨x, ce, e1, e2, e3, e4⟩) (fun xx st t L1 h1 hq hL => ?_)
  obtain ⟨-, -, -, -, -, -, hF⟩ := hq
  rw [hAe] at hF
  have hS : va_S A s.heap t.heap ([] ++ L1) := ⟨by rw [← h1]; exact hF.1, fun q h2 h3 => by rw [hF.2 q (by rw [h1]; exact h2) h3, h1], fun q hq => by rw [← hAe]; exact hL q hq⟩
  have hP : va_P (dC, dI) vcl [] t.heap := fun k q h => by simp at h
  have hD := hD.sub (ws' := []) [] (by decide) rfl
  have hK := hK.sub (tys' := []) [] rfl
  refine W.eq (g2 := F0 m 12 ls [.ref xx]) rfl ?_
  refine lv_astore_n (lv' := [(3, .ref xx), (0, .ref x), (1, .int k), (2, .ref ob)]) hx hb d_L_run_12 rfl hl (by decide) rfl (fun ls hl => ?_)
  refine lv_iconst (v := 1) hx hb d_L_run_13 (by decide) ?_
  have hP9 := hP.sub (ws' := []) [] rfl
  have hD9 := hD.sub (ws' := []) [] (by decide) rfl
  have hK9 := hK.sub (tys' := []) [] rfl
  refine W.widen (k := 1) (n := 6) (by omega) (by omega) ?_
  exact W.iret (v := 1) hx hb hr (fun t ht hW => ⟨⟨1, (), rfl, rfl, by rw [ht]; exact hP9, va_K.moved hW.alike hK9, hD9⟩, hS.F ht⟩) hS.2.2 d_L_run_14
set_option maxHeartbeats 4000000 in
set_option maxRecDepth 100000 in
theorem c_L_bound (l : Launch) (dC : Nat → ClassId) (dI : Nat → Nat → Nat) (sz : Nat) (x : Nat) (ql : Nat) (cl : ClassId) (rd : Nat) (rn : Nat) (qt : Nat) (pr : Nat) (qs : Nat) (cs : ClassId) (fs : Nat → Option Nat) (q0 : Nat) (qn : Nat) (qv : Nat) (qi : Nat) (pn : Nat) (qi2 : Nat) (qm : Nat) (qw : Nat) (qh : Nat) (qd : Nat) (qk : Nat) (qr : Nat) (cr : ClassId) (ob : Nat) (k : Int32) (g : Int32) (htr : l.stackTraces = false) : Met l ⟨"BigRunnerLaw", "bound", "(LBigRunner;IZ[J)I"⟩ [Cond.codeWith ⟨"BigRunnerLaw", "bound", "(LBigRunner;IZ[J)I"⟩ method_5_code 5 (some .int) [(0, 9, 12, 29), (0, 9, 16, 23)]] ({ frames := 7, cells := 1, slots := 6, locals := 145 }) (va_Pc [.ref x, .int k, .int g, .ref ob] (fun U => U.heap.size = sz ∧ TB U ∧ TH U ∧ va_P (dC, dI) vcl [(x, .inr (0, [.ref ql, .int 0, .ref rd, .ref rn, .int 0])), (ql, .inl (cl, 72, .inl (fun _ => 0))), (rd, .inr (7, [.ref qt, .int 0, .int 0, .ref pr])), (pr, .inr (6, [.ref qs, .int 0, .ref qn, .int 0, .ref qv, .ref qi])), (qs, .inl (cs, 36, .inr (.inr (.inr (.inr (fs)))))), (q0, .inr (9, [.int 5, .int 0, .int 0, .int (-1), .int 0])), (rn, .inr (8, [.ref pn, .ref qi2, .int 0, .ref qm, .ref qw, .ref qh, .ref qd, .ref qk, .int 0, .int 0, .int 0, .int 0, .int 0])), (qi2, .inr (1, [.ref qr, .int 0, .int 0])), (qr, .inl (cr, 20, .inl (fun _ => 0)))] U.heap ∧ va_K (dC, dI) vcl [(cl, .char), (cs, (.object "BigRunner$Statement")), (cr, .int)] U ∧ va_D (fun _ => True) [(x, .inr (0, [.ref ql, .int 0, .ref rd, .ref rn, .int 0])), (ql, .inl (cl, 72, .inl (fun _ => 0))), (rd, .inr (7, [.ref qt, .int 0, .int 0, .ref pr])), (pr, .inr (6, [.ref qs, .int 0, .ref qn, .int 0, .ref qv, .ref qi])), (qs, .inl (cs, 36, .inr (.inr (.inr (.inr (fs)))))), (q0, .inr (9, [.int 5, .int 0, .int 0, .int (-1), .int 0])), (rn, .inr (8, [.ref pn, .ref qi2, .int 0, .ref qm, .ref qw, .ref qh, .ref qd, .ref qk, .int 0, .int 0, .int 0, .int 0, .int 0])), (qi2, .inr (1, [.ref qr, .int 0, .int 0])), (qr, .inl (cr, 20, .inl (fun _ => 0)))])) (va_Qi (fun (r : Int32) (u : Unit) => match u with | _ => r = 1) (fun (u : Unit) (t : State) => match u with | _ => va_P (dC, dI) vcl [] t.heap ∧ va_K (dC, dI) vcl [] t ∧ va_D (va_A [(x, .inr (0, [.ref ql, .int 0, .ref rd, .ref rn, .int 0])), (ql, .inl (cl, 72, .inl (fun _ => 0))), (rd, .inr (7, [.ref qt, .int 0, .int 0, .ref pr])), (pr, .inr (6, [.ref qs, .int 0, .ref qn, .int 0, .ref qv, .ref qi])), (qs, .inl (cs, 36, .inr (.inr (.inr (.inr (fs)))))), (q0, .inr (9, [.int 5, .int 0, .int 0, .int (-1), .int 0])), (rn, .inr (8, [.ref pn, .ref qi2, .int 0, .ref qm, .ref qw, .ref qh, .ref qd, .ref qk, .int 0, .int 0, .int 0, .int 0, .int 0])), (qi2, .inr (1, [.ref qr, .int 0, .int 0])), (qr, .inl (cr, 20, .inl (fun _ => 0)))] sz) []) (va_A [(x, .inr (0, [.ref ql, .int 0, .ref rd, .ref rn, .int 0])), (ql, .inl (cl, 72, .inl (fun _ => 0))), (rd, .inr (7, [.ref qt, .int 0, .int 0, .ref pr])), (pr, .inr (6, [.ref qs, .int 0, .ref qn, .int 0, .ref qv, .ref qi])), (qs, .inl (cs, 36, .inr (.inr (.inr (.inr (fs)))))), (q0, .inr (9, [.int 5, .int 0, .int 0, .int (-1), .int 0])), (rn, .inr (8, [.ref pn, .ref qi2, .int 0, .ref qm, .ref qw, .ref qh, .ref qd, .ref qk, .int 0, .int 0, .int 0, .int 0, .int 0])), (qi2, .inr (1, [.ref qr, .int 0, .int 0])), (qr, .inl (cr, 20, .inl (fun _ => 0)))] sz)) 1 6 (va_A [(x, .inr (0, [.ref ql, .int 0, .ref rd, .ref rn, .int 0])), (ql, .inl (cl, 72, .inl (fun _ => 0))), (rd, .inr (7, [.ref qt, .int 0, .int 0, .ref pr])), (pr, .inr (6, [.ref qs, .int 0, .ref qn, .int 0, .ref qv, .ref qi])), (qs, .inl (cs, 36, .inr (.inr (.inr (.inr (fs)))))), (q0, .inr (9, [.int 5, .int 0, .int 0, .int (-1), .int 0])), (rn, .inr (8, [.ref pn, .ref qi2, .int 0, .ref qm, .ref qw, .ref qh, .ref qd, .ref qk, .int 0, .int 0, .int 0, .int 0, .int 0])), (qi2, .inr (1, [.ref qr, .int 0, .int 0])), (qr, .inl (cr, 20, .inl (fun _ => 0)))] sz) := by
  refine tw_ofWith (by decide) ?_
  intro p e s m args below meth c s₁ B hml htab hv
  obtain ⟨rfl, hsz, hB, hH, hP, hK, hD0⟩ := hv
  have hx := B.exec
  have hb := B.bytes
  have hr := B.returns
  have hown : s.vm.findClass "BigRunnerLaw" = some m.cls := findClass_of_methodNamed B.named
  have hlocks := B.notSynchronized
  subst hsz
  have hD := hD0.self (sz := s.heap.size)
  generalize hAe : va_A [(x, .inr (0, [.ref ql, .int 0, .ref rd, .ref rn, .int 0])), (ql, .inl (cl, 72, .inl (fun _ => 0))), (rd, .inr (7, [.ref qt, .int 0, .int 0, .ref pr])), (pr, .inr (6, [.ref qs, .int 0, .ref qn, .int 0, .ref qv, .ref qi])), (qs, .inl (cs, 36, .inr (.inr (.inr (.inr (fs)))))), (q0, .inr (9, [.int 5, .int 0, .int 0, .int (-1), .int 0])), (rn, .inr (8, [.ref pn, .ref qi2, .int 0, .ref qm, .ref qw, .ref qh, .ref qd, .ref qk, .int 0, .int 0, .int 0, .int 0, .int 0])), (qi2, .inr (1, [.ref qr, .int 0, .int 0])), (qr, .inl (cr, 20, .inl (fun _ => 0)))] s.heap.size = A at hD ⊢
  have hA : ∀ q : Nat, s.heap.size ≤ q → A q := fun q h => by rw [← hAe]; exact Or.inr h
  have hS : va_S A s.heap s.heap [] := va_S.rf
  have hP : va_P (dC, dI) vcl [(x, .inr (0, [.ref ql, .int 0, .ref rd, .ref rn, .int 0])), (ql, .inl (cl, 72, .inl (fun _ => 0))), (rd, .inr (7, [.ref qt, .int 0, .int 0, .ref pr])), (pr, .inr (6, [.ref qs, .int 0, .ref qn, .int 0, .ref qv, .ref qi])), (qs, .inl (cs, 36, .inr (.inr (.inr (.inr (fs)))))), (q0, .inr (9, [.int 5, .int 0, .int 0, .int (-1), .int 0])), (rn, .inr (8, [.ref pn, .ref qi2, .int 0, .ref qm, .ref qw, .ref qh, .ref qd, .ref qk, .int 0, .int 0, .int 0, .int 0, .int 0])), (qi2, .inr (1, [.ref qr, .int 0, .int 0])), (qr, .inl (cr, 20, .inl (fun _ => 0)))] s.heap := hP
  have hl := lv_entry ([.ref x, .int k, .int g, .ref ob]) (n := 5) (Nat.le_of_ble_eq_true rfl)
  rw [lg_entry_eq]
  generalize (lg_sl ([.ref x, .int k, .int g, .ref ob]) ++ List.replicate (5 - (lg_sl ([.ref x, .int k, .int g, .ref ob])).length) Slot.unset).toArray = ls at hl ⊢
  have hl : lv_has ls 5 [(0, .ref x), (1, .int k), (2, .int g), (3, .ref ob)] := hl
  refine lv_aload_n hx hb d_L_bound_0 rfl (lv_at hl 3 rfl) ?_
  refine lv_iconst (v := 0) hx hb d_L_bound_1 (by decide) ?_
  refine lv_aload_n hx hb d_L_bound_2 rfl (lv_at hl 0 rfl) ?_
  refine lv_iload_n hx hb d_L_bound_3 rfl (lv_at hl 1 rfl) ?_
  refine lv_iload_n hx hb d_L_bound_4 rfl (lv_at hl 2 rfl) ?_
  refine tw_callV (C := "BigRunner") (Cn := "java/lang/IndexOutOfBoundsException") (b := x) (As := [.int k, .int g]) (rest := [.int 0, .ref ob]) (n := 2) (hd := ⟨0, 9, 12, 29⟩) hx hb hml hown (c_B_bound l dC dI s.heap.size x ql cl rd rn qt pr qs cs fs q0 qn qv qi pn qi2 qm qw qh qd qk qr cr k g htr) (wd_887 hB _) (wd_72 hB _) (wd_884 hB _) (wd_885 hB _) (wd_886 hB _) (by decide +kernel) ⟨Nat.le_of_ble_eq_true rfl, Nat.le_of_ble_eq_true rfl⟩ rfl rfl ⟨fun a U g mk q => by obtain ⟨q0, q1, qB, qH, qP, qK, qD⟩ := q; exact ⟨q0, q1, TB.same (s := U) (U := U.calling g mk a) rfl qB, TH.moved (s := U) (U := U.calling g mk a) (Vm.Alike.refl U.vm) rfl qH, qP, va_K.moved (u := U) (U := U.calling g mk a) (Vm.Alike.refl U.vm) qK, qD⟩, va_recv hK hP (q0 := 0) (ci := 0) rfl rfl, fun U hU hW => ⟨rfl, by rw [hU], hB.moved hW, hH.moved hW.alike hU, by rw [hU]; exact hP, va_K.moved hW.alike hK, hD.weaken (fun _ _ _ _ => trivial)⟩⟩ rfl hl.1 (Nat.le_of_ble_eq_true rfl) d_L_bound_5 ⟨Nat.le_of_ble_eq_true rfl, Nat.le_of_ble_eq_true rfl⟩ (htab.trans rfl) (by decide) (by decide) (wd_883 hB _) (fun a st o t h => by obtain ⟨x, ce, e1, e2, e3, e4, -⟩ := h; exact ⟨x, ce, e1, e2, e3, e4⟩) (fun xx st t L1 h1 hq hL => ?_)
  obtain ⟨-, -, -, -, -, -, hF⟩ := hq
  rw [hAe] at hF
  have hS : va_S A s.heap t.heap ([] ++ L1) := ⟨by rw [← h1]; exact hF.1, fun q h2 h3 => by rw [hF.2 q (by rw [h1]; exact h2) h3, h1], fun q hq => by rw [← hAe]; exact hL q hq⟩
  have hP : va_P (dC, dI) vcl [] t.heap := fun k q h => by simp at h
  have hD := hD.sub (ws' := []) [] (by decide) rfl
  have hK := hK.sub (tys' := []) [] rfl
  refine W.eq (g2 := F0 m 12 ls [.ref xx]) rfl ?_
  refine lv_astore (lv' := [(4, .ref xx), (0, .ref x), (1, .int k), (2, .int g), (3, .ref ob)]) hx hb d_L_bound_12 hl (by decide) rfl (fun ls hl => ?_)
  refine lv_iconst (v := 1) hx hb d_L_bound_14 (by decide) ?_
  have hP9 := hP.sub (ws' := []) [] rfl
  have hD9 := hD.sub (ws' := []) [] (by decide) rfl
  have hK9 := hK.sub (tys' := []) [] rfl
  refine W.widen (k := 1) (n := 6) (by omega) (by omega) ?_
  exact W.iret (v := 1) hx hb hr (fun t ht hW => ⟨⟨1, (), rfl, rfl, by rw [ht]; exact hP9, va_K.moved hW.alike hK9, hD9⟩, hS.F ht⟩) hS.2.2 d_L_bound_15
set_option maxHeartbeats 4000000 in
set_option maxRecDepth 100000 in
theorem c_L_variable (l : Launch) (dC : Nat → ClassId) (dI : Nat → Nat → Nat) (sz : Nat) (x : Nat) (ql : Nat) (cl : ClassId) (rd : Nat) (rn : Nat) (qt : Nat) (pr : Nat) (qs : Nat) (cs : ClassId) (fs : Nat → Option Nat) (q0 : Nat) (qn : Nat) (qv : Nat) (qi : Nat) (pn : Nat) (qi2 : Nat) (qm : Nat) (qw : Nat) (qh : Nat) (qd : Nat) (qk : Nat) (qr : Nat) (cr : ClassId) (ob : Nat) (k : Int32) (g : Int32) (htr : l.stackTraces = false) : Met l ⟨"BigRunnerLaw", "variable", "(LBigRunner;II[J)I"⟩ [Cond.codeWith ⟨"BigRunnerLaw", "variable", "(LBigRunner;II[J)I"⟩ method_6_code 5 (some .int) [(0, 10, 13, 29)]] ({ frames := 7, cells := 1, slots := 6, locals := 142 }) (va_Pc [.ref x, .int k, .int g, .ref ob] (fun U => U.heap.size = sz ∧ TB U ∧ TH U ∧ va_P (dC, dI) vcl [(x, .inr (0, [.ref ql, .int 0, .ref rd, .ref rn, .int 0])), (ql, .inl (cl, 72, .inl (fun _ => 0))), (rd, .inr (7, [.ref qt, .int 0, .int 0, .ref pr])), (pr, .inr (6, [.ref qs, .int 0, .ref qn, .int 0, .ref qv, .ref qi])), (qs, .inl (cs, 36, .inr (.inr (.inr (.inr (fs)))))), (q0, .inr (9, [.int 5, .int 0, .int 0, .int (-1), .int 0])), (rn, .inr (8, [.ref pn, .ref qi2, .int 0, .ref qm, .ref qw, .ref qh, .ref qd, .ref qk, .int 0, .int 0, .int 0, .int 0, .int 0])), (qi2, .inr (1, [.ref qr, .int 0, .int 0])), (qr, .inl (cr, 20, .inl (fun _ => 0)))] U.heap ∧ va_K (dC, dI) vcl [(cl, .char), (cs, (.object "BigRunner$Statement")), (cr, .int)] U ∧ va_D (fun _ => True) [(x, .inr (0, [.ref ql, .int 0, .ref rd, .ref rn, .int 0])), (ql, .inl (cl, 72, .inl (fun _ => 0))), (rd, .inr (7, [.ref qt, .int 0, .int 0, .ref pr])), (pr, .inr (6, [.ref qs, .int 0, .ref qn, .int 0, .ref qv, .ref qi])), (qs, .inl (cs, 36, .inr (.inr (.inr (.inr (fs)))))), (q0, .inr (9, [.int 5, .int 0, .int 0, .int (-1), .int 0])), (rn, .inr (8, [.ref pn, .ref qi2, .int 0, .ref qm, .ref qw, .ref qh, .ref qd, .ref qk, .int 0, .int 0, .int 0, .int 0, .int 0])), (qi2, .inr (1, [.ref qr, .int 0, .int 0])), (qr, .inl (cr, 20, .inl (fun _ => 0)))])) (va_Qi (fun (r : Int32) (u : Unit) => match u with | _ => r = 1) (fun (u : Unit) (t : State) => match u with | _ => va_P (dC, dI) vcl [] t.heap ∧ va_K (dC, dI) vcl [] t ∧ va_D (va_A [(x, .inr (0, [.ref ql, .int 0, .ref rd, .ref rn, .int 0])), (ql, .inl (cl, 72, .inl (fun _ => 0))), (rd, .inr (7, [.ref qt, .int 0, .int 0, .ref pr])), (pr, .inr (6, [.ref qs, .int 0, .ref qn, .int 0, .ref qv, .ref qi])), (qs, .inl (cs, 36, .inr (.inr (.inr (.inr (fs)))))), (q0, .inr (9, [.int 5, .int 0, .int 0, .int (-1), .int 0])), (rn, .inr (8, [.ref pn, .ref qi2, .int 0, .ref qm, .ref qw, .ref qh, .ref qd, .ref qk, .int 0, .int 0, .int 0, .int 0, .int 0])), (qi2, .inr (1, [.ref qr, .int 0, .int 0])), (qr, .inl (cr, 20, .inl (fun _ => 0)))] sz) []) (va_A [(x, .inr (0, [.ref ql, .int 0, .ref rd, .ref rn, .int 0])), (ql, .inl (cl, 72, .inl (fun _ => 0))), (rd, .inr (7, [.ref qt, .int 0, .int 0, .ref pr])), (pr, .inr (6, [.ref qs, .int 0, .ref qn, .int 0, .ref qv, .ref qi])), (qs, .inl (cs, 36, .inr (.inr (.inr (.inr (fs)))))), (q0, .inr (9, [.int 5, .int 0, .int 0, .int (-1), .int 0])), (rn, .inr (8, [.ref pn, .ref qi2, .int 0, .ref qm, .ref qw, .ref qh, .ref qd, .ref qk, .int 0, .int 0, .int 0, .int 0, .int 0])), (qi2, .inr (1, [.ref qr, .int 0, .int 0])), (qr, .inl (cr, 20, .inl (fun _ => 0)))] sz)) 1 6 (va_A [(x, .inr (0, [.ref ql, .int 0, .ref rd, .ref rn, .int 0])), (ql, .inl (cl, 72, .inl (fun _ => 0))), (rd, .inr (7, [.ref qt, .int 0, .int 0, .ref pr])), (pr, .inr (6, [.ref qs, .int 0, .ref qn, .int 0, .ref qv, .ref qi])), (qs, .inl (cs, 36, .inr (.inr (.inr (.inr (fs)))))), (q0, .inr (9, [.int 5, .int 0, .int 0, .int (-1), .int 0])), (rn, .inr (8, [.ref pn, .ref qi2, .int 0, .ref qm, .ref qw, .ref qh, .ref qd, .ref qk, .int 0, .int 0, .int 0, .int 0, .int 0])), (qi2, .inr (1, [.ref qr, .int 0, .int 0])), (qr, .inl (cr, 20, .inl (fun _ => 0)))] sz) := by
  refine tw_ofWith (by decide) ?_
  intro p e s m args below meth c s₁ B hml htab hv
  obtain ⟨rfl, hsz, hB, hH, hP, hK, hD0⟩ := hv
  have hx := B.exec
  have hb := B.bytes
  have hr := B.returns
  have hown : s.vm.findClass "BigRunnerLaw" = some m.cls := findClass_of_methodNamed B.named
  have hlocks := B.notSynchronized
  subst hsz
  have hD := hD0.self (sz := s.heap.size)
  generalize hAe : va_A [(x, .inr (0, [.ref ql, .int 0, .ref rd, .ref rn, .int 0])), (ql, .inl (cl, 72, .inl (fun _ => 0))), (rd, .inr (7, [.ref qt, .int 0, .int 0, .ref pr])), (pr, .inr (6, [.ref qs, .int 0, .ref qn, .int 0, .ref qv, .ref qi])), (qs, .inl (cs, 36, .inr (.inr (.inr (.inr (fs)))))), (q0, .inr (9, [.int 5, .int 0, .int 0, .int (-1), .int 0])), (rn, .inr (8, [.ref pn, .ref qi2, .int 0, .ref qm, .ref qw, .ref qh, .ref qd, .ref qk, .int 0, .int 0, .int 0, .int 0, .int 0])), (qi2, .inr (1, [.ref qr, .int 0, .int 0])), (qr, .inl (cr, 20, .inl (fun _ => 0)))] s.heap.size = A at hD ⊢
  have hA : ∀ q : Nat, s.heap.size ≤ q → A q := fun q h => by rw [← hAe]; exact Or.inr h
  have hS : va_S A s.heap s.heap [] := va_S.rf
  have hP : va_P (dC, dI) vcl [(x, .inr (0, [.ref ql, .int 0, .ref rd, .ref rn, .int 0])), (ql, .inl (cl, 72, .inl (fun _ => 0))), (rd, .inr (7, [.ref qt, .int 0, .int 0, .ref pr])), (pr, .inr (6, [.ref qs, .int 0, .ref qn, .int 0, .ref qv, .ref qi])), (qs, .inl (cs, 36, .inr (.inr (.inr (.inr (fs)))))), (q0, .inr (9, [.int 5, .int 0, .int 0, .int (-1), .int 0])), (rn, .inr (8, [.ref pn, .ref qi2, .int 0, .ref qm, .ref qw, .ref qh, .ref qd, .ref qk, .int 0, .int 0, .int 0, .int 0, .int 0])), (qi2, .inr (1, [.ref qr, .int 0, .int 0])), (qr, .inl (cr, 20, .inl (fun _ => 0)))] s.heap := hP
  have hl := lv_entry ([.ref x, .int k, .int g, .ref ob]) (n := 5) (Nat.le_of_ble_eq_true rfl)
  rw [lg_entry_eq]
  generalize (lg_sl ([.ref x, .int k, .int g, .ref ob]) ++ List.replicate (5 - (lg_sl ([.ref x, .int k, .int g, .ref ob])).length) Slot.unset).toArray = ls at hl ⊢
  have hl : lv_has ls 5 [(0, .ref x), (1, .int k), (2, .int g), (3, .ref ob)] := hl
  refine lv_aload_n hx hb d_L_variable_0 rfl (lv_at hl 3 rfl) ?_
  refine lv_iconst (v := 0) hx hb d_L_variable_1 (by decide) ?_
  refine lv_aload_n hx hb d_L_variable_2 rfl (lv_at hl 0 rfl) ?_
  refine lv_iload_n hx hb d_L_variable_3 rfl (lv_at hl 1 rfl) ?_
  refine lv_iload_n hx hb d_L_variable_4 rfl (lv_at hl 2 rfl) ?_
  refine tw_callV (C := "BigRunner") (Cn := "java/lang/IndexOutOfBoundsException") (b := x) (As := [.int k, .int g]) (rest := [.int 0, .ref ob]) (n := 2) (hd := ⟨0, 10, 13, 29⟩) hx hb hml hown (c_B_variable l dC dI s.heap.size x ql cl rd rn qt pr qs cs fs q0 qn qv qi pn qi2 qm qw qh qd qk qr cr k g htr) (wd_912 hB _) (wd_72 hB _) (wd_909 hB _) (wd_910 hB _) (wd_911 hB _) (by decide +kernel) ⟨Nat.le_of_ble_eq_true rfl, Nat.le_of_ble_eq_true rfl⟩ rfl rfl ⟨fun a U g mk q => by obtain ⟨q0, q1, qB, qH, qP, qK, qD⟩ := q; exact ⟨q0, q1, TB.same (s := U) (U := U.calling g mk a) rfl qB, TH.moved (s := U) (U := U.calling g mk a) (Vm.Alike.refl U.vm) rfl qH, qP, va_K.moved (u := U) (U := U.calling g mk a) (Vm.Alike.refl U.vm) qK, qD⟩, va_recv hK hP (q0 := 0) (ci := 0) rfl rfl, fun U hU hW => ⟨rfl, by rw [hU], hB.moved hW, hH.moved hW.alike hU, by rw [hU]; exact hP, va_K.moved hW.alike hK, hD.weaken (fun _ _ _ _ => trivial)⟩⟩ rfl hl.1 (Nat.le_of_ble_eq_true rfl) d_L_variable_5 ⟨Nat.le_of_ble_eq_true rfl, Nat.le_of_ble_eq_true rfl⟩ (htab.trans rfl) (by decide) (by decide) (wd_883 hB _) (fun a st o t h => by obtain ⟨x, ce, e1, e2, e3, e4, -⟩ := h; exact ⟨x, ce, e1, e2, e3, e4⟩) (fun xx st t L1 h1 hq hL => ?_)
  obtain ⟨-, -, -, -, -, -, hF⟩ := hq
  rw [hAe] at hF
  have hS : va_S A s.heap t.heap ([] ++ L1) := ⟨by rw [← h1]; exact hF.1, fun q h2 h3 => by rw [hF.2 q (by rw [h1]; exact h2) h3, h1], fun q hq => by rw [← hAe]; exact hL q hq⟩
  have hP : va_P (dC, dI) vcl [] t.heap := fun k q h => by simp at h
  have hD := hD.sub (ws' := []) [] (by decide) rfl
  have hK := hK.sub (tys' := []) [] rfl
  refine W.eq (g2 := F0 m 13 ls [.ref xx]) rfl ?_
  refine lv_astore (lv' := [(4, .ref xx), (0, .ref x), (1, .int k), (2, .int g), (3, .ref ob)]) hx hb d_L_variable_13 hl (by decide) rfl (fun ls hl => ?_)
  refine lv_iconst (v := 1) hx hb d_L_variable_15 (by decide) ?_
  have hP9 := hP.sub (ws' := []) [] rfl
  have hD9 := hD.sub (ws' := []) [] (by decide) rfl
  have hK9 := hK.sub (tys' := []) [] rfl
  refine W.widen (k := 1) (n := 6) (by omega) (by omega) ?_
  exact W.iret (v := 1) hx hb hr (fun t ht hW => ⟨⟨1, (), rfl, rfl, by rw [ht]; exact hP9, va_K.moved hW.alike hK9, hD9⟩, hS.F ht⟩) hS.2.2 d_L_variable_16
set_option maxHeartbeats 4000000 in
set_option maxRecDepth 100000 in
theorem c_L_output (l : Launch) (dC : Nat → ClassId) (dI : Nat → Nat → Nat) (sz : Nat) (x : Nat) (ql : Nat) (cl : ClassId) (rd : Nat) (rn : Nat) (qt : Nat) (pr : Nat) (qs : Nat) (cs : ClassId) (fs : Nat → Option Nat) (q0 : Nat) (qn : Nat) (qv : Nat) (qi : Nat) (pn : Nat) (qi2 : Nat) (qm : Nat) (qw : Nat) (qh : Nat) (qd : Nat) (qk : Nat) (qr : Nat) (cr : ClassId) (ob : Nat) (k : Int32) (g : Int32) (htr : l.stackTraces = false) : Met l ⟨"BigRunnerLaw", "output", "(LBigRunner;II[J)I"⟩ [Cond.codeWith ⟨"BigRunnerLaw", "output", "(LBigRunner;II[J)I"⟩ method_7_code 5 (some .int) [(0, 10, 13, 29)]] ({ frames := 7, cells := 1, slots := 6, locals := 142 }) (va_Pc [.ref x, .int k, .int g, .ref ob] (fun U => U.heap.size = sz ∧ TB U ∧ TH U ∧ va_P (dC, dI) vcl [(x, .inr (0, [.ref ql, .int 0, .ref rd, .ref rn, .int 0])), (ql, .inl (cl, 72, .inl (fun _ => 0))), (rd, .inr (7, [.ref qt, .int 0, .int 0, .ref pr])), (pr, .inr (6, [.ref qs, .int 0, .ref qn, .int 0, .ref qv, .ref qi])), (qs, .inl (cs, 36, .inr (.inr (.inr (.inr (fs)))))), (q0, .inr (9, [.int 5, .int 0, .int 0, .int (-1), .int 0])), (rn, .inr (8, [.ref pn, .ref qi2, .int 0, .ref qm, .ref qw, .ref qh, .ref qd, .ref qk, .int 0, .int 0, .int 0, .int 0, .int 0])), (qi2, .inr (1, [.ref qr, .int 0, .int 0])), (qr, .inl (cr, 20, .inl (fun _ => 0)))] U.heap ∧ va_K (dC, dI) vcl [(cl, .char), (cs, (.object "BigRunner$Statement")), (cr, .int)] U ∧ va_D (fun _ => True) [(x, .inr (0, [.ref ql, .int 0, .ref rd, .ref rn, .int 0])), (ql, .inl (cl, 72, .inl (fun _ => 0))), (rd, .inr (7, [.ref qt, .int 0, .int 0, .ref pr])), (pr, .inr (6, [.ref qs, .int 0, .ref qn, .int 0, .ref qv, .ref qi])), (qs, .inl (cs, 36, .inr (.inr (.inr (.inr (fs)))))), (q0, .inr (9, [.int 5, .int 0, .int 0, .int (-1), .int 0])), (rn, .inr (8, [.ref pn, .ref qi2, .int 0, .ref qm, .ref qw, .ref qh, .ref qd, .ref qk, .int 0, .int 0, .int 0, .int 0, .int 0])), (qi2, .inr (1, [.ref qr, .int 0, .int 0])), (qr, .inl (cr, 20, .inl (fun _ => 0)))])) (va_Qi (fun (r : Int32) (u : Unit) => match u with | _ => r = 1) (fun (u : Unit) (t : State) => match u with | _ => va_P (dC, dI) vcl [] t.heap ∧ va_K (dC, dI) vcl [] t ∧ va_D (va_A [(x, .inr (0, [.ref ql, .int 0, .ref rd, .ref rn, .int 0])), (ql, .inl (cl, 72, .inl (fun _ => 0))), (rd, .inr (7, [.ref qt, .int 0, .int 0, .ref pr])), (pr, .inr (6, [.ref qs, .int 0, .ref qn, .int 0, .ref qv, .ref qi])), (qs, .inl (cs, 36, .inr (.inr (.inr (.inr (fs)))))), (q0, .inr (9, [.int 5, .int 0, .int 0, .int (-1), .int 0])), (rn, .inr (8, [.ref pn, .ref qi2, .int 0, .ref qm, .ref qw, .ref qh, .ref qd, .ref qk, .int 0, .int 0, .int 0, .int 0, .int 0])), (qi2, .inr (1, [.ref qr, .int 0, .int 0])), (qr, .inl (cr, 20, .inl (fun _ => 0)))] sz) []) (va_A [(x, .inr (0, [.ref ql, .int 0, .ref rd, .ref rn, .int 0])), (ql, .inl (cl, 72, .inl (fun _ => 0))), (rd, .inr (7, [.ref qt, .int 0, .int 0, .ref pr])), (pr, .inr (6, [.ref qs, .int 0, .ref qn, .int 0, .ref qv, .ref qi])), (qs, .inl (cs, 36, .inr (.inr (.inr (.inr (fs)))))), (q0, .inr (9, [.int 5, .int 0, .int 0, .int (-1), .int 0])), (rn, .inr (8, [.ref pn, .ref qi2, .int 0, .ref qm, .ref qw, .ref qh, .ref qd, .ref qk, .int 0, .int 0, .int 0, .int 0, .int 0])), (qi2, .inr (1, [.ref qr, .int 0, .int 0])), (qr, .inl (cr, 20, .inl (fun _ => 0)))] sz)) 1 6 (va_A [(x, .inr (0, [.ref ql, .int 0, .ref rd, .ref rn, .int 0])), (ql, .inl (cl, 72, .inl (fun _ => 0))), (rd, .inr (7, [.ref qt, .int 0, .int 0, .ref pr])), (pr, .inr (6, [.ref qs, .int 0, .ref qn, .int 0, .ref qv, .ref qi])), (qs, .inl (cs, 36, .inr (.inr (.inr (.inr (fs)))))), (q0, .inr (9, [.int 5, .int 0, .int 0, .int (-1), .int 0])), (rn, .inr (8, [.ref pn, .ref qi2, .int 0, .ref qm, .ref qw, .ref qh, .ref qd, .ref qk, .int 0, .int 0, .int 0, .int 0, .int 0])), (qi2, .inr (1, [.ref qr, .int 0, .int 0])), (qr, .inl (cr, 20, .inl (fun _ => 0)))] sz) := by
  refine tw_ofWith (by decide) ?_
  intro p e s m args below meth c s₁ B hml htab hv
  obtain ⟨rfl, hsz, hB, hH, hP, hK, hD0⟩ := hv
  have hx := B.exec
  have hb := B.bytes
  have hr := B.returns
  have hown : s.vm.findClass "BigRunnerLaw" = some m.cls := findClass_of_methodNamed B.named
  have hlocks := B.notSynchronized
  subst hsz
  have hD := hD0.self (sz := s.heap.size)
  generalize hAe : va_A [(x, .inr (0, [.ref ql, .int 0, .ref rd, .ref rn, .int 0])), (ql, .inl (cl, 72, .inl (fun _ => 0))), (rd, .inr (7, [.ref qt, .int 0, .int 0, .ref pr])), (pr, .inr (6, [.ref qs, .int 0, .ref qn, .int 0, .ref qv, .ref qi])), (qs, .inl (cs, 36, .inr (.inr (.inr (.inr (fs)))))), (q0, .inr (9, [.int 5, .int 0, .int 0, .int (-1), .int 0])), (rn, .inr (8, [.ref pn, .ref qi2, .int 0, .ref qm, .ref qw, .ref qh, .ref qd, .ref qk, .int 0, .int 0, .int 0, .int 0, .int 0])), (qi2, .inr (1, [.ref qr, .int 0, .int 0])), (qr, .inl (cr, 20, .inl (fun _ => 0)))] s.heap.size = A at hD ⊢
  have hA : ∀ q : Nat, s.heap.size ≤ q → A q := fun q h => by rw [← hAe]; exact Or.inr h
  have hS : va_S A s.heap s.heap [] := va_S.rf
  have hP : va_P (dC, dI) vcl [(x, .inr (0, [.ref ql, .int 0, .ref rd, .ref rn, .int 0])), (ql, .inl (cl, 72, .inl (fun _ => 0))), (rd, .inr (7, [.ref qt, .int 0, .int 0, .ref pr])), (pr, .inr (6, [.ref qs, .int 0, .ref qn, .int 0, .ref qv, .ref qi])), (qs, .inl (cs, 36, .inr (.inr (.inr (.inr (fs)))))), (q0, .inr (9, [.int 5, .int 0, .int 0, .int (-1), .int 0])), (rn, .inr (8, [.ref pn, .ref qi2, .int 0, .ref qm, .ref qw, .ref qh, .ref qd, .ref qk, .int 0, .int 0, .int 0, .int 0, .int 0])), (qi2, .inr (1, [.ref qr, .int 0, .int 0])), (qr, .inl (cr, 20, .inl (fun _ => 0)))] s.heap := hP
  have hl := lv_entry ([.ref x, .int k, .int g, .ref ob]) (n := 5) (Nat.le_of_ble_eq_true rfl)
  rw [lg_entry_eq]
  generalize (lg_sl ([.ref x, .int k, .int g, .ref ob]) ++ List.replicate (5 - (lg_sl ([.ref x, .int k, .int g, .ref ob])).length) Slot.unset).toArray = ls at hl ⊢
  have hl : lv_has ls 5 [(0, .ref x), (1, .int k), (2, .int g), (3, .ref ob)] := hl
  refine lv_aload_n hx hb d_L_output_0 rfl (lv_at hl 3 rfl) ?_
  refine lv_iconst (v := 0) hx hb d_L_output_1 (by decide) ?_
  refine lv_aload_n hx hb d_L_output_2 rfl (lv_at hl 0 rfl) ?_
  refine lv_iload_n hx hb d_L_output_3 rfl (lv_at hl 1 rfl) ?_
  refine lv_iload_n hx hb d_L_output_4 rfl (lv_at hl 2 rfl) ?_
  refine tw_callV (C := "BigRunner") (Cn := "java/lang/IndexOutOfBoundsException") (b := x) (As := [.int k, .int g]) (rest := [.int 0, .ref ob]) (n := 2) (hd := ⟨0, 10, 13, 29⟩) hx hb hml hown (c_B_output l dC dI s.heap.size x ql cl rd rn qt pr qs cs fs q0 qn qv qi pn qi2 qm qw qh qd qk qr cr k g htr) (wd_934 hB _) (wd_72 hB _) (wd_931 hB _) (wd_932 hB _) (wd_933 hB _) (by decide +kernel) ⟨Nat.le_of_ble_eq_true rfl, Nat.le_of_ble_eq_true rfl⟩ rfl rfl ⟨fun a U g mk q => by obtain ⟨q0, q1, qB, qH, qP, qK, qD⟩ := q; exact ⟨q0, q1, TB.same (s := U) (U := U.calling g mk a) rfl qB, TH.moved (s := U) (U := U.calling g mk a) (Vm.Alike.refl U.vm) rfl qH, qP, va_K.moved (u := U) (U := U.calling g mk a) (Vm.Alike.refl U.vm) qK, qD⟩, va_recv hK hP (q0 := 0) (ci := 0) rfl rfl, fun U hU hW => ⟨rfl, by rw [hU], hB.moved hW, hH.moved hW.alike hU, by rw [hU]; exact hP, va_K.moved hW.alike hK, hD.weaken (fun _ _ _ _ => trivial)⟩⟩ rfl hl.1 (Nat.le_of_ble_eq_true rfl) d_L_output_5 ⟨Nat.le_of_ble_eq_true rfl, Nat.le_of_ble_eq_true rfl⟩ (htab.trans rfl) (by decide) (by decide) (wd_883 hB _) (fun a st o t h => by obtain ⟨x, ce, e1, e2, e3, e4, -⟩ := h; exact ⟨x, ce, e1, e2, e3, e4⟩) (fun xx st t L1 h1 hq hL => ?_)
  obtain ⟨-, -, -, -, -, -, hF⟩ := hq
  rw [hAe] at hF
  have hS : va_S A s.heap t.heap ([] ++ L1) := ⟨by rw [← h1]; exact hF.1, fun q h2 h3 => by rw [hF.2 q (by rw [h1]; exact h2) h3, h1], fun q hq => by rw [← hAe]; exact hL q hq⟩
  have hP : va_P (dC, dI) vcl [] t.heap := fun k q h => by simp at h
  have hD := hD.sub (ws' := []) [] (by decide) rfl
  have hK := hK.sub (tys' := []) [] rfl
  refine W.eq (g2 := F0 m 13 ls [.ref xx]) rfl ?_
  refine lv_astore (lv' := [(4, .ref xx), (0, .ref x), (1, .int k), (2, .int g), (3, .ref ob)]) hx hb d_L_output_13 hl (by decide) rfl (fun ls hl => ?_)
  refine lv_iconst (v := 1) hx hb d_L_output_15 (by decide) ?_
  have hP9 := hP.sub (ws' := []) [] rfl
  have hD9 := hD.sub (ws' := []) [] (by decide) rfl
  have hK9 := hK.sub (tys' := []) [] rfl
  refine W.widen (k := 1) (n := 6) (by omega) (by omega) ?_
  exact W.iret (v := 1) hx hb hr (fun t ht hW => ⟨⟨1, (), rfl, rfl, by rw [ht]; exact hP9, va_K.moved hW.alike hK9, hD9⟩, hS.F ht⟩) hS.2.2 d_L_output_16
end
section
theorem wd_41 {U : State} (h : TB U) (args : Array Value) : (Cond.selects "BigRunnerModel" ⟨"BigRunnerModel", "reads", "()Z"⟩ ⟨"BigRunnerModel", "reads", "()Z"⟩).before args U = true := h.w 41 (by decide +kernel) rfl args
theorem wd_42 {U : State} (h : TB U) (args : Array Value) : (Cond.selects "BigRunnerModel" ⟨"BigRunnerModel", "statement", "()Z"⟩ ⟨"BigRunnerModel", "statement", "()Z"⟩).before args U = true := h.w 42 (by decide +kernel) rfl args
theorem wd_43 {U : State} (h : TB U) (args : Array Value) : (Cond.selects "BigRunnerModel" ⟨"BigRunnerModel", "here", "()C"⟩ ⟨"BigRunnerModel", "here", "()C"⟩).before args U = true := h.w 43 (by decide +kernel) rfl args
theorem wd_82 {U : State} (h : TB U) (args : Array Value) : (Cond.initialized "BigRunnerModel").before args U = true := h.w 82 (by decide +kernel) rfl args
theorem wd_946 {U : State} (h : TB U) (args : Array Value) : (Cond.methodLink "BigRunnerModel" 1 ⟨"java/lang/Object", "<init>", "()V"⟩).before args U = true := h.w 946 (by decide +kernel) rfl args
theorem wd_947 {U : State} (h : TB U) (args : Array Value) : (Cond.fieldLink "BigRunnerModel" 94 "BigRunnerModel" "thrown" "I").before args U = true := h.w 947 (by decide +kernel) rfl args
theorem wd_948 {U : State} (h : TB U) (args : Array Value) : (Cond.fieldLink "BigRunnerModel" 7 "BigRunnerModel" "text" "[C").before args U = true := h.w 948 (by decide +kernel) rfl args
theorem wd_949 {U : State} (h : TB U) (args : Array Value) : (Cond.fieldLink "BigRunnerModel" 101 "BigRunnerModel" "length" "I").before args U = true := h.w 949 (by decide +kernel) rfl args
theorem wd_950 {U : State} (h : TB U) (args : Array Value) : (Cond.fieldLink "BigRunnerModel" 13 "BigRunnerModel" "draft" "[I").before args U = true := h.w 950 (by decide +kernel) rfl args
theorem wd_951 {U : State} (h : TB U) (args : Array Value) : (Cond.fieldLink "BigRunnerModel" 17 "BigRunnerModel" "draftArg" "[I").before args U = true := h.w 951 (by decide +kernel) rfl args
theorem wd_952 {U : State} (h : TB U) (args : Array Value) : (Cond.fieldLink "BigRunnerModel" 104 "BigRunnerModel" "drafts" "I").before args U = true := h.w 952 (by decide +kernel) rfl args
theorem wd_953 {U : State} (h : TB U) (args : Array Value) : (Cond.fieldLink "BigRunnerModel" 20 "BigRunnerModel" "code" "[I").before args U = true := h.w 953 (by decide +kernel) rfl args
theorem wd_954 {U : State} (h : TB U) (args : Array Value) : (Cond.fieldLink "BigRunnerModel" 23 "BigRunnerModel" "arg" "[I").before args U = true := h.w 954 (by decide +kernel) rfl args
theorem wd_955 {U : State} (h : TB U) (args : Array Value) : (Cond.fieldLink "BigRunnerModel" 26 "BigRunnerModel" "machineSign" "[Z").before args U = true := h.w 955 (by decide +kernel) rfl args
theorem wd_957 {U : State} (h : TB U) (args : Array Value) : (Cond.fieldLink "BigRunnerModel" 98 "BigRunnerModel" "at" "I").before args U = true := h.w 957 (by decide +kernel) rfl args
theorem wd_958 {U : State} (h : TB U) (args : Array Value) : (Cond.fieldLink "BigRunnerModel" 118 "BigRunnerModel" "depth" "I").before args U = true := h.w 958 (by decide +kernel) rfl args
theorem wd_959 {U : State} (h : TB U) (args : Array Value) : (Cond.fieldLink "BigRunnerModel" 30 "BigRunnerModel" "wait" "[C").before args U = true := h.w 959 (by decide +kernel) rfl args
theorem wd_961 {U : State} (h : TB U) (args : Array Value) : (Cond.fieldLink "BigRunnerModel" 33 "BigRunnerModel" "begins" "[I").before args U = true := h.w 961 (by decide +kernel) rfl args
theorem wd_962 {U : State} (h : TB U) (args : Array Value) : (Cond.fieldLink "BigRunnerModel" 36 "BigRunnerModel" "kinds" "[I").before args U = true := h.w 962 (by decide +kernel) rfl args
theorem wd_963 {U : State} (h : TB U) (args : Array Value) : (Cond.fieldLink "BigRunnerModel" 143 "BigRunnerModel" "opened" "I").before args U = true := h.w 963 (by decide +kernel) rfl args
theorem wd_964 {U : State} (h : TB U) (args : Array Value) : (Cond.fieldLink "BigRunnerModel" 39 "BigRunnerModel" "low" "[J").before args U = true := h.w 964 (by decide +kernel) rfl args
theorem wd_965 {U : State} (h : TB U) (args : Array Value) : (Cond.fieldLink "BigRunnerModel" 43 "BigRunnerModel" "high" "[J").before args U = true := h.w 965 (by decide +kernel) rfl args
theorem wd_966 {U : State} (h : TB U) (args : Array Value) : (Cond.fieldLink "BigRunnerModel" 46 "BigRunnerModel" "under" "[Z").before args U = true := h.w 966 (by decide +kernel) rfl args
theorem wd_967 {U : State} (h : TB U) (args : Array Value) : (Cond.fieldLink "BigRunnerModel" 49 "BigRunnerModel" "over" "[Z").before args U = true := h.w 967 (by decide +kernel) rfl args
theorem wd_968 {U : State} (h : TB U) (args : Array Value) : (Cond.fieldLink "BigRunnerModel" 52 "BigRunnerModel" "a" "[J").before args U = true := h.w 968 (by decide +kernel) rfl args
theorem wd_969 {U : State} (h : TB U) (args : Array Value) : (Cond.fieldLink "BigRunnerModel" 55 "BigRunnerModel" "b" "[J").before args U = true := h.w 969 (by decide +kernel) rfl args
theorem wd_970 {U : State} (h : TB U) (args : Array Value) : (Cond.fieldLink "BigRunnerModel" 58 "BigRunnerModel" "ua" "[Z").before args U = true := h.w 970 (by decide +kernel) rfl args
theorem wd_971 {U : State} (h : TB U) (args : Array Value) : (Cond.fieldLink "BigRunnerModel" 61 "BigRunnerModel" "ub" "[Z").before args U = true := h.w 971 (by decide +kernel) rfl args
theorem wd_972 {U : State} (h : TB U) (args : Array Value) : (Cond.fieldLink "BigRunnerModel" 64 "BigRunnerModel" "bounded" "[Z").before args U = true := h.w 972 (by decide +kernel) rfl args
theorem wd_973 {U : State} (h : TB U) (args : Array Value) : (Cond.fieldLink "BigRunnerModel" 67 "BigRunnerModel" "varLimbs" "[I").before args U = true := h.w 973 (by decide +kernel) rfl args
theorem wd_974 {U : State} (h : TB U) (args : Array Value) : (Cond.fieldLink "BigRunnerModel" 70 "BigRunnerModel" "varSign" "[I").before args U = true := h.w 974 (by decide +kernel) rfl args
theorem wd_975 {U : State} (h : TB U) (args : Array Value) : (Cond.fieldLink "BigRunnerModel" 73 "BigRunnerModel" "outLimbs" "[I").before args U = true := h.w 975 (by decide +kernel) rfl args
theorem wd_976 {U : State} (h : TB U) (args : Array Value) : (Cond.fieldLink "BigRunnerModel" 76 "BigRunnerModel" "outSign" "[I").before args U = true := h.w 976 (by decide +kernel) rfl args
theorem wd_977 {U : State} (h : TB U) (args : Array Value) : (Cond.fieldLink "BigRunnerModel" 79 "BigRunnerModel" "limbs" "[I").before args U = true := h.w 977 (by decide +kernel) rfl args
theorem wd_978 {U : State} (h : TB U) (args : Array Value) : (Cond.fieldLink "BigRunnerModel" 82 "BigRunnerModel" "sign" "[I").before args U = true := h.w 978 (by decide +kernel) rfl args
theorem wd_980 {U : State} (h : TB U) (args : Array Value) : (Cond.fieldLink "BigRunnerModel" 85 "BigRunnerModel" "result" "[I").before args U = true := h.w 980 (by decide +kernel) rfl args
theorem wd_981 {U : State} (h : TB U) (args : Array Value) : (Cond.fieldLink "BigRunnerModel" 88 "BigRunnerModel" "rest" "[I").before args U = true := h.w 981 (by decide +kernel) rfl args
theorem wd_982 {U : State} (h : TB U) (args : Array Value) : (Cond.fieldLink "BigRunnerModel" 91 "BigRunnerModel" "inputs" "[I").before args U = true := h.w 982 (by decide +kernel) rfl args
theorem wd_983 {U : State} (h : TB U) (args : Array Value) : (Cond.fieldLink "BigRunnerModel" 282 "BigRunnerModel" "waiting" "I").before args U = true := h.w 983 (by decide +kernel) rfl args
theorem wd_984 {U : State} (h : TB U) (args : Array Value) : (Cond.fieldLink "BigRunnerModel" 264 "BigRunnerModel" "given" "I").before args U = true := h.w 984 (by decide +kernel) rfl args
theorem wd_986 {U : State} (h : TB U) (args : Array Value) : (Cond.fieldLink "BigRunnerModel" 270 "BigRunnerModel" "state" "I").before args U = true := h.w 986 (by decide +kernel) rfl args
theorem wd_987 {U : State} (h : TB U) (args : Array Value) : (Cond.fieldLink "BigRunnerModel" 238 "BigRunnerModel" "trap" "I").before args U = true := h.w 987 (by decide +kernel) rfl args
theorem wd_988 {U : State} (h : TB U) (args : Array Value) : (Cond.fieldLink "BigRunnerModel" 273 "BigRunnerModel" "steps" "I").before args U = true := h.w 988 (by decide +kernel) rfl args
theorem wd_989 {U : State} (h : TB U) (args : Array Value) : (Cond.fieldLink "BigRunnerModel" 232 "BigRunnerModel" "machine" "I").before args U = true := h.w 989 (by decide +kernel) rfl args
theorem wd_990 {U : State} (h : TB U) (args : Array Value) : (Cond.fieldLink "BigRunnerModel" 235 "BigRunnerModel" "longs" "I").before args U = true := h.w 990 (by decide +kernel) rfl args
theorem wd_991 {U : State} (h : TB U) (args : Array Value) : (Cond.fieldLink "BigRunnerModel" 149 "BigRunnerModel" "dueStatement" "Z").before args U = true := h.w 991 (by decide +kernel) rfl args
theorem wd_1083 {U : State} (h : TB U) (args : Array Value) : (Cond.arrayClass .boolean).before args U = true := h.w 1083 (by decide +kernel) rfl args
theorem wd_1100 {U : State} (h : TB U) (args : Array Value) : (Cond.methodLink "BigRunnerModel" 261 ⟨"BigRunnerModel", "reads", "()Z"⟩).before args U = true := h.w 1100 (by decide +kernel) rfl args
theorem wd_1102 {U : State} (h : TB U) (args : Array Value) : (Cond.instanceMethod ⟨"BigRunnerModel", "reads", "()Z"⟩).before args U = true := h.w 1102 (by decide +kernel) rfl args
theorem wd_1103 {U : State} (h : TB U) (args : Array Value) : (Cond.code ⟨"BigRunnerModel", "reads", "()Z"⟩ prog_12_method_14_code 3 (some .boolean)).before args U = true := h.w 1103 (by decide +kernel) rfl args
theorem wd_1104 {U : State} (h : TB U) (args : Array Value) : (Cond.methodLink "BigRunnerModel" 153 ⟨"BigRunnerModel", "statement", "()Z"⟩).before args U = true := h.w 1104 (by decide +kernel) rfl args
theorem wd_1106 {U : State} (h : TB U) (args : Array Value) : (Cond.instanceMethod ⟨"BigRunnerModel", "statement", "()Z"⟩).before args U = true := h.w 1106 (by decide +kernel) rfl args
theorem wd_1107 {U : State} (h : TB U) (args : Array Value) : (Cond.code ⟨"BigRunnerModel", "statement", "()Z"⟩ prog_12_method_12_code 3 (some .boolean)).before args U = true := h.w 1107 (by decide +kernel) rfl args
theorem wd_1108 {U : State} (h : TB U) (args : Array Value) : (Cond.methodLink "BigRunnerModel" 121 ⟨"BigRunnerModel", "here", "()C"⟩).before args U = true := h.w 1108 (by decide +kernel) rfl args
theorem wd_1110 {U : State} (h : TB U) (args : Array Value) : (Cond.instanceMethod ⟨"BigRunnerModel", "here", "()C"⟩).before args U = true := h.w 1110 (by decide +kernel) rfl args
theorem wd_1111 {U : State} (h : TB U) (args : Array Value) : (Cond.code ⟨"BigRunnerModel", "here", "()C"⟩ prog_12_method_3_code 1 (some .char)).before args U = true := h.w 1111 (by decide +kernel) rfl args
theorem wd_1116 {U : State} (h : TB U) (args : Array Value) : (Cond.methodLink "BigRunnerModel" 129 ⟨"BigRunnerModel", "isName", "(C)Z"⟩).before args U = true := h.w 1116 (by decide +kernel) rfl args
theorem wd_1117 {U : State} (h : TB U) (args : Array Value) : (Cond.static ⟨"BigRunnerModel", "isName", "(C)Z"⟩).before args U = true := h.w 1117 (by decide +kernel) rfl args
theorem wd_1118 {U : State} (h : TB U) (args : Array Value) : (Cond.code ⟨"BigRunnerModel", "isName", "(C)Z"⟩ prog_12_method_6_code 1 (some .boolean)).before args U = true := h.w 1118 (by decide +kernel) rfl args
theorem wd_1194 {U : State} (h : TB U) (args : Array Value) : (Cond.constant "BigRunnerModel" 280 (-1000000000)).before args U = true := h.w 1194 (by decide +kernel) rfl args
theorem wd_1195 {U : State} (h : TB U) (args : Array Value) : (Cond.constant "BigRunnerModel" 281 1000000000).before args U = true := h.w 1195 (by decide +kernel) rfl args
theorem d_M_init_0 : decode prog_12_method_1_code 0 = .ok (.aload_n 0, 1) := by decide +kernel
theorem d_M_init_1 : decode prog_12_method_1_code 1 = .ok (.invokespecial 1, 3) := by decide +kernel
theorem d_M_init_4 : decode prog_12_method_1_code 4 = .ok (.aload_n 0, 1) := by decide +kernel
theorem d_M_init_5 : decode prog_12_method_1_code 5 = .ok (.bipush 72, 2) := by decide +kernel
theorem d_M_init_7 : decode prog_12_method_1_code 7 = .ok (.newarray .char, 2) := by decide +kernel
theorem d_M_init_9 : decode prog_12_method_1_code 9 = .ok (.putfield 7, 3) := by decide +kernel
theorem d_M_init_12 : decode prog_12_method_1_code 12 = .ok (.aload_n 0, 1) := by decide +kernel
theorem d_M_init_13 : decode prog_12_method_1_code 13 = .ok (.bipush 100, 2) := by decide +kernel
theorem d_M_init_15 : decode prog_12_method_1_code 15 = .ok (.newarray .int, 2) := by decide +kernel
theorem d_M_init_17 : decode prog_12_method_1_code 17 = .ok (.putfield 13, 3) := by decide +kernel
theorem d_M_init_20 : decode prog_12_method_1_code 20 = .ok (.aload_n 0, 1) := by decide +kernel
theorem d_M_init_21 : decode prog_12_method_1_code 21 = .ok (.bipush 100, 2) := by decide +kernel
theorem d_M_init_23 : decode prog_12_method_1_code 23 = .ok (.newarray .int, 2) := by decide +kernel
theorem d_M_init_25 : decode prog_12_method_1_code 25 = .ok (.putfield 17, 3) := by decide +kernel
theorem d_M_init_28 : decode prog_12_method_1_code 28 = .ok (.aload_n 0, 1) := by decide +kernel
theorem d_M_init_29 : decode prog_12_method_1_code 29 = .ok (.bipush 100, 2) := by decide +kernel
theorem d_M_init_31 : decode prog_12_method_1_code 31 = .ok (.newarray .int, 2) := by decide +kernel
theorem d_M_init_33 : decode prog_12_method_1_code 33 = .ok (.putfield 20, 3) := by decide +kernel
theorem d_M_init_36 : decode prog_12_method_1_code 36 = .ok (.aload_n 0, 1) := by decide +kernel
theorem d_M_init_37 : decode prog_12_method_1_code 37 = .ok (.bipush 100, 2) := by decide +kernel
theorem d_M_init_39 : decode prog_12_method_1_code 39 = .ok (.newarray .int, 2) := by decide +kernel
theorem d_M_init_41 : decode prog_12_method_1_code 41 = .ok (.putfield 23, 3) := by decide +kernel
theorem d_M_init_44 : decode prog_12_method_1_code 44 = .ok (.aload_n 0, 1) := by decide +kernel
theorem d_M_init_45 : decode prog_12_method_1_code 45 = .ok (.bipush 100, 2) := by decide +kernel
theorem d_M_init_47 : decode prog_12_method_1_code 47 = .ok (.newarray .boolean, 2) := by decide +kernel
theorem d_M_init_49 : decode prog_12_method_1_code 49 = .ok (.putfield 26, 3) := by decide +kernel
theorem d_M_init_52 : decode prog_12_method_1_code 52 = .ok (.aload_n 0, 1) := by decide +kernel
theorem d_M_init_53 : decode prog_12_method_1_code 53 = .ok (.bipush 72, 2) := by decide +kernel
theorem d_M_init_55 : decode prog_12_method_1_code 55 = .ok (.newarray .char, 2) := by decide +kernel
theorem d_M_init_57 : decode prog_12_method_1_code 57 = .ok (.putfield 30, 3) := by decide +kernel
theorem d_M_init_60 : decode prog_12_method_1_code 60 = .ok (.aload_n 0, 1) := by decide +kernel
theorem d_M_init_61 : decode prog_12_method_1_code 61 = .ok (.bipush 40, 2) := by decide +kernel
theorem d_M_init_63 : decode prog_12_method_1_code 63 = .ok (.newarray .int, 2) := by decide +kernel
theorem d_M_init_65 : decode prog_12_method_1_code 65 = .ok (.putfield 33, 3) := by decide +kernel
theorem d_M_init_68 : decode prog_12_method_1_code 68 = .ok (.aload_n 0, 1) := by decide +kernel
theorem d_M_init_69 : decode prog_12_method_1_code 69 = .ok (.bipush 40, 2) := by decide +kernel
theorem d_M_init_71 : decode prog_12_method_1_code 71 = .ok (.newarray .int, 2) := by decide +kernel
theorem d_M_init_73 : decode prog_12_method_1_code 73 = .ok (.putfield 36, 3) := by decide +kernel
theorem d_M_init_76 : decode prog_12_method_1_code 76 = .ok (.aload_n 0, 1) := by decide +kernel
theorem d_M_init_77 : decode prog_12_method_1_code 77 = .ok (.bipush 10, 2) := by decide +kernel
theorem d_M_init_79 : decode prog_12_method_1_code 79 = .ok (.newarray .long, 2) := by decide +kernel
theorem d_M_init_81 : decode prog_12_method_1_code 81 = .ok (.putfield 39, 3) := by decide +kernel
theorem d_M_init_84 : decode prog_12_method_1_code 84 = .ok (.aload_n 0, 1) := by decide +kernel
theorem d_M_init_85 : decode prog_12_method_1_code 85 = .ok (.bipush 10, 2) := by decide +kernel
theorem d_M_init_87 : decode prog_12_method_1_code 87 = .ok (.newarray .long, 2) := by decide +kernel
theorem d_M_init_89 : decode prog_12_method_1_code 89 = .ok (.putfield 43, 3) := by decide +kernel
theorem d_M_init_92 : decode prog_12_method_1_code 92 = .ok (.aload_n 0, 1) := by decide +kernel
theorem d_M_init_93 : decode prog_12_method_1_code 93 = .ok (.bipush 10, 2) := by decide +kernel
theorem d_M_init_95 : decode prog_12_method_1_code 95 = .ok (.newarray .boolean, 2) := by decide +kernel
theorem d_M_init_97 : decode prog_12_method_1_code 97 = .ok (.putfield 46, 3) := by decide +kernel
theorem d_M_init_100 : decode prog_12_method_1_code 100 = .ok (.aload_n 0, 1) := by decide +kernel
theorem d_M_init_101 : decode prog_12_method_1_code 101 = .ok (.bipush 10, 2) := by decide +kernel
theorem d_M_init_103 : decode prog_12_method_1_code 103 = .ok (.newarray .boolean, 2) := by decide +kernel
theorem d_M_init_105 : decode prog_12_method_1_code 105 = .ok (.putfield 49, 3) := by decide +kernel
theorem d_M_init_108 : decode prog_12_method_1_code 108 = .ok (.aload_n 0, 1) := by decide +kernel
theorem d_M_init_109 : decode prog_12_method_1_code 109 = .ok (.bipush 80, 2) := by decide +kernel
theorem d_M_init_111 : decode prog_12_method_1_code 111 = .ok (.newarray .long, 2) := by decide +kernel
theorem d_M_init_113 : decode prog_12_method_1_code 113 = .ok (.putfield 52, 3) := by decide +kernel
theorem d_M_init_116 : decode prog_12_method_1_code 116 = .ok (.aload_n 0, 1) := by decide +kernel
theorem d_M_init_117 : decode prog_12_method_1_code 117 = .ok (.bipush 80, 2) := by decide +kernel
theorem d_M_init_119 : decode prog_12_method_1_code 119 = .ok (.newarray .long, 2) := by decide +kernel
theorem d_M_init_121 : decode prog_12_method_1_code 121 = .ok (.putfield 55, 3) := by decide +kernel
theorem d_M_init_124 : decode prog_12_method_1_code 124 = .ok (.aload_n 0, 1) := by decide +kernel
theorem d_M_init_125 : decode prog_12_method_1_code 125 = .ok (.bipush 80, 2) := by decide +kernel
theorem d_M_init_127 : decode prog_12_method_1_code 127 = .ok (.newarray .boolean, 2) := by decide +kernel
theorem d_M_init_129 : decode prog_12_method_1_code 129 = .ok (.putfield 58, 3) := by decide +kernel
theorem d_M_init_132 : decode prog_12_method_1_code 132 = .ok (.aload_n 0, 1) := by decide +kernel
theorem d_M_init_133 : decode prog_12_method_1_code 133 = .ok (.bipush 80, 2) := by decide +kernel
theorem d_M_init_135 : decode prog_12_method_1_code 135 = .ok (.newarray .boolean, 2) := by decide +kernel
theorem d_M_init_137 : decode prog_12_method_1_code 137 = .ok (.putfield 61, 3) := by decide +kernel
theorem d_M_init_140 : decode prog_12_method_1_code 140 = .ok (.aload_n 0, 1) := by decide +kernel
theorem d_M_init_141 : decode prog_12_method_1_code 141 = .ok (.bipush 80, 2) := by decide +kernel
theorem d_M_init_143 : decode prog_12_method_1_code 143 = .ok (.newarray .boolean, 2) := by decide +kernel
theorem d_M_init_145 : decode prog_12_method_1_code 145 = .ok (.putfield 64, 3) := by decide +kernel
theorem d_M_init_148 : decode prog_12_method_1_code 148 = .ok (.aload_n 0, 1) := by decide +kernel
theorem d_M_init_149 : decode prog_12_method_1_code 149 = .ok (.sipush 200, 3) := by decide +kernel
theorem d_M_init_152 : decode prog_12_method_1_code 152 = .ok (.newarray .int, 2) := by decide +kernel
theorem d_M_init_154 : decode prog_12_method_1_code 154 = .ok (.putfield 67, 3) := by decide +kernel
theorem d_M_init_157 : decode prog_12_method_1_code 157 = .ok (.aload_n 0, 1) := by decide +kernel
theorem d_M_init_158 : decode prog_12_method_1_code 158 = .ok (.bipush 10, 2) := by decide +kernel
theorem d_M_init_160 : decode prog_12_method_1_code 160 = .ok (.newarray .int, 2) := by decide +kernel
theorem d_M_init_162 : decode prog_12_method_1_code 162 = .ok (.putfield 70, 3) := by decide +kernel
theorem d_M_init_165 : decode prog_12_method_1_code 165 = .ok (.aload_n 0, 1) := by decide +kernel
theorem d_M_init_166 : decode prog_12_method_1_code 166 = .ok (.sipush 240, 3) := by decide +kernel
theorem d_M_init_169 : decode prog_12_method_1_code 169 = .ok (.newarray .int, 2) := by decide +kernel
theorem d_M_init_171 : decode prog_12_method_1_code 171 = .ok (.putfield 73, 3) := by decide +kernel
theorem d_M_init_174 : decode prog_12_method_1_code 174 = .ok (.aload_n 0, 1) := by decide +kernel
theorem d_M_init_175 : decode prog_12_method_1_code 175 = .ok (.bipush 12, 2) := by decide +kernel
theorem d_M_init_177 : decode prog_12_method_1_code 177 = .ok (.newarray .int, 2) := by decide +kernel
theorem d_M_init_179 : decode prog_12_method_1_code 179 = .ok (.putfield 76, 3) := by decide +kernel
theorem d_M_init_182 : decode prog_12_method_1_code 182 = .ok (.aload_n 0, 1) := by decide +kernel
theorem d_M_init_183 : decode prog_12_method_1_code 183 = .ok (.sipush 1600, 3) := by decide +kernel
theorem d_M_init_186 : decode prog_12_method_1_code 186 = .ok (.newarray .int, 2) := by decide +kernel
theorem d_M_init_188 : decode prog_12_method_1_code 188 = .ok (.putfield 79, 3) := by decide +kernel
theorem d_M_init_191 : decode prog_12_method_1_code 191 = .ok (.aload_n 0, 1) := by decide +kernel
theorem d_M_init_192 : decode prog_12_method_1_code 192 = .ok (.bipush 80, 2) := by decide +kernel
theorem d_M_init_194 : decode prog_12_method_1_code 194 = .ok (.newarray .int, 2) := by decide +kernel
theorem d_M_init_196 : decode prog_12_method_1_code 196 = .ok (.putfield 82, 3) := by decide +kernel
theorem d_M_init_199 : decode prog_12_method_1_code 199 = .ok (.aload_n 0, 1) := by decide +kernel
theorem d_M_init_200 : decode prog_12_method_1_code 200 = .ok (.bipush 44, 2) := by decide +kernel
theorem d_M_init_202 : decode prog_12_method_1_code 202 = .ok (.newarray .int, 2) := by decide +kernel
theorem d_M_init_204 : decode prog_12_method_1_code 204 = .ok (.putfield 85, 3) := by decide +kernel
theorem d_M_init_207 : decode prog_12_method_1_code 207 = .ok (.aload_n 0, 1) := by decide +kernel
theorem d_M_init_208 : decode prog_12_method_1_code 208 = .ok (.bipush 44, 2) := by decide +kernel
theorem d_M_init_210 : decode prog_12_method_1_code 210 = .ok (.newarray .int, 2) := by decide +kernel
theorem d_M_init_212 : decode prog_12_method_1_code 212 = .ok (.putfield 88, 3) := by decide +kernel
theorem d_M_init_215 : decode prog_12_method_1_code 215 = .ok (.aload_n 0, 1) := by decide +kernel
theorem d_M_init_216 : decode prog_12_method_1_code 216 = .ok (.bipush 20, 2) := by decide +kernel
theorem d_M_init_218 : decode prog_12_method_1_code 218 = .ok (.newarray .int, 2) := by decide +kernel
theorem d_M_init_220 : decode prog_12_method_1_code 220 = .ok (.putfield 91, 3) := by decide +kernel
theorem d_M_init_223 : decode prog_12_method_1_code 223 = .ok (.return_, 1) := by decide +kernel
theorem d_M_bound_0 : decode prog_12_method_47_code 0 = .ok (.iload_n 1, 1) := by decide +kernel
theorem d_M_bound_1 : decode prog_12_method_47_code 1 = .ok (.ifCond .lt 20, 3) := by decide +kernel
theorem d_M_bound_4 : decode prog_12_method_47_code 4 = .ok (.iload_n 1, 1) := by decide +kernel
theorem d_M_bound_5 : decode prog_12_method_47_code 5 = .ok (.bipush 10, 2) := by decide +kernel
theorem d_M_bound_7 : decode prog_12_method_47_code 7 = .ok (.if_icmp .ge 14, 3) := by decide +kernel
theorem d_M_bound_10 : decode prog_12_method_47_code 10 = .ok (.aload_n 0, 1) := by decide +kernel
theorem d_M_bound_11 : decode prog_12_method_47_code 11 = .ok (.getfield 270, 3) := by decide +kernel
theorem d_M_bound_14 : decode prog_12_method_47_code 14 = .ok (.ifCond .le 7, 3) := by decide +kernel
theorem d_M_bound_21 : decode prog_12_method_47_code 21 = .ok (.iconst 0, 1) := by decide +kernel
theorem d_M_bound_22 : decode prog_12_method_47_code 22 = .ok (.istore_n 3, 1) := by decide +kernel
theorem d_M_bound_23 : decode prog_12_method_47_code 23 = .ok (.aload_n 0, 1) := by decide +kernel
theorem d_M_bound_24 : decode prog_12_method_47_code 24 = .ok (.iload_n 3, 1) := by decide +kernel
theorem d_M_bound_25 : decode prog_12_method_47_code 25 = .ok (.ifCond .eq 7, 3) := by decide +kernel
theorem d_M_bound_32 : decode prog_12_method_47_code 32 = .ok (.iconst 1, 1) := by decide +kernel
theorem d_M_bound_33 : decode prog_12_method_47_code 33 = .ok (.putfield 94, 3) := by decide +kernel
theorem d_M_bound_36 : decode prog_12_method_47_code 36 = .ok (.iload_n 3, 1) := by decide +kernel
theorem d_M_bound_37 : decode prog_12_method_47_code 37 = .ok (.ifCond .ne 5, 3) := by decide +kernel
theorem d_M_bound_40 : decode prog_12_method_47_code 40 = .ok (.lconst 0, 1) := by decide +kernel
theorem d_M_bound_41 : decode prog_12_method_47_code 41 = .ok (.lreturn, 1) := by decide +kernel
theorem d_M_give_0 : decode prog_12_method_41_code 0 = .ok (.aload_n 0, 1) := by decide +kernel
theorem d_M_give_1 : decode prog_12_method_41_code 1 = .ok (.iconst 0, 1) := by decide +kernel
theorem d_M_give_2 : decode prog_12_method_41_code 2 = .ok (.putfield 94, 3) := by decide +kernel
theorem d_M_give_5 : decode prog_12_method_41_code 5 = .ok (.iload_n 1, 1) := by decide +kernel
theorem d_M_give_6 : decode prog_12_method_41_code 6 = .ok (.ldc_w 280, 3) := by decide +kernel
theorem d_M_give_9 : decode prog_12_method_41_code 9 = .ok (.if_icmp .lt 19, 3) := by decide +kernel
theorem d_M_give_12 : decode prog_12_method_41_code 12 = .ok (.iload_n 1, 1) := by decide +kernel
theorem d_M_give_13 : decode prog_12_method_41_code 13 = .ok (.ldc_w 281, 3) := by decide +kernel
theorem d_M_give_16 : decode prog_12_method_41_code 16 = .ok (.if_icmp .gt 12, 3) := by decide +kernel
theorem d_M_give_19 : decode prog_12_method_41_code 19 = .ok (.aload_n 0, 1) := by decide +kernel
theorem d_M_give_20 : decode prog_12_method_41_code 20 = .ok (.getfield 282, 3) := by decide +kernel
theorem d_M_give_23 : decode prog_12_method_41_code 23 = .ok (.bipush 20, 2) := by decide +kernel
theorem d_M_give_25 : decode prog_12_method_41_code 25 = .ok (.if_icmp .ne 5, 3) := by decide +kernel
theorem d_M_give_28 : decode prog_12_method_41_code 28 = .ok (.iconst 0, 1) := by decide +kernel
theorem d_M_give_29 : decode prog_12_method_41_code 29 = .ok (.ireturn, 1) := by decide +kernel
theorem d_M_give_30 : decode prog_12_method_41_code 30 = .ok (.aload_n 0, 1) := by decide +kernel
theorem d_M_give_31 : decode prog_12_method_41_code 31 = .ok (.getfield 91, 3) := by decide +kernel
theorem d_M_give_34 : decode prog_12_method_41_code 34 = .ok (.aload_n 0, 1) := by decide +kernel
theorem d_M_give_35 : decode prog_12_method_41_code 35 = .ok (.getfield 282, 3) := by decide +kernel
theorem d_M_give_38 : decode prog_12_method_41_code 38 = .ok (.iload_n 1, 1) := by decide +kernel
theorem d_M_give_39 : decode prog_12_method_41_code 39 = .ok (.iastore, 1) := by decide +kernel
theorem d_M_give_40 : decode prog_12_method_41_code 40 = .ok (.aload_n 0, 1) := by decide +kernel
theorem d_M_give_41 : decode prog_12_method_41_code 41 = .ok (.dup, 1) := by decide +kernel
theorem d_M_give_42 : decode prog_12_method_41_code 42 = .ok (.getfield 282, 3) := by decide +kernel
theorem d_M_give_45 : decode prog_12_method_41_code 45 = .ok (.iconst 1, 1) := by decide +kernel
theorem d_M_give_46 : decode prog_12_method_41_code 46 = .ok (.iadd, 1) := by decide +kernel
theorem d_M_give_47 : decode prog_12_method_41_code 47 = .ok (.putfield 282, 3) := by decide +kernel
theorem d_M_give_50 : decode prog_12_method_41_code 50 = .ok (.iconst 1, 1) := by decide +kernel
theorem d_M_give_51 : decode prog_12_method_41_code 51 = .ok (.ireturn, 1) := by decide +kernel
theorem d_M_here_0 : decode prog_12_method_3_code 0 = .ok (.aload_n 0, 1) := by decide +kernel
theorem d_M_here_1 : decode prog_12_method_3_code 1 = .ok (.getfield 98, 3) := by decide +kernel
theorem d_M_here_4 : decode prog_12_method_3_code 4 = .ok (.aload_n 0, 1) := by decide +kernel
theorem d_M_here_5 : decode prog_12_method_3_code 5 = .ok (.getfield 101, 3) := by decide +kernel
theorem d_M_here_8 : decode prog_12_method_3_code 8 = .ok (.if_icmp .ge 15, 3) := by decide +kernel
theorem d_M_here_23 : decode prog_12_method_3_code 23 = .ok (.bipush 10, 2) := by decide +kernel
theorem d_M_here_25 : decode prog_12_method_3_code 25 = .ok (.ireturn, 1) := by decide +kernel
theorem d_M_isName_0 : decode prog_12_method_6_code 0 = .ok (.iload_n 0, 1) := by decide +kernel
theorem d_M_isName_1 : decode prog_12_method_6_code 1 = .ok (.bipush 97, 2) := by decide +kernel
theorem d_M_isName_3 : decode prog_12_method_6_code 3 = .ok (.if_icmp .lt 13, 3) := by decide +kernel
theorem d_M_isName_16 : decode prog_12_method_6_code 16 = .ok (.iconst 0, 1) := by decide +kernel
theorem d_M_isName_17 : decode prog_12_method_6_code 17 = .ok (.ireturn, 1) := by decide +kernel
theorem d_M_load_0 : decode prog_12_method_40_code 0 = .ok (.aload_n 0, 1) := by decide +kernel
theorem d_M_load_1 : decode prog_12_method_40_code 1 = .ok (.aload_n 0, 1) := by decide +kernel
theorem d_M_load_2 : decode prog_12_method_40_code 2 = .ok (.invokevirtual 261, 3) := by decide +kernel
theorem d_M_load_5 : decode prog_12_method_40_code 5 = .ok (.ifCond .eq 7, 3) := by decide +kernel
theorem d_M_load_12 : decode prog_12_method_40_code 12 = .ok (.iconst 1, 1) := by decide +kernel
theorem d_M_load_13 : decode prog_12_method_40_code 13 = .ok (.putfield 94, 3) := by decide +kernel
theorem d_M_load_16 : decode prog_12_method_40_code 16 = .ok (.aload_n 0, 1) := by decide +kernel
theorem d_M_load_17 : decode prog_12_method_40_code 17 = .ok (.getfield 94, 3) := by decide +kernel
theorem d_M_load_20 : decode prog_12_method_40_code 20 = .ok (.ifCond .le 5, 3) := by decide +kernel
theorem d_M_load_23 : decode prog_12_method_40_code 23 = .ok (.iconst 0, 1) := by decide +kernel
theorem d_M_load_24 : decode prog_12_method_40_code 24 = .ok (.ireturn, 1) := by decide +kernel
theorem d_M_look_0 : decode prog_12_method_46_code 0 = .ok (.aload_n 0, 1) := by decide +kernel
theorem d_M_look_1 : decode prog_12_method_46_code 1 = .ok (.iconst 0, 1) := by decide +kernel
theorem d_M_look_2 : decode prog_12_method_46_code 2 = .ok (.putfield 94, 3) := by decide +kernel
theorem d_M_look_5 : decode prog_12_method_46_code 5 = .ok (.iload_n 1, 1) := by decide +kernel
theorem d_M_look_6 : decode prog_12_method_46_code 6 = .ok (.iconst 4, 1) := by decide +kernel
theorem d_M_look_7 : decode prog_12_method_46_code 7 = .ok (.if_icmp .ge 52, 3) := by decide +kernel
theorem d_M_look_10 : decode prog_12_method_46_code 10 = .ok (.iload_n 1, 1) := by decide +kernel
theorem d_M_look_11 : decode prog_12_method_46_code 11 = .ok (.ifCond .ne 10, 3) := by decide +kernel
theorem d_M_look_14 : decode prog_12_method_46_code 14 = .ok (.aload_n 0, 1) := by decide +kernel
theorem d_M_look_15 : decode prog_12_method_46_code 15 = .ok (.getfield 270, 3) := by decide +kernel
theorem d_M_look_18 : decode prog_12_method_46_code 18 = .ok (.goto 40, 3) := by decide +kernel
theorem d_M_look_21 : decode prog_12_method_46_code 21 = .ok (.iload_n 1, 1) := by decide +kernel
theorem d_M_look_22 : decode prog_12_method_46_code 22 = .ok (.iconst 1, 1) := by decide +kernel
theorem d_M_look_23 : decode prog_12_method_46_code 23 = .ok (.if_icmp .ne 10, 3) := by decide +kernel
theorem d_M_look_26 : decode prog_12_method_46_code 26 = .ok (.aload_n 0, 1) := by decide +kernel
theorem d_M_look_27 : decode prog_12_method_46_code 27 = .ok (.getfield 238, 3) := by decide +kernel
theorem d_M_look_30 : decode prog_12_method_46_code 30 = .ok (.goto 28, 3) := by decide +kernel
theorem d_M_look_33 : decode prog_12_method_46_code 33 = .ok (.iload_n 1, 1) := by decide +kernel
theorem d_M_look_34 : decode prog_12_method_46_code 34 = .ok (.iconst 2, 1) := by decide +kernel
theorem d_M_look_35 : decode prog_12_method_46_code 35 = .ok (.if_icmp .ne 10, 3) := by decide +kernel
theorem d_M_look_38 : decode prog_12_method_46_code 38 = .ok (.aload_n 0, 1) := by decide +kernel
theorem d_M_look_39 : decode prog_12_method_46_code 39 = .ok (.getfield 273, 3) := by decide +kernel
theorem d_M_look_42 : decode prog_12_method_46_code 42 = .ok (.goto 16, 3) := by decide +kernel
theorem d_M_look_45 : decode prog_12_method_46_code 45 = .ok (.iload_n 1, 1) := by decide +kernel
theorem d_M_look_46 : decode prog_12_method_46_code 46 = .ok (.iconst 3, 1) := by decide +kernel
theorem d_M_look_47 : decode prog_12_method_46_code 47 = .ok (.if_icmp .ne 10, 3) := by decide +kernel
theorem d_M_look_50 : decode prog_12_method_46_code 50 = .ok (.aload_n 0, 1) := by decide +kernel
theorem d_M_look_51 : decode prog_12_method_46_code 51 = .ok (.getfield 232, 3) := by decide +kernel
theorem d_M_look_54 : decode prog_12_method_46_code 54 = .ok (.goto 4, 3) := by decide +kernel
theorem d_M_look_57 : decode prog_12_method_46_code 57 = .ok (.iconst (-1), 1) := by decide +kernel
theorem d_M_look_58 : decode prog_12_method_46_code 58 = .ok (.ireturn, 1) := by decide +kernel
theorem d_M_look_59 : decode prog_12_method_46_code 59 = .ok (.iload_n 1, 1) := by decide +kernel
theorem d_M_look_60 : decode prog_12_method_46_code 60 = .ok (.iconst 4, 1) := by decide +kernel
theorem d_M_look_61 : decode prog_12_method_46_code 61 = .ok (.if_icmp .ne 10, 3) := by decide +kernel
theorem d_M_look_64 : decode prog_12_method_46_code 64 = .ok (.aload_n 0, 1) := by decide +kernel
theorem d_M_look_65 : decode prog_12_method_46_code 65 = .ok (.getfield 235, 3) := by decide +kernel
theorem d_M_look_68 : decode prog_12_method_46_code 68 = .ok (.goto 29, 3) := by decide +kernel
theorem d_M_look_71 : decode prog_12_method_46_code 71 = .ok (.iload_n 1, 1) := by decide +kernel
theorem d_M_look_72 : decode prog_12_method_46_code 72 = .ok (.iconst 5, 1) := by decide +kernel
theorem d_M_look_73 : decode prog_12_method_46_code 73 = .ok (.if_icmp .ne 10, 3) := by decide +kernel
theorem d_M_look_76 : decode prog_12_method_46_code 76 = .ok (.aload_n 0, 1) := by decide +kernel
theorem d_M_look_77 : decode prog_12_method_46_code 77 = .ok (.getfield 264, 3) := by decide +kernel
theorem d_M_look_80 : decode prog_12_method_46_code 80 = .ok (.goto 17, 3) := by decide +kernel
theorem d_M_look_83 : decode prog_12_method_46_code 83 = .ok (.iload_n 1, 1) := by decide +kernel
theorem d_M_look_84 : decode prog_12_method_46_code 84 = .ok (.bipush 6, 2) := by decide +kernel
theorem d_M_look_86 : decode prog_12_method_46_code 86 = .ok (.if_icmp .ne 10, 3) := by decide +kernel
theorem d_M_look_89 : decode prog_12_method_46_code 89 = .ok (.aload_n 0, 1) := by decide +kernel
theorem d_M_look_90 : decode prog_12_method_46_code 90 = .ok (.getfield 282, 3) := by decide +kernel
theorem d_M_look_93 : decode prog_12_method_46_code 93 = .ok (.goto 4, 3) := by decide +kernel
theorem d_M_look_96 : decode prog_12_method_46_code 96 = .ok (.iconst (-1), 1) := by decide +kernel
theorem d_M_look_97 : decode prog_12_method_46_code 97 = .ok (.ireturn, 1) := by decide +kernel
theorem d_M_output_0 : decode prog_12_method_51_code 0 = .ok (.iload_n 1, 1) := by decide +kernel
theorem d_M_output_1 : decode prog_12_method_51_code 1 = .ok (.ifCond .lt 27, 3) := by decide +kernel
theorem d_M_output_4 : decode prog_12_method_51_code 4 = .ok (.iload_n 1, 1) := by decide +kernel
theorem d_M_output_5 : decode prog_12_method_51_code 5 = .ok (.aload_n 0, 1) := by decide +kernel
theorem d_M_output_6 : decode prog_12_method_51_code 6 = .ok (.getfield 264, 3) := by decide +kernel
theorem d_M_output_9 : decode prog_12_method_51_code 9 = .ok (.if_icmp .ge 19, 3) := by decide +kernel
theorem d_M_output_28 : decode prog_12_method_51_code 28 = .ok (.iconst 0, 1) := by decide +kernel
theorem d_M_output_29 : decode prog_12_method_51_code 29 = .ok (.istore_n 3, 1) := by decide +kernel
theorem d_M_output_30 : decode prog_12_method_51_code 30 = .ok (.aload_n 0, 1) := by decide +kernel
theorem d_M_output_31 : decode prog_12_method_51_code 31 = .ok (.iload_n 3, 1) := by decide +kernel
theorem d_M_output_32 : decode prog_12_method_51_code 32 = .ok (.ifCond .eq 7, 3) := by decide +kernel
theorem d_M_output_39 : decode prog_12_method_51_code 39 = .ok (.iconst 1, 1) := by decide +kernel
theorem d_M_output_40 : decode prog_12_method_51_code 40 = .ok (.putfield 94, 3) := by decide +kernel
theorem d_M_output_43 : decode prog_12_method_51_code 43 = .ok (.iload_n 3, 1) := by decide +kernel
theorem d_M_output_44 : decode prog_12_method_51_code 44 = .ok (.ifCond .eq 24, 3) := by decide +kernel
theorem d_M_output_68 : decode prog_12_method_51_code 68 = .ok (.iconst 0, 1) := by decide +kernel
theorem d_M_output_69 : decode prog_12_method_51_code 69 = .ok (.ireturn, 1) := by decide +kernel
theorem d_M_reads_0 : decode prog_12_method_14_code 0 = .ok (.aload_n 0, 1) := by decide +kernel
theorem d_M_reads_1 : decode prog_12_method_14_code 1 = .ok (.iconst 0, 1) := by decide +kernel
theorem d_M_reads_2 : decode prog_12_method_14_code 2 = .ok (.putfield 98, 3) := by decide +kernel
theorem d_M_reads_5 : decode prog_12_method_14_code 5 = .ok (.aload_n 0, 1) := by decide +kernel
theorem d_M_reads_6 : decode prog_12_method_14_code 6 = .ok (.iconst 1, 1) := by decide +kernel
theorem d_M_reads_7 : decode prog_12_method_14_code 7 = .ok (.putfield 118, 3) := by decide +kernel
theorem d_M_reads_10 : decode prog_12_method_14_code 10 = .ok (.aload_n 0, 1) := by decide +kernel
theorem d_M_reads_11 : decode prog_12_method_14_code 11 = .ok (.iconst 0, 1) := by decide +kernel
theorem d_M_reads_12 : decode prog_12_method_14_code 12 = .ok (.putfield 104, 3) := by decide +kernel
theorem d_M_reads_15 : decode prog_12_method_14_code 15 = .ok (.aload_n 0, 1) := by decide +kernel
theorem d_M_reads_16 : decode prog_12_method_14_code 16 = .ok (.iconst 0, 1) := by decide +kernel
theorem d_M_reads_17 : decode prog_12_method_14_code 17 = .ok (.putfield 143, 3) := by decide +kernel
theorem d_M_reads_20 : decode prog_12_method_14_code 20 = .ok (.aload_n 0, 1) := by decide +kernel
theorem d_M_reads_21 : decode prog_12_method_14_code 21 = .ok (.iconst 1, 1) := by decide +kernel
theorem d_M_reads_22 : decode prog_12_method_14_code 22 = .ok (.putfield 149, 3) := by decide +kernel
theorem d_M_reads_25 : decode prog_12_method_14_code 25 = .ok (.iconst 1, 1) := by decide +kernel
theorem d_M_reads_26 : decode prog_12_method_14_code 26 = .ok (.istore_n 1, 1) := by decide +kernel
theorem d_M_reads_27 : decode prog_12_method_14_code 27 = .ok (.iload_n 1, 1) := by decide +kernel
theorem d_M_reads_28 : decode prog_12_method_14_code 28 = .ok (.ifCond .eq 79, 3) := by decide +kernel
theorem d_M_reads_31 : decode prog_12_method_14_code 31 = .ok (.aload_n 0, 1) := by decide +kernel
theorem d_M_reads_32 : decode prog_12_method_14_code 32 = .ok (.getfield 149, 3) := by decide +kernel
theorem d_M_reads_35 : decode prog_12_method_14_code 35 = .ok (.ifCond .ne 14, 3) := by decide +kernel
theorem d_M_reads_49 : decode prog_12_method_14_code 49 = .ok (.aload_n 0, 1) := by decide +kernel
theorem d_M_reads_50 : decode prog_12_method_14_code 50 = .ok (.getfield 149, 3) := by decide +kernel
theorem d_M_reads_53 : decode prog_12_method_14_code 53 = .ok (.ifCond .eq 16, 3) := by decide +kernel
theorem d_M_reads_56 : decode prog_12_method_14_code 56 = .ok (.aload_n 0, 1) := by decide +kernel
theorem d_M_reads_57 : decode prog_12_method_14_code 57 = .ok (.iconst 0, 1) := by decide +kernel
theorem d_M_reads_58 : decode prog_12_method_14_code 58 = .ok (.putfield 149, 3) := by decide +kernel
theorem d_M_reads_61 : decode prog_12_method_14_code 61 = .ok (.aload_n 0, 1) := by decide +kernel
theorem d_M_reads_62 : decode prog_12_method_14_code 62 = .ok (.invokevirtual 153, 3) := by decide +kernel
theorem d_M_reads_65 : decode prog_12_method_14_code 65 = .ok (.istore_n 1, 1) := by decide +kernel
theorem d_M_reads_66 : decode prog_12_method_14_code 66 = .ok (.goto (-39), 3) := by decide +kernel
theorem d_M_reads_107 : decode prog_12_method_14_code 107 = .ok (.iload_n 1, 1) := by decide +kernel
theorem d_M_reads_108 : decode prog_12_method_14_code 108 = .ok (.ifCond .eq 14, 3) := by decide +kernel
theorem d_M_reads_122 : decode prog_12_method_14_code 122 = .ok (.iconst 0, 1) := by decide +kernel
theorem d_M_reads_123 : decode prog_12_method_14_code 123 = .ok (.ireturn, 1) := by decide +kernel
theorem d_M_run_0 : decode prog_12_method_45_code 0 = .ok (.aload_n 0, 1) := by decide +kernel
theorem d_M_run_1 : decode prog_12_method_45_code 1 = .ok (.aload_n 0, 1) := by decide +kernel
theorem d_M_run_2 : decode prog_12_method_45_code 2 = .ok (.getfield 270, 3) := by decide +kernel
theorem d_M_run_5 : decode prog_12_method_45_code 5 = .ok (.ifCond .eq 11, 3) := by decide +kernel
theorem d_M_run_16 : decode prog_12_method_45_code 16 = .ok (.iconst 1, 1) := by decide +kernel
theorem d_M_run_17 : decode prog_12_method_45_code 17 = .ok (.goto 20, 3) := by decide +kernel
theorem d_M_run_37 : decode prog_12_method_45_code 37 = .ok (.putfield 94, 3) := by decide +kernel
theorem d_M_run_40 : decode prog_12_method_45_code 40 = .ok (.aload_n 0, 1) := by decide +kernel
theorem d_M_run_41 : decode prog_12_method_45_code 41 = .ok (.getfield 94, 3) := by decide +kernel
theorem d_M_run_44 : decode prog_12_method_45_code 44 = .ok (.ifCond .le 5, 3) := by decide +kernel
theorem d_M_run_47 : decode prog_12_method_45_code 47 = .ok (.iconst 0, 1) := by decide +kernel
theorem d_M_run_48 : decode prog_12_method_45_code 48 = .ok (.ireturn, 1) := by decide +kernel
theorem d_M_small_0 : decode prog_12_method_48_code 0 = .ok (.aload_n 0, 1) := by decide +kernel
theorem d_M_small_1 : decode prog_12_method_48_code 1 = .ok (.iconst 0, 1) := by decide +kernel
theorem d_M_small_2 : decode prog_12_method_48_code 2 = .ok (.putfield 94, 3) := by decide +kernel
theorem d_M_small_5 : decode prog_12_method_48_code 5 = .ok (.iload_n 1, 1) := by decide +kernel
theorem d_M_small_6 : decode prog_12_method_48_code 6 = .ok (.ifCond .lt 38, 3) := by decide +kernel
theorem d_M_small_9 : decode prog_12_method_48_code 9 = .ok (.iload_n 1, 1) := by decide +kernel
theorem d_M_small_10 : decode prog_12_method_48_code 10 = .ok (.bipush 10, 2) := by decide +kernel
theorem d_M_small_12 : decode prog_12_method_48_code 12 = .ok (.if_icmp .ge 32, 3) := by decide +kernel
theorem d_M_small_15 : decode prog_12_method_48_code 15 = .ok (.aload_n 0, 1) := by decide +kernel
theorem d_M_small_16 : decode prog_12_method_48_code 16 = .ok (.getfield 270, 3) := by decide +kernel
theorem d_M_small_19 : decode prog_12_method_48_code 19 = .ok (.ifCond .le 25, 3) := by decide +kernel
theorem d_M_small_44 : decode prog_12_method_48_code 44 = .ok (.iconst 0, 1) := by decide +kernel
theorem d_M_small_45 : decode prog_12_method_48_code 45 = .ok (.ireturn, 1) := by decide +kernel
theorem d_M_statement_0 : decode prog_12_method_12_code 0 = .ok (.aload_n 0, 1) := by decide +kernel
theorem d_M_statement_1 : decode prog_12_method_12_code 1 = .ok (.invokevirtual 121, 3) := by decide +kernel
theorem d_M_statement_4 : decode prog_12_method_12_code 4 = .ok (.istore_n 1, 1) := by decide +kernel
theorem d_M_statement_5 : decode prog_12_method_12_code 5 = .ok (.aload_n 0, 1) := by decide +kernel
theorem d_M_statement_6 : decode prog_12_method_12_code 6 = .ok (.dup, 1) := by decide +kernel
theorem d_M_statement_7 : decode prog_12_method_12_code 7 = .ok (.getfield 98, 3) := by decide +kernel
theorem d_M_statement_10 : decode prog_12_method_12_code 10 = .ok (.iconst 1, 1) := by decide +kernel
theorem d_M_statement_11 : decode prog_12_method_12_code 11 = .ok (.iadd, 1) := by decide +kernel
theorem d_M_statement_12 : decode prog_12_method_12_code 12 = .ok (.putfield 98, 3) := by decide +kernel
theorem d_M_statement_15 : decode prog_12_method_12_code 15 = .ok (.iload_n 1, 1) := by decide +kernel
theorem d_M_statement_16 : decode prog_12_method_12_code 16 = .ok (.bipush 63, 2) := by decide +kernel
theorem d_M_statement_18 : decode prog_12_method_12_code 18 = .ok (.if_icmp .ne 33, 3) := by decide +kernel
theorem d_M_statement_51 : decode prog_12_method_12_code 51 = .ok (.iload_n 1, 1) := by decide +kernel
theorem d_M_statement_52 : decode prog_12_method_12_code 52 = .ok (.bipush 91, 2) := by decide +kernel
theorem d_M_statement_54 : decode prog_12_method_12_code 54 = .ok (.if_icmp .eq 9, 3) := by decide +kernel
theorem d_M_statement_57 : decode prog_12_method_12_code 57 = .ok (.iload_n 1, 1) := by decide +kernel
theorem d_M_statement_58 : decode prog_12_method_12_code 58 = .ok (.bipush 123, 2) := by decide +kernel
theorem d_M_statement_60 : decode prog_12_method_12_code 60 = .ok (.if_icmp .ne 124, 3) := by decide +kernel
theorem d_M_statement_184 : decode prog_12_method_12_code 184 = .ok (.iload_n 1, 1) := by decide +kernel
theorem d_M_statement_185 : decode prog_12_method_12_code 185 = .ok (.bipush 33, 2) := by decide +kernel
theorem d_M_statement_187 : decode prog_12_method_12_code 187 = .ok (.if_icmp .ne 17, 3) := by decide +kernel
theorem d_M_statement_204 : decode prog_12_method_12_code 204 = .ok (.iload_n 1, 1) := by decide +kernel
theorem d_M_statement_205 : decode prog_12_method_12_code 205 = .ok (.invokestatic 129, 3) := by decide +kernel
theorem d_M_statement_208 : decode prog_12_method_12_code 208 = .ok (.ifCond .eq 12, 3) := by decide +kernel
theorem d_M_statement_220 : decode prog_12_method_12_code 220 = .ok (.iconst 0, 1) := by decide +kernel
theorem d_M_statement_221 : decode prog_12_method_12_code 221 = .ok (.ireturn, 1) := by decide +kernel
theorem d_M_thrown_0 : decode prog_12_method_2_code 0 = .ok (.aload_n 0, 1) := by decide +kernel
theorem d_M_thrown_1 : decode prog_12_method_2_code 1 = .ok (.getfield 94, 3) := by decide +kernel
theorem d_M_thrown_4 : decode prog_12_method_2_code 4 = .ok (.ireturn, 1) := by decide +kernel
theorem d_M_type_0 : decode prog_12_method_38_code 0 = .ok (.aload_n 0, 1) := by decide +kernel
theorem d_M_type_1 : decode prog_12_method_38_code 1 = .ok (.iconst 0, 1) := by decide +kernel
theorem d_M_type_2 : decode prog_12_method_38_code 2 = .ok (.putfield 94, 3) := by decide +kernel
theorem d_M_type_5 : decode prog_12_method_38_code 5 = .ok (.iload_n 1, 1) := by decide +kernel
theorem d_M_type_6 : decode prog_12_method_38_code 6 = .ok (.bipush 33, 2) := by decide +kernel
theorem d_M_type_8 : decode prog_12_method_38_code 8 = .ok (.if_icmp .lt 18, 3) := by decide +kernel
theorem d_M_type_11 : decode prog_12_method_38_code 11 = .ok (.iload_n 1, 1) := by decide +kernel
theorem d_M_type_12 : decode prog_12_method_38_code 12 = .ok (.bipush 126, 2) := by decide +kernel
theorem d_M_type_14 : decode prog_12_method_38_code 14 = .ok (.if_icmp .gt 12, 3) := by decide +kernel
theorem d_M_type_17 : decode prog_12_method_38_code 17 = .ok (.aload_n 0, 1) := by decide +kernel
theorem d_M_type_18 : decode prog_12_method_38_code 18 = .ok (.getfield 101, 3) := by decide +kernel
theorem d_M_type_21 : decode prog_12_method_38_code 21 = .ok (.bipush 72, 2) := by decide +kernel
theorem d_M_type_23 : decode prog_12_method_38_code 23 = .ok (.if_icmp .ne 5, 3) := by decide +kernel
theorem d_M_type_26 : decode prog_12_method_38_code 26 = .ok (.iconst 0, 1) := by decide +kernel
theorem d_M_type_27 : decode prog_12_method_38_code 27 = .ok (.ireturn, 1) := by decide +kernel
theorem d_M_type_28 : decode prog_12_method_38_code 28 = .ok (.aload_n 0, 1) := by decide +kernel
theorem d_M_type_29 : decode prog_12_method_38_code 29 = .ok (.getfield 7, 3) := by decide +kernel
theorem d_M_type_32 : decode prog_12_method_38_code 32 = .ok (.aload_n 0, 1) := by decide +kernel
theorem d_M_type_33 : decode prog_12_method_38_code 33 = .ok (.getfield 101, 3) := by decide +kernel
theorem d_M_type_36 : decode prog_12_method_38_code 36 = .ok (.iload_n 1, 1) := by decide +kernel
theorem d_M_type_37 : decode prog_12_method_38_code 37 = .ok (.castore, 1) := by decide +kernel
theorem d_M_type_38 : decode prog_12_method_38_code 38 = .ok (.aload_n 0, 1) := by decide +kernel
theorem d_M_type_39 : decode prog_12_method_38_code 39 = .ok (.dup, 1) := by decide +kernel
theorem d_M_type_40 : decode prog_12_method_38_code 40 = .ok (.getfield 101, 3) := by decide +kernel
theorem d_M_type_43 : decode prog_12_method_38_code 43 = .ok (.iconst 1, 1) := by decide +kernel
theorem d_M_type_44 : decode prog_12_method_38_code 44 = .ok (.iadd, 1) := by decide +kernel
theorem d_M_type_45 : decode prog_12_method_38_code 45 = .ok (.putfield 101, 3) := by decide +kernel
theorem d_M_type_48 : decode prog_12_method_38_code 48 = .ok (.iconst 1, 1) := by decide +kernel
theorem d_M_type_49 : decode prog_12_method_38_code 49 = .ok (.ireturn, 1) := by decide +kernel
theorem d_M_variable_0 : decode prog_12_method_50_code 0 = .ok (.iload_n 1, 1) := by decide +kernel
theorem d_M_variable_1 : decode prog_12_method_50_code 1 = .ok (.ifCond .lt 26, 3) := by decide +kernel
theorem d_M_variable_4 : decode prog_12_method_50_code 4 = .ok (.iload_n 1, 1) := by decide +kernel
theorem d_M_variable_5 : decode prog_12_method_50_code 5 = .ok (.bipush 10, 2) := by decide +kernel
theorem d_M_variable_7 : decode prog_12_method_50_code 7 = .ok (.if_icmp .ge 20, 3) := by decide +kernel
theorem d_M_variable_10 : decode prog_12_method_50_code 10 = .ok (.aload_n 0, 1) := by decide +kernel
theorem d_M_variable_11 : decode prog_12_method_50_code 11 = .ok (.getfield 270, 3) := by decide +kernel
theorem d_M_variable_14 : decode prog_12_method_50_code 14 = .ok (.ifCond .le 13, 3) := by decide +kernel
theorem d_M_variable_27 : decode prog_12_method_50_code 27 = .ok (.iconst 0, 1) := by decide +kernel
theorem d_M_variable_28 : decode prog_12_method_50_code 28 = .ok (.istore_n 3, 1) := by decide +kernel
theorem d_M_variable_29 : decode prog_12_method_50_code 29 = .ok (.aload_n 0, 1) := by decide +kernel
theorem d_M_variable_30 : decode prog_12_method_50_code 30 = .ok (.iload_n 3, 1) := by decide +kernel
theorem d_M_variable_31 : decode prog_12_method_50_code 31 = .ok (.ifCond .eq 7, 3) := by decide +kernel
theorem d_M_variable_38 : decode prog_12_method_50_code 38 = .ok (.iconst 1, 1) := by decide +kernel
theorem d_M_variable_39 : decode prog_12_method_50_code 39 = .ok (.putfield 94, 3) := by decide +kernel
theorem d_M_variable_42 : decode prog_12_method_50_code 42 = .ok (.iload_n 3, 1) := by decide +kernel
theorem d_M_variable_43 : decode prog_12_method_50_code 43 = .ok (.ifCond .eq 24, 3) := by decide +kernel
theorem d_M_variable_67 : decode prog_12_method_50_code 67 = .ok (.iconst 0, 1) := by decide +kernel
theorem d_M_variable_68 : decode prog_12_method_50_code 68 = .ok (.ireturn, 1) := by decide +kernel
theorem d_M_wipe_0 : decode prog_12_method_39_code 0 = .ok (.aload_n 0, 1) := by decide +kernel
theorem d_M_wipe_1 : decode prog_12_method_39_code 1 = .ok (.iconst 0, 1) := by decide +kernel
theorem d_M_wipe_2 : decode prog_12_method_39_code 2 = .ok (.putfield 94, 3) := by decide +kernel
theorem d_M_wipe_5 : decode prog_12_method_39_code 5 = .ok (.aload_n 0, 1) := by decide +kernel
theorem d_M_wipe_6 : decode prog_12_method_39_code 6 = .ok (.iconst 0, 1) := by decide +kernel
theorem d_M_wipe_7 : decode prog_12_method_39_code 7 = .ok (.putfield 101, 3) := by decide +kernel
theorem d_M_wipe_10 : decode prog_12_method_39_code 10 = .ok (.return_, 1) := by decide +kernel
end
section
set_option maxHeartbeats 4000000 in
set_option maxRecDepth 100000 in
/-- BigRunnerModel(): a fresh object -/
theorem c_M_init (l : Launch) (dC : Nat → ClassId) (dI : Nat → Nat → Nat) (sz : Nat) (y : Nat) : Met l ⟨"BigRunnerModel", "<init>", "()V"⟩ [Cond.code ⟨"BigRunnerModel", "<init>", "()V"⟩ prog_12_method_1_code 1 none] ({ frames := 1, cells := 27, slots := 3414, locals := 12 }) (va_Pc [.ref y] (fun U => U.heap.size = sz ∧ TB U ∧ va_P (dC, dI) vcl [(y, .inr (10, [.int 0, .null, .int 0, .null, .null, .int 0, .null, .null, .null, .int 0, .int 0, .int 0, .null, .int 0, .null, .null, .int 0, .null, .null, .null, .null, .null, .null, .null, .null, .null, .null, .null, .null, .null, .null, .null, .int 0, .null, .null, .null, .int 0, .int 0, .int 0, .int 0, .int 0, .int 0, .int 0, .int 0, .int 0]))] U.heap ∧ va_K (dC, dI) vcl [] U ∧ va_D (fun _ => True) [(y, .inr (10, [.int 0, .null, .int 0, .null, .null, .int 0, .null, .null, .null, .int 0, .int 0, .int 0, .null, .int 0, .null, .null, .int 0, .null, .null, .null, .null, .null, .null, .null, .null, .null, .null, .null, .null, .null, .null, .null, .int 0, .null, .null, .null, .int 0, .int 0, .int 0, .int 0, .int 0, .int 0, .int 0, .int 0, .int 0]))])) (va_Qv (fun (u : Nat × ClassId × Nat × ClassId × Nat × Nat × Nat × Nat × Nat × Nat × Nat × Nat × Nat × Nat × Nat × Nat × Nat × Nat × Nat × Nat × Nat × Nat × Nat × Nat × Nat × Nat × Nat × Nat × Nat) => match u with | (mt, ct, mi, cj, b0, b1, b2, b3, b4, b5, b6, b7, b8, b9, b10, b11, b12, b13, b14, b15, b16, b17, b18, b19, b20, b21, b22, b23, b24) => True) (fun (u : Nat × ClassId × Nat × ClassId × Nat × Nat × Nat × Nat × Nat × Nat × Nat × Nat × Nat × Nat × Nat × Nat × Nat × Nat × Nat × Nat × Nat × Nat × Nat × Nat × Nat × Nat × Nat × Nat × Nat) (t : State) => match u with | (mt, ct, mi, cj, b0, b1, b2, b3, b4, b5, b6, b7, b8, b9, b10, b11, b12, b13, b14, b15, b16, b17, b18, b19, b20, b21, b22, b23, b24) => va_P (dC, dI) vcl [(y, .inr (10, [.int 0, .ref mt, .int 0, .ref b0, .ref b1, .int 0, .ref b2, .ref b3, .ref b4, .int 0, .int 0, .int 0, .ref b5, .int 0, .ref b6, .ref b7, .int 0, .ref b8, .ref b9, .ref b10, .ref b11, .ref b12, .ref b13, .ref b14, .ref b15, .ref b16, .ref b17, .ref b18, .ref b19, .ref b20, .ref b21, .ref b22, .int 0, .ref b23, .ref b24, .ref mi, .int 0, .int 0, .int 0, .int 0, .int 0, .int 0, .int 0, .int 0, .int 0])), (mt, .inl (ct, 72, .inl (fun _ => 0))), (mi, .inl (cj, 20, .inl (fun _ => 0)))] t.heap ∧ va_K (dC, dI) vcl [(ct, .char), (cj, .int)] t ∧ va_D (va_A [(y, .inr (10, [.int 0, .null, .int 0, .null, .null, .int 0, .null, .null, .null, .int 0, .int 0, .int 0, .null, .int 0, .null, .null, .int 0, .null, .null, .null, .null, .null, .null, .null, .null, .null, .null, .null, .null, .null, .null, .null, .int 0, .null, .null, .null, .int 0, .int 0, .int 0, .int 0, .int 0, .int 0, .int 0, .int 0, .int 0]))] sz) [(y, .inr (10, [.int 0, .ref mt, .int 0, .ref b0, .ref b1, .int 0, .ref b2, .ref b3, .ref b4, .int 0, .int 0, .int 0, .ref b5, .int 0, .ref b6, .ref b7, .int 0, .ref b8, .ref b9, .ref b10, .ref b11, .ref b12, .ref b13, .ref b14, .ref b15, .ref b16, .ref b17, .ref b18, .ref b19, .ref b20, .ref b21, .ref b22, .int 0, .ref b23, .ref b24, .ref mi, .int 0, .int 0, .int 0, .int 0, .int 0, .int 0, .int 0, .int 0, .int 0])), (mt, .inl (ct, 72, .inl (fun _ => 0))), (mi, .inl (cj, 20, .inl (fun _ => 0)))]) (va_A [(y, .inr (10, [.int 0, .null, .int 0, .null, .null, .int 0, .null, .null, .null, .int 0, .int 0, .int 0, .null, .int 0, .null, .null, .int 0, .null, .null, .null, .null, .null, .null, .null, .null, .null, .null, .null, .null, .null, .null, .null, .int 0, .null, .null, .null, .int 0, .int 0, .int 0, .int 0, .int 0, .int 0, .int 0, .int 0, .int 0]))] sz)) 27 3414 (va_A [(y, .inr (10, [.int 0, .null, .int 0, .null, .null, .int 0, .null, .null, .null, .int 0, .int 0, .int 0, .null, .int 0, .null, .null, .int 0, .null, .null, .null, .null, .null, .null, .null, .null, .null, .null, .null, .null, .null, .null, .null, .int 0, .null, .null, .null, .int 0, .int 0, .int 0, .int 0, .int 0, .int 0, .int 0, .int 0, .int 0]))] sz) := by
  refine Met.ofW (cc := prog_12_method_1_code) (maxL := 1) (ret := none) (by decide) rfl ?_
  intro p e s m args below meth c s₁ B hml hv
  obtain ⟨rfl, hsz, hB, hP, hK, hD0⟩ := hv
  have hx := B.exec
  have hb := B.bytes
  have hr := B.returns
  have hown : s.vm.findClass "BigRunnerModel" = some m.cls := findClass_of_methodNamed B.named
  have hlocks := B.notSynchronized
  have hin : meth.name = "<init>" := (name_of_methodNamed B.named B.method).1
  subst hsz
  have hD := hD0.self (sz := s.heap.size)
  generalize hAe : va_A [(y, .inr (10, [.int 0, .null, .int 0, .null, .null, .int 0, .null, .null, .null, .int 0, .int 0, .int 0, .null, .int 0, .null, .null, .int 0, .null, .null, .null, .null, .null, .null, .null, .null, .null, .null, .null, .null, .null, .null, .null, .int 0, .null, .null, .null, .int 0, .int 0, .int 0, .int 0, .int 0, .int 0, .int 0, .int 0, .int 0]))] s.heap.size = A at hD ⊢
  have hA : ∀ q : Nat, s.heap.size ≤ q → A q := fun q h => by rw [← hAe]; exact Or.inr h
  have hS : va_S A s.heap s.heap [] := va_S.rf
  have hP : va_P (dC, dI) vcl [(y, .inr (10, [.int 0, .null, .int 0, .null, .null, .int 0, .null, .null, .null, .int 0, .int 0, .int 0, .null, .int 0, .null, .null, .int 0, .null, .null, .null, .null, .null, .null, .null, .null, .null, .null, .null, .null, .null, .null, .null, .int 0, .null, .null, .null, .int 0, .int 0, .int 0, .int 0, .int 0, .int 0, .int 0, .int 0, .int 0]))] s.heap := hP
  have hl := lv_entry ([.ref y]) (n := 1) (Nat.le_of_ble_eq_true rfl)
  rw [lg_entry_eq]
  generalize (lg_sl ([.ref y]) ++ List.replicate (1 - (lg_sl ([.ref y])).length) Slot.unset).toArray = ls at hl ⊢
  have hl : lv_has ls 1 [(0, .ref y)] := hl
  refine lv_aload_n hx hb d_M_init_0 rfl (lv_at hl 0 rfl) ?_
  refine W.objInit hx hb hown (wd_946 hB _) (wd_101 hB _) (wd_102 hB _) rfl (by rw [hml]; exact hl.1) rfl d_M_init_1 (Nat.le_of_ble_eq_true rfl) (Nat.le_of_ble_eq_true rfl) ?_
  refine W.eq (g2 := F0 m 4 ls []) rfl ?_
  refine lv_aload_n hx hb d_M_init_4 rfl (lv_at hl 0 rfl) ?_
  refine lv_bipush (v := 72) hx hb d_M_init_5 (by decide) ?_
  refine va_newa (atype := .char) (a0 := (72, .inl (fun _ => 0))) (N' := 72) (ty := .char) hx hb (wd_137 hB _) rfl hK hP hD hS hA (fun _ => rfl) (by decide +kernel) (by decide +kernel) (by decide +kernel) (Nat.le_of_ble_eq_true rfl) (Nat.le_of_ble_eq_true rfl) d_M_init_7 (fun q7_1 cA7_2 H hK hP hD hS => ?_)
  have hP : va_P (dC, dI) vcl [(y, .inr (10, [.int 0, .null, .int 0, .null, .null, .int 0, .null, .null, .null, .int 0, .int 0, .int 0, .null, .int 0, .null, .null, .int 0, .null, .null, .null, .null, .null, .null, .null, .null, .null, .null, .null, .null, .null, .null, .null, .int 0, .null, .null, .null, .int 0, .int 0, .int 0, .int 0, .int 0, .int 0, .int 0, .int 0, .int 0])), (q7_1, .inl (cA7_2, 72, .inl (fun _ => 0)))] H := hP
  have hD : va_D A [(y, .inr (10, [.int 0, .null, .int 0, .null, .null, .int 0, .null, .null, .null, .int 0, .int 0, .int 0, .null, .int 0, .null, .null, .int 0, .null, .null, .null, .null, .null, .null, .null, .null, .null, .null, .null, .null, .null, .null, .null, .int 0, .null, .null, .null, .int 0, .int 0, .int 0, .int 0, .int 0, .int 0, .int 0, .int 0, .int 0])), (q7_1, .inl (cA7_2, 72, .inl (fun _ => 0)))] := hD
  have hK : va_K (dC, dI) vcl [(cA7_2, .char)] s := hK
  refine W.widen (k := 1) (n := 72) (by omega) (by omega) ?_
  refine va_putF (D := (dC, dI)) (ci := 10) (v := .ref q7_1) (ty := (.array .char)) (C := "BigRunnerModel") (T := FT10) (N := 45) hx hb (hw10 hB _) (fun _ h9 => h9) TY10 ok10 nm10 hown hK hP hD hS 0 rfl rfl 1 (by decide) (wd_948 hB _) (fun _ h9 => h9) rfl hin rfl (by decide +kernel) rfl rfl (Nat.le_of_ble_eq_true rfl) d_M_init_9 (fun H locs hP hD hS => ?_)
  have hP : va_P (dC, dI) vcl [(y, .inr (10, [.int 0, .ref q7_1, .int 0, .null, .null, .int 0, .null, .null, .null, .int 0, .int 0, .int 0, .null, .int 0, .null, .null, .int 0, .null, .null, .null, .null, .null, .null, .null, .null, .null, .null, .null, .null, .null, .null, .null, .int 0, .null, .null, .null, .int 0, .int 0, .int 0, .int 0, .int 0, .int 0, .int 0, .int 0, .int 0])), (q7_1, .inl (cA7_2, 72, .inl (fun _ => 0)))] H := hP
  have hD : va_D A [(y, .inr (10, [.int 0, .ref q7_1, .int 0, .null, .null, .int 0, .null, .null, .null, .int 0, .int 0, .int 0, .null, .int 0, .null, .null, .int 0, .null, .null, .null, .null, .null, .null, .null, .null, .null, .null, .null, .null, .null, .null, .null, .int 0, .null, .null, .null, .int 0, .int 0, .int 0, .int 0, .int 0, .int 0, .int 0, .int 0, .int 0])), (q7_1, .inl (cA7_2, 72, .inl (fun _ => 0)))] := hD
  refine lv_aload_n hx hb d_M_init_12 rfl (lv_at hl 0 rfl) ?_
  refine lv_bipush (v := 100) hx hb d_M_init_13 (by decide) ?_
  refine va_newa (atype := .int) (a0 := (100, .inl (fun _ => 0))) (N' := 100) (ty := .int) hx hb (wd_201 hB _) rfl hK hP hD hS hA (fun _ => rfl) (by decide +kernel) (by decide +kernel) (by decide +kernel) (Nat.le_of_ble_eq_true rfl) (Nat.le_of_ble_eq_true rfl) d_M_init_15 (fun q15_3 cA15_4 H hK hP hD hS => ?_)
  have hP : va_P (dC, dI) vcl [(y, .inr (10, [.int 0, .ref q7_1, .int 0, .null, .null, .int 0, .null, .null, .null, .int 0, .int 0, .int 0, .null, .int 0, .null, .null, .int 0, .null, .null, .null, .null, .null, .null, .null, .null, .null, .null, .null, .null, .null, .null, .null, .int 0, .null, .null, .null, .int 0, .int 0, .int 0, .int 0, .int 0, .int 0, .int 0, .int 0, .int 0])), (q7_1, .inl (cA7_2, 72, .inl (fun _ => 0))), (q15_3, .inl (cA15_4, 100, .inl (fun _ => 0)))] H := hP
  have hD : va_D A [(y, .inr (10, [.int 0, .ref q7_1, .int 0, .null, .null, .int 0, .null, .null, .null, .int 0, .int 0, .int 0, .null, .int 0, .null, .null, .int 0, .null, .null, .null, .null, .null, .null, .null, .null, .null, .null, .null, .null, .null, .null, .null, .int 0, .null, .null, .null, .int 0, .int 0, .int 0, .int 0, .int 0, .int 0, .int 0, .int 0, .int 0])), (q7_1, .inl (cA7_2, 72, .inl (fun _ => 0))), (q15_3, .inl (cA15_4, 100, .inl (fun _ => 0)))] := hD
  have hK : va_K (dC, dI) vcl [(cA7_2, .char), (cA15_4, .int)] s := hK
  refine W.widen (k := 2) (n := 172) (by omega) (by omega) ?_
  refine va_putF (D := (dC, dI)) (ci := 10) (v := .ref q15_3) (ty := (.array .int)) (C := "BigRunnerModel") (T := FT10) (N := 45) hx hb (hw10 hB _) (fun _ h9 => h9) TY10 ok10 nm10 hown hK hP hD hS 0 rfl rfl 3 (by decide) (wd_950 hB _) (fun _ h9 => h9) rfl hin rfl (by decide +kernel) rfl rfl (Nat.le_of_ble_eq_true rfl) d_M_init_17 (fun H locs hP hD hS => ?_)
  have hP : va_P (dC, dI) vcl [(y, .inr (10, [.int 0, .ref q7_1, .int 0, .ref q15_3, .null, .int 0, .null, .null, .null, .int 0, .int 0, .int 0, .null, .int 0, .null, .null, .int 0, .null, .null, .null, .null, .null, .null, .null, .null, .null, .null, .null, .null, .null, .null, .null, .int 0, .null, .null, .null, .int 0, .int 0, .int 0, .int 0, .int 0, .int 0, .int 0, .int 0, .int 0])), (q7_1, .inl (cA7_2, 72, .inl (fun _ => 0))), (q15_3, .inl (cA15_4, 100, .inl (fun _ => 0)))] H := hP
  have hD : va_D A [(y, .inr (10, [.int 0, .ref q7_1, .int 0, .ref q15_3, .null, .int 0, .null, .null, .null, .int 0, .int 0, .int 0, .null, .int 0, .null, .null, .int 0, .null, .null, .null, .null, .null, .null, .null, .null, .null, .null, .null, .null, .null, .null, .null, .int 0, .null, .null, .null, .int 0, .int 0, .int 0, .int 0, .int 0, .int 0, .int 0, .int 0, .int 0])), (q7_1, .inl (cA7_2, 72, .inl (fun _ => 0))), (q15_3, .inl (cA15_4, 100, .inl (fun _ => 0)))] := hD
  have hD := hD.sub (ws' := [(y, .inr (10, [.int 0, .ref q7_1, .int 0, .ref q15_3, .null, .int 0, .null, .null, .null, .int 0, .int 0, .int 0, .null, .int 0, .null, .null, .int 0, .null, .null, .null, .null, .null, .null, .null, .null, .null, .null, .null, .null, .null, .null, .null, .int 0, .null, .null, .null, .int 0, .int 0, .int 0, .int 0, .int 0, .int 0, .int 0, .int 0, .int 0])), (q7_1, .inl (cA7_2, 72, .inl (fun _ => 0)))]) [0, 1] (by decide) rfl
  have hP := hP.sub (ws' := [(y, .inr (10, [.int 0, .ref q7_1, .int 0, .ref q15_3, .null, .int 0, .null, .null, .null, .int 0, .int 0, .int 0, .null, .int 0, .null, .null, .int 0, .null, .null, .null, .null, .null, .null, .null, .null, .null, .null, .null, .null, .null, .null, .null, .int 0, .null, .null, .null, .int 0, .int 0, .int 0, .int 0, .int 0, .int 0, .int 0, .int 0, .int 0])), (q7_1, .inl (cA7_2, 72, .inl (fun _ => 0)))]) [0, 1] rfl
  have hK := hK.sub (tys' := [(cA7_2, .char)]) [0] rfl
  refine lv_aload_n hx hb d_M_init_20 rfl (lv_at hl 0 rfl) ?_
  refine lv_bipush (v := 100) hx hb d_M_init_21 (by decide) ?_
  refine va_newa (atype := .int) (a0 := (100, .inl (fun _ => 0))) (N' := 100) (ty := .int) hx hb (wd_201 hB _) rfl hK hP hD hS hA (fun _ => rfl) (by decide +kernel) (by decide +kernel) (by decide +kernel) (Nat.le_of_ble_eq_true rfl) (Nat.le_of_ble_eq_true rfl) d_M_init_23 (fun q23_5 cA23_6 H hK hP hD hS => ?_)
  have hP : va_P (dC, dI) vcl [(y, .inr (10, [.int 0, .ref q7_1, .int 0, .ref q15_3, .null, .int 0, .null, .null, .null, .int 0, .int 0, .int 0, .null, .int 0, .null, .null, .int 0, .null, .null, .null, .null, .null, .null, .null, .null, .null, .null, .null, .null, .null, .null, .null, .int 0, .null, .null, .null, .int 0, .int 0, .int 0, .int 0, .int 0, .int 0, .int 0, .int 0, .int 0])), (q7_1, .inl (cA7_2, 72, .inl (fun _ => 0))), (q23_5, .inl (cA23_6, 100, .inl (fun _ => 0)))] H := hP
  have hD : va_D A [(y, .inr (10, [.int 0, .ref q7_1, .int 0, .ref q15_3, .null, .int 0, .null, .null, .null, .int 0, .int 0, .int 0, .null, .int 0, .null, .null, .int 0, .null, .null, .null, .null, .null, .null, .null, .null, .null, .null, .null, .null, .null, .null, .null, .int 0, .null, .null, .null, .int 0, .int 0, .int 0, .int 0, .int 0, .int 0, .int 0, .int 0, .int 0])), (q7_1, .inl (cA7_2, 72, .inl (fun _ => 0))), (q23_5, .inl (cA23_6, 100, .inl (fun _ => 0)))] := hD
  have hK : va_K (dC, dI) vcl [(cA7_2, .char), (cA23_6, .int)] s := hK
  refine W.widen (k := 3) (n := 272) (by omega) (by omega) ?_
  refine va_putF (D := (dC, dI)) (ci := 10) (v := .ref q23_5) (ty := (.array .int)) (C := "BigRunnerModel") (T := FT10) (N := 45) hx hb (hw10 hB _) (fun _ h9 => h9) TY10 ok10 nm10 hown hK hP hD hS 0 rfl rfl 4 (by decide) (wd_951 hB _) (fun _ h9 => h9) rfl hin rfl (by decide +kernel) rfl rfl (Nat.le_of_ble_eq_true rfl) d_M_init_25 (fun H locs hP hD hS => ?_)
  have hP : va_P (dC, dI) vcl [(y, .inr (10, [.int 0, .ref q7_1, .int 0, .ref q15_3, .ref q23_5, .int 0, .null, .null, .null, .int 0, .int 0, .int 0, .null, .int 0, .null, .null, .int 0, .null, .null, .null, .null, .null, .null, .null, .null, .null, .null, .null, .null, .null, .null, .null, .int 0, .null, .null, .null, .int 0, .int 0, .int 0, .int 0, .int 0, .int 0, .int 0, .int 0, .int 0])), (q7_1, .inl (cA7_2, 72, .inl (fun _ => 0))), (q23_5, .inl (cA23_6, 100, .inl (fun _ => 0)))] H := hP
  have hD : va_D A [(y, .inr (10, [.int 0, .ref q7_1, .int 0, .ref q15_3, .ref q23_5, .int 0, .null, .null, .null, .int 0, .int 0, .int 0, .null, .int 0, .null, .null, .int 0, .null, .null, .null, .null, .null, .null, .null, .null, .null, .null, .null, .null, .null, .null, .null, .int 0, .null, .null, .null, .int 0, .int 0, .int 0, .int 0, .int 0, .int 0, .int 0, .int 0, .int 0])), (q7_1, .inl (cA7_2, 72, .inl (fun _ => 0))), (q23_5, .inl (cA23_6, 100, .inl (fun _ => 0)))] := hD
  have hD := hD.sub (ws' := [(y, .inr (10, [.int 0, .ref q7_1, .int 0, .ref q15_3, .ref q23_5, .int 0, .null, .null, .null, .int 0, .int 0, .int 0, .null, .int 0, .null, .null, .int 0, .null, .null, .null, .null, .null, .null, .null, .null, .null, .null, .null, .null, .null, .null, .null, .int 0, .null, .null, .null, .int 0, .int 0, .int 0, .int 0, .int 0, .int 0, .int 0, .int 0, .int 0])), (q7_1, .inl (cA7_2, 72, .inl (fun _ => 0)))]) [0, 1] (by decide) rfl
  have hP := hP.sub (ws' := [(y, .inr (10, [.int 0, .ref q7_1, .int 0, .ref q15_3, .ref q23_5, .int 0, .null, .null, .null, .int 0, .int 0, .int 0, .null, .int 0, .null, .null, .int 0, .null, .null, .null, .null, .null, .null, .null, .null, .null, .null, .null, .null, .null, .null, .null, .int 0, .null, .null, .null, .int 0, .int 0, .int 0, .int 0, .int 0, .int 0, .int 0, .int 0, .int 0])), (q7_1, .inl (cA7_2, 72, .inl (fun _ => 0)))]) [0, 1] rfl
  have hK := hK.sub (tys' := [(cA7_2, .char)]) [0] rfl
  refine lv_aload_n hx hb d_M_init_28 rfl (lv_at hl 0 rfl) ?_
  refine lv_bipush (v := 100) hx hb d_M_init_29 (by decide) ?_
  refine va_newa (atype := .int) (a0 := (100, .inl (fun _ => 0))) (N' := 100) (ty := .int) hx hb (wd_201 hB _) rfl hK hP hD hS hA (fun _ => rfl) (by decide +kernel) (by decide +kernel) (by decide +kernel) (Nat.le_of_ble_eq_true rfl) (Nat.le_of_ble_eq_true rfl) d_M_init_31 (fun q31_7 cA31_8 H hK hP hD hS => ?_)
  have hP : va_P (dC, dI) vcl [(y, .inr (10, [.int 0, .ref q7_1, .int 0, .ref q15_3, .ref q23_5, .int 0, .null, .null, .null, .int 0, .int 0, .int 0, .null, .int 0, .null, .null, .int 0, .null, .null, .null, .null, .null, .null, .null, .null, .null, .null, .null, .null, .null, .null, .null, .int 0, .null, .null, .null, .int 0, .int 0, .int 0, .int 0, .int 0, .int 0, .int 0, .int 0, .int 0])), (q7_1, .inl (cA7_2, 72, .inl (fun _ => 0))), (q31_7, .inl (cA31_8, 100, .inl (fun _ => 0)))] H := hP
  have hD : va_D A [(y, .inr (10, [.int 0, .ref q7_1, .int 0, .ref q15_3, .ref q23_5, .int 0, .null, .null, .null, .int 0, .int 0, .int 0, .null, .int 0, .null, .null, .int 0, .null, .null, .null, .null, .null, .null, .null, .null, .null, .null, .null, .null, .null, .null, .null, .int 0, .null, .null, .null, .int 0, .int 0, .int 0, .int 0, .int 0, .int 0, .int 0, .int 0, .int 0])), (q7_1, .inl (cA7_2, 72, .inl (fun _ => 0))), (q31_7, .inl (cA31_8, 100, .inl (fun _ => 0)))] := hD
  have hK : va_K (dC, dI) vcl [(cA7_2, .char), (cA31_8, .int)] s := hK
  refine W.widen (k := 4) (n := 372) (by omega) (by omega) ?_
  refine va_putF (D := (dC, dI)) (ci := 10) (v := .ref q31_7) (ty := (.array .int)) (C := "BigRunnerModel") (T := FT10) (N := 45) hx hb (hw10 hB _) (fun _ h9 => h9) TY10 ok10 nm10 hown hK hP hD hS 0 rfl rfl 6 (by decide) (wd_953 hB _) (fun _ h9 => h9) rfl hin rfl (by decide +kernel) rfl rfl (Nat.le_of_ble_eq_true rfl) d_M_init_33 (fun H locs hP hD hS => ?_)
  have hP : va_P (dC, dI) vcl [(y, .inr (10, [.int 0, .ref q7_1, .int 0, .ref q15_3, .ref q23_5, .int 0, .ref q31_7, .null, .null, .int 0, .int 0, .int 0, .null, .int 0, .null, .null, .int 0, .null, .null, .null, .null, .null, .null, .null, .null, .null, .null, .null, .null, .null, .null, .null, .int 0, .null, .null, .null, .int 0, .int 0, .int 0, .int 0, .int 0, .int 0, .int 0, .int 0, .int 0])), (q7_1, .inl (cA7_2, 72, .inl (fun _ => 0))), (q31_7, .inl (cA31_8, 100, .inl (fun _ => 0)))] H := hP
  have hD : va_D A [(y, .inr (10, [.int 0, .ref q7_1, .int 0, .ref q15_3, .ref q23_5, .int 0, .ref q31_7, .null, .null, .int 0, .int 0, .int 0, .null, .int 0, .null, .null, .int 0, .null, .null, .null, .null, .null, .null, .null, .null, .null, .null, .null, .null, .null, .null, .null, .int 0, .null, .null, .null, .int 0, .int 0, .int 0, .int 0, .int 0, .int 0, .int 0, .int 0, .int 0])), (q7_1, .inl (cA7_2, 72, .inl (fun _ => 0))), (q31_7, .inl (cA31_8, 100, .inl (fun _ => 0)))] := hD
  have hD := hD.sub (ws' := [(y, .inr (10, [.int 0, .ref q7_1, .int 0, .ref q15_3, .ref q23_5, .int 0, .ref q31_7, .null, .null, .int 0, .int 0, .int 0, .null, .int 0, .null, .null, .int 0, .null, .null, .null, .null, .null, .null, .null, .null, .null, .null, .null, .null, .null, .null, .null, .int 0, .null, .null, .null, .int 0, .int 0, .int 0, .int 0, .int 0, .int 0, .int 0, .int 0, .int 0])), (q7_1, .inl (cA7_2, 72, .inl (fun _ => 0)))]) [0, 1] (by decide) rfl
  have hP := hP.sub (ws' := [(y, .inr (10, [.int 0, .ref q7_1, .int 0, .ref q15_3, .ref q23_5, .int 0, .ref q31_7, .null, .null, .int 0, .int 0, .int 0, .null, .int 0, .null, .null, .int 0, .null, .null, .null, .null, .null, .null, .null, .null, .null, .null, .null, .null, .null, .null, .null, .int 0, .null, .null, .null, .int 0, .int 0, .int 0, .int 0, .int 0, .int 0, .int 0, .int 0, .int 0])), (q7_1, .inl (cA7_2, 72, .inl (fun _ => 0)))]) [0, 1] rfl
  have hK := hK.sub (tys' := [(cA7_2, .char)]) [0] rfl
  refine lv_aload_n hx hb d_M_init_36 rfl (lv_at hl 0 rfl) ?_
  refine lv_bipush (v := 100) hx hb d_M_init_37 (by decide) ?_
  refine va_newa (atype := .int) (a0 := (100, .inl (fun _ => 0))) (N' := 100) (ty := .int) hx hb (wd_201 hB _) rfl hK hP hD hS hA (fun _ => rfl) (by decide +kernel) (by decide +kernel) (by decide +kernel) (Nat.le_of_ble_eq_true rfl) (Nat.le_of_ble_eq_true rfl) d_M_init_39 (fun q39_9 cA39_10 H hK hP hD hS => ?_)
  have hP : va_P (dC, dI) vcl [(y, .inr (10, [.int 0, .ref q7_1, .int 0, .ref q15_3, .ref q23_5, .int 0, .ref q31_7, .null, .null, .int 0, .int 0, .int 0, .null, .int 0, .null, .null, .int 0, .null, .null, .null, .null, .null, .null, .null, .null, .null, .null, .null, .null, .null, .null, .null, .int 0, .null, .null, .null, .int 0, .int 0, .int 0, .int 0, .int 0, .int 0, .int 0, .int 0, .int 0])), (q7_1, .inl (cA7_2, 72, .inl (fun _ => 0))), (q39_9, .inl (cA39_10, 100, .inl (fun _ => 0)))] H := hP
  have hD : va_D A [(y, .inr (10, [.int 0, .ref q7_1, .int 0, .ref q15_3, .ref q23_5, .int 0, .ref q31_7, .null, .null, .int 0, .int 0, .int 0, .null, .int 0, .null, .null, .int 0, .null, .null, .null, .null, .null, .null, .null, .null, .null, .null, .null, .null, .null, .null, .null, .int 0, .null, .null, .null, .int 0, .int 0, .int 0, .int 0, .int 0, .int 0, .int 0, .int 0, .int 0])), (q7_1, .inl (cA7_2, 72, .inl (fun _ => 0))), (q39_9, .inl (cA39_10, 100, .inl (fun _ => 0)))] := hD
  have hK : va_K (dC, dI) vcl [(cA7_2, .char), (cA39_10, .int)] s := hK
  refine W.widen (k := 5) (n := 472) (by omega) (by omega) ?_
  refine va_putF (D := (dC, dI)) (ci := 10) (v := .ref q39_9) (ty := (.array .int)) (C := "BigRunnerModel") (T := FT10) (N := 45) hx hb (hw10 hB _) (fun _ h9 => h9) TY10 ok10 nm10 hown hK hP hD hS 0 rfl rfl 7 (by decide) (wd_954 hB _) (fun _ h9 => h9) rfl hin rfl (by decide +kernel) rfl rfl (Nat.le_of_ble_eq_true rfl) d_M_init_41 (fun H locs hP hD hS => ?_)
  have hP : va_P (dC, dI) vcl [(y, .inr (10, [.int 0, .ref q7_1, .int 0, .ref q15_3, .ref q23_5, .int 0, .ref q31_7, .ref q39_9, .null, .int 0, .int 0, .int 0, .null, .int 0, .null, .null, .int 0, .null, .null, .null, .null, .null, .null, .null, .null, .null, .null, .null, .null, .null, .null, .null, .int 0, .null, .null, .null, .int 0, .int 0, .int 0, .int 0, .int 0, .int 0, .int 0, .int 0, .int 0])), (q7_1, .inl (cA7_2, 72, .inl (fun _ => 0))), (q39_9, .inl (cA39_10, 100, .inl (fun _ => 0)))] H := hP
  have hD : va_D A [(y, .inr (10, [.int 0, .ref q7_1, .int 0, .ref q15_3, .ref q23_5, .int 0, .ref q31_7, .ref q39_9, .null, .int 0, .int 0, .int 0, .null, .int 0, .null, .null, .int 0, .null, .null, .null, .null, .null, .null, .null, .null, .null, .null, .null, .null, .null, .null, .null, .int 0, .null, .null, .null, .int 0, .int 0, .int 0, .int 0, .int 0, .int 0, .int 0, .int 0, .int 0])), (q7_1, .inl (cA7_2, 72, .inl (fun _ => 0))), (q39_9, .inl (cA39_10, 100, .inl (fun _ => 0)))] := hD
  have hD := hD.sub (ws' := [(y, .inr (10, [.int 0, .ref q7_1, .int 0, .ref q15_3, .ref q23_5, .int 0, .ref q31_7, .ref q39_9, .null, .int 0, .int 0, .int 0, .null, .int 0, .null, .null, .int 0, .null, .null, .null, .null, .null, .null, .null, .null, .null, .null, .null, .null, .null, .null, .null, .int 0, .null, .null, .null, .int 0, .int 0, .int 0, .int 0, .int 0, .int 0, .int 0, .int 0, .int 0])), (q7_1, .inl (cA7_2, 72, .inl (fun _ => 0)))]) [0, 1] (by decide) rfl
  have hP := hP.sub (ws' := [(y, .inr (10, [.int 0, .ref q7_1, .int 0, .ref q15_3, .ref q23_5, .int 0, .ref q31_7, .ref q39_9, .null, .int 0, .int 0, .int 0, .null, .int 0, .null, .null, .int 0, .null, .null, .null, .null, .null, .null, .null, .null, .null, .null, .null, .null, .null, .null, .null, .int 0, .null, .null, .null, .int 0, .int 0, .int 0, .int 0, .int 0, .int 0, .int 0, .int 0, .int 0])), (q7_1, .inl (cA7_2, 72, .inl (fun _ => 0)))]) [0, 1] rfl
  have hK := hK.sub (tys' := [(cA7_2, .char)]) [0] rfl
  refine lv_aload_n hx hb d_M_init_44 rfl (lv_at hl 0 rfl) ?_
  refine lv_bipush (v := 100) hx hb d_M_init_45 (by decide) ?_
  refine va_newa (atype := .boolean) (a0 := (100, .inl (fun _ => 0))) (N' := 100) (ty := .boolean) hx hb (wd_1083 hB _) rfl hK hP hD hS hA (fun _ => rfl) (by decide +kernel) (by decide +kernel) (by decide +kernel) (Nat.le_of_ble_eq_true rfl) (Nat.le_of_ble_eq_true rfl) d_M_init_47 (fun q47_11 cA47_12 H hK hP hD hS => ?_)
  have hP : va_P (dC, dI) vcl [(y, .inr (10, [.int 0, .ref q7_1, .int 0, .ref q15_3, .ref q23_5, .int 0, .ref q31_7, .ref q39_9, .null, .int 0, .int 0, .int 0, .null, .int 0, .null, .null, .int 0, .null, .null, .null, .null, .null, .null, .null, .null, .null, .null, .null, .null, .null, .null, .null, .int 0, .null, .null, .null, .int 0, .int 0, .int 0, .int 0, .int 0, .int 0, .int 0, .int 0, .int 0])), (q7_1, .inl (cA7_2, 72, .inl (fun _ => 0))), (q47_11, .inl (cA47_12, 100, .inl (fun _ => 0)))] H := hP
  have hD : va_D A [(y, .inr (10, [.int 0, .ref q7_1, .int 0, .ref q15_3, .ref q23_5, .int 0, .ref q31_7, .ref q39_9, .null, .int 0, .int 0, .int 0, .null, .int 0, .null, .null, .int 0, .null, .null, .null, .null, .null, .null, .null, .null, .null, .null, .null, .null, .null, .null, .null, .int 0, .null, .null, .null, .int 0, .int 0, .int 0, .int 0, .int 0, .int 0, .int 0, .int 0, .int 0])), (q7_1, .inl (cA7_2, 72, .inl (fun _ => 0))), (q47_11, .inl (cA47_12, 100, .inl (fun _ => 0)))] := hD
  have hK : va_K (dC, dI) vcl [(cA7_2, .char), (cA47_12, .boolean)] s := hK
  refine W.widen (k := 6) (n := 572) (by omega) (by omega) ?_
  refine va_putF (D := (dC, dI)) (ci := 10) (v := .ref q47_11) (ty := (.array .boolean)) (C := "BigRunnerModel") (T := FT10) (N := 45) hx hb (hw10 hB _) (fun _ h9 => h9) TY10 ok10 nm10 hown hK hP hD hS 0 rfl rfl 8 (by decide) (wd_955 hB _) (fun _ h9 => h9) rfl hin rfl (by decide +kernel) rfl rfl (Nat.le_of_ble_eq_true rfl) d_M_init_49 (fun H locs hP hD hS => ?_)
  have hP : va_P (dC, dI) vcl [(y, .inr (10, [.int 0, .ref q7_1, .int 0, .ref q15_3, .ref q23_5, .int 0, .ref q31_7, .ref q39_9, .ref q47_11, .int 0, .int 0, .int 0, .null, .int 0, .null, .null, .int 0, .null, .null, .null, .null, .null, .null, .null, .null, .null, .null, .null, .null, .null, .null, .null, .int 0, .null, .null, .null, .int 0, .int 0, .int 0, .int 0, .int 0, .int 0, .int 0, .int 0, .int 0])), (q7_1, .inl (cA7_2, 72, .inl (fun _ => 0))), (q47_11, .inl (cA47_12, 100, .inl (fun _ => 0)))] H := hP
  have hD : va_D A [(y, .inr (10, [.int 0, .ref q7_1, .int 0, .ref q15_3, .ref q23_5, .int 0, .ref q31_7, .ref q39_9, .ref q47_11, .int 0, .int 0, .int 0, .null, .int 0, .null, .null, .int 0, .null, .null, .null, .null, .null, .null, .null, .null, .null, .null, .null, .null, .null, .null, .null, .int 0, .null, .null, .null, .int 0, .int 0, .int 0, .int 0, .int 0, .int 0, .int 0, .int 0, .int 0])), (q7_1, .inl (cA7_2, 72, .inl (fun _ => 0))), (q47_11, .inl (cA47_12, 100, .inl (fun _ => 0)))] := hD
  have hD := hD.sub (ws' := [(y, .inr (10, [.int 0, .ref q7_1, .int 0, .ref q15_3, .ref q23_5, .int 0, .ref q31_7, .ref q39_9, .ref q47_11, .int 0, .int 0, .int 0, .null, .int 0, .null, .null, .int 0, .null, .null, .null, .null, .null, .null, .null, .null, .null, .null, .null, .null, .null, .null, .null, .int 0, .null, .null, .null, .int 0, .int 0, .int 0, .int 0, .int 0, .int 0, .int 0, .int 0, .int 0])), (q7_1, .inl (cA7_2, 72, .inl (fun _ => 0)))]) [0, 1] (by decide) rfl
  have hP := hP.sub (ws' := [(y, .inr (10, [.int 0, .ref q7_1, .int 0, .ref q15_3, .ref q23_5, .int 0, .ref q31_7, .ref q39_9, .ref q47_11, .int 0, .int 0, .int 0, .null, .int 0, .null, .null, .int 0, .null, .null, .null, .null, .null, .null, .null, .null, .null, .null, .null, .null, .null, .null, .null, .int 0, .null, .null, .null, .int 0, .int 0, .int 0, .int 0, .int 0, .int 0, .int 0, .int 0, .int 0])), (q7_1, .inl (cA7_2, 72, .inl (fun _ => 0)))]) [0, 1] rfl
  have hK := hK.sub (tys' := [(cA7_2, .char)]) [0] rfl
  refine lv_aload_n hx hb d_M_init_52 rfl (lv_at hl 0 rfl) ?_
  refine lv_bipush (v := 72) hx hb d_M_init_53 (by decide) ?_
  refine va_newa (atype := .char) (a0 := (72, .inl (fun _ => 0))) (N' := 72) (ty := .char) hx hb (wd_137 hB _) rfl hK hP hD hS hA (fun _ => rfl) (by decide +kernel) (by decide +kernel) (by decide +kernel) (Nat.le_of_ble_eq_true rfl) (Nat.le_of_ble_eq_true rfl) d_M_init_55 (fun q55_13 cA55_14 H hK hP hD hS => ?_)
  have hP : va_P (dC, dI) vcl [(y, .inr (10, [.int 0, .ref q7_1, .int 0, .ref q15_3, .ref q23_5, .int 0, .ref q31_7, .ref q39_9, .ref q47_11, .int 0, .int 0, .int 0, .null, .int 0, .null, .null, .int 0, .null, .null, .null, .null, .null, .null, .null, .null, .null, .null, .null, .null, .null, .null, .null, .int 0, .null, .null, .null, .int 0, .int 0, .int 0, .int 0, .int 0, .int 0, .int 0, .int 0, .int 0])), (q7_1, .inl (cA7_2, 72, .inl (fun _ => 0))), (q55_13, .inl (cA55_14, 72, .inl (fun _ => 0)))] H := hP
  have hD : va_D A [(y, .inr (10, [.int 0, .ref q7_1, .int 0, .ref q15_3, .ref q23_5, .int 0, .ref q31_7, .ref q39_9, .ref q47_11, .int 0, .int 0, .int 0, .null, .int 0, .null, .null, .int 0, .null, .null, .null, .null, .null, .null, .null, .null, .null, .null, .null, .null, .null, .null, .null, .int 0, .null, .null, .null, .int 0, .int 0, .int 0, .int 0, .int 0, .int 0, .int 0, .int 0, .int 0])), (q7_1, .inl (cA7_2, 72, .inl (fun _ => 0))), (q55_13, .inl (cA55_14, 72, .inl (fun _ => 0)))] := hD
  have hK : va_K (dC, dI) vcl [(cA7_2, .char), (cA55_14, .char)] s := hK
  refine W.widen (k := 7) (n := 644) (by omega) (by omega) ?_
  refine va_putF (D := (dC, dI)) (ci := 10) (v := .ref q55_13) (ty := (.array .char)) (C := "BigRunnerModel") (T := FT10) (N := 45) hx hb (hw10 hB _) (fun _ h9 => h9) TY10 ok10 nm10 hown hK hP hD hS 0 rfl rfl 12 (by decide) (wd_959 hB _) (fun _ h9 => h9) rfl hin rfl (by decide +kernel) rfl rfl (Nat.le_of_ble_eq_true rfl) d_M_init_57 (fun H locs hP hD hS => ?_)
  have hP : va_P (dC, dI) vcl [(y, .inr (10, [.int 0, .ref q7_1, .int 0, .ref q15_3, .ref q23_5, .int 0, .ref q31_7, .ref q39_9, .ref q47_11, .int 0, .int 0, .int 0, .ref q55_13, .int 0, .null, .null, .int 0, .null, .null, .null, .null, .null, .null, .null, .null, .null, .null, .null, .null, .null, .null, .null, .int 0, .null, .null, .null, .int 0, .int 0, .int 0, .int 0, .int 0, .int 0, .int 0, .int 0, .int 0])), (q7_1, .inl (cA7_2, 72, .inl (fun _ => 0))), (q55_13, .inl (cA55_14, 72, .inl (fun _ => 0)))] H := hP
  have hD : va_D A [(y, .inr (10, [.int 0, .ref q7_1, .int 0, .ref q15_3, .ref q23_5, .int 0, .ref q31_7, .ref q39_9, .ref q47_11, .int 0, .int 0, .int 0, .ref q55_13, .int 0, .null, .null, .int 0, .null, .null, .null, .null, .null, .null, .null, .null, .null, .null, .null, .null, .null, .null, .null, .int 0, .null, .null, .null, .int 0, .int 0, .int 0, .int 0, .int 0, .int 0, .int 0, .int 0, .int 0])), (q7_1, .inl (cA7_2, 72, .inl (fun _ => 0))), (q55_13, .inl (cA55_14, 72, .inl (fun _ => 0)))] := hD
  have hD := hD.sub (ws' := [(y, .inr (10, [.int 0, .ref q7_1, .int 0, .ref q15_3, .ref q23_5, .int 0, .ref q31_7, .ref q39_9, .ref q47_11, .int 0, .int 0, .int 0, .ref q55_13, .int 0, .null, .null, .int 0, .null, .null, .null, .null, .null, .null, .null, .null, .null, .null, .null, .null, .null, .null, .null, .int 0, .null, .null, .null, .int 0, .int 0, .int 0, .int 0, .int 0, .int 0, .int 0, .int 0, .int 0])), (q7_1, .inl (cA7_2, 72, .inl (fun _ => 0)))]) [0, 1] (by decide) rfl
  have hP := hP.sub (ws' := [(y, .inr (10, [.int 0, .ref q7_1, .int 0, .ref q15_3, .ref q23_5, .int 0, .ref q31_7, .ref q39_9, .ref q47_11, .int 0, .int 0, .int 0, .ref q55_13, .int 0, .null, .null, .int 0, .null, .null, .null, .null, .null, .null, .null, .null, .null, .null, .null, .null, .null, .null, .null, .int 0, .null, .null, .null, .int 0, .int 0, .int 0, .int 0, .int 0, .int 0, .int 0, .int 0, .int 0])), (q7_1, .inl (cA7_2, 72, .inl (fun _ => 0)))]) [0, 1] rfl
  have hK := hK.sub (tys' := [(cA7_2, .char)]) [0] rfl
  refine lv_aload_n hx hb d_M_init_60 rfl (lv_at hl 0 rfl) ?_
  refine lv_bipush (v := 40) hx hb d_M_init_61 (by decide) ?_
  refine va_newa (atype := .int) (a0 := (40, .inl (fun _ => 0))) (N' := 40) (ty := .int) hx hb (wd_201 hB _) rfl hK hP hD hS hA (fun _ => rfl) (by decide +kernel) (by decide +kernel) (by decide +kernel) (Nat.le_of_ble_eq_true rfl) (Nat.le_of_ble_eq_true rfl) d_M_init_63 (fun q63_15 cA63_16 H hK hP hD hS => ?_)
  have hP : va_P (dC, dI) vcl [(y, .inr (10, [.int 0, .ref q7_1, .int 0, .ref q15_3, .ref q23_5, .int 0, .ref q31_7, .ref q39_9, .ref q47_11, .int 0, .int 0, .int 0, .ref q55_13, .int 0, .null, .null, .int 0, .null, .null, .null, .null, .null, .null, .null, .null, .null, .null, .null, .null, .null, .null, .null, .int 0, .null, .null, .null, .int 0, .int 0, .int 0, .int 0, .int 0, .int 0, .int 0, .int 0, .int 0])), (q7_1, .inl (cA7_2, 72, .inl (fun _ => 0))), (q63_15, .inl (cA63_16, 40, .inl (fun _ => 0)))] H := hP
  have hD : va_D A [(y, .inr (10, [.int 0, .ref q7_1, .int 0, .ref q15_3, .ref q23_5, .int 0, .ref q31_7, .ref q39_9, .ref q47_11, .int 0, .int 0, .int 0, .ref q55_13, .int 0, .null, .null, .int 0, .null, .null, .null, .null, .null, .null, .null, .null, .null, .null, .null, .null, .null, .null, .null, .int 0, .null, .null, .null, .int 0, .int 0, .int 0, .int 0, .int 0, .int 0, .int 0, .int 0, .int 0])), (q7_1, .inl (cA7_2, 72, .inl (fun _ => 0))), (q63_15, .inl (cA63_16, 40, .inl (fun _ => 0)))] := hD
  have hK : va_K (dC, dI) vcl [(cA7_2, .char), (cA63_16, .int)] s := hK
  refine W.widen (k := 8) (n := 684) (by omega) (by omega) ?_
  refine va_putF (D := (dC, dI)) (ci := 10) (v := .ref q63_15) (ty := (.array .int)) (C := "BigRunnerModel") (T := FT10) (N := 45) hx hb (hw10 hB _) (fun _ h9 => h9) TY10 ok10 nm10 hown hK hP hD hS 0 rfl rfl 14 (by decide) (wd_961 hB _) (fun _ h9 => h9) rfl hin rfl (by decide +kernel) rfl rfl (Nat.le_of_ble_eq_true rfl) d_M_init_65 (fun H locs hP hD hS => ?_)
  have hP : va_P (dC, dI) vcl [(y, .inr (10, [.int 0, .ref q7_1, .int 0, .ref q15_3, .ref q23_5, .int 0, .ref q31_7, .ref q39_9, .ref q47_11, .int 0, .int 0, .int 0, .ref q55_13, .int 0, .ref q63_15, .null, .int 0, .null, .null, .null, .null, .null, .null, .null, .null, .null, .null, .null, .null, .null, .null, .null, .int 0, .null, .null, .null, .int 0, .int 0, .int 0, .int 0, .int 0, .int 0, .int 0, .int 0, .int 0])), (q7_1, .inl (cA7_2, 72, .inl (fun _ => 0))), (q63_15, .inl (cA63_16, 40, .inl (fun _ => 0)))] H := hP
  have hD : va_D A [(y, .inr (10, [.int 0, .ref q7_1, .int 0, .ref q15_3, .ref q23_5, .int 0, .ref q31_7, .ref q39_9, .ref q47_11, .int 0, .int 0, .int 0, .ref q55_13, .int 0, .ref q63_15, .null, .int 0, .null, .null, .null, .null, .null, .null, .null, .null, .null, .null, .null, .null, .null, .null, .null, .int 0, .null, .null, .null, .int 0, .int 0, .int 0, .int 0, .int 0, .int 0, .int 0, .int 0, .int 0])), (q7_1, .inl (cA7_2, 72, .inl (fun _ => 0))), (q63_15, .inl (cA63_16, 40, .inl (fun _ => 0)))] := hD
  have hD := hD.sub (ws' := [(y, .inr (10, [.int 0, .ref q7_1, .int 0, .ref q15_3, .ref q23_5, .int 0, .ref q31_7, .ref q39_9, .ref q47_11, .int 0, .int 0, .int 0, .ref q55_13, .int 0, .ref q63_15, .null, .int 0, .null, .null, .null, .null, .null, .null, .null, .null, .null, .null, .null, .null, .null, .null, .null, .int 0, .null, .null, .null, .int 0, .int 0, .int 0, .int 0, .int 0, .int 0, .int 0, .int 0, .int 0])), (q7_1, .inl (cA7_2, 72, .inl (fun _ => 0)))]) [0, 1] (by decide) rfl
  have hP := hP.sub (ws' := [(y, .inr (10, [.int 0, .ref q7_1, .int 0, .ref q15_3, .ref q23_5, .int 0, .ref q31_7, .ref q39_9, .ref q47_11, .int 0, .int 0, .int 0, .ref q55_13, .int 0, .ref q63_15, .null, .int 0, .null, .null, .null, .null, .null, .null, .null, .null, .null, .null, .null, .null, .null, .null, .null, .int 0, .null, .null, .null, .int 0, .int 0, .int 0, .int 0, .int 0, .int 0, .int 0, .int 0, .int 0])), (q7_1, .inl (cA7_2, 72, .inl (fun _ => 0)))]) [0, 1] rfl
  have hK := hK.sub (tys' := [(cA7_2, .char)]) [0] rfl
  refine lv_aload_n hx hb d_M_init_68 rfl (lv_at hl 0 rfl) ?_
  refine lv_bipush (v := 40) hx hb d_M_init_69 (by decide) ?_
  refine va_newa (atype := .int) (a0 := (40, .inl (fun _ => 0))) (N' := 40) (ty := .int) hx hb (wd_201 hB _) rfl hK hP hD hS hA (fun _ => rfl) (by decide +kernel) (by decide +kernel) (by decide +kernel) (Nat.le_of_ble_eq_true rfl) (Nat.le_of_ble_eq_true rfl) d_M_init_71 (fun q71_17 cA71_18 H hK hP hD hS => ?_)
  have hP : va_P (dC, dI) vcl [(y, .inr (10, [.int 0, .ref q7_1, .int 0, .ref q15_3, .ref q23_5, .int 0, .ref q31_7, .ref q39_9, .ref q47_11, .int 0, .int 0, .int 0, .ref q55_13, .int 0, .ref q63_15, .null, .int 0, .null, .null, .null, .null, .null, .null, .null, .null, .null, .null, .null, .null, .null, .null, .null, .int 0, .null, .null, .null, .int 0, .int 0, .int 0, .int 0, .int 0, .int 0, .int 0, .int 0, .int 0])), (q7_1, .inl (cA7_2, 72, .inl (fun _ => 0))), (q71_17, .inl (cA71_18, 40, .inl (fun _ => 0)))] H := hP
  have hD : va_D A [(y, .inr (10, [.int 0, .ref q7_1, .int 0, .ref q15_3, .ref q23_5, .int 0, .ref q31_7, .ref q39_9, .ref q47_11, .int 0, .int 0, .int 0, .ref q55_13, .int 0, .ref q63_15, .null, .int 0, .null, .null, .null, .null, .null, .null, .null, .null, .null, .null, .null, .null, .null, .null, .null, .int 0, .null, .null, .null, .int 0, .int 0, .int 0, .int 0, .int 0, .int 0, .int 0, .int 0, .int 0])), (q7_1, .inl (cA7_2, 72, .inl (fun _ => 0))), (q71_17, .inl (cA71_18, 40, .inl (fun _ => 0)))] := hD
  have hK : va_K (dC, dI) vcl [(cA7_2, .char), (cA71_18, .int)] s := hK
  refine W.widen (k := 9) (n := 724) (by omega) (by omega) ?_
  refine va_putF (D := (dC, dI)) (ci := 10) (v := .ref q71_17) (ty := (.array .int)) (C := "BigRunnerModel") (T := FT10) (N := 45) hx hb (hw10 hB _) (fun _ h9 => h9) TY10 ok10 nm10 hown hK hP hD hS 0 rfl rfl 15 (by decide) (wd_962 hB _) (fun _ h9 => h9) rfl hin rfl (by decide +kernel) rfl rfl (Nat.le_of_ble_eq_true rfl) d_M_init_73 (fun H locs hP hD hS => ?_)
  have hP : va_P (dC, dI) vcl [(y, .inr (10, [.int 0, .ref q7_1, .int 0, .ref q15_3, .ref q23_5, .int 0, .ref q31_7, .ref q39_9, .ref q47_11, .int 0, .int 0, .int 0, .ref q55_13, .int 0, .ref q63_15, .ref q71_17, .int 0, .null, .null, .null, .null, .null, .null, .null, .null, .null, .null, .null, .null, .null, .null, .null, .int 0, .null, .null, .null, .int 0, .int 0, .int 0, .int 0, .int 0, .int 0, .int 0, .int 0, .int 0])), (q7_1, .inl (cA7_2, 72, .inl (fun _ => 0))), (q71_17, .inl (cA71_18, 40, .inl (fun _ => 0)))] H := hP
  have hD : va_D A [(y, .inr (10, [.int 0, .ref q7_1, .int 0, .ref q15_3, .ref q23_5, .int 0, .ref q31_7, .ref q39_9, .ref q47_11, .int 0, .int 0, .int 0, .ref q55_13, .int 0, .ref q63_15, .ref q71_17, .int 0, .null, .null, .null, .null, .null, .null, .null, .null, .null, .null, .null, .null, .null, .null, .null, .int 0, .null, .null, .null, .int 0, .int 0, .int 0, .int 0, .int 0, .int 0, .int 0, .int 0, .int 0])), (q7_1, .inl (cA7_2, 72, .inl (fun _ => 0))), (q71_17, .inl (cA71_18, 40, .inl (fun _ => 0)))] := hD
  have hD := hD.sub (ws' := [(y, .inr (10, [.int 0, .ref q7_1, .int 0, .ref q15_3, .ref q23_5, .int 0, .ref q31_7, .ref q39_9, .ref q47_11, .int 0, .int 0, .int 0, .ref q55_13, .int 0, .ref q63_15, .ref q71_17, .int 0, .null, .null, .null, .null, .null, .null, .null, .null, .null, .null, .null, .null, .null, .null, .null, .int 0, .null, .null, .null, .int 0, .int 0, .int 0, .int 0, .int 0, .int 0, .int 0, .int 0, .int 0])), (q7_1, .inl (cA7_2, 72, .inl (fun _ => 0)))]) [0, 1] (by decide) rfl
  have hP := hP.sub (ws' := [(y, .inr (10, [.int 0, .ref q7_1, .int 0, .ref q15_3, .ref q23_5, .int 0, .ref q31_7, .ref q39_9, .ref q47_11, .int 0, .int 0, .int 0, .ref q55_13, .int 0, .ref q63_15, .ref q71_17, .int 0, .null, .null, .null, .null, .null, .null, .null, .null, .null, .null, .null, .null, .null, .null, .null, .int 0, .null, .null, .null, .int 0, .int 0, .int 0, .int 0, .int 0, .int 0, .int 0, .int 0, .int 0])), (q7_1, .inl (cA7_2, 72, .inl (fun _ => 0)))]) [0, 1] rfl
  have hK := hK.sub (tys' := [(cA7_2, .char)]) [0] rfl
  refine lv_aload_n hx hb d_M_init_76 rfl (lv_at hl 0 rfl) ?_
  refine lv_bipush (v := 10) hx hb d_M_init_77 (by decide) ?_
  refine va_newa (atype := .long) (a0 := (10, .inr (.inl (fun _ => 0)))) (N' := 10) (ty := .long) hx hb (wd_329 hB _) rfl hK hP hD hS hA (fun _ => rfl) (by decide +kernel) (by decide +kernel) (by decide +kernel) (Nat.le_of_ble_eq_true rfl) (Nat.le_of_ble_eq_true rfl) d_M_init_79 (fun q79_19 cA79_20 H hK hP hD hS => ?_)
  have hP : va_P (dC, dI) vcl [(y, .inr (10, [.int 0, .ref q7_1, .int 0, .ref q15_3, .ref q23_5, .int 0, .ref q31_7, .ref q39_9, .ref q47_11, .int 0, .int 0, .int 0, .ref q55_13, .int 0, .ref q63_15, .ref q71_17, .int 0, .null, .null, .null, .null, .null, .null, .null, .null, .null, .null, .null, .null, .null, .null, .null, .int 0, .null, .null, .null, .int 0, .int 0, .int 0, .int 0, .int 0, .int 0, .int 0, .int 0, .int 0])), (q7_1, .inl (cA7_2, 72, .inl (fun _ => 0))), (q79_19, .inl (cA79_20, 10, .inr (.inl (fun _ => 0))))] H := hP
  have hD : va_D A [(y, .inr (10, [.int 0, .ref q7_1, .int 0, .ref q15_3, .ref q23_5, .int 0, .ref q31_7, .ref q39_9, .ref q47_11, .int 0, .int 0, .int 0, .ref q55_13, .int 0, .ref q63_15, .ref q71_17, .int 0, .null, .null, .null, .null, .null, .null, .null, .null, .null, .null, .null, .null, .null, .null, .null, .int 0, .null, .null, .null, .int 0, .int 0, .int 0, .int 0, .int 0, .int 0, .int 0, .int 0, .int 0])), (q7_1, .inl (cA7_2, 72, .inl (fun _ => 0))), (q79_19, .inl (cA79_20, 10, .inr (.inl (fun _ => 0))))] := hD
  have hK : va_K (dC, dI) vcl [(cA7_2, .char), (cA79_20, .long)] s := hK
  refine W.widen (k := 10) (n := 734) (by omega) (by omega) ?_
  refine va_putF (D := (dC, dI)) (ci := 10) (v := .ref q79_19) (ty := (.array .long)) (C := "BigRunnerModel") (T := FT10) (N := 45) hx hb (hw10 hB _) (fun _ h9 => h9) TY10 ok10 nm10 hown hK hP hD hS 0 rfl rfl 17 (by decide) (wd_964 hB _) (fun _ h9 => h9) rfl hin rfl (by decide +kernel) rfl rfl (Nat.le_of_ble_eq_true rfl) d_M_init_81 (fun H locs hP hD hS => ?_)
  have hP : va_P (dC, dI) vcl [(y, .inr (10, [.int 0, .ref q7_1, .int 0, .ref q15_3, .ref q23_5, .int 0, .ref q31_7, .ref q39_9, .ref q47_11, .int 0, .int 0, .int 0, .ref q55_13, .int 0, .ref q63_15, .ref q71_17, .int 0, .ref q79_19, .null, .null, .null, .null, .null, .null, .null, .null, .null, .null, .null, .null, .null, .null, .int 0, .null, .null, .null, .int 0, .int 0, .int 0, .int 0, .int 0, .int 0, .int 0, .int 0, .int 0])), (q7_1, .inl (cA7_2, 72, .inl (fun _ => 0))), (q79_19, .inl (cA79_20, 10, .inr (.inl (fun _ => 0))))] H := hP
  have hD : va_D A [(y, .inr (10, [.int 0, .ref q7_1, .int 0, .ref q15_3, .ref q23_5, .int 0, .ref q31_7, .ref q39_9, .ref q47_11, .int 0, .int 0, .int 0, .ref q55_13, .int 0, .ref q63_15, .ref q71_17, .int 0, .ref q79_19, .null, .null, .null, .null, .null, .null, .null, .null, .null, .null, .null, .null, .null, .null, .int 0, .null, .null, .null, .int 0, .int 0, .int 0, .int 0, .int 0, .int 0, .int 0, .int 0, .int 0])), (q7_1, .inl (cA7_2, 72, .inl (fun _ => 0))), (q79_19, .inl (cA79_20, 10, .inr (.inl (fun _ => 0))))] := hD
  have hD := hD.sub (ws' := [(y, .inr (10, [.int 0, .ref q7_1, .int 0, .ref q15_3, .ref q23_5, .int 0, .ref q31_7, .ref q39_9, .ref q47_11, .int 0, .int 0, .int 0, .ref q55_13, .int 0, .ref q63_15, .ref q71_17, .int 0, .ref q79_19, .null, .null, .null, .null, .null, .null, .null, .null, .null, .null, .null, .null, .null, .null, .int 0, .null, .null, .null, .int 0, .int 0, .int 0, .int 0, .int 0, .int 0, .int 0, .int 0, .int 0])), (q7_1, .inl (cA7_2, 72, .inl (fun _ => 0)))]) [0, 1] (by decide) rfl
  have hP := hP.sub (ws' := [(y, .inr (10, [.int 0, .ref q7_1, .int 0, .ref q15_3, .ref q23_5, .int 0, .ref q31_7, .ref q39_9, .ref q47_11, .int 0, .int 0, .int 0, .ref q55_13, .int 0, .ref q63_15, .ref q71_17, .int 0, .ref q79_19, .null, .null, .null, .null, .null, .null, .null, .null, .null, .null, .null, .null, .null, .null, .int 0, .null, .null, .null, .int 0, .int 0, .int 0, .int 0, .int 0, .int 0, .int 0, .int 0, .int 0])), (q7_1, .inl (cA7_2, 72, .inl (fun _ => 0)))]) [0, 1] rfl
  have hK := hK.sub (tys' := [(cA7_2, .char)]) [0] rfl
  refine lv_aload_n hx hb d_M_init_84 rfl (lv_at hl 0 rfl) ?_
  refine lv_bipush (v := 10) hx hb d_M_init_85 (by decide) ?_
  refine va_newa (atype := .long) (a0 := (10, .inr (.inl (fun _ => 0)))) (N' := 10) (ty := .long) hx hb (wd_329 hB _) rfl hK hP hD hS hA (fun _ => rfl) (by decide +kernel) (by decide +kernel) (by decide +kernel) (Nat.le_of_ble_eq_true rfl) (Nat.le_of_ble_eq_true rfl) d_M_init_87 (fun q87_21 cA87_22 H hK hP hD hS => ?_)
  have hP : va_P (dC, dI) vcl [(y, .inr (10, [.int 0, .ref q7_1, .int 0, .ref q15_3, .ref q23_5, .int 0, .ref q31_7, .ref q39_9, .ref q47_11, .int 0, .int 0, .int 0, .ref q55_13, .int 0, .ref q63_15, .ref q71_17, .int 0, .ref q79_19, .null, .null, .null, .null, .null, .null, .null, .null, .null, .null, .null, .null, .null, .null, .int 0, .null, .null, .null, .int 0, .int 0, .int 0, .int 0, .int 0, .int 0, .int 0, .int 0, .int 0])), (q7_1, .inl (cA7_2, 72, .inl (fun _ => 0))), (q87_21, .inl (cA87_22, 10, .inr (.inl (fun _ => 0))))] H := hP
  have hD : va_D A [(y, .inr (10, [.int 0, .ref q7_1, .int 0, .ref q15_3, .ref q23_5, .int 0, .ref q31_7, .ref q39_9, .ref q47_11, .int 0, .int 0, .int 0, .ref q55_13, .int 0, .ref q63_15, .ref q71_17, .int 0, .ref q79_19, .null, .null, .null, .null, .null, .null, .null, .null, .null, .null, .null, .null, .null, .null, .int 0, .null, .null, .null, .int 0, .int 0, .int 0, .int 0, .int 0, .int 0, .int 0, .int 0, .int 0])), (q7_1, .inl (cA7_2, 72, .inl (fun _ => 0))), (q87_21, .inl (cA87_22, 10, .inr (.inl (fun _ => 0))))] := hD
  have hK : va_K (dC, dI) vcl [(cA7_2, .char), (cA87_22, .long)] s := hK
  refine W.widen (k := 11) (n := 744) (by omega) (by omega) ?_
  refine va_putF (D := (dC, dI)) (ci := 10) (v := .ref q87_21) (ty := (.array .long)) (C := "BigRunnerModel") (T := FT10) (N := 45) hx hb (hw10 hB _) (fun _ h9 => h9) TY10 ok10 nm10 hown hK hP hD hS 0 rfl rfl 18 (by decide) (wd_965 hB _) (fun _ h9 => h9) rfl hin rfl (by decide +kernel) rfl rfl (Nat.le_of_ble_eq_true rfl) d_M_init_89 (fun H locs hP hD hS => ?_)
  have hP : va_P (dC, dI) vcl [(y, .inr (10, [.int 0, .ref q7_1, .int 0, .ref q15_3, .ref q23_5, .int 0, .ref q31_7, .ref q39_9, .ref q47_11, .int 0, .int 0, .int 0, .ref q55_13, .int 0, .ref q63_15, .ref q71_17, .int 0, .ref q79_19, .ref q87_21, .null, .null, .null, .null, .null, .null, .null, .null, .null, .null, .null, .null, .null, .int 0, .null, .null, .null, .int 0, .int 0, .int 0, .int 0, .int 0, .int 0, .int 0, .int 0, .int 0])), (q7_1, .inl (cA7_2, 72, .inl (fun _ => 0))), (q87_21, .inl (cA87_22, 10, .inr (.inl (fun _ => 0))))] H := hP
  have hD : va_D A [(y, .inr (10, [.int 0, .ref q7_1, .int 0, .ref q15_3, .ref q23_5, .int 0, .ref q31_7, .ref q39_9, .ref q47_11, .int 0, .int 0, .int 0, .ref q55_13, .int 0, .ref q63_15, .ref q71_17, .int 0, .ref q79_19, .ref q87_21, .null, .null, .null, .null, .null, .null, .null, .null, .null, .null, .null, .null, .null, .int 0, .null, .null, .null, .int 0, .int 0, .int 0, .int 0, .int 0, .int 0, .int 0, .int 0, .int 0])), (q7_1, .inl (cA7_2, 72, .inl (fun _ => 0))), (q87_21, .inl (cA87_22, 10, .inr (.inl (fun _ => 0))))] := hD
  have hD := hD.sub (ws' := [(y, .inr (10, [.int 0, .ref q7_1, .int 0, .ref q15_3, .ref q23_5, .int 0, .ref q31_7, .ref q39_9, .ref q47_11, .int 0, .int 0, .int 0, .ref q55_13, .int 0, .ref q63_15, .ref q71_17, .int 0, .ref q79_19, .ref q87_21, .null, .null, .null, .null, .null, .null, .null, .null, .null, .null, .null, .null, .null, .int 0, .null, .null, .null, .int 0, .int 0, .int 0, .int 0, .int 0, .int 0, .int 0, .int 0, .int 0])), (q7_1, .inl (cA7_2, 72, .inl (fun _ => 0)))]) [0, 1] (by decide) rfl
  have hP := hP.sub (ws' := [(y, .inr (10, [.int 0, .ref q7_1, .int 0, .ref q15_3, .ref q23_5, .int 0, .ref q31_7, .ref q39_9, .ref q47_11, .int 0, .int 0, .int 0, .ref q55_13, .int 0, .ref q63_15, .ref q71_17, .int 0, .ref q79_19, .ref q87_21, .null, .null, .null, .null, .null, .null, .null, .null, .null, .null, .null, .null, .null, .int 0, .null, .null, .null, .int 0, .int 0, .int 0, .int 0, .int 0, .int 0, .int 0, .int 0, .int 0])), (q7_1, .inl (cA7_2, 72, .inl (fun _ => 0)))]) [0, 1] rfl
  have hK := hK.sub (tys' := [(cA7_2, .char)]) [0] rfl
  refine lv_aload_n hx hb d_M_init_92 rfl (lv_at hl 0 rfl) ?_
  refine lv_bipush (v := 10) hx hb d_M_init_93 (by decide) ?_
  refine va_newa (atype := .boolean) (a0 := (10, .inl (fun _ => 0))) (N' := 10) (ty := .boolean) hx hb (wd_1083 hB _) rfl hK hP hD hS hA (fun _ => rfl) (by decide +kernel) (by decide +kernel) (by decide +kernel) (Nat.le_of_ble_eq_true rfl) (Nat.le_of_ble_eq_true rfl) d_M_init_95 (fun q95_23 cA95_24 H hK hP hD hS => ?_)
  have hP : va_P (dC, dI) vcl [(y, .inr (10, [.int 0, .ref q7_1, .int 0, .ref q15_3, .ref q23_5, .int 0, .ref q31_7, .ref q39_9, .ref q47_11, .int 0, .int 0, .int 0, .ref q55_13, .int 0, .ref q63_15, .ref q71_17, .int 0, .ref q79_19, .ref q87_21, .null, .null, .null, .null, .null, .null, .null, .null, .null, .null, .null, .null, .null, .int 0, .null, .null, .null, .int 0, .int 0, .int 0, .int 0, .int 0, .int 0, .int 0, .int 0, .int 0])), (q7_1, .inl (cA7_2, 72, .inl (fun _ => 0))), (q95_23, .inl (cA95_24, 10, .inl (fun _ => 0)))] H := hP
  have hD : va_D A [(y, .inr (10, [.int 0, .ref q7_1, .int 0, .ref q15_3, .ref q23_5, .int 0, .ref q31_7, .ref q39_9, .ref q47_11, .int 0, .int 0, .int 0, .ref q55_13, .int 0, .ref q63_15, .ref q71_17, .int 0, .ref q79_19, .ref q87_21, .null, .null, .null, .null, .null, .null, .null, .null, .null, .null, .null, .null, .null, .int 0, .null, .null, .null, .int 0, .int 0, .int 0, .int 0, .int 0, .int 0, .int 0, .int 0, .int 0])), (q7_1, .inl (cA7_2, 72, .inl (fun _ => 0))), (q95_23, .inl (cA95_24, 10, .inl (fun _ => 0)))] := hD
  have hK : va_K (dC, dI) vcl [(cA7_2, .char), (cA95_24, .boolean)] s := hK
  refine W.widen (k := 12) (n := 754) (by omega) (by omega) ?_
  refine va_putF (D := (dC, dI)) (ci := 10) (v := .ref q95_23) (ty := (.array .boolean)) (C := "BigRunnerModel") (T := FT10) (N := 45) hx hb (hw10 hB _) (fun _ h9 => h9) TY10 ok10 nm10 hown hK hP hD hS 0 rfl rfl 19 (by decide) (wd_966 hB _) (fun _ h9 => h9) rfl hin rfl (by decide +kernel) rfl rfl (Nat.le_of_ble_eq_true rfl) d_M_init_97 (fun H locs hP hD hS => ?_)
  have hP : va_P (dC, dI) vcl [(y, .inr (10, [.int 0, .ref q7_1, .int 0, .ref q15_3, .ref q23_5, .int 0, .ref q31_7, .ref q39_9, .ref q47_11, .int 0, .int 0, .int 0, .ref q55_13, .int 0, .ref q63_15, .ref q71_17, .int 0, .ref q79_19, .ref q87_21, .ref q95_23, .null, .null, .null, .null, .null, .null, .null, .null, .null, .null, .null, .null, .int 0, .null, .null, .null, .int 0, .int 0, .int 0, .int 0, .int 0, .int 0, .int 0, .int 0, .int 0])), (q7_1, .inl (cA7_2, 72, .inl (fun _ => 0))), (q95_23, .inl (cA95_24, 10, .inl (fun _ => 0)))] H := hP
  have hD : va_D A [(y, .inr (10, [.int 0, .ref q7_1, .int 0, .ref q15_3, .ref q23_5, .int 0, .ref q31_7, .ref q39_9, .ref q47_11, .int 0, .int 0, .int 0, .ref q55_13, .int 0, .ref q63_15, .ref q71_17, .int 0, .ref q79_19, .ref q87_21, .ref q95_23, .null, .null, .null, .null, .null, .null, .null, .null, .null, .null, .null, .null, .int 0, .null, .null, .null, .int 0, .int 0, .int 0, .int 0, .int 0, .int 0, .int 0, .int 0, .int 0])), (q7_1, .inl (cA7_2, 72, .inl (fun _ => 0))), (q95_23, .inl (cA95_24, 10, .inl (fun _ => 0)))] := hD
  have hD := hD.sub (ws' := [(y, .inr (10, [.int 0, .ref q7_1, .int 0, .ref q15_3, .ref q23_5, .int 0, .ref q31_7, .ref q39_9, .ref q47_11, .int 0, .int 0, .int 0, .ref q55_13, .int 0, .ref q63_15, .ref q71_17, .int 0, .ref q79_19, .ref q87_21, .ref q95_23, .null, .null, .null, .null, .null, .null, .null, .null, .null, .null, .null, .null, .int 0, .null, .null, .null, .int 0, .int 0, .int 0, .int 0, .int 0, .int 0, .int 0, .int 0, .int 0])), (q7_1, .inl (cA7_2, 72, .inl (fun _ => 0)))]) [0, 1] (by decide) rfl
  have hP := hP.sub (ws' := [(y, .inr (10, [.int 0, .ref q7_1, .int 0, .ref q15_3, .ref q23_5, .int 0, .ref q31_7, .ref q39_9, .ref q47_11, .int 0, .int 0, .int 0, .ref q55_13, .int 0, .ref q63_15, .ref q71_17, .int 0, .ref q79_19, .ref q87_21, .ref q95_23, .null, .null, .null, .null, .null, .null, .null, .null, .null, .null, .null, .null, .int 0, .null, .null, .null, .int 0, .int 0, .int 0, .int 0, .int 0, .int 0, .int 0, .int 0, .int 0])), (q7_1, .inl (cA7_2, 72, .inl (fun _ => 0)))]) [0, 1] rfl
  have hK := hK.sub (tys' := [(cA7_2, .char)]) [0] rfl
  refine lv_aload_n hx hb d_M_init_100 rfl (lv_at hl 0 rfl) ?_
  refine lv_bipush (v := 10) hx hb d_M_init_101 (by decide) ?_
  refine va_newa (atype := .boolean) (a0 := (10, .inl (fun _ => 0))) (N' := 10) (ty := .boolean) hx hb (wd_1083 hB _) rfl hK hP hD hS hA (fun _ => rfl) (by decide +kernel) (by decide +kernel) (by decide +kernel) (Nat.le_of_ble_eq_true rfl) (Nat.le_of_ble_eq_true rfl) d_M_init_103 (fun q103_25 cA103_26 H hK hP hD hS => ?_)
  have hP : va_P (dC, dI) vcl [(y, .inr (10, [.int 0, .ref q7_1, .int 0, .ref q15_3, .ref q23_5, .int 0, .ref q31_7, .ref q39_9, .ref q47_11, .int 0, .int 0, .int 0, .ref q55_13, .int 0, .ref q63_15, .ref q71_17, .int 0, .ref q79_19, .ref q87_21, .ref q95_23, .null, .null, .null, .null, .null, .null, .null, .null, .null, .null, .null, .null, .int 0, .null, .null, .null, .int 0, .int 0, .int 0, .int 0, .int 0, .int 0, .int 0, .int 0, .int 0])), (q7_1, .inl (cA7_2, 72, .inl (fun _ => 0))), (q103_25, .inl (cA103_26, 10, .inl (fun _ => 0)))] H := hP
  have hD : va_D A [(y, .inr (10, [.int 0, .ref q7_1, .int 0, .ref q15_3, .ref q23_5, .int 0, .ref q31_7, .ref q39_9, .ref q47_11, .int 0, .int 0, .int 0, .ref q55_13, .int 0, .ref q63_15, .ref q71_17, .int 0, .ref q79_19, .ref q87_21, .ref q95_23, .null, .null, .null, .null, .null, .null, .null, .null, .null, .null, .null, .null, .int 0, .null, .null, .null, .int 0, .int 0, .int 0, .int 0, .int 0, .int 0, .int 0, .int 0, .int 0])), (q7_1, .inl (cA7_2, 72, .inl (fun _ => 0))), (q103_25, .inl (cA103_26, 10, .inl (fun _ => 0)))] := hD
  have hK : va_K (dC, dI) vcl [(cA7_2, .char), (cA103_26, .boolean)] s := hK
  refine W.widen (k := 13) (n := 764) (by omega) (by omega) ?_
  refine va_putF (D := (dC, dI)) (ci := 10) (v := .ref q103_25) (ty := (.array .boolean)) (C := "BigRunnerModel") (T := FT10) (N := 45) hx hb (hw10 hB _) (fun _ h9 => h9) TY10 ok10 nm10 hown hK hP hD hS 0 rfl rfl 20 (by decide) (wd_967 hB _) (fun _ h9 => h9) rfl hin rfl (by decide +kernel) rfl rfl (Nat.le_of_ble_eq_true rfl) d_M_init_105 (fun H locs hP hD hS => ?_)
  have hP : va_P (dC, dI) vcl [(y, .inr (10, [.int 0, .ref q7_1, .int 0, .ref q15_3, .ref q23_5, .int 0, .ref q31_7, .ref q39_9, .ref q47_11, .int 0, .int 0, .int 0, .ref q55_13, .int 0, .ref q63_15, .ref q71_17, .int 0, .ref q79_19, .ref q87_21, .ref q95_23, .ref q103_25, .null, .null, .null, .null, .null, .null, .null, .null, .null, .null, .null, .int 0, .null, .null, .null, .int 0, .int 0, .int 0, .int 0, .int 0, .int 0, .int 0, .int 0, .int 0])), (q7_1, .inl (cA7_2, 72, .inl (fun _ => 0))), (q103_25, .inl (cA103_26, 10, .inl (fun _ => 0)))] H := hP
  have hD : va_D A [(y, .inr (10, [.int 0, .ref q7_1, .int 0, .ref q15_3, .ref q23_5, .int 0, .ref q31_7, .ref q39_9, .ref q47_11, .int 0, .int 0, .int 0, .ref q55_13, .int 0, .ref q63_15, .ref q71_17, .int 0, .ref q79_19, .ref q87_21, .ref q95_23, .ref q103_25, .null, .null, .null, .null, .null, .null, .null, .null, .null, .null, .null, .int 0, .null, .null, .null, .int 0, .int 0, .int 0, .int 0, .int 0, .int 0, .int 0, .int 0, .int 0])), (q7_1, .inl (cA7_2, 72, .inl (fun _ => 0))), (q103_25, .inl (cA103_26, 10, .inl (fun _ => 0)))] := hD
  have hD := hD.sub (ws' := [(y, .inr (10, [.int 0, .ref q7_1, .int 0, .ref q15_3, .ref q23_5, .int 0, .ref q31_7, .ref q39_9, .ref q47_11, .int 0, .int 0, .int 0, .ref q55_13, .int 0, .ref q63_15, .ref q71_17, .int 0, .ref q79_19, .ref q87_21, .ref q95_23, .ref q103_25, .null, .null, .null, .null, .null, .null, .null, .null, .null, .null, .null, .int 0, .null, .null, .null, .int 0, .int 0, .int 0, .int 0, .int 0, .int 0, .int 0, .int 0, .int 0])), (q7_1, .inl (cA7_2, 72, .inl (fun _ => 0)))]) [0, 1] (by decide) rfl
  have hP := hP.sub (ws' := [(y, .inr (10, [.int 0, .ref q7_1, .int 0, .ref q15_3, .ref q23_5, .int 0, .ref q31_7, .ref q39_9, .ref q47_11, .int 0, .int 0, .int 0, .ref q55_13, .int 0, .ref q63_15, .ref q71_17, .int 0, .ref q79_19, .ref q87_21, .ref q95_23, .ref q103_25, .null, .null, .null, .null, .null, .null, .null, .null, .null, .null, .null, .int 0, .null, .null, .null, .int 0, .int 0, .int 0, .int 0, .int 0, .int 0, .int 0, .int 0, .int 0])), (q7_1, .inl (cA7_2, 72, .inl (fun _ => 0)))]) [0, 1] rfl
  have hK := hK.sub (tys' := [(cA7_2, .char)]) [0] rfl
  refine lv_aload_n hx hb d_M_init_108 rfl (lv_at hl 0 rfl) ?_
  refine lv_bipush (v := 80) hx hb d_M_init_109 (by decide) ?_
  refine va_newa (atype := .long) (a0 := (80, .inr (.inl (fun _ => 0)))) (N' := 80) (ty := .long) hx hb (wd_329 hB _) rfl hK hP hD hS hA (fun _ => rfl) (by decide +kernel) (by decide +kernel) (by decide +kernel) (Nat.le_of_ble_eq_true rfl) (Nat.le_of_ble_eq_true rfl) d_M_init_111 (fun q111_27 cA111_28 H hK hP hD hS => ?_)
  have hP : va_P (dC, dI) vcl [(y, .inr (10, [.int 0, .ref q7_1, .int 0, .ref q15_3, .ref q23_5, .int 0, .ref q31_7, .ref q39_9, .ref q47_11, .int 0, .int 0, .int 0, .ref q55_13, .int 0, .ref q63_15, .ref q71_17, .int 0, .ref q79_19, .ref q87_21, .ref q95_23, .ref q103_25, .null, .null, .null, .null, .null, .null, .null, .null, .null, .null, .null, .int 0, .null, .null, .null, .int 0, .int 0, .int 0, .int 0, .int 0, .int 0, .int 0, .int 0, .int 0])), (q7_1, .inl (cA7_2, 72, .inl (fun _ => 0))), (q111_27, .inl (cA111_28, 80, .inr (.inl (fun _ => 0))))] H := hP
  have hD : va_D A [(y, .inr (10, [.int 0, .ref q7_1, .int 0, .ref q15_3, .ref q23_5, .int 0, .ref q31_7, .ref q39_9, .ref q47_11, .int 0, .int 0, .int 0, .ref q55_13, .int 0, .ref q63_15, .ref q71_17, .int 0, .ref q79_19, .ref q87_21, .ref q95_23, .ref q103_25, .null, .null, .null, .null, .null, .null, .null, .null, .null, .null, .null, .int 0, .null, .null, .null, .int 0, .int 0, .int 0, .int 0, .int 0, .int 0, .int 0, .int 0, .int 0])), (q7_1, .inl (cA7_2, 72, .inl (fun _ => 0))), (q111_27, .inl (cA111_28, 80, .inr (.inl (fun _ => 0))))] := hD
  have hK : va_K (dC, dI) vcl [(cA7_2, .char), (cA111_28, .long)] s := hK
  refine W.widen (k := 14) (n := 844) (by omega) (by omega) ?_
  refine va_putF (D := (dC, dI)) (ci := 10) (v := .ref q111_27) (ty := (.array .long)) (C := "BigRunnerModel") (T := FT10) (N := 45) hx hb (hw10 hB _) (fun _ h9 => h9) TY10 ok10 nm10 hown hK hP hD hS 0 rfl rfl 21 (by decide) (wd_968 hB _) (fun _ h9 => h9) rfl hin rfl (by decide +kernel) rfl rfl (Nat.le_of_ble_eq_true rfl) d_M_init_113 (fun H locs hP hD hS => ?_)
  have hP : va_P (dC, dI) vcl [(y, .inr (10, [.int 0, .ref q7_1, .int 0, .ref q15_3, .ref q23_5, .int 0, .ref q31_7, .ref q39_9, .ref q47_11, .int 0, .int 0, .int 0, .ref q55_13, .int 0, .ref q63_15, .ref q71_17, .int 0, .ref q79_19, .ref q87_21, .ref q95_23, .ref q103_25, .ref q111_27, .null, .null, .null, .null, .null, .null, .null, .null, .null, .null, .int 0, .null, .null, .null, .int 0, .int 0, .int 0, .int 0, .int 0, .int 0, .int 0, .int 0, .int 0])), (q7_1, .inl (cA7_2, 72, .inl (fun _ => 0))), (q111_27, .inl (cA111_28, 80, .inr (.inl (fun _ => 0))))] H := hP
  have hD : va_D A [(y, .inr (10, [.int 0, .ref q7_1, .int 0, .ref q15_3, .ref q23_5, .int 0, .ref q31_7, .ref q39_9, .ref q47_11, .int 0, .int 0, .int 0, .ref q55_13, .int 0, .ref q63_15, .ref q71_17, .int 0, .ref q79_19, .ref q87_21, .ref q95_23, .ref q103_25, .ref q111_27, .null, .null, .null, .null, .null, .null, .null, .null, .null, .null, .int 0, .null, .null, .null, .int 0, .int 0, .int 0, .int 0, .int 0, .int 0, .int 0, .int 0, .int 0])), (q7_1, .inl (cA7_2, 72, .inl (fun _ => 0))), (q111_27, .inl (cA111_28, 80, .inr (.inl (fun _ => 0))))] := hD
  have hD := hD.sub (ws' := [(y, .inr (10, [.int 0, .ref q7_1, .int 0, .ref q15_3, .ref q23_5, .int 0, .ref q31_7, .ref q39_9, .ref q47_11, .int 0, .int 0, .int 0, .ref q55_13, .int 0, .ref q63_15, .ref q71_17, .int 0, .ref q79_19, .ref q87_21, .ref q95_23, .ref q103_25, .ref q111_27, .null, .null, .null, .null, .null, .null, .null, .null, .null, .null, .int 0, .null, .null, .null, .int 0, .int 0, .int 0, .int 0, .int 0, .int 0, .int 0, .int 0, .int 0])), (q7_1, .inl (cA7_2, 72, .inl (fun _ => 0)))]) [0, 1] (by decide) rfl
  have hP := hP.sub (ws' := [(y, .inr (10, [.int 0, .ref q7_1, .int 0, .ref q15_3, .ref q23_5, .int 0, .ref q31_7, .ref q39_9, .ref q47_11, .int 0, .int 0, .int 0, .ref q55_13, .int 0, .ref q63_15, .ref q71_17, .int 0, .ref q79_19, .ref q87_21, .ref q95_23, .ref q103_25, .ref q111_27, .null, .null, .null, .null, .null, .null, .null, .null, .null, .null, .int 0, .null, .null, .null, .int 0, .int 0, .int 0, .int 0, .int 0, .int 0, .int 0, .int 0, .int 0])), (q7_1, .inl (cA7_2, 72, .inl (fun _ => 0)))]) [0, 1] rfl
  have hK := hK.sub (tys' := [(cA7_2, .char)]) [0] rfl
  refine lv_aload_n hx hb d_M_init_116 rfl (lv_at hl 0 rfl) ?_
  refine lv_bipush (v := 80) hx hb d_M_init_117 (by decide) ?_
  refine va_newa (atype := .long) (a0 := (80, .inr (.inl (fun _ => 0)))) (N' := 80) (ty := .long) hx hb (wd_329 hB _) rfl hK hP hD hS hA (fun _ => rfl) (by decide +kernel) (by decide +kernel) (by decide +kernel) (Nat.le_of_ble_eq_true rfl) (Nat.le_of_ble_eq_true rfl) d_M_init_119 (fun q119_29 cA119_30 H hK hP hD hS => ?_)
  have hP : va_P (dC, dI) vcl [(y, .inr (10, [.int 0, .ref q7_1, .int 0, .ref q15_3, .ref q23_5, .int 0, .ref q31_7, .ref q39_9, .ref q47_11, .int 0, .int 0, .int 0, .ref q55_13, .int 0, .ref q63_15, .ref q71_17, .int 0, .ref q79_19, .ref q87_21, .ref q95_23, .ref q103_25, .ref q111_27, .null, .null, .null, .null, .null, .null, .null, .null, .null, .null, .int 0, .null, .null, .null, .int 0, .int 0, .int 0, .int 0, .int 0, .int 0, .int 0, .int 0, .int 0])), (q7_1, .inl (cA7_2, 72, .inl (fun _ => 0))), (q119_29, .inl (cA119_30, 80, .inr (.inl (fun _ => 0))))] H := hP
  have hD : va_D A [(y, .inr (10, [.int 0, .ref q7_1, .int 0, .ref q15_3, .ref q23_5, .int 0, .ref q31_7, .ref q39_9, .ref q47_11, .int 0, .int 0, .int 0, .ref q55_13, .int 0, .ref q63_15, .ref q71_17, .int 0, .ref q79_19, .ref q87_21, .ref q95_23, .ref q103_25, .ref q111_27, .null, .null, .null, .null, .null, .null, .null, .null, .null, .null, .int 0, .null, .null, .null, .int 0, .int 0, .int 0, .int 0, .int 0, .int 0, .int 0, .int 0, .int 0])), (q7_1, .inl (cA7_2, 72, .inl (fun _ => 0))), (q119_29, .inl (cA119_30, 80, .inr (.inl (fun _ => 0))))] := hD
  have hK : va_K (dC, dI) vcl [(cA7_2, .char), (cA119_30, .long)] s := hK
  refine W.widen (k := 15) (n := 924) (by omega) (by omega) ?_
  refine va_putF (D := (dC, dI)) (ci := 10) (v := .ref q119_29) (ty := (.array .long)) (C := "BigRunnerModel") (T := FT10) (N := 45) hx hb (hw10 hB _) (fun _ h9 => h9) TY10 ok10 nm10 hown hK hP hD hS 0 rfl rfl 22 (by decide) (wd_969 hB _) (fun _ h9 => h9) rfl hin rfl (by decide +kernel) rfl rfl (Nat.le_of_ble_eq_true rfl) d_M_init_121 (fun H locs hP hD hS => ?_)
  have hP : va_P (dC, dI) vcl [(y, .inr (10, [.int 0, .ref q7_1, .int 0, .ref q15_3, .ref q23_5, .int 0, .ref q31_7, .ref q39_9, .ref q47_11, .int 0, .int 0, .int 0, .ref q55_13, .int 0, .ref q63_15, .ref q71_17, .int 0, .ref q79_19, .ref q87_21, .ref q95_23, .ref q103_25, .ref q111_27, .ref q119_29, .null, .null, .null, .null, .null, .null, .null, .null, .null, .int 0, .null, .null, .null, .int 0, .int 0, .int 0, .int 0, .int 0, .int 0, .int 0, .int 0, .int 0])), (q7_1, .inl (cA7_2, 72, .inl (fun _ => 0))), (q119_29, .inl (cA119_30, 80, .inr (.inl (fun _ => 0))))] H := hP
  have hD : va_D A [(y, .inr (10, [.int 0, .ref q7_1, .int 0, .ref q15_3, .ref q23_5, .int 0, .ref q31_7, .ref q39_9, .ref q47_11, .int 0, .int 0, .int 0, .ref q55_13, .int 0, .ref q63_15, .ref q71_17, .int 0, .ref q79_19, .ref q87_21, .ref q95_23, .ref q103_25, .ref q111_27, .ref q119_29, .null, .null, .null, .null, .null, .null, .null, .null, .null, .int 0, .null, .null, .null, .int 0, .int 0, .int 0, .int 0, .int 0, .int 0, .int 0, .int 0, .int 0])), (q7_1, .inl (cA7_2, 72, .inl (fun _ => 0))), (q119_29, .inl (cA119_30, 80, .inr (.inl (fun _ => 0))))] := hD
  have hD := hD.sub (ws' := [(y, .inr (10, [.int 0, .ref q7_1, .int 0, .ref q15_3, .ref q23_5, .int 0, .ref q31_7, .ref q39_9, .ref q47_11, .int 0, .int 0, .int 0, .ref q55_13, .int 0, .ref q63_15, .ref q71_17, .int 0, .ref q79_19, .ref q87_21, .ref q95_23, .ref q103_25, .ref q111_27, .ref q119_29, .null, .null, .null, .null, .null, .null, .null, .null, .null, .int 0, .null, .null, .null, .int 0, .int 0, .int 0, .int 0, .int 0, .int 0, .int 0, .int 0, .int 0])), (q7_1, .inl (cA7_2, 72, .inl (fun _ => 0)))]) [0, 1] (by decide) rfl
  have hP := hP.sub (ws' := [(y, .inr (10, [.int 0, .ref q7_1, .int 0, .ref q15_3, .ref q23_5, .int 0, .ref q31_7, .ref q39_9, .ref q47_11, .int 0, .int 0, .int 0, .ref q55_13, .int 0, .ref q63_15, .ref q71_17, .int 0, .ref q79_19, .ref q87_21, .ref q95_23, .ref q103_25, .ref q111_27, .ref q119_29, .null, .null, .null, .null, .null, .null, .null, .null, .null, .int 0, .null, .null, .null, .int 0, .int 0, .int 0, .int 0, .int 0, .int 0, .int 0, .int 0, .int 0])), (q7_1, .inl (cA7_2, 72, .inl (fun _ => 0)))]) [0, 1] rfl
  have hK := hK.sub (tys' := [(cA7_2, .char)]) [0] rfl
  refine lv_aload_n hx hb d_M_init_124 rfl (lv_at hl 0 rfl) ?_
  refine lv_bipush (v := 80) hx hb d_M_init_125 (by decide) ?_
  refine va_newa (atype := .boolean) (a0 := (80, .inl (fun _ => 0))) (N' := 80) (ty := .boolean) hx hb (wd_1083 hB _) rfl hK hP hD hS hA (fun _ => rfl) (by decide +kernel) (by decide +kernel) (by decide +kernel) (Nat.le_of_ble_eq_true rfl) (Nat.le_of_ble_eq_true rfl) d_M_init_127 (fun q127_31 cA127_32 H hK hP hD hS => ?_)
  have hP : va_P (dC, dI) vcl [(y, .inr (10, [.int 0, .ref q7_1, .int 0, .ref q15_3, .ref q23_5, .int 0, .ref q31_7, .ref q39_9, .ref q47_11, .int 0, .int 0, .int 0, .ref q55_13, .int 0, .ref q63_15, .ref q71_17, .int 0, .ref q79_19, .ref q87_21, .ref q95_23, .ref q103_25, .ref q111_27, .ref q119_29, .null, .null, .null, .null, .null, .null, .null, .null, .null, .int 0, .null, .null, .null, .int 0, .int 0, .int 0, .int 0, .int 0, .int 0, .int 0, .int 0, .int 0])), (q7_1, .inl (cA7_2, 72, .inl (fun _ => 0))), (q127_31, .inl (cA127_32, 80, .inl (fun _ => 0)))] H := hP
  have hD : va_D A [(y, .inr (10, [.int 0, .ref q7_1, .int 0, .ref q15_3, .ref q23_5, .int 0, .ref q31_7, .ref q39_9, .ref q47_11, .int 0, .int 0, .int 0, .ref q55_13, .int 0, .ref q63_15, .ref q71_17, .int 0, .ref q79_19, .ref q87_21, .ref q95_23, .ref q103_25, .ref q111_27, .ref q119_29, .null, .null, .null, .null, .null, .null, .null, .null, .null, .int 0, .null, .null, .null, .int 0, .int 0, .int 0, .int 0, .int 0, .int 0, .int 0, .int 0, .int 0])), (q7_1, .inl (cA7_2, 72, .inl (fun _ => 0))), (q127_31, .inl (cA127_32, 80, .inl (fun _ => 0)))] := hD
  have hK : va_K (dC, dI) vcl [(cA7_2, .char), (cA127_32, .boolean)] s := hK
  refine W.widen (k := 16) (n := 1004) (by omega) (by omega) ?_
  refine va_putF (D := (dC, dI)) (ci := 10) (v := .ref q127_31) (ty := (.array .boolean)) (C := "BigRunnerModel") (T := FT10) (N := 45) hx hb (hw10 hB _) (fun _ h9 => h9) TY10 ok10 nm10 hown hK hP hD hS 0 rfl rfl 23 (by decide) (wd_970 hB _) (fun _ h9 => h9) rfl hin rfl (by decide +kernel) rfl rfl (Nat.le_of_ble_eq_true rfl) d_M_init_129 (fun H locs hP hD hS => ?_)
  have hP : va_P (dC, dI) vcl [(y, .inr (10, [.int 0, .ref q7_1, .int 0, .ref q15_3, .ref q23_5, .int 0, .ref q31_7, .ref q39_9, .ref q47_11, .int 0, .int 0, .int 0, .ref q55_13, .int 0, .ref q63_15, .ref q71_17, .int 0, .ref q79_19, .ref q87_21, .ref q95_23, .ref q103_25, .ref q111_27, .ref q119_29, .ref q127_31, .null, .null, .null, .null, .null, .null, .null, .null, .int 0, .null, .null, .null, .int 0, .int 0, .int 0, .int 0, .int 0, .int 0, .int 0, .int 0, .int 0])), (q7_1, .inl (cA7_2, 72, .inl (fun _ => 0))), (q127_31, .inl (cA127_32, 80, .inl (fun _ => 0)))] H := hP
  have hD : va_D A [(y, .inr (10, [.int 0, .ref q7_1, .int 0, .ref q15_3, .ref q23_5, .int 0, .ref q31_7, .ref q39_9, .ref q47_11, .int 0, .int 0, .int 0, .ref q55_13, .int 0, .ref q63_15, .ref q71_17, .int 0, .ref q79_19, .ref q87_21, .ref q95_23, .ref q103_25, .ref q111_27, .ref q119_29, .ref q127_31, .null, .null, .null, .null, .null, .null, .null, .null, .int 0, .null, .null, .null, .int 0, .int 0, .int 0, .int 0, .int 0, .int 0, .int 0, .int 0, .int 0])), (q7_1, .inl (cA7_2, 72, .inl (fun _ => 0))), (q127_31, .inl (cA127_32, 80, .inl (fun _ => 0)))] := hD
  have hD := hD.sub (ws' := [(y, .inr (10, [.int 0, .ref q7_1, .int 0, .ref q15_3, .ref q23_5, .int 0, .ref q31_7, .ref q39_9, .ref q47_11, .int 0, .int 0, .int 0, .ref q55_13, .int 0, .ref q63_15, .ref q71_17, .int 0, .ref q79_19, .ref q87_21, .ref q95_23, .ref q103_25, .ref q111_27, .ref q119_29, .ref q127_31, .null, .null, .null, .null, .null, .null, .null, .null, .int 0, .null, .null, .null, .int 0, .int 0, .int 0, .int 0, .int 0, .int 0, .int 0, .int 0, .int 0])), (q7_1, .inl (cA7_2, 72, .inl (fun _ => 0)))]) [0, 1] (by decide) rfl
  have hP := hP.sub (ws' := [(y, .inr (10, [.int 0, .ref q7_1, .int 0, .ref q15_3, .ref q23_5, .int 0, .ref q31_7, .ref q39_9, .ref q47_11, .int 0, .int 0, .int 0, .ref q55_13, .int 0, .ref q63_15, .ref q71_17, .int 0, .ref q79_19, .ref q87_21, .ref q95_23, .ref q103_25, .ref q111_27, .ref q119_29, .ref q127_31, .null, .null, .null, .null, .null, .null, .null, .null, .int 0, .null, .null, .null, .int 0, .int 0, .int 0, .int 0, .int 0, .int 0, .int 0, .int 0, .int 0])), (q7_1, .inl (cA7_2, 72, .inl (fun _ => 0)))]) [0, 1] rfl
  have hK := hK.sub (tys' := [(cA7_2, .char)]) [0] rfl
  refine lv_aload_n hx hb d_M_init_132 rfl (lv_at hl 0 rfl) ?_
  refine lv_bipush (v := 80) hx hb d_M_init_133 (by decide) ?_
  refine va_newa (atype := .boolean) (a0 := (80, .inl (fun _ => 0))) (N' := 80) (ty := .boolean) hx hb (wd_1083 hB _) rfl hK hP hD hS hA (fun _ => rfl) (by decide +kernel) (by decide +kernel) (by decide +kernel) (Nat.le_of_ble_eq_true rfl) (Nat.le_of_ble_eq_true rfl) d_M_init_135 (fun q135_33 cA135_34 H hK hP hD hS => ?_)
  have hP : va_P (dC, dI) vcl [(y, .inr (10, [.int 0, .ref q7_1, .int 0, .ref q15_3, .ref q23_5, .int 0, .ref q31_7, .ref q39_9, .ref q47_11, .int 0, .int 0, .int 0, .ref q55_13, .int 0, .ref q63_15, .ref q71_17, .int 0, .ref q79_19, .ref q87_21, .ref q95_23, .ref q103_25, .ref q111_27, .ref q119_29, .ref q127_31, .null, .null, .null, .null, .null, .null, .null, .null, .int 0, .null, .null, .null, .int 0, .int 0, .int 0, .int 0, .int 0, .int 0, .int 0, .int 0, .int 0])), (q7_1, .inl (cA7_2, 72, .inl (fun _ => 0))), (q135_33, .inl (cA135_34, 80, .inl (fun _ => 0)))] H := hP
  have hD : va_D A [(y, .inr (10, [.int 0, .ref q7_1, .int 0, .ref q15_3, .ref q23_5, .int 0, .ref q31_7, .ref q39_9, .ref q47_11, .int 0, .int 0, .int 0, .ref q55_13, .int 0, .ref q63_15, .ref q71_17, .int 0, .ref q79_19, .ref q87_21, .ref q95_23, .ref q103_25, .ref q111_27, .ref q119_29, .ref q127_31, .null, .null, .null, .null, .null, .null, .null, .null, .int 0, .null, .null, .null, .int 0, .int 0, .int 0, .int 0, .int 0, .int 0, .int 0, .int 0, .int 0])), (q7_1, .inl (cA7_2, 72, .inl (fun _ => 0))), (q135_33, .inl (cA135_34, 80, .inl (fun _ => 0)))] := hD
  have hK : va_K (dC, dI) vcl [(cA7_2, .char), (cA135_34, .boolean)] s := hK
  refine W.widen (k := 17) (n := 1084) (by omega) (by omega) ?_
  refine va_putF (D := (dC, dI)) (ci := 10) (v := .ref q135_33) (ty := (.array .boolean)) (C := "BigRunnerModel") (T := FT10) (N := 45) hx hb (hw10 hB _) (fun _ h9 => h9) TY10 ok10 nm10 hown hK hP hD hS 0 rfl rfl 24 (by decide) (wd_971 hB _) (fun _ h9 => h9) rfl hin rfl (by decide +kernel) rfl rfl (Nat.le_of_ble_eq_true rfl) d_M_init_137 (fun H locs hP hD hS => ?_)
  have hP : va_P (dC, dI) vcl [(y, .inr (10, [.int 0, .ref q7_1, .int 0, .ref q15_3, .ref q23_5, .int 0, .ref q31_7, .ref q39_9, .ref q47_11, .int 0, .int 0, .int 0, .ref q55_13, .int 0, .ref q63_15, .ref q71_17, .int 0, .ref q79_19, .ref q87_21, .ref q95_23, .ref q103_25, .ref q111_27, .ref q119_29, .ref q127_31, .ref q135_33, .null, .null, .null, .null, .null, .null, .null, .int 0, .null, .null, .null, .int 0, .int 0, .int 0, .int 0, .int 0, .int 0, .int 0, .int 0, .int 0])), (q7_1, .inl (cA7_2, 72, .inl (fun _ => 0))), (q135_33, .inl (cA135_34, 80, .inl (fun _ => 0)))] H := hP
  have hD : va_D A [(y, .inr (10, [.int 0, .ref q7_1, .int 0, .ref q15_3, .ref q23_5, .int 0, .ref q31_7, .ref q39_9, .ref q47_11, .int 0, .int 0, .int 0, .ref q55_13, .int 0, .ref q63_15, .ref q71_17, .int 0, .ref q79_19, .ref q87_21, .ref q95_23, .ref q103_25, .ref q111_27, .ref q119_29, .ref q127_31, .ref q135_33, .null, .null, .null, .null, .null, .null, .null, .int 0, .null, .null, .null, .int 0, .int 0, .int 0, .int 0, .int 0, .int 0, .int 0, .int 0, .int 0])), (q7_1, .inl (cA7_2, 72, .inl (fun _ => 0))), (q135_33, .inl (cA135_34, 80, .inl (fun _ => 0)))] := hD
  have hD := hD.sub (ws' := [(y, .inr (10, [.int 0, .ref q7_1, .int 0, .ref q15_3, .ref q23_5, .int 0, .ref q31_7, .ref q39_9, .ref q47_11, .int 0, .int 0, .int 0, .ref q55_13, .int 0, .ref q63_15, .ref q71_17, .int 0, .ref q79_19, .ref q87_21, .ref q95_23, .ref q103_25, .ref q111_27, .ref q119_29, .ref q127_31, .ref q135_33, .null, .null, .null, .null, .null, .null, .null, .int 0, .null, .null, .null, .int 0, .int 0, .int 0, .int 0, .int 0, .int 0, .int 0, .int 0, .int 0])), (q7_1, .inl (cA7_2, 72, .inl (fun _ => 0)))]) [0, 1] (by decide) rfl
  have hP := hP.sub (ws' := [(y, .inr (10, [.int 0, .ref q7_1, .int 0, .ref q15_3, .ref q23_5, .int 0, .ref q31_7, .ref q39_9, .ref q47_11, .int 0, .int 0, .int 0, .ref q55_13, .int 0, .ref q63_15, .ref q71_17, .int 0, .ref q79_19, .ref q87_21, .ref q95_23, .ref q103_25, .ref q111_27, .ref q119_29, .ref q127_31, .ref q135_33, .null, .null, .null, .null, .null, .null, .null, .int 0, .null, .null, .null, .int 0, .int 0, .int 0, .int 0, .int 0, .int 0, .int 0, .int 0, .int 0])), (q7_1, .inl (cA7_2, 72, .inl (fun _ => 0)))]) [0, 1] rfl
  have hK := hK.sub (tys' := [(cA7_2, .char)]) [0] rfl
  refine lv_aload_n hx hb d_M_init_140 rfl (lv_at hl 0 rfl) ?_
  refine lv_bipush (v := 80) hx hb d_M_init_141 (by decide) ?_
  refine va_newa (atype := .boolean) (a0 := (80, .inl (fun _ => 0))) (N' := 80) (ty := .boolean) hx hb (wd_1083 hB _) rfl hK hP hD hS hA (fun _ => rfl) (by decide +kernel) (by decide +kernel) (by decide +kernel) (Nat.le_of_ble_eq_true rfl) (Nat.le_of_ble_eq_true rfl) d_M_init_143 (fun q143_35 cA143_36 H hK hP hD hS => ?_)
  have hP : va_P (dC, dI) vcl [(y, .inr (10, [.int 0, .ref q7_1, .int 0, .ref q15_3, .ref q23_5, .int 0, .ref q31_7, .ref q39_9, .ref q47_11, .int 0, .int 0, .int 0, .ref q55_13, .int 0, .ref q63_15, .ref q71_17, .int 0, .ref q79_19, .ref q87_21, .ref q95_23, .ref q103_25, .ref q111_27, .ref q119_29, .ref q127_31, .ref q135_33, .null, .null, .null, .null, .null, .null, .null, .int 0, .null, .null, .null, .int 0, .int 0, .int 0, .int 0, .int 0, .int 0, .int 0, .int 0, .int 0])), (q7_1, .inl (cA7_2, 72, .inl (fun _ => 0))), (q143_35, .inl (cA143_36, 80, .inl (fun _ => 0)))] H := hP
  have hD : va_D A [(y, .inr (10, [.int 0, .ref q7_1, .int 0, .ref q15_3, .ref q23_5, .int 0, .ref q31_7, .ref q39_9, .ref q47_11, .int 0, .int 0, .int 0, .ref q55_13, .int 0, .ref q63_15, .ref q71_17, .int 0, .ref q79_19, .ref q87_21, .ref q95_23, .ref q103_25, .ref q111_27, .ref q119_29, .ref q127_31, .ref q135_33, .null, .null, .null, .null, .null, .null, .null, .int 0, .null, .null, .null, .int 0, .int 0, .int 0, .int 0, .int 0, .int 0, .int 0, .int 0, .int 0])), (q7_1, .inl (cA7_2, 72, .inl (fun _ => 0))), (q143_35, .inl (cA143_36, 80, .inl (fun _ => 0)))] := hD
  have hK : va_K (dC, dI) vcl [(cA7_2, .char), (cA143_36, .boolean)] s := hK
  refine W.widen (k := 18) (n := 1164) (by omega) (by omega) ?_
  refine va_putF (D := (dC, dI)) (ci := 10) (v := .ref q143_35) (ty := (.array .boolean)) (C := "BigRunnerModel") (T := FT10) (N := 45) hx hb (hw10 hB _) (fun _ h9 => h9) TY10 ok10 nm10 hown hK hP hD hS 0 rfl rfl 25 (by decide) (wd_972 hB _) (fun _ h9 => h9) rfl hin rfl (by decide +kernel) rfl rfl (Nat.le_of_ble_eq_true rfl) d_M_init_145 (fun H locs hP hD hS => ?_)
  have hP : va_P (dC, dI) vcl [(y, .inr (10, [.int 0, .ref q7_1, .int 0, .ref q15_3, .ref q23_5, .int 0, .ref q31_7, .ref q39_9, .ref q47_11, .int 0, .int 0, .int 0, .ref q55_13, .int 0, .ref q63_15, .ref q71_17, .int 0, .ref q79_19, .ref q87_21, .ref q95_23, .ref q103_25, .ref q111_27, .ref q119_29, .ref q127_31, .ref q135_33, .ref q143_35, .null, .null, .null, .null, .null, .null, .int 0, .null, .null, .null, .int 0, .int 0, .int 0, .int 0, .int 0, .int 0, .int 0, .int 0, .int 0])), (q7_1, .inl (cA7_2, 72, .inl (fun _ => 0))), (q143_35, .inl (cA143_36, 80, .inl (fun _ => 0)))] H := hP
  have hD : va_D A [(y, .inr (10, [.int 0, .ref q7_1, .int 0, .ref q15_3, .ref q23_5, .int 0, .ref q31_7, .ref q39_9, .ref q47_11, .int 0, .int 0, .int 0, .ref q55_13, .int 0, .ref q63_15, .ref q71_17, .int 0, .ref q79_19, .ref q87_21, .ref q95_23, .ref q103_25, .ref q111_27, .ref q119_29, .ref q127_31, .ref q135_33, .ref q143_35, .null, .null, .null, .null, .null, .null, .int 0, .null, .null, .null, .int 0, .int 0, .int 0, .int 0, .int 0, .int 0, .int 0, .int 0, .int 0])), (q7_1, .inl (cA7_2, 72, .inl (fun _ => 0))), (q143_35, .inl (cA143_36, 80, .inl (fun _ => 0)))] := hD
  have hD := hD.sub (ws' := [(y, .inr (10, [.int 0, .ref q7_1, .int 0, .ref q15_3, .ref q23_5, .int 0, .ref q31_7, .ref q39_9, .ref q47_11, .int 0, .int 0, .int 0, .ref q55_13, .int 0, .ref q63_15, .ref q71_17, .int 0, .ref q79_19, .ref q87_21, .ref q95_23, .ref q103_25, .ref q111_27, .ref q119_29, .ref q127_31, .ref q135_33, .ref q143_35, .null, .null, .null, .null, .null, .null, .int 0, .null, .null, .null, .int 0, .int 0, .int 0, .int 0, .int 0, .int 0, .int 0, .int 0, .int 0])), (q7_1, .inl (cA7_2, 72, .inl (fun _ => 0)))]) [0, 1] (by decide) rfl
  have hP := hP.sub (ws' := [(y, .inr (10, [.int 0, .ref q7_1, .int 0, .ref q15_3, .ref q23_5, .int 0, .ref q31_7, .ref q39_9, .ref q47_11, .int 0, .int 0, .int 0, .ref q55_13, .int 0, .ref q63_15, .ref q71_17, .int 0, .ref q79_19, .ref q87_21, .ref q95_23, .ref q103_25, .ref q111_27, .ref q119_29, .ref q127_31, .ref q135_33, .ref q143_35, .null, .null, .null, .null, .null, .null, .int 0, .null, .null, .null, .int 0, .int 0, .int 0, .int 0, .int 0, .int 0, .int 0, .int 0, .int 0])), (q7_1, .inl (cA7_2, 72, .inl (fun _ => 0)))]) [0, 1] rfl
  have hK := hK.sub (tys' := [(cA7_2, .char)]) [0] rfl
  refine lv_aload_n hx hb d_M_init_148 rfl (lv_at hl 0 rfl) ?_
  refine lv_sipush (v := 200) hx hb d_M_init_149 (by decide) ?_
  refine va_newa (atype := .int) (a0 := (200, .inl (fun _ => 0))) (N' := 200) (ty := .int) hx hb (wd_201 hB _) rfl hK hP hD hS hA (fun _ => rfl) (by decide +kernel) (by decide +kernel) (by decide +kernel) (Nat.le_of_ble_eq_true rfl) (Nat.le_of_ble_eq_true rfl) d_M_init_152 (fun q152_37 cA152_38 H hK hP hD hS => ?_)
  have hP : va_P (dC, dI) vcl [(y, .inr (10, [.int 0, .ref q7_1, .int 0, .ref q15_3, .ref q23_5, .int 0, .ref q31_7, .ref q39_9, .ref q47_11, .int 0, .int 0, .int 0, .ref q55_13, .int 0, .ref q63_15, .ref q71_17, .int 0, .ref q79_19, .ref q87_21, .ref q95_23, .ref q103_25, .ref q111_27, .ref q119_29, .ref q127_31, .ref q135_33, .ref q143_35, .null, .null, .null, .null, .null, .null, .int 0, .null, .null, .null, .int 0, .int 0, .int 0, .int 0, .int 0, .int 0, .int 0, .int 0, .int 0])), (q7_1, .inl (cA7_2, 72, .inl (fun _ => 0))), (q152_37, .inl (cA152_38, 200, .inl (fun _ => 0)))] H := hP
  have hD : va_D A [(y, .inr (10, [.int 0, .ref q7_1, .int 0, .ref q15_3, .ref q23_5, .int 0, .ref q31_7, .ref q39_9, .ref q47_11, .int 0, .int 0, .int 0, .ref q55_13, .int 0, .ref q63_15, .ref q71_17, .int 0, .ref q79_19, .ref q87_21, .ref q95_23, .ref q103_25, .ref q111_27, .ref q119_29, .ref q127_31, .ref q135_33, .ref q143_35, .null, .null, .null, .null, .null, .null, .int 0, .null, .null, .null, .int 0, .int 0, .int 0, .int 0, .int 0, .int 0, .int 0, .int 0, .int 0])), (q7_1, .inl (cA7_2, 72, .inl (fun _ => 0))), (q152_37, .inl (cA152_38, 200, .inl (fun _ => 0)))] := hD
  have hK : va_K (dC, dI) vcl [(cA7_2, .char), (cA152_38, .int)] s := hK
  refine W.widen (k := 19) (n := 1364) (by omega) (by omega) ?_
  refine va_putF (D := (dC, dI)) (ci := 10) (v := .ref q152_37) (ty := (.array .int)) (C := "BigRunnerModel") (T := FT10) (N := 45) hx hb (hw10 hB _) (fun _ h9 => h9) TY10 ok10 nm10 hown hK hP hD hS 0 rfl rfl 26 (by decide) (wd_973 hB _) (fun _ h9 => h9) rfl hin rfl (by decide +kernel) rfl rfl (Nat.le_of_ble_eq_true rfl) d_M_init_154 (fun H locs hP hD hS => ?_)
  have hP : va_P (dC, dI) vcl [(y, .inr (10, [.int 0, .ref q7_1, .int 0, .ref q15_3, .ref q23_5, .int 0, .ref q31_7, .ref q39_9, .ref q47_11, .int 0, .int 0, .int 0, .ref q55_13, .int 0, .ref q63_15, .ref q71_17, .int 0, .ref q79_19, .ref q87_21, .ref q95_23, .ref q103_25, .ref q111_27, .ref q119_29, .ref q127_31, .ref q135_33, .ref q143_35, .ref q152_37, .null, .null, .null, .null, .null, .int 0, .null, .null, .null, .int 0, .int 0, .int 0, .int 0, .int 0, .int 0, .int 0, .int 0, .int 0])), (q7_1, .inl (cA7_2, 72, .inl (fun _ => 0))), (q152_37, .inl (cA152_38, 200, .inl (fun _ => 0)))] H := hP
  have hD : va_D A [(y, .inr (10, [.int 0, .ref q7_1, .int 0, .ref q15_3, .ref q23_5, .int 0, .ref q31_7, .ref q39_9, .ref q47_11, .int 0, .int 0, .int 0, .ref q55_13, .int 0, .ref q63_15, .ref q71_17, .int 0, .ref q79_19, .ref q87_21, .ref q95_23, .ref q103_25, .ref q111_27, .ref q119_29, .ref q127_31, .ref q135_33, .ref q143_35, .ref q152_37, .null, .null, .null, .null, .null, .int 0, .null, .null, .null, .int 0, .int 0, .int 0, .int 0, .int 0, .int 0, .int 0, .int 0, .int 0])), (q7_1, .inl (cA7_2, 72, .inl (fun _ => 0))), (q152_37, .inl (cA152_38, 200, .inl (fun _ => 0)))] := hD
  have hD := hD.sub (ws' := [(y, .inr (10, [.int 0, .ref q7_1, .int 0, .ref q15_3, .ref q23_5, .int 0, .ref q31_7, .ref q39_9, .ref q47_11, .int 0, .int 0, .int 0, .ref q55_13, .int 0, .ref q63_15, .ref q71_17, .int 0, .ref q79_19, .ref q87_21, .ref q95_23, .ref q103_25, .ref q111_27, .ref q119_29, .ref q127_31, .ref q135_33, .ref q143_35, .ref q152_37, .null, .null, .null, .null, .null, .int 0, .null, .null, .null, .int 0, .int 0, .int 0, .int 0, .int 0, .int 0, .int 0, .int 0, .int 0])), (q7_1, .inl (cA7_2, 72, .inl (fun _ => 0)))]) [0, 1] (by decide) rfl
  have hP := hP.sub (ws' := [(y, .inr (10, [.int 0, .ref q7_1, .int 0, .ref q15_3, .ref q23_5, .int 0, .ref q31_7, .ref q39_9, .ref q47_11, .int 0, .int 0, .int 0, .ref q55_13, .int 0, .ref q63_15, .ref q71_17, .int 0, .ref q79_19, .ref q87_21, .ref q95_23, .ref q103_25, .ref q111_27, .ref q119_29, .ref q127_31, .ref q135_33, .ref q143_35, .ref q152_37, .null, .null, .null, .null, .null, .int 0, .null, .null, .null, .int 0, .int 0, .int 0, .int 0, .int 0, .int 0, .int 0, .int 0, .int 0])), (q7_1, .inl (cA7_2, 72, .inl (fun _ => 0)))]) [0, 1] rfl
  have hK := hK.sub (tys' := [(cA7_2, .char)]) [0] rfl
  refine lv_aload_n hx hb d_M_init_157 rfl (lv_at hl 0 rfl) ?_
  refine lv_bipush (v := 10) hx hb d_M_init_158 (by decide) ?_
  refine va_newa (atype := .int) (a0 := (10, .inl (fun _ => 0))) (N' := 10) (ty := .int) hx hb (wd_201 hB _) rfl hK hP hD hS hA (fun _ => rfl) (by decide +kernel) (by decide +kernel) (by decide +kernel) (Nat.le_of_ble_eq_true rfl) (Nat.le_of_ble_eq_true rfl) d_M_init_160 (fun q160_39 cA160_40 H hK hP hD hS => ?_)
  have hP : va_P (dC, dI) vcl [(y, .inr (10, [.int 0, .ref q7_1, .int 0, .ref q15_3, .ref q23_5, .int 0, .ref q31_7, .ref q39_9, .ref q47_11, .int 0, .int 0, .int 0, .ref q55_13, .int 0, .ref q63_15, .ref q71_17, .int 0, .ref q79_19, .ref q87_21, .ref q95_23, .ref q103_25, .ref q111_27, .ref q119_29, .ref q127_31, .ref q135_33, .ref q143_35, .ref q152_37, .null, .null, .null, .null, .null, .int 0, .null, .null, .null, .int 0, .int 0, .int 0, .int 0, .int 0, .int 0, .int 0, .int 0, .int 0])), (q7_1, .inl (cA7_2, 72, .inl (fun _ => 0))), (q160_39, .inl (cA160_40, 10, .inl (fun _ => 0)))] H := hP
  have hD : va_D A [(y, .inr (10, [.int 0, .ref q7_1, .int 0, .ref q15_3, .ref q23_5, .int 0, .ref q31_7, .ref q39_9, .ref q47_11, .int 0, .int 0, .int 0, .ref q55_13, .int 0, .ref q63_15, .ref q71_17, .int 0, .ref q79_19, .ref q87_21, .ref q95_23, .ref q103_25, .ref q111_27, .ref q119_29, .ref q127_31, .ref q135_33, .ref q143_35, .ref q152_37, .null, .null, .null, .null, .null, .int 0, .null, .null, .null, .int 0, .int 0, .int 0, .int 0, .int 0, .int 0, .int 0, .int 0, .int 0])), (q7_1, .inl (cA7_2, 72, .inl (fun _ => 0))), (q160_39, .inl (cA160_40, 10, .inl (fun _ => 0)))] := hD
  have hK : va_K (dC, dI) vcl [(cA7_2, .char), (cA160_40, .int)] s := hK
  refine W.widen (k := 20) (n := 1374) (by omega) (by omega) ?_
  refine va_putF (D := (dC, dI)) (ci := 10) (v := .ref q160_39) (ty := (.array .int)) (C := "BigRunnerModel") (T := FT10) (N := 45) hx hb (hw10 hB _) (fun _ h9 => h9) TY10 ok10 nm10 hown hK hP hD hS 0 rfl rfl 27 (by decide) (wd_974 hB _) (fun _ h9 => h9) rfl hin rfl (by decide +kernel) rfl rfl (Nat.le_of_ble_eq_true rfl) d_M_init_162 (fun H locs hP hD hS => ?_)
  have hP : va_P (dC, dI) vcl [(y, .inr (10, [.int 0, .ref q7_1, .int 0, .ref q15_3, .ref q23_5, .int 0, .ref q31_7, .ref q39_9, .ref q47_11, .int 0, .int 0, .int 0, .ref q55_13, .int 0, .ref q63_15, .ref q71_17, .int 0, .ref q79_19, .ref q87_21, .ref q95_23, .ref q103_25, .ref q111_27, .ref q119_29, .ref q127_31, .ref q135_33, .ref q143_35, .ref q152_37, .ref q160_39, .null, .null, .null, .null, .int 0, .null, .null, .null, .int 0, .int 0, .int 0, .int 0, .int 0, .int 0, .int 0, .int 0, .int 0])), (q7_1, .inl (cA7_2, 72, .inl (fun _ => 0))), (q160_39, .inl (cA160_40, 10, .inl (fun _ => 0)))] H := hP
  have hD : va_D A [(y, .inr (10, [.int 0, .ref q7_1, .int 0, .ref q15_3, .ref q23_5, .int 0, .ref q31_7, .ref q39_9, .ref q47_11, .int 0, .int 0, .int 0, .ref q55_13, .int 0, .ref q63_15, .ref q71_17, .int 0, .ref q79_19, .ref q87_21, .ref q95_23, .ref q103_25, .ref q111_27, .ref q119_29, .ref q127_31, .ref q135_33, .ref q143_35, .ref q152_37, .ref q160_39, .null, .null, .null, .null, .int 0, .null, .null, .null, .int 0, .int 0, .int 0, .int 0, .int 0, .int 0, .int 0, .int 0, .int 0])), (q7_1, .inl (cA7_2, 72, .inl (fun _ => 0))), (q160_39, .inl (cA160_40, 10, .inl (fun _ => 0)))] := hD
  have hD := hD.sub (ws' := [(y, .inr (10, [.int 0, .ref q7_1, .int 0, .ref q15_3, .ref q23_5, .int 0, .ref q31_7, .ref q39_9, .ref q47_11, .int 0, .int 0, .int 0, .ref q55_13, .int 0, .ref q63_15, .ref q71_17, .int 0, .ref q79_19, .ref q87_21, .ref q95_23, .ref q103_25, .ref q111_27, .ref q119_29, .ref q127_31, .ref q135_33, .ref q143_35, .ref q152_37, .ref q160_39, .null, .null, .null, .null, .int 0, .null, .null, .null, .int 0, .int 0, .int 0, .int 0, .int 0, .int 0, .int 0, .int 0, .int 0])), (q7_1, .inl (cA7_2, 72, .inl (fun _ => 0)))]) [0, 1] (by decide) rfl
  have hP := hP.sub (ws' := [(y, .inr (10, [.int 0, .ref q7_1, .int 0, .ref q15_3, .ref q23_5, .int 0, .ref q31_7, .ref q39_9, .ref q47_11, .int 0, .int 0, .int 0, .ref q55_13, .int 0, .ref q63_15, .ref q71_17, .int 0, .ref q79_19, .ref q87_21, .ref q95_23, .ref q103_25, .ref q111_27, .ref q119_29, .ref q127_31, .ref q135_33, .ref q143_35, .ref q152_37, .ref q160_39, .null, .null, .null, .null, .int 0, .null, .null, .null, .int 0, .int 0, .int 0, .int 0, .int 0, .int 0, .int 0, .int 0, .int 0])), (q7_1, .inl (cA7_2, 72, .inl (fun _ => 0)))]) [0, 1] rfl
  have hK := hK.sub (tys' := [(cA7_2, .char)]) [0] rfl
  refine lv_aload_n hx hb d_M_init_165 rfl (lv_at hl 0 rfl) ?_
  refine lv_sipush (v := 240) hx hb d_M_init_166 (by decide) ?_
  refine va_newa (atype := .int) (a0 := (240, .inl (fun _ => 0))) (N' := 240) (ty := .int) hx hb (wd_201 hB _) rfl hK hP hD hS hA (fun _ => rfl) (by decide +kernel) (by decide +kernel) (by decide +kernel) (Nat.le_of_ble_eq_true rfl) (Nat.le_of_ble_eq_true rfl) d_M_init_169 (fun q169_41 cA169_42 H hK hP hD hS => ?_)
  have hP : va_P (dC, dI) vcl [(y, .inr (10, [.int 0, .ref q7_1, .int 0, .ref q15_3, .ref q23_5, .int 0, .ref q31_7, .ref q39_9, .ref q47_11, .int 0, .int 0, .int 0, .ref q55_13, .int 0, .ref q63_15, .ref q71_17, .int 0, .ref q79_19, .ref q87_21, .ref q95_23, .ref q103_25, .ref q111_27, .ref q119_29, .ref q127_31, .ref q135_33, .ref q143_35, .ref q152_37, .ref q160_39, .null, .null, .null, .null, .int 0, .null, .null, .null, .int 0, .int 0, .int 0, .int 0, .int 0, .int 0, .int 0, .int 0, .int 0])), (q7_1, .inl (cA7_2, 72, .inl (fun _ => 0))), (q169_41, .inl (cA169_42, 240, .inl (fun _ => 0)))] H := hP
  have hD : va_D A [(y, .inr (10, [.int 0, .ref q7_1, .int 0, .ref q15_3, .ref q23_5, .int 0, .ref q31_7, .ref q39_9, .ref q47_11, .int 0, .int 0, .int 0, .ref q55_13, .int 0, .ref q63_15, .ref q71_17, .int 0, .ref q79_19, .ref q87_21, .ref q95_23, .ref q103_25, .ref q111_27, .ref q119_29, .ref q127_31, .ref q135_33, .ref q143_35, .ref q152_37, .ref q160_39, .null, .null, .null, .null, .int 0, .null, .null, .null, .int 0, .int 0, .int 0, .int 0, .int 0, .int 0, .int 0, .int 0, .int 0])), (q7_1, .inl (cA7_2, 72, .inl (fun _ => 0))), (q169_41, .inl (cA169_42, 240, .inl (fun _ => 0)))] := hD
  have hK : va_K (dC, dI) vcl [(cA7_2, .char), (cA169_42, .int)] s := hK
  refine W.widen (k := 21) (n := 1614) (by omega) (by omega) ?_
  refine va_putF (D := (dC, dI)) (ci := 10) (v := .ref q169_41) (ty := (.array .int)) (C := "BigRunnerModel") (T := FT10) (N := 45) hx hb (hw10 hB _) (fun _ h9 => h9) TY10 ok10 nm10 hown hK hP hD hS 0 rfl rfl 28 (by decide) (wd_975 hB _) (fun _ h9 => h9) rfl hin rfl (by decide +kernel) rfl rfl (Nat.le_of_ble_eq_true rfl) d_M_init_171 (fun H locs hP hD hS => ?_)
  have hP : va_P (dC, dI) vcl [(y, .inr (10, [.int 0, .ref q7_1, .int 0, .ref q15_3, .ref q23_5, .int 0, .ref q31_7, .ref q39_9, .ref q47_11, .int 0, .int 0, .int 0, .ref q55_13, .int 0, .ref q63_15, .ref q71_17, .int 0, .ref q79_19, .ref q87_21, .ref q95_23, .ref q103_25, .ref q111_27, .ref q119_29, .ref q127_31, .ref q135_33, .ref q143_35, .ref q152_37, .ref q160_39, .ref q169_41, .null, .null, .null, .int 0, .null, .null, .null, .int 0, .int 0, .int 0, .int 0, .int 0, .int 0, .int 0, .int 0, .int 0])), (q7_1, .inl (cA7_2, 72, .inl (fun _ => 0))), (q169_41, .inl (cA169_42, 240, .inl (fun _ => 0)))] H := hP
  have hD : va_D A [(y, .inr (10, [.int 0, .ref q7_1, .int 0, .ref q15_3, .ref q23_5, .int 0, .ref q31_7, .ref q39_9, .ref q47_11, .int 0, .int 0, .int 0, .ref q55_13, .int 0, .ref q63_15, .ref q71_17, .int 0, .ref q79_19, .ref q87_21, .ref q95_23, .ref q103_25, .ref q111_27, .ref q119_29, .ref q127_31, .ref q135_33, .ref q143_35, .ref q152_37, .ref q160_39, .ref q169_41, .null, .null, .null, .int 0, .null, .null, .null, .int 0, .int 0, .int 0, .int 0, .int 0, .int 0, .int 0, .int 0, .int 0])), (q7_1, .inl (cA7_2, 72, .inl (fun _ => 0))), (q169_41, .inl (cA169_42, 240, .inl (fun _ => 0)))] := hD
  have hD := hD.sub (ws' := [(y, .inr (10, [.int 0, .ref q7_1, .int 0, .ref q15_3, .ref q23_5, .int 0, .ref q31_7, .ref q39_9, .ref q47_11, .int 0, .int 0, .int 0, .ref q55_13, .int 0, .ref q63_15, .ref q71_17, .int 0, .ref q79_19, .ref q87_21, .ref q95_23, .ref q103_25, .ref q111_27, .ref q119_29, .ref q127_31, .ref q135_33, .ref q143_35, .ref q152_37, .ref q160_39, .ref q169_41, .null, .null, .null, .int 0, .null, .null, .null, .int 0, .int 0, .int 0, .int 0, .int 0, .int 0, .int 0, .int 0, .int 0])), (q7_1, .inl (cA7_2, 72, .inl (fun _ => 0)))]) [0, 1] (by decide) rfl
  have hP := hP.sub (ws' := [(y, .inr (10, [.int 0, .ref q7_1, .int 0, .ref q15_3, .ref q23_5, .int 0, .ref q31_7, .ref q39_9, .ref q47_11, .int 0, .int 0, .int 0, .ref q55_13, .int 0, .ref q63_15, .ref q71_17, .int 0, .ref q79_19, .ref q87_21, .ref q95_23, .ref q103_25, .ref q111_27, .ref q119_29, .ref q127_31, .ref q135_33, .ref q143_35, .ref q152_37, .ref q160_39, .ref q169_41, .null, .null, .null, .int 0, .null, .null, .null, .int 0, .int 0, .int 0, .int 0, .int 0, .int 0, .int 0, .int 0, .int 0])), (q7_1, .inl (cA7_2, 72, .inl (fun _ => 0)))]) [0, 1] rfl
  have hK := hK.sub (tys' := [(cA7_2, .char)]) [0] rfl
  refine lv_aload_n hx hb d_M_init_174 rfl (lv_at hl 0 rfl) ?_
  refine lv_bipush (v := 12) hx hb d_M_init_175 (by decide) ?_
  refine va_newa (atype := .int) (a0 := (12, .inl (fun _ => 0))) (N' := 12) (ty := .int) hx hb (wd_201 hB _) rfl hK hP hD hS hA (fun _ => rfl) (by decide +kernel) (by decide +kernel) (by decide +kernel) (Nat.le_of_ble_eq_true rfl) (Nat.le_of_ble_eq_true rfl) d_M_init_177 (fun q177_43 cA177_44 H hK hP hD hS => ?_)
  have hP : va_P (dC, dI) vcl [(y, .inr (10, [.int 0, .ref q7_1, .int 0, .ref q15_3, .ref q23_5, .int 0, .ref q31_7, .ref q39_9, .ref q47_11, .int 0, .int 0, .int 0, .ref q55_13, .int 0, .ref q63_15, .ref q71_17, .int 0, .ref q79_19, .ref q87_21, .ref q95_23, .ref q103_25, .ref q111_27, .ref q119_29, .ref q127_31, .ref q135_33, .ref q143_35, .ref q152_37, .ref q160_39, .ref q169_41, .null, .null, .null, .int 0, .null, .null, .null, .int 0, .int 0, .int 0, .int 0, .int 0, .int 0, .int 0, .int 0, .int 0])), (q7_1, .inl (cA7_2, 72, .inl (fun _ => 0))), (q177_43, .inl (cA177_44, 12, .inl (fun _ => 0)))] H := hP
  have hD : va_D A [(y, .inr (10, [.int 0, .ref q7_1, .int 0, .ref q15_3, .ref q23_5, .int 0, .ref q31_7, .ref q39_9, .ref q47_11, .int 0, .int 0, .int 0, .ref q55_13, .int 0, .ref q63_15, .ref q71_17, .int 0, .ref q79_19, .ref q87_21, .ref q95_23, .ref q103_25, .ref q111_27, .ref q119_29, .ref q127_31, .ref q135_33, .ref q143_35, .ref q152_37, .ref q160_39, .ref q169_41, .null, .null, .null, .int 0, .null, .null, .null, .int 0, .int 0, .int 0, .int 0, .int 0, .int 0, .int 0, .int 0, .int 0])), (q7_1, .inl (cA7_2, 72, .inl (fun _ => 0))), (q177_43, .inl (cA177_44, 12, .inl (fun _ => 0)))] := hD
  have hK : va_K (dC, dI) vcl [(cA7_2, .char), (cA177_44, .int)] s := hK
  refine W.widen (k := 22) (n := 1626) (by omega) (by omega) ?_
  refine va_putF (D := (dC, dI)) (ci := 10) (v := .ref q177_43) (ty := (.array .int)) (C := "BigRunnerModel") (T := FT10) (N := 45) hx hb (hw10 hB _) (fun _ h9 => h9) TY10 ok10 nm10 hown hK hP hD hS 0 rfl rfl 29 (by decide) (wd_976 hB _) (fun _ h9 => h9) rfl hin rfl (by decide +kernel) rfl rfl (Nat.le_of_ble_eq_true rfl) d_M_init_179 (fun H locs hP hD hS => ?_)
  have hP : va_P (dC, dI) vcl [(y, .inr (10, [.int 0, .ref q7_1, .int 0, .ref q15_3, .ref q23_5, .int 0, .ref q31_7, .ref q39_9, .ref q47_11, .int 0, .int 0, .int 0, .ref q55_13, .int 0, .ref q63_15, .ref q71_17, .int 0, .ref q79_19, .ref q87_21, .ref q95_23, .ref q103_25, .ref q111_27, .ref q119_29, .ref q127_31, .ref q135_33, .ref q143_35, .ref q152_37, .ref q160_39, .ref q169_41, .ref q177_43, .null, .null, .int 0, .null, .null, .null, .int 0, .int 0, .int 0, .int 0, .int 0, .int 0, .int 0, .int 0, .int 0])), (q7_1, .inl (cA7_2, 72, .inl (fun _ => 0))), (q177_43, .inl (cA177_44, 12, .inl (fun _ => 0)))] H := hP
  have hD : va_D A [(y, .inr (10, [.int 0, .ref q7_1, .int 0, .ref q15_3, .ref q23_5, .int 0, .ref q31_7, .ref q39_9, .ref q47_11, .int 0, .int 0, .int 0, .ref q55_13, .int 0, .ref q63_15, .ref q71_17, .int 0, .ref q79_19, .ref q87_21, .ref q95_23, .ref q103_25, .ref q111_27, .ref q119_29, .ref q127_31, .ref q135_33, .ref q143_35, .ref q152_37, .ref q160_39, .ref q169_41, .ref q177_43, .null, .null, .int 0, .null, .null, .null, .int 0, .int 0, .int 0, .int 0, .int 0, .int 0, .int 0, .int 0, .int 0])), (q7_1, .inl (cA7_2, 72, .inl (fun _ => 0))), (q177_43, .inl (cA177_44, 12, .inl (fun _ => 0)))] := hD
  have hD := hD.sub (ws' := [(y, .inr (10, [.int 0, .ref q7_1, .int 0, .ref q15_3, .ref q23_5, .int 0, .ref q31_7, .ref q39_9, .ref q47_11, .int 0, .int 0, .int 0, .ref q55_13, .int 0, .ref q63_15, .ref q71_17, .int 0, .ref q79_19, .ref q87_21, .ref q95_23, .ref q103_25, .ref q111_27, .ref q119_29, .ref q127_31, .ref q135_33, .ref q143_35, .ref q152_37, .ref q160_39, .ref q169_41, .ref q177_43, .null, .null, .int 0, .null, .null, .null, .int 0, .int 0, .int 0, .int 0, .int 0, .int 0, .int 0, .int 0, .int 0])), (q7_1, .inl (cA7_2, 72, .inl (fun _ => 0)))]) [0, 1] (by decide) rfl
  have hP := hP.sub (ws' := [(y, .inr (10, [.int 0, .ref q7_1, .int 0, .ref q15_3, .ref q23_5, .int 0, .ref q31_7, .ref q39_9, .ref q47_11, .int 0, .int 0, .int 0, .ref q55_13, .int 0, .ref q63_15, .ref q71_17, .int 0, .ref q79_19, .ref q87_21, .ref q95_23, .ref q103_25, .ref q111_27, .ref q119_29, .ref q127_31, .ref q135_33, .ref q143_35, .ref q152_37, .ref q160_39, .ref q169_41, .ref q177_43, .null, .null, .int 0, .null, .null, .null, .int 0, .int 0, .int 0, .int 0, .int 0, .int 0, .int 0, .int 0, .int 0])), (q7_1, .inl (cA7_2, 72, .inl (fun _ => 0)))]) [0, 1] rfl
  have hK := hK.sub (tys' := [(cA7_2, .char)]) [0] rfl
  refine lv_aload_n hx hb d_M_init_182 rfl (lv_at hl 0 rfl) ?_
  refine lv_sipush (v := 1600) hx hb d_M_init_183 (by decide) ?_
  refine va_newa (atype := .int) (a0 := (1600, .inl (fun _ => 0))) (N' := 1600) (ty := .int) hx hb (wd_201 hB _) rfl hK hP hD hS hA (fun _ => rfl) (by decide +kernel) (by decide +kernel) (by decide +kernel) (Nat.le_of_ble_eq_true rfl) (Nat.le_of_ble_eq_true rfl) d_M_init_186 (fun q186_45 cA186_46 H hK hP hD hS => ?_)
  have hP : va_P (dC, dI) vcl [(y, .inr (10, [.int 0, .ref q7_1, .int 0, .ref q15_3, .ref q23_5, .int 0, .ref q31_7, .ref q39_9, .ref q47_11, .int 0, .int 0, .int 0, .ref q55_13, .int 0, .ref q63_15, .ref q71_17, .int 0, .ref q79_19, .ref q87_21, .ref q95_23, .ref q103_25, .ref q111_27, .ref q119_29, .ref q127_31, .ref q135_33, .ref q143_35, .ref q152_37, .ref q160_39, .ref q169_41, .ref q177_43, .null, .null, .int 0, .null, .null, .null, .int 0, .int 0, .int 0, .int 0, .int 0, .int 0, .int 0, .int 0, .int 0])), (q7_1, .inl (cA7_2, 72, .inl (fun _ => 0))), (q186_45, .inl (cA186_46, 1600, .inl (fun _ => 0)))] H := hP
  have hD : va_D A [(y, .inr (10, [.int 0, .ref q7_1, .int 0, .ref q15_3, .ref q23_5, .int 0, .ref q31_7, .ref q39_9, .ref q47_11, .int 0, .int 0, .int 0, .ref q55_13, .int 0, .ref q63_15, .ref q71_17, .int 0, .ref q79_19, .ref q87_21, .ref q95_23, .ref q103_25, .ref q111_27, .ref q119_29, .ref q127_31, .ref q135_33, .ref q143_35, .ref q152_37, .ref q160_39, .ref q169_41, .ref q177_43, .null, .null, .int 0, .null, .null, .null, .int 0, .int 0, .int 0, .int 0, .int 0, .int 0, .int 0, .int 0, .int 0])), (q7_1, .inl (cA7_2, 72, .inl (fun _ => 0))), (q186_45, .inl (cA186_46, 1600, .inl (fun _ => 0)))] := hD
  have hK : va_K (dC, dI) vcl [(cA7_2, .char), (cA186_46, .int)] s := hK
  refine W.widen (k := 23) (n := 3226) (by omega) (by omega) ?_
  refine va_putF (D := (dC, dI)) (ci := 10) (v := .ref q186_45) (ty := (.array .int)) (C := "BigRunnerModel") (T := FT10) (N := 45) hx hb (hw10 hB _) (fun _ h9 => h9) TY10 ok10 nm10 hown hK hP hD hS 0 rfl rfl 30 (by decide) (wd_977 hB _) (fun _ h9 => h9) rfl hin rfl (by decide +kernel) rfl rfl (Nat.le_of_ble_eq_true rfl) d_M_init_188 (fun H locs hP hD hS => ?_)
  have hP : va_P (dC, dI) vcl [(y, .inr (10, [.int 0, .ref q7_1, .int 0, .ref q15_3, .ref q23_5, .int 0, .ref q31_7, .ref q39_9, .ref q47_11, .int 0, .int 0, .int 0, .ref q55_13, .int 0, .ref q63_15, .ref q71_17, .int 0, .ref q79_19, .ref q87_21, .ref q95_23, .ref q103_25, .ref q111_27, .ref q119_29, .ref q127_31, .ref q135_33, .ref q143_35, .ref q152_37, .ref q160_39, .ref q169_41, .ref q177_43, .ref q186_45, .null, .int 0, .null, .null, .null, .int 0, .int 0, .int 0, .int 0, .int 0, .int 0, .int 0, .int 0, .int 0])), (q7_1, .inl (cA7_2, 72, .inl (fun _ => 0))), (q186_45, .inl (cA186_46, 1600, .inl (fun _ => 0)))] H := hP
  have hD : va_D A [(y, .inr (10, [.int 0, .ref q7_1, .int 0, .ref q15_3, .ref q23_5, .int 0, .ref q31_7, .ref q39_9, .ref q47_11, .int 0, .int 0, .int 0, .ref q55_13, .int 0, .ref q63_15, .ref q71_17, .int 0, .ref q79_19, .ref q87_21, .ref q95_23, .ref q103_25, .ref q111_27, .ref q119_29, .ref q127_31, .ref q135_33, .ref q143_35, .ref q152_37, .ref q160_39, .ref q169_41, .ref q177_43, .ref q186_45, .null, .int 0, .null, .null, .null, .int 0, .int 0, .int 0, .int 0, .int 0, .int 0, .int 0, .int 0, .int 0])), (q7_1, .inl (cA7_2, 72, .inl (fun _ => 0))), (q186_45, .inl (cA186_46, 1600, .inl (fun _ => 0)))] := hD
  have hD := hD.sub (ws' := [(y, .inr (10, [.int 0, .ref q7_1, .int 0, .ref q15_3, .ref q23_5, .int 0, .ref q31_7, .ref q39_9, .ref q47_11, .int 0, .int 0, .int 0, .ref q55_13, .int 0, .ref q63_15, .ref q71_17, .int 0, .ref q79_19, .ref q87_21, .ref q95_23, .ref q103_25, .ref q111_27, .ref q119_29, .ref q127_31, .ref q135_33, .ref q143_35, .ref q152_37, .ref q160_39, .ref q169_41, .ref q177_43, .ref q186_45, .null, .int 0, .null, .null, .null, .int 0, .int 0, .int 0, .int 0, .int 0, .int 0, .int 0, .int 0, .int 0])), (q7_1, .inl (cA7_2, 72, .inl (fun _ => 0)))]) [0, 1] (by decide) rfl
  have hP := hP.sub (ws' := [(y, .inr (10, [.int 0, .ref q7_1, .int 0, .ref q15_3, .ref q23_5, .int 0, .ref q31_7, .ref q39_9, .ref q47_11, .int 0, .int 0, .int 0, .ref q55_13, .int 0, .ref q63_15, .ref q71_17, .int 0, .ref q79_19, .ref q87_21, .ref q95_23, .ref q103_25, .ref q111_27, .ref q119_29, .ref q127_31, .ref q135_33, .ref q143_35, .ref q152_37, .ref q160_39, .ref q169_41, .ref q177_43, .ref q186_45, .null, .int 0, .null, .null, .null, .int 0, .int 0, .int 0, .int 0, .int 0, .int 0, .int 0, .int 0, .int 0])), (q7_1, .inl (cA7_2, 72, .inl (fun _ => 0)))]) [0, 1] rfl
  have hK := hK.sub (tys' := [(cA7_2, .char)]) [0] rfl
  refine lv_aload_n hx hb d_M_init_191 rfl (lv_at hl 0 rfl) ?_
  refine lv_bipush (v := 80) hx hb d_M_init_192 (by decide) ?_
  refine va_newa (atype := .int) (a0 := (80, .inl (fun _ => 0))) (N' := 80) (ty := .int) hx hb (wd_201 hB _) rfl hK hP hD hS hA (fun _ => rfl) (by decide +kernel) (by decide +kernel) (by decide +kernel) (Nat.le_of_ble_eq_true rfl) (Nat.le_of_ble_eq_true rfl) d_M_init_194 (fun q194_47 cA194_48 H hK hP hD hS => ?_)
  have hP : va_P (dC, dI) vcl [(y, .inr (10, [.int 0, .ref q7_1, .int 0, .ref q15_3, .ref q23_5, .int 0, .ref q31_7, .ref q39_9, .ref q47_11, .int 0, .int 0, .int 0, .ref q55_13, .int 0, .ref q63_15, .ref q71_17, .int 0, .ref q79_19, .ref q87_21, .ref q95_23, .ref q103_25, .ref q111_27, .ref q119_29, .ref q127_31, .ref q135_33, .ref q143_35, .ref q152_37, .ref q160_39, .ref q169_41, .ref q177_43, .ref q186_45, .null, .int 0, .null, .null, .null, .int 0, .int 0, .int 0, .int 0, .int 0, .int 0, .int 0, .int 0, .int 0])), (q7_1, .inl (cA7_2, 72, .inl (fun _ => 0))), (q194_47, .inl (cA194_48, 80, .inl (fun _ => 0)))] H := hP
  have hD : va_D A [(y, .inr (10, [.int 0, .ref q7_1, .int 0, .ref q15_3, .ref q23_5, .int 0, .ref q31_7, .ref q39_9, .ref q47_11, .int 0, .int 0, .int 0, .ref q55_13, .int 0, .ref q63_15, .ref q71_17, .int 0, .ref q79_19, .ref q87_21, .ref q95_23, .ref q103_25, .ref q111_27, .ref q119_29, .ref q127_31, .ref q135_33, .ref q143_35, .ref q152_37, .ref q160_39, .ref q169_41, .ref q177_43, .ref q186_45, .null, .int 0, .null, .null, .null, .int 0, .int 0, .int 0, .int 0, .int 0, .int 0, .int 0, .int 0, .int 0])), (q7_1, .inl (cA7_2, 72, .inl (fun _ => 0))), (q194_47, .inl (cA194_48, 80, .inl (fun _ => 0)))] := hD
  have hK : va_K (dC, dI) vcl [(cA7_2, .char), (cA194_48, .int)] s := hK
  refine W.widen (k := 24) (n := 3306) (by omega) (by omega) ?_
  refine va_putF (D := (dC, dI)) (ci := 10) (v := .ref q194_47) (ty := (.array .int)) (C := "BigRunnerModel") (T := FT10) (N := 45) hx hb (hw10 hB _) (fun _ h9 => h9) TY10 ok10 nm10 hown hK hP hD hS 0 rfl rfl 31 (by decide) (wd_978 hB _) (fun _ h9 => h9) rfl hin rfl (by decide +kernel) rfl rfl (Nat.le_of_ble_eq_true rfl) d_M_init_196 (fun H locs hP hD hS => ?_)
  have hP : va_P (dC, dI) vcl [(y, .inr (10, [.int 0, .ref q7_1, .int 0, .ref q15_3, .ref q23_5, .int 0, .ref q31_7, .ref q39_9, .ref q47_11, .int 0, .int 0, .int 0, .ref q55_13, .int 0, .ref q63_15, .ref q71_17, .int 0, .ref q79_19, .ref q87_21, .ref q95_23, .ref q103_25, .ref q111_27, .ref q119_29, .ref q127_31, .ref q135_33, .ref q143_35, .ref q152_37, .ref q160_39, .ref q169_41, .ref q177_43, .ref q186_45, .ref q194_47, .int 0, .null, .null, .null, .int 0, .int 0, .int 0, .int 0, .int 0, .int 0, .int 0, .int 0, .int 0])), (q7_1, .inl (cA7_2, 72, .inl (fun _ => 0))), (q194_47, .inl (cA194_48, 80, .inl (fun _ => 0)))] H := hP
  have hD : va_D A [(y, .inr (10, [.int 0, .ref q7_1, .int 0, .ref q15_3, .ref q23_5, .int 0, .ref q31_7, .ref q39_9, .ref q47_11, .int 0, .int 0, .int 0, .ref q55_13, .int 0, .ref q63_15, .ref q71_17, .int 0, .ref q79_19, .ref q87_21, .ref q95_23, .ref q103_25, .ref q111_27, .ref q119_29, .ref q127_31, .ref q135_33, .ref q143_35, .ref q152_37, .ref q160_39, .ref q169_41, .ref q177_43, .ref q186_45, .ref q194_47, .int 0, .null, .null, .null, .int 0, .int 0, .int 0, .int 0, .int 0, .int 0, .int 0, .int 0, .int 0])), (q7_1, .inl (cA7_2, 72, .inl (fun _ => 0))), (q194_47, .inl (cA194_48, 80, .inl (fun _ => 0)))] := hD
  have hD := hD.sub (ws' := [(y, .inr (10, [.int 0, .ref q7_1, .int 0, .ref q15_3, .ref q23_5, .int 0, .ref q31_7, .ref q39_9, .ref q47_11, .int 0, .int 0, .int 0, .ref q55_13, .int 0, .ref q63_15, .ref q71_17, .int 0, .ref q79_19, .ref q87_21, .ref q95_23, .ref q103_25, .ref q111_27, .ref q119_29, .ref q127_31, .ref q135_33, .ref q143_35, .ref q152_37, .ref q160_39, .ref q169_41, .ref q177_43, .ref q186_45, .ref q194_47, .int 0, .null, .null, .null, .int 0, .int 0, .int 0, .int 0, .int 0, .int 0, .int 0, .int 0, .int 0])), (q7_1, .inl (cA7_2, 72, .inl (fun _ => 0)))]) [0, 1] (by decide) rfl
  have hP := hP.sub (ws' := [(y, .inr (10, [.int 0, .ref q7_1, .int 0, .ref q15_3, .ref q23_5, .int 0, .ref q31_7, .ref q39_9, .ref q47_11, .int 0, .int 0, .int 0, .ref q55_13, .int 0, .ref q63_15, .ref q71_17, .int 0, .ref q79_19, .ref q87_21, .ref q95_23, .ref q103_25, .ref q111_27, .ref q119_29, .ref q127_31, .ref q135_33, .ref q143_35, .ref q152_37, .ref q160_39, .ref q169_41, .ref q177_43, .ref q186_45, .ref q194_47, .int 0, .null, .null, .null, .int 0, .int 0, .int 0, .int 0, .int 0, .int 0, .int 0, .int 0, .int 0])), (q7_1, .inl (cA7_2, 72, .inl (fun _ => 0)))]) [0, 1] rfl
  have hK := hK.sub (tys' := [(cA7_2, .char)]) [0] rfl
  refine lv_aload_n hx hb d_M_init_199 rfl (lv_at hl 0 rfl) ?_
  refine lv_bipush (v := 44) hx hb d_M_init_200 (by decide) ?_
  refine va_newa (atype := .int) (a0 := (44, .inl (fun _ => 0))) (N' := 44) (ty := .int) hx hb (wd_201 hB _) rfl hK hP hD hS hA (fun _ => rfl) (by decide +kernel) (by decide +kernel) (by decide +kernel) (Nat.le_of_ble_eq_true rfl) (Nat.le_of_ble_eq_true rfl) d_M_init_202 (fun q202_49 cA202_50 H hK hP hD hS => ?_)
  have hP : va_P (dC, dI) vcl [(y, .inr (10, [.int 0, .ref q7_1, .int 0, .ref q15_3, .ref q23_5, .int 0, .ref q31_7, .ref q39_9, .ref q47_11, .int 0, .int 0, .int 0, .ref q55_13, .int 0, .ref q63_15, .ref q71_17, .int 0, .ref q79_19, .ref q87_21, .ref q95_23, .ref q103_25, .ref q111_27, .ref q119_29, .ref q127_31, .ref q135_33, .ref q143_35, .ref q152_37, .ref q160_39, .ref q169_41, .ref q177_43, .ref q186_45, .ref q194_47, .int 0, .null, .null, .null, .int 0, .int 0, .int 0, .int 0, .int 0, .int 0, .int 0, .int 0, .int 0])), (q7_1, .inl (cA7_2, 72, .inl (fun _ => 0))), (q202_49, .inl (cA202_50, 44, .inl (fun _ => 0)))] H := hP
  have hD : va_D A [(y, .inr (10, [.int 0, .ref q7_1, .int 0, .ref q15_3, .ref q23_5, .int 0, .ref q31_7, .ref q39_9, .ref q47_11, .int 0, .int 0, .int 0, .ref q55_13, .int 0, .ref q63_15, .ref q71_17, .int 0, .ref q79_19, .ref q87_21, .ref q95_23, .ref q103_25, .ref q111_27, .ref q119_29, .ref q127_31, .ref q135_33, .ref q143_35, .ref q152_37, .ref q160_39, .ref q169_41, .ref q177_43, .ref q186_45, .ref q194_47, .int 0, .null, .null, .null, .int 0, .int 0, .int 0, .int 0, .int 0, .int 0, .int 0, .int 0, .int 0])), (q7_1, .inl (cA7_2, 72, .inl (fun _ => 0))), (q202_49, .inl (cA202_50, 44, .inl (fun _ => 0)))] := hD
  have hK : va_K (dC, dI) vcl [(cA7_2, .char), (cA202_50, .int)] s := hK
  refine W.widen (k := 25) (n := 3350) (by omega) (by omega) ?_
  refine va_putF (D := (dC, dI)) (ci := 10) (v := .ref q202_49) (ty := (.array .int)) (C := "BigRunnerModel") (T := FT10) (N := 45) hx hb (hw10 hB _) (fun _ h9 => h9) TY10 ok10 nm10 hown hK hP hD hS 0 rfl rfl 33 (by decide) (wd_980 hB _) (fun _ h9 => h9) rfl hin rfl (by decide +kernel) rfl rfl (Nat.le_of_ble_eq_true rfl) d_M_init_204 (fun H locs hP hD hS => ?_)
  have hP : va_P (dC, dI) vcl [(y, .inr (10, [.int 0, .ref q7_1, .int 0, .ref q15_3, .ref q23_5, .int 0, .ref q31_7, .ref q39_9, .ref q47_11, .int 0, .int 0, .int 0, .ref q55_13, .int 0, .ref q63_15, .ref q71_17, .int 0, .ref q79_19, .ref q87_21, .ref q95_23, .ref q103_25, .ref q111_27, .ref q119_29, .ref q127_31, .ref q135_33, .ref q143_35, .ref q152_37, .ref q160_39, .ref q169_41, .ref q177_43, .ref q186_45, .ref q194_47, .int 0, .ref q202_49, .null, .null, .int 0, .int 0, .int 0, .int 0, .int 0, .int 0, .int 0, .int 0, .int 0])), (q7_1, .inl (cA7_2, 72, .inl (fun _ => 0))), (q202_49, .inl (cA202_50, 44, .inl (fun _ => 0)))] H := hP
  have hD : va_D A [(y, .inr (10, [.int 0, .ref q7_1, .int 0, .ref q15_3, .ref q23_5, .int 0, .ref q31_7, .ref q39_9, .ref q47_11, .int 0, .int 0, .int 0, .ref q55_13, .int 0, .ref q63_15, .ref q71_17, .int 0, .ref q79_19, .ref q87_21, .ref q95_23, .ref q103_25, .ref q111_27, .ref q119_29, .ref q127_31, .ref q135_33, .ref q143_35, .ref q152_37, .ref q160_39, .ref q169_41, .ref q177_43, .ref q186_45, .ref q194_47, .int 0, .ref q202_49, .null, .null, .int 0, .int 0, .int 0, .int 0, .int 0, .int 0, .int 0, .int 0, .int 0])), (q7_1, .inl (cA7_2, 72, .inl (fun _ => 0))), (q202_49, .inl (cA202_50, 44, .inl (fun _ => 0)))] := hD
  have hD := hD.sub (ws' := [(y, .inr (10, [.int 0, .ref q7_1, .int 0, .ref q15_3, .ref q23_5, .int 0, .ref q31_7, .ref q39_9, .ref q47_11, .int 0, .int 0, .int 0, .ref q55_13, .int 0, .ref q63_15, .ref q71_17, .int 0, .ref q79_19, .ref q87_21, .ref q95_23, .ref q103_25, .ref q111_27, .ref q119_29, .ref q127_31, .ref q135_33, .ref q143_35, .ref q152_37, .ref q160_39, .ref q169_41, .ref q177_43, .ref q186_45, .ref q194_47, .int 0, .ref q202_49, .null, .null, .int 0, .int 0, .int 0, .int 0, .int 0, .int 0, .int 0, .int 0, .int 0])), (q7_1, .inl (cA7_2, 72, .inl (fun _ => 0)))]) [0, 1] (by decide) rfl
  have hP := hP.sub (ws' := [(y, .inr (10, [.int 0, .ref q7_1, .int 0, .ref q15_3, .ref q23_5, .int 0, .ref q31_7, .ref q39_9, .ref q47_11, .int 0, .int 0, .int 0, .ref q55_13, .int 0, .ref q63_15, .ref q71_17, .int 0, .ref q79_19, .ref q87_21, .ref q95_23, .ref q103_25, .ref q111_27, .ref q119_29, .ref q127_31, .ref q135_33, .ref q143_35, .ref q152_37, .ref q160_39, .ref q169_41, .ref q177_43, .ref q186_45, .ref q194_47, .int 0, .ref q202_49, .null, .null, .int 0, .int 0, .int 0, .int 0, .int 0, .int 0, .int 0, .int 0, .int 0])), (q7_1, .inl (cA7_2, 72, .inl (fun _ => 0)))]) [0, 1] rfl
  have hK := hK.sub (tys' := [(cA7_2, .char)]) [0] rfl
  refine lv_aload_n hx hb d_M_init_207 rfl (lv_at hl 0 rfl) ?_
  refine lv_bipush (v := 44) hx hb d_M_init_208 (by decide) ?_
  refine va_newa (atype := .int) (a0 := (44, .inl (fun _ => 0))) (N' := 44) (ty := .int) hx hb (wd_201 hB _) rfl hK hP hD hS hA (fun _ => rfl) (by decide +kernel) (by decide +kernel) (by decide +kernel) (Nat.le_of_ble_eq_true rfl) (Nat.le_of_ble_eq_true rfl) d_M_init_210 (fun q210_51 cA210_52 H hK hP hD hS => ?_)
  have hP : va_P (dC, dI) vcl [(y, .inr (10, [.int 0, .ref q7_1, .int 0, .ref q15_3, .ref q23_5, .int 0, .ref q31_7, .ref q39_9, .ref q47_11, .int 0, .int 0, .int 0, .ref q55_13, .int 0, .ref q63_15, .ref q71_17, .int 0, .ref q79_19, .ref q87_21, .ref q95_23, .ref q103_25, .ref q111_27, .ref q119_29, .ref q127_31, .ref q135_33, .ref q143_35, .ref q152_37, .ref q160_39, .ref q169_41, .ref q177_43, .ref q186_45, .ref q194_47, .int 0, .ref q202_49, .null, .null, .int 0, .int 0, .int 0, .int 0, .int 0, .int 0, .int 0, .int 0, .int 0])), (q7_1, .inl (cA7_2, 72, .inl (fun _ => 0))), (q210_51, .inl (cA210_52, 44, .inl (fun _ => 0)))] H := hP
  have hD : va_D A [(y, .inr (10, [.int 0, .ref q7_1, .int 0, .ref q15_3, .ref q23_5, .int 0, .ref q31_7, .ref q39_9, .ref q47_11, .int 0, .int 0, .int 0, .ref q55_13, .int 0, .ref q63_15, .ref q71_17, .int 0, .ref q79_19, .ref q87_21, .ref q95_23, .ref q103_25, .ref q111_27, .ref q119_29, .ref q127_31, .ref q135_33, .ref q143_35, .ref q152_37, .ref q160_39, .ref q169_41, .ref q177_43, .ref q186_45, .ref q194_47, .int 0, .ref q202_49, .null, .null, .int 0, .int 0, .int 0, .int 0, .int 0, .int 0, .int 0, .int 0, .int 0])), (q7_1, .inl (cA7_2, 72, .inl (fun _ => 0))), (q210_51, .inl (cA210_52, 44, .inl (fun _ => 0)))] := hD
  have hK : va_K (dC, dI) vcl [(cA7_2, .char), (cA210_52, .int)] s := hK
  refine W.widen (k := 26) (n := 3394) (by omega) (by omega) ?_
  refine va_putF (D := (dC, dI)) (ci := 10) (v := .ref q210_51) (ty := (.array .int)) (C := "BigRunnerModel") (T := FT10) (N := 45) hx hb (hw10 hB _) (fun _ h9 => h9) TY10 ok10 nm10 hown hK hP hD hS 0 rfl rfl 34 (by decide) (wd_981 hB _) (fun _ h9 => h9) rfl hin rfl (by decide +kernel) rfl rfl (Nat.le_of_ble_eq_true rfl) d_M_init_212 (fun H locs hP hD hS => ?_)
  have hP : va_P (dC, dI) vcl [(y, .inr (10, [.int 0, .ref q7_1, .int 0, .ref q15_3, .ref q23_5, .int 0, .ref q31_7, .ref q39_9, .ref q47_11, .int 0, .int 0, .int 0, .ref q55_13, .int 0, .ref q63_15, .ref q71_17, .int 0, .ref q79_19, .ref q87_21, .ref q95_23, .ref q103_25, .ref q111_27, .ref q119_29, .ref q127_31, .ref q135_33, .ref q143_35, .ref q152_37, .ref q160_39, .ref q169_41, .ref q177_43, .ref q186_45, .ref q194_47, .int 0, .ref q202_49, .ref q210_51, .null, .int 0, .int 0, .int 0, .int 0, .int 0, .int 0, .int 0, .int 0, .int 0])), (q7_1, .inl (cA7_2, 72, .inl (fun _ => 0))), (q210_51, .inl (cA210_52, 44, .inl (fun _ => 0)))] H := hP
  have hD : va_D A [(y, .inr (10, [.int 0, .ref q7_1, .int 0, .ref q15_3, .ref q23_5, .int 0, .ref q31_7, .ref q39_9, .ref q47_11, .int 0, .int 0, .int 0, .ref q55_13, .int 0, .ref q63_15, .ref q71_17, .int 0, .ref q79_19, .ref q87_21, .ref q95_23, .ref q103_25, .ref q111_27, .ref q119_29, .ref q127_31, .ref q135_33, .ref q143_35, .ref q152_37, .ref q160_39, .ref q169_41, .ref q177_43, .ref q186_45, .ref q194_47, .int 0, .ref q202_49, .ref q210_51, .null, .int 0, .int 0, .int 0, .int 0, .int 0, .int 0, .int 0, .int 0, .int 0])), (q7_1, .inl (cA7_2, 72, .inl (fun _ => 0))), (q210_51, .inl (cA210_52, 44, .inl (fun _ => 0)))] := hD
  have hD := hD.sub (ws' := [(y, .inr (10, [.int 0, .ref q7_1, .int 0, .ref q15_3, .ref q23_5, .int 0, .ref q31_7, .ref q39_9, .ref q47_11, .int 0, .int 0, .int 0, .ref q55_13, .int 0, .ref q63_15, .ref q71_17, .int 0, .ref q79_19, .ref q87_21, .ref q95_23, .ref q103_25, .ref q111_27, .ref q119_29, .ref q127_31, .ref q135_33, .ref q143_35, .ref q152_37, .ref q160_39, .ref q169_41, .ref q177_43, .ref q186_45, .ref q194_47, .int 0, .ref q202_49, .ref q210_51, .null, .int 0, .int 0, .int 0, .int 0, .int 0, .int 0, .int 0, .int 0, .int 0])), (q7_1, .inl (cA7_2, 72, .inl (fun _ => 0)))]) [0, 1] (by decide) rfl
  have hP := hP.sub (ws' := [(y, .inr (10, [.int 0, .ref q7_1, .int 0, .ref q15_3, .ref q23_5, .int 0, .ref q31_7, .ref q39_9, .ref q47_11, .int 0, .int 0, .int 0, .ref q55_13, .int 0, .ref q63_15, .ref q71_17, .int 0, .ref q79_19, .ref q87_21, .ref q95_23, .ref q103_25, .ref q111_27, .ref q119_29, .ref q127_31, .ref q135_33, .ref q143_35, .ref q152_37, .ref q160_39, .ref q169_41, .ref q177_43, .ref q186_45, .ref q194_47, .int 0, .ref q202_49, .ref q210_51, .null, .int 0, .int 0, .int 0, .int 0, .int 0, .int 0, .int 0, .int 0, .int 0])), (q7_1, .inl (cA7_2, 72, .inl (fun _ => 0)))]) [0, 1] rfl
  have hK := hK.sub (tys' := [(cA7_2, .char)]) [0] rfl
  refine lv_aload_n hx hb d_M_init_215 rfl (lv_at hl 0 rfl) ?_
  refine lv_bipush (v := 20) hx hb d_M_init_216 (by decide) ?_
  refine va_newa (atype := .int) (a0 := (20, .inl (fun _ => 0))) (N' := 20) (ty := .int) hx hb (wd_201 hB _) rfl hK hP hD hS hA (fun _ => rfl) (by decide +kernel) (by decide +kernel) (by decide +kernel) (Nat.le_of_ble_eq_true rfl) (Nat.le_of_ble_eq_true rfl) d_M_init_218 (fun q218_53 cA218_54 H hK hP hD hS => ?_)
  have hP : va_P (dC, dI) vcl [(y, .inr (10, [.int 0, .ref q7_1, .int 0, .ref q15_3, .ref q23_5, .int 0, .ref q31_7, .ref q39_9, .ref q47_11, .int 0, .int 0, .int 0, .ref q55_13, .int 0, .ref q63_15, .ref q71_17, .int 0, .ref q79_19, .ref q87_21, .ref q95_23, .ref q103_25, .ref q111_27, .ref q119_29, .ref q127_31, .ref q135_33, .ref q143_35, .ref q152_37, .ref q160_39, .ref q169_41, .ref q177_43, .ref q186_45, .ref q194_47, .int 0, .ref q202_49, .ref q210_51, .null, .int 0, .int 0, .int 0, .int 0, .int 0, .int 0, .int 0, .int 0, .int 0])), (q7_1, .inl (cA7_2, 72, .inl (fun _ => 0))), (q218_53, .inl (cA218_54, 20, .inl (fun _ => 0)))] H := hP
  have hD : va_D A [(y, .inr (10, [.int 0, .ref q7_1, .int 0, .ref q15_3, .ref q23_5, .int 0, .ref q31_7, .ref q39_9, .ref q47_11, .int 0, .int 0, .int 0, .ref q55_13, .int 0, .ref q63_15, .ref q71_17, .int 0, .ref q79_19, .ref q87_21, .ref q95_23, .ref q103_25, .ref q111_27, .ref q119_29, .ref q127_31, .ref q135_33, .ref q143_35, .ref q152_37, .ref q160_39, .ref q169_41, .ref q177_43, .ref q186_45, .ref q194_47, .int 0, .ref q202_49, .ref q210_51, .null, .int 0, .int 0, .int 0, .int 0, .int 0, .int 0, .int 0, .int 0, .int 0])), (q7_1, .inl (cA7_2, 72, .inl (fun _ => 0))), (q218_53, .inl (cA218_54, 20, .inl (fun _ => 0)))] := hD
  have hK : va_K (dC, dI) vcl [(cA7_2, .char), (cA218_54, .int)] s := hK
  refine W.widen (k := 27) (n := 3414) (by omega) (by omega) ?_
  refine va_putF (D := (dC, dI)) (ci := 10) (v := .ref q218_53) (ty := (.array .int)) (C := "BigRunnerModel") (T := FT10) (N := 45) hx hb (hw10 hB _) (fun _ h9 => h9) TY10 ok10 nm10 hown hK hP hD hS 0 rfl rfl 35 (by decide) (wd_982 hB _) (fun _ h9 => h9) rfl hin rfl (by decide +kernel) rfl rfl (Nat.le_of_ble_eq_true rfl) d_M_init_220 (fun H locs hP hD hS => ?_)
  have hP : va_P (dC, dI) vcl [(y, .inr (10, [.int 0, .ref q7_1, .int 0, .ref q15_3, .ref q23_5, .int 0, .ref q31_7, .ref q39_9, .ref q47_11, .int 0, .int 0, .int 0, .ref q55_13, .int 0, .ref q63_15, .ref q71_17, .int 0, .ref q79_19, .ref q87_21, .ref q95_23, .ref q103_25, .ref q111_27, .ref q119_29, .ref q127_31, .ref q135_33, .ref q143_35, .ref q152_37, .ref q160_39, .ref q169_41, .ref q177_43, .ref q186_45, .ref q194_47, .int 0, .ref q202_49, .ref q210_51, .ref q218_53, .int 0, .int 0, .int 0, .int 0, .int 0, .int 0, .int 0, .int 0, .int 0])), (q7_1, .inl (cA7_2, 72, .inl (fun _ => 0))), (q218_53, .inl (cA218_54, 20, .inl (fun _ => 0)))] H := hP
  have hD : va_D A [(y, .inr (10, [.int 0, .ref q7_1, .int 0, .ref q15_3, .ref q23_5, .int 0, .ref q31_7, .ref q39_9, .ref q47_11, .int 0, .int 0, .int 0, .ref q55_13, .int 0, .ref q63_15, .ref q71_17, .int 0, .ref q79_19, .ref q87_21, .ref q95_23, .ref q103_25, .ref q111_27, .ref q119_29, .ref q127_31, .ref q135_33, .ref q143_35, .ref q152_37, .ref q160_39, .ref q169_41, .ref q177_43, .ref q186_45, .ref q194_47, .int 0, .ref q202_49, .ref q210_51, .ref q218_53, .int 0, .int 0, .int 0, .int 0, .int 0, .int 0, .int 0, .int 0, .int 0])), (q7_1, .inl (cA7_2, 72, .inl (fun _ => 0))), (q218_53, .inl (cA218_54, 20, .inl (fun _ => 0)))] := hD
  have hP9 := hP.sub (ws' := [(y, .inr (10, [.int 0, .ref q7_1, .int 0, .ref q15_3, .ref q23_5, .int 0, .ref q31_7, .ref q39_9, .ref q47_11, .int 0, .int 0, .int 0, .ref q55_13, .int 0, .ref q63_15, .ref q71_17, .int 0, .ref q79_19, .ref q87_21, .ref q95_23, .ref q103_25, .ref q111_27, .ref q119_29, .ref q127_31, .ref q135_33, .ref q143_35, .ref q152_37, .ref q160_39, .ref q169_41, .ref q177_43, .ref q186_45, .ref q194_47, .int 0, .ref q202_49, .ref q210_51, .ref q218_53, .int 0, .int 0, .int 0, .int 0, .int 0, .int 0, .int 0, .int 0, .int 0])), (q7_1, .inl (cA7_2, 72, .inl (fun _ => 0))), (q218_53, .inl (cA218_54, 20, .inl (fun _ => 0)))]) [0, 1, 2] rfl
  have hD9 := hD.sub (ws' := [(y, .inr (10, [.int 0, .ref q7_1, .int 0, .ref q15_3, .ref q23_5, .int 0, .ref q31_7, .ref q39_9, .ref q47_11, .int 0, .int 0, .int 0, .ref q55_13, .int 0, .ref q63_15, .ref q71_17, .int 0, .ref q79_19, .ref q87_21, .ref q95_23, .ref q103_25, .ref q111_27, .ref q119_29, .ref q127_31, .ref q135_33, .ref q143_35, .ref q152_37, .ref q160_39, .ref q169_41, .ref q177_43, .ref q186_45, .ref q194_47, .int 0, .ref q202_49, .ref q210_51, .ref q218_53, .int 0, .int 0, .int 0, .int 0, .int 0, .int 0, .int 0, .int 0, .int 0])), (q7_1, .inl (cA7_2, 72, .inl (fun _ => 0))), (q218_53, .inl (cA218_54, 20, .inl (fun _ => 0)))]) [0, 1, 2] (by decide) rfl
  have hK9 := hK.sub (tys' := [(cA7_2, .char), (cA218_54, .int)]) [0, 1] rfl
  refine W.widen (k := 27) (n := 3414) (by omega) (by omega) ?_
  exact W.vret hx hb hr (fun t ht hW => ⟨⟨(q7_1, cA7_2, q218_53, cA218_54, q15_3, q23_5, q31_7, q39_9, q47_11, q55_13, q63_15, q71_17, q79_19, q87_21, q95_23, q103_25, q111_27, q119_29, q127_31, q135_33, q143_35, q152_37, q160_39, q169_41, q177_43, q186_45, q194_47, q202_49, q210_51), rfl, trivial, by rw [ht]; exact hP9, va_K.moved hW.alike hK9, hD9⟩, hS.F ht⟩) hS.2.2 d_M_init_223
set_option maxHeartbeats 4000000 in
set_option maxRecDepth 100000 in
theorem c_M_thrown (l : Launch) (dC : Nat → ClassId) (dI : Nat → Nat → Nat) (sz : Nat) (y : Nat) (mt : Nat) (b0 : Nat) (b1 : Nat) (b2 : Nat) (b3 : Nat) (b4 : Nat) (b5 : Nat) (b6 : Nat) (b7 : Nat) (b8 : Nat) (b9 : Nat) (b10 : Nat) (b11 : Nat) (b12 : Nat) (b13 : Nat) (b14 : Nat) (b15 : Nat) (b16 : Nat) (b17 : Nat) (b18 : Nat) (b19 : Nat) (b20 : Nat) (b21 : Nat) (b22 : Nat) (b23 : Nat) (b24 : Nat) (mi : Nat) (v0 : Int32) (v1 : Int32) (v2 : Int32) (v3 : Int32) (v4 : Int32) (v5 : Int32) (v6 : Int32) (v7 : Int32) (v8 : Int32) (v9 : Int32) (v10 : Int32) (v11 : Int32) (v12 : Int32) (v13 : Int32) (v14 : Int32) (v15 : Int32) (v16 : Int32) (v17 : Int32) : Met l ⟨"BigRunnerModel", "thrown", "()I"⟩ [Cond.code ⟨"BigRunnerModel", "thrown", "()I"⟩ prog_12_method_2_code 1 (some .int)] ({ frames := 0, cells := 0, slots := 0, locals := 0 }) (va_Pc [.ref y] (fun U => U.heap.size = sz ∧ TB U ∧ va_P (dC, dI) vcl [(y, .inr (10, [.int v0, .ref mt, .int v1, .ref b0, .ref b1, .int v2, .ref b2, .ref b3, .ref b4, .int v3, .int v4, .int v5, .ref b5, .int v6, .ref b6, .ref b7, .int v7, .ref b8, .ref b9, .ref b10, .ref b11, .ref b12, .ref b13, .ref b14, .ref b15, .ref b16, .ref b17, .ref b18, .ref b19, .ref b20, .ref b21, .ref b22, .int v8, .ref b23, .ref b24, .ref mi, .int v9, .int v10, .int v11, .int v12, .int v13, .int v14, .int v15, .int v16, .int v17]))] U.heap ∧ va_K (dC, dI) vcl [] U ∧ va_D (fun _ => True) [(y, .inr (10, [.int v0, .ref mt, .int v1, .ref b0, .ref b1, .int v2, .ref b2, .ref b3, .ref b4, .int v3, .int v4, .int v5, .ref b5, .int v6, .ref b6, .ref b7, .int v7, .ref b8, .ref b9, .ref b10, .ref b11, .ref b12, .ref b13, .ref b14, .ref b15, .ref b16, .ref b17, .ref b18, .ref b19, .ref b20, .ref b21, .ref b22, .int v8, .ref b23, .ref b24, .ref mi, .int v9, .int v10, .int v11, .int v12, .int v13, .int v14, .int v15, .int v16, .int v17]))])) (va_Qi (fun (r : Int32) (u : Unit) => match u with | _ => r = v0) (fun (u : Unit) (t : State) => match u with | _ => va_P (dC, dI) vcl [] t.heap ∧ va_K (dC, dI) vcl [] t ∧ va_D (va_A [(y, .inr (10, [.int v0, .ref mt, .int v1, .ref b0, .ref b1, .int v2, .ref b2, .ref b3, .ref b4, .int v3, .int v4, .int v5, .ref b5, .int v6, .ref b6, .ref b7, .int v7, .ref b8, .ref b9, .ref b10, .ref b11, .ref b12, .ref b13, .ref b14, .ref b15, .ref b16, .ref b17, .ref b18, .ref b19, .ref b20, .ref b21, .ref b22, .int v8, .ref b23, .ref b24, .ref mi, .int v9, .int v10, .int v11, .int v12, .int v13, .int v14, .int v15, .int v16, .int v17]))] sz) []) (va_A [(y, .inr (10, [.int v0, .ref mt, .int v1, .ref b0, .ref b1, .int v2, .ref b2, .ref b3, .ref b4, .int v3, .int v4, .int v5, .ref b5, .int v6, .ref b6, .ref b7, .int v7, .ref b8, .ref b9, .ref b10, .ref b11, .ref b12, .ref b13, .ref b14, .ref b15, .ref b16, .ref b17, .ref b18, .ref b19, .ref b20, .ref b21, .ref b22, .int v8, .ref b23, .ref b24, .ref mi, .int v9, .int v10, .int v11, .int v12, .int v13, .int v14, .int v15, .int v16, .int v17]))] sz)) 0 0 (va_A [(y, .inr (10, [.int v0, .ref mt, .int v1, .ref b0, .ref b1, .int v2, .ref b2, .ref b3, .ref b4, .int v3, .int v4, .int v5, .ref b5, .int v6, .ref b6, .ref b7, .int v7, .ref b8, .ref b9, .ref b10, .ref b11, .ref b12, .ref b13, .ref b14, .ref b15, .ref b16, .ref b17, .ref b18, .ref b19, .ref b20, .ref b21, .ref b22, .int v8, .ref b23, .ref b24, .ref mi, .int v9, .int v10, .int v11, .int v12, .int v13, .int v14, .int v15, .int v16, .int v17]))] sz) := by
  refine Met.ofW (cc := prog_12_method_2_code) (maxL := 1) (ret := (some .int)) (by decide) rfl ?_
  intro p e s m args below meth c s₁ B hml hv
  obtain ⟨rfl, hsz, hB, hP, hK, hD0⟩ := hv
  have hx := B.exec
  have hb := B.bytes
  have hr := B.returns
  have hown : s.vm.findClass "BigRunnerModel" = some m.cls := findClass_of_methodNamed B.named
  have hlocks := B.notSynchronized
  subst hsz
  have hD := hD0.self (sz := s.heap.size)
  generalize hAe : va_A [(y, .inr (10, [.int v0, .ref mt, .int v1, .ref b0, .ref b1, .int v2, .ref b2, .ref b3, .ref b4, .int v3, .int v4, .int v5, .ref b5, .int v6, .ref b6, .ref b7, .int v7, .ref b8, .ref b9, .ref b10, .ref b11, .ref b12, .ref b13, .ref b14, .ref b15, .ref b16, .ref b17, .ref b18, .ref b19, .ref b20, .ref b21, .ref b22, .int v8, .ref b23, .ref b24, .ref mi, .int v9, .int v10, .int v11, .int v12, .int v13, .int v14, .int v15, .int v16, .int v17]))] s.heap.size = A at hD ⊢
  have hA : ∀ q : Nat, s.heap.size ≤ q → A q := fun q h => by rw [← hAe]; exact Or.inr h
  have hS : va_S A s.heap s.heap [] := va_S.rf
  have hP : va_P (dC, dI) vcl [(y, .inr (10, [.int v0, .ref mt, .int v1, .ref b0, .ref b1, .int v2, .ref b2, .ref b3, .ref b4, .int v3, .int v4, .int v5, .ref b5, .int v6, .ref b6, .ref b7, .int v7, .ref b8, .ref b9, .ref b10, .ref b11, .ref b12, .ref b13, .ref b14, .ref b15, .ref b16, .ref b17, .ref b18, .ref b19, .ref b20, .ref b21, .ref b22, .int v8, .ref b23, .ref b24, .ref mi, .int v9, .int v10, .int v11, .int v12, .int v13, .int v14, .int v15, .int v16, .int v17]))] s.heap := hP
  have hl := lv_entry ([.ref y]) (n := 1) (Nat.le_of_ble_eq_true rfl)
  rw [lg_entry_eq]
  generalize (lg_sl ([.ref y]) ++ List.replicate (1 - (lg_sl ([.ref y])).length) Slot.unset).toArray = ls at hl ⊢
  have hl : lv_has ls 1 [(0, .ref y)] := hl
  refine lv_aload_n hx hb d_M_thrown_0 rfl (lv_at hl 0 rfl) ?_
  refine va_get (D := (dC, dI)) (ci := 10) (v := .int v0) (C := "BigRunnerModel") (T := FT10) (N := 45) hx hb (hw10 hB _) (fun _ h9 => h9) hown hK hP 0 rfl rfl 0 (by decide) (wd_947 hB _) (fun _ h9 => h9) rfl d_M_thrown_1 ?_
  have hP9 := hP.sub (ws' := []) [] rfl
  have hD9 := hD.sub (ws' := []) [] (by decide) rfl
  have hK9 := hK.sub (tys' := []) [] rfl
  refine W.widen (k := 0) (n := 0) (by omega) (by omega) ?_
  exact W.iret (v := v0) hx hb hr (fun t ht hW => ⟨⟨v0, (), rfl, rfl, by rw [ht]; exact hP9, va_K.moved hW.alike hK9, hD9⟩, hS.F ht⟩) hS.2.2 d_M_thrown_4
set_option maxHeartbeats 4000000 in
set_option maxRecDepth 100000 in
theorem c_M_type (l : Launch) (dC : Nat → ClassId) (dI : Nat → Nat → Nat) (sz : Nat) (y : Nat) (mt : Nat) (ct : ClassId) (mi : Nat) (cj : ClassId) (b0 : Nat) (b1 : Nat) (b2 : Nat) (b3 : Nat) (b4 : Nat) (b5 : Nat) (b6 : Nat) (b7 : Nat) (b8 : Nat) (b9 : Nat) (b10 : Nat) (b11 : Nat) (b12 : Nat) (b13 : Nat) (b14 : Nat) (b15 : Nat) (b16 : Nat) (b17 : Nat) (b18 : Nat) (b19 : Nat) (b20 : Nat) (b21 : Nat) (b22 : Nat) (b23 : Nat) (b24 : Nat) (k : Int32) : Met l ⟨"BigRunnerModel", "type", "(C)Z"⟩ [Cond.code ⟨"BigRunnerModel", "type", "(C)Z"⟩ prog_12_method_38_code 2 (some .boolean)] ({ frames := 0, cells := 0, slots := 0, locals := 0 }) (va_Pc [.ref y, .int k] (fun U => U.heap.size = sz ∧ TB U ∧ va_P (dC, dI) vcl [(y, .inr (10, [.int 0, .ref mt, .int 0, .ref b0, .ref b1, .int 0, .ref b2, .ref b3, .ref b4, .int 0, .int 0, .int 0, .ref b5, .int 0, .ref b6, .ref b7, .int 0, .ref b8, .ref b9, .ref b10, .ref b11, .ref b12, .ref b13, .ref b14, .ref b15, .ref b16, .ref b17, .ref b18, .ref b19, .ref b20, .ref b21, .ref b22, .int 0, .ref b23, .ref b24, .ref mi, .int 0, .int 0, .int 0, .int 0, .int 0, .int 0, .int 0, .int 0, .int 0])), (mt, .inl (ct, 72, .inl (fun _ => 0))), (mi, .inl (cj, 20, .inl (fun _ => 0)))] U.heap ∧ va_K (dC, dI) vcl [(ct, .char), (cj, .int)] U ∧ va_D (fun _ => True) [(y, .inr (10, [.int 0, .ref mt, .int 0, .ref b0, .ref b1, .int 0, .ref b2, .ref b3, .ref b4, .int 0, .int 0, .int 0, .ref b5, .int 0, .ref b6, .ref b7, .int 0, .ref b8, .ref b9, .ref b10, .ref b11, .ref b12, .ref b13, .ref b14, .ref b15, .ref b16, .ref b17, .ref b18, .ref b19, .ref b20, .ref b21, .ref b22, .int 0, .ref b23, .ref b24, .ref mi, .int 0, .int 0, .int 0, .int 0, .int 0, .int 0, .int 0, .int 0, .int 0])), (mt, .inl (ct, 72, .inl (fun _ => 0))), (mi, .inl (cj, 20, .inl (fun _ => 0)))])) (va_Qi (fun (r : Int32) (u : Unit) => match u with | _ => r = vt_type k) (fun (u : Unit) (t : State) => match u with | _ => va_P (dC, dI) vcl [] t.heap ∧ va_K (dC, dI) vcl [] t ∧ va_D (va_A [(y, .inr (10, [.int 0, .ref mt, .int 0, .ref b0, .ref b1, .int 0, .ref b2, .ref b3, .ref b4, .int 0, .int 0, .int 0, .ref b5, .int 0, .ref b6, .ref b7, .int 0, .ref b8, .ref b9, .ref b10, .ref b11, .ref b12, .ref b13, .ref b14, .ref b15, .ref b16, .ref b17, .ref b18, .ref b19, .ref b20, .ref b21, .ref b22, .int 0, .ref b23, .ref b24, .ref mi, .int 0, .int 0, .int 0, .int 0, .int 0, .int 0, .int 0, .int 0, .int 0])), (mt, .inl (ct, 72, .inl (fun _ => 0))), (mi, .inl (cj, 20, .inl (fun _ => 0)))] sz) []) (va_A [(y, .inr (10, [.int 0, .ref mt, .int 0, .ref b0, .ref b1, .int 0, .ref b2, .ref b3, .ref b4, .int 0, .int 0, .int 0, .ref b5, .int 0, .ref b6, .ref b7, .int 0, .ref b8, .ref b9, .ref b10, .ref b11, .ref b12, .ref b13, .ref b14, .ref b15, .ref b16, .ref b17, .ref b18, .ref b19, .ref b20, .ref b21, .ref b22, .int 0, .ref b23, .ref b24, .ref mi, .int 0, .int 0, .int 0, .int 0, .int 0, .int 0, .int 0, .int 0, .int 0])), (mt, .inl (ct, 72, .inl (fun _ => 0))), (mi, .inl (cj, 20, .inl (fun _ => 0)))] sz)) 0 0 (va_A [(y, .inr (10, [.int 0, .ref mt, .int 0, .ref b0, .ref b1, .int 0, .ref b2, .ref b3, .ref b4, .int 0, .int 0, .int 0, .ref b5, .int 0, .ref b6, .ref b7, .int 0, .ref b8, .ref b9, .ref b10, .ref b11, .ref b12, .ref b13, .ref b14, .ref b15, .ref b16, .ref b17, .ref b18, .ref b19, .ref b20, .ref b21, .ref b22, .int 0, .ref b23, .ref b24, .ref mi, .int 0, .int 0, .int 0, .int 0, .int 0, .int 0, .int 0, .int 0, .int 0])), (mt, .inl (ct, 72, .inl (fun _ => 0))), (mi, .inl (cj, 20, .inl (fun _ => 0)))] sz) := by
  refine Met.ofW (cc := prog_12_method_38_code) (maxL := 2) (ret := (some .boolean)) (by decide) rfl ?_
  intro p e s m args below meth c s₁ B hml hv
  obtain ⟨rfl, hsz, hB, hP, hK, hD0⟩ := hv
  have hx := B.exec
  have hb := B.bytes
  have hr := B.returns
  have hown : s.vm.findClass "BigRunnerModel" = some m.cls := findClass_of_methodNamed B.named
  have hlocks := B.notSynchronized
  subst hsz
  have hD := hD0.self (sz := s.heap.size)
  generalize hAe : va_A [(y, .inr (10, [.int 0, .ref mt, .int 0, .ref b0, .ref b1, .int 0, .ref b2, .ref b3, .ref b4, .int 0, .int 0, .int 0, .ref b5, .int 0, .ref b6, .ref b7, .int 0, .ref b8, .ref b9, .ref b10, .ref b11, .ref b12, .ref b13, .ref b14, .ref b15, .ref b16, .ref b17, .ref b18, .ref b19, .ref b20, .ref b21, .ref b22, .int 0, .ref b23, .ref b24, .ref mi, .int 0, .int 0, .int 0, .int 0, .int 0, .int 0, .int 0, .int 0, .int 0])), (mt, .inl (ct, 72, .inl (fun _ => 0))), (mi, .inl (cj, 20, .inl (fun _ => 0)))] s.heap.size = A at hD ⊢
  have hA : ∀ q : Nat, s.heap.size ≤ q → A q := fun q h => by rw [← hAe]; exact Or.inr h
  have hS : va_S A s.heap s.heap [] := va_S.rf
  have hP : va_P (dC, dI) vcl [(y, .inr (10, [.int 0, .ref mt, .int 0, .ref b0, .ref b1, .int 0, .ref b2, .ref b3, .ref b4, .int 0, .int 0, .int 0, .ref b5, .int 0, .ref b6, .ref b7, .int 0, .ref b8, .ref b9, .ref b10, .ref b11, .ref b12, .ref b13, .ref b14, .ref b15, .ref b16, .ref b17, .ref b18, .ref b19, .ref b20, .ref b21, .ref b22, .int 0, .ref b23, .ref b24, .ref mi, .int 0, .int 0, .int 0, .int 0, .int 0, .int 0, .int 0, .int 0, .int 0])), (mt, .inl (ct, 72, .inl (fun _ => 0))), (mi, .inl (cj, 20, .inl (fun _ => 0)))] s.heap := hP
  have hl := lv_entry ([.ref y, .int k]) (n := 2) (Nat.le_of_ble_eq_true rfl)
  rw [lg_entry_eq]
  generalize (lg_sl ([.ref y, .int k]) ++ List.replicate (2 - (lg_sl ([.ref y, .int k])).length) Slot.unset).toArray = ls at hl ⊢
  have hl : lv_has ls 2 [(0, .ref y), (1, .int k)] := hl
  refine lv_aload_n hx hb d_M_type_0 rfl (lv_at hl 0 rfl) ?_
  refine lv_iconst (v := 0) hx hb d_M_type_1 (by decide) ?_
  refine va_put (D := (dC, dI)) (ci := 10) (v := .int 0) (ty := .int) (C := "BigRunnerModel") (T := FT10) (N := 45) hx hb (hw10 hB _) (fun _ h9 => h9) TY10 ok10 nm10 hown hK hP hD hS 0 rfl rfl 0 (by decide) (wd_947 hB _) (fun _ h9 => h9) rfl (by decide +kernel) rfl rfl (Nat.le_of_ble_eq_true rfl) d_M_type_2 (fun H locs hP hD hS => ?_)
  have hP : va_P (dC, dI) vcl [(y, .inr (10, [.int 0, .ref mt, .int 0, .ref b0, .ref b1, .int 0, .ref b2, .ref b3, .ref b4, .int 0, .int 0, .int 0, .ref b5, .int 0, .ref b6, .ref b7, .int 0, .ref b8, .ref b9, .ref b10, .ref b11, .ref b12, .ref b13, .ref b14, .ref b15, .ref b16, .ref b17, .ref b18, .ref b19, .ref b20, .ref b21, .ref b22, .int 0, .ref b23, .ref b24, .ref mi, .int 0, .int 0, .int 0, .int 0, .int 0, .int 0, .int 0, .int 0, .int 0])), (mt, .inl (ct, 72, .inl (fun _ => 0))), (mi, .inl (cj, 20, .inl (fun _ => 0)))] H := hP
  have hD : va_D A [(y, .inr (10, [.int 0, .ref mt, .int 0, .ref b0, .ref b1, .int 0, .ref b2, .ref b3, .ref b4, .int 0, .int 0, .int 0, .ref b5, .int 0, .ref b6, .ref b7, .int 0, .ref b8, .ref b9, .ref b10, .ref b11, .ref b12, .ref b13, .ref b14, .ref b15, .ref b16, .ref b17, .ref b18, .ref b19, .ref b20, .ref b21, .ref b22, .int 0, .ref b23, .ref b24, .ref mi, .int 0, .int 0, .int 0, .int 0, .int 0, .int 0, .int 0, .int 0, .int 0])), (mt, .inl (ct, 72, .inl (fun _ => 0))), (mi, .inl (cj, 20, .inl (fun _ => 0)))] := hD
  refine lv_iload_n hx hb d_M_type_5 rfl (lv_at hl 1 rfl) ?_
  refine lv_bipush (v := 33) hx hb d_M_type_6 (by decide) ?_
  refine lv_icmp_lt (tgt := 26) hx hb d_M_type_8 (by decide) (fun h1 => ?_) (fun h1 => ?_)
  · skip
    refine lv_iconst (v := 0) hx hb d_M_type_26 (by decide) ?_
    have hP9 := hP.sub (ws' := []) [] rfl
    have hD9 := hD.sub (ws' := []) [] (by decide) rfl
    have hK9 := hK.sub (tys' := []) [] rfl
    refine W.widen (k := 0) (n := 0) (by omega) (by omega) ?_
    exact W.zret (v := 0) (ty := .boolean) hx hb hr rfl (fun t ht hW => ⟨⟨0, (), rfl, (by simp [vt_type, h1]), by rw [ht]; exact hP9, va_K.moved hW.alike hK9, hD9⟩, hS.F ht⟩) hS.2.2 d_M_type_27
  · skip
    refine lv_iload_n hx hb d_M_type_11 rfl (lv_at hl 1 rfl) ?_
    refine lv_bipush (v := 126) hx hb d_M_type_12 (by decide) ?_
    refine lv_icmp_gt (tgt := 26) hx hb d_M_type_14 (by decide) (fun h2 => ?_) (fun h2 => ?_)
    · skip
      refine lv_iconst (v := 0) hx hb d_M_type_26 (by decide) ?_
      have hP9 := hP.sub (ws' := []) [] rfl
      have hD9 := hD.sub (ws' := []) [] (by decide) rfl
      have hK9 := hK.sub (tys' := []) [] rfl
      refine W.widen (k := 0) (n := 0) (by omega) (by omega) ?_
      exact W.zret (v := 0) (ty := .boolean) hx hb hr rfl (fun t ht hW => ⟨⟨0, (), rfl, (by simp [vt_type, h1, h2]), by rw [ht]; exact hP9, va_K.moved hW.alike hK9, hD9⟩, hS.F ht⟩) hS.2.2 d_M_type_27
    · skip
      refine lv_aload_n hx hb d_M_type_17 rfl (lv_at hl 0 rfl) ?_
      refine va_get (D := (dC, dI)) (ci := 10) (v := .int 0) (C := "BigRunnerModel") (T := FT10) (N := 45) hx hb (hw10 hB _) (fun _ h9 => h9) hown hK hP 0 rfl rfl 2 (by decide) (wd_949 hB _) (fun _ h9 => h9) rfl d_M_type_18 ?_
      refine lv_bipush (v := 72) hx hb d_M_type_21 (by decide) ?_
      refine lv_icmp_ne (tgt := 28) hx hb d_M_type_23 (by decide) (fun _ => ?_) (fun hq => absurd hq (by decide))
      refine lv_aload_n hx hb d_M_type_28 rfl (lv_at hl 0 rfl) ?_
      refine va_get (D := (dC, dI)) (ci := 10) (v := .ref mt) (C := "BigRunnerModel") (T := FT10) (N := 45) hx hb (hw10 hB _) (fun _ h9 => h9) hown hK hP 0 rfl rfl 1 (by decide) (wd_948 hB _) (fun _ h9 => h9) rfl d_M_type_29 ?_
      refine lv_aload_n hx hb d_M_type_32 rfl (lv_at hl 0 rfl) ?_
      refine va_get (D := (dC, dI)) (ci := 10) (v := .int 0) (C := "BigRunnerModel") (T := FT10) (N := 45) hx hb (hw10 hB _) (fun _ h9 => h9) hown hK hP 0 rfl rfl 2 (by decide) (wd_949 hB _) (fun _ h9 => h9) rfl d_M_type_33 ?_
      refine lv_iload_n hx hb d_M_type_36 rfl (lv_at hl 1 rfl) ?_
      refine va_cast (D := (dC, dI)) hx hb hK hP hD hS 1 0 rfl rfl (vp_in_nI (n := 0) (by decide) (by decide)) d_M_type_37 (fun H locs hP hD hS => ?_)
      have hP : va_P (dC, dI) vcl [(y, .inr (10, [.int 0, .ref mt, .int 0, .ref b0, .ref b1, .int 0, .ref b2, .ref b3, .ref b4, .int 0, .int 0, .int 0, .ref b5, .int 0, .ref b6, .ref b7, .int 0, .ref b8, .ref b9, .ref b10, .ref b11, .ref b12, .ref b13, .ref b14, .ref b15, .ref b16, .ref b17, .ref b18, .ref b19, .ref b20, .ref b21, .ref b22, .int 0, .ref b23, .ref b24, .ref mi, .int 0, .int 0, .int 0, .int 0, .int 0, .int 0, .int 0, .int 0, .int 0])), (mt, .inl (ct, 72, .inl (upd (fun _ => 0) (0 : Int32).toNatClampNeg (vp_nar .char k)))), (mi, .inl (cj, 20, .inl (fun _ => 0)))] H := hP
      have hD : va_D A [(y, .inr (10, [.int 0, .ref mt, .int 0, .ref b0, .ref b1, .int 0, .ref b2, .ref b3, .ref b4, .int 0, .int 0, .int 0, .ref b5, .int 0, .ref b6, .ref b7, .int 0, .ref b8, .ref b9, .ref b10, .ref b11, .ref b12, .ref b13, .ref b14, .ref b15, .ref b16, .ref b17, .ref b18, .ref b19, .ref b20, .ref b21, .ref b22, .int 0, .ref b23, .ref b24, .ref mi, .int 0, .int 0, .int 0, .int 0, .int 0, .int 0, .int 0, .int 0, .int 0])), (mt, .inl (ct, 72, .inl (upd (fun _ => 0) (0 : Int32).toNatClampNeg (vp_nar .char k)))), (mi, .inl (cj, 20, .inl (fun _ => 0)))] := hD
      refine lv_aload_n hx hb d_M_type_38 rfl (lv_at hl 0 rfl) ?_
      refine lv_dup hx hb d_M_type_39 rfl ?_
      refine va_get (D := (dC, dI)) (ci := 10) (v := .int 0) (C := "BigRunnerModel") (T := FT10) (N := 45) hx hb (hw10 hB _) (fun _ h9 => h9) hown hK hP 0 rfl rfl 2 (by decide) (wd_949 hB _) (fun _ h9 => h9) rfl d_M_type_40 ?_
      refine lv_iconst (v := 1) hx hb d_M_type_43 (by decide) ?_
      refine lv_iadd hx hb d_M_type_44 ?_
      refine lv_topi (fun z_ hz_ => ?_)
      have hz_ : z_ = 1 := hz_.trans (by decide)
      subst hz_
      refine va_put (D := (dC, dI)) (ci := 10) (v := .int 1) (ty := .int) (C := "BigRunnerModel") (T := FT10) (N := 45) hx hb (hw10 hB _) (fun _ h9 => h9) TY10 ok10 nm10 hown hK hP hD hS 0 rfl rfl 2 (by decide) (wd_949 hB _) (fun _ h9 => h9) rfl (by decide +kernel) rfl rfl (Nat.le_of_ble_eq_true rfl) d_M_type_45 (fun H locs hP hD hS => ?_)
      have hP : va_P (dC, dI) vcl [(y, .inr (10, [.int 0, .ref mt, .int 1, .ref b0, .ref b1, .int 0, .ref b2, .ref b3, .ref b4, .int 0, .int 0, .int 0, .ref b5, .int 0, .ref b6, .ref b7, .int 0, .ref b8, .ref b9, .ref b10, .ref b11, .ref b12, .ref b13, .ref b14, .ref b15, .ref b16, .ref b17, .ref b18, .ref b19, .ref b20, .ref b21, .ref b22, .int 0, .ref b23, .ref b24, .ref mi, .int 0, .int 0, .int 0, .int 0, .int 0, .int 0, .int 0, .int 0, .int 0])), (mt, .inl (ct, 72, .inl (upd (fun _ => 0) (0 : Int32).toNatClampNeg (vp_nar .char k)))), (mi, .inl (cj, 20, .inl (fun _ => 0)))] H := hP
      have hD : va_D A [(y, .inr (10, [.int 0, .ref mt, .int 1, .ref b0, .ref b1, .int 0, .ref b2, .ref b3, .ref b4, .int 0, .int 0, .int 0, .ref b5, .int 0, .ref b6, .ref b7, .int 0, .ref b8, .ref b9, .ref b10, .ref b11, .ref b12, .ref b13, .ref b14, .ref b15, .ref b16, .ref b17, .ref b18, .ref b19, .ref b20, .ref b21, .ref b22, .int 0, .ref b23, .ref b24, .ref mi, .int 0, .int 0, .int 0, .int 0, .int 0, .int 0, .int 0, .int 0, .int 0])), (mt, .inl (ct, 72, .inl (upd (fun _ => 0) (0 : Int32).toNatClampNeg (vp_nar .char k)))), (mi, .inl (cj, 20, .inl (fun _ => 0)))] := hD
      refine lv_iconst (v := 1) hx hb d_M_type_48 (by decide) ?_
      have hP9 := hP.sub (ws' := []) [] rfl
      have hD9 := hD.sub (ws' := []) [] (by decide) rfl
      have hK9 := hK.sub (tys' := []) [] rfl
      refine W.widen (k := 0) (n := 0) (by omega) (by omega) ?_
      exact W.zret (v := 1) (ty := .boolean) hx hb hr rfl (fun t ht hW => ⟨⟨1, (), rfl, (by simp [vt_type, h1, h2]), by rw [ht]; exact hP9, va_K.moved hW.alike hK9, hD9⟩, hS.F ht⟩) hS.2.2 d_M_type_49
set_option maxHeartbeats 4000000 in
set_option maxRecDepth 100000 in
theorem c_M_wipe (l : Launch) (dC : Nat → ClassId) (dI : Nat → Nat → Nat) (sz : Nat) (y : Nat) (mt : Nat) (ct : ClassId) (mi : Nat) (cj : ClassId) (b0 : Nat) (b1 : Nat) (b2 : Nat) (b3 : Nat) (b4 : Nat) (b5 : Nat) (b6 : Nat) (b7 : Nat) (b8 : Nat) (b9 : Nat) (b10 : Nat) (b11 : Nat) (b12 : Nat) (b13 : Nat) (b14 : Nat) (b15 : Nat) (b16 : Nat) (b17 : Nat) (b18 : Nat) (b19 : Nat) (b20 : Nat) (b21 : Nat) (b22 : Nat) (b23 : Nat) (b24 : Nat) : Met l ⟨"BigRunnerModel", "wipe", "()V"⟩ [Cond.code ⟨"BigRunnerModel", "wipe", "()V"⟩ prog_12_method_39_code 1 none] ({ frames := 0, cells := 0, slots := 0, locals := 0 }) (va_Pc [.ref y] (fun U => U.heap.size = sz ∧ TB U ∧ va_P (dC, dI) vcl [(y, .inr (10, [.int 0, .ref mt, .int 0, .ref b0, .ref b1, .int 0, .ref b2, .ref b3, .ref b4, .int 0, .int 0, .int 0, .ref b5, .int 0, .ref b6, .ref b7, .int 0, .ref b8, .ref b9, .ref b10, .ref b11, .ref b12, .ref b13, .ref b14, .ref b15, .ref b16, .ref b17, .ref b18, .ref b19, .ref b20, .ref b21, .ref b22, .int 0, .ref b23, .ref b24, .ref mi, .int 0, .int 0, .int 0, .int 0, .int 0, .int 0, .int 0, .int 0, .int 0])), (mt, .inl (ct, 72, .inl (fun _ => 0))), (mi, .inl (cj, 20, .inl (fun _ => 0)))] U.heap ∧ va_K (dC, dI) vcl [(ct, .char), (cj, .int)] U ∧ va_D (fun _ => True) [(y, .inr (10, [.int 0, .ref mt, .int 0, .ref b0, .ref b1, .int 0, .ref b2, .ref b3, .ref b4, .int 0, .int 0, .int 0, .ref b5, .int 0, .ref b6, .ref b7, .int 0, .ref b8, .ref b9, .ref b10, .ref b11, .ref b12, .ref b13, .ref b14, .ref b15, .ref b16, .ref b17, .ref b18, .ref b19, .ref b20, .ref b21, .ref b22, .int 0, .ref b23, .ref b24, .ref mi, .int 0, .int 0, .int 0, .int 0, .int 0, .int 0, .int 0, .int 0, .int 0])), (mt, .inl (ct, 72, .inl (fun _ => 0))), (mi, .inl (cj, 20, .inl (fun _ => 0)))])) (va_Qv (fun (u : Unit) => match u with | _ => True) (fun (u : Unit) (t : State) => match u with | _ => va_P (dC, dI) vcl [] t.heap ∧ va_K (dC, dI) vcl [] t ∧ va_D (va_A [(y, .inr (10, [.int 0, .ref mt, .int 0, .ref b0, .ref b1, .int 0, .ref b2, .ref b3, .ref b4, .int 0, .int 0, .int 0, .ref b5, .int 0, .ref b6, .ref b7, .int 0, .ref b8, .ref b9, .ref b10, .ref b11, .ref b12, .ref b13, .ref b14, .ref b15, .ref b16, .ref b17, .ref b18, .ref b19, .ref b20, .ref b21, .ref b22, .int 0, .ref b23, .ref b24, .ref mi, .int 0, .int 0, .int 0, .int 0, .int 0, .int 0, .int 0, .int 0, .int 0])), (mt, .inl (ct, 72, .inl (fun _ => 0))), (mi, .inl (cj, 20, .inl (fun _ => 0)))] sz) []) (va_A [(y, .inr (10, [.int 0, .ref mt, .int 0, .ref b0, .ref b1, .int 0, .ref b2, .ref b3, .ref b4, .int 0, .int 0, .int 0, .ref b5, .int 0, .ref b6, .ref b7, .int 0, .ref b8, .ref b9, .ref b10, .ref b11, .ref b12, .ref b13, .ref b14, .ref b15, .ref b16, .ref b17, .ref b18, .ref b19, .ref b20, .ref b21, .ref b22, .int 0, .ref b23, .ref b24, .ref mi, .int 0, .int 0, .int 0, .int 0, .int 0, .int 0, .int 0, .int 0, .int 0])), (mt, .inl (ct, 72, .inl (fun _ => 0))), (mi, .inl (cj, 20, .inl (fun _ => 0)))] sz)) 0 0 (va_A [(y, .inr (10, [.int 0, .ref mt, .int 0, .ref b0, .ref b1, .int 0, .ref b2, .ref b3, .ref b4, .int 0, .int 0, .int 0, .ref b5, .int 0, .ref b6, .ref b7, .int 0, .ref b8, .ref b9, .ref b10, .ref b11, .ref b12, .ref b13, .ref b14, .ref b15, .ref b16, .ref b17, .ref b18, .ref b19, .ref b20, .ref b21, .ref b22, .int 0, .ref b23, .ref b24, .ref mi, .int 0, .int 0, .int 0, .int 0, .int 0, .int 0, .int 0, .int 0, .int 0])), (mt, .inl (ct, 72, .inl (fun _ => 0))), (mi, .inl (cj, 20, .inl (fun _ => 0)))] sz) := by
  refine Met.ofW (cc := prog_12_method_39_code) (maxL := 1) (ret := none) (by decide) rfl ?_
  intro p e s m args below meth c s₁ B hml hv
  obtain ⟨rfl, hsz, hB, hP, hK, hD0⟩ := hv
  have hx := B.exec
  have hb := B.bytes
  have hr := B.returns
  have hown : s.vm.findClass "BigRunnerModel" = some m.cls := findClass_of_methodNamed B.named
  have hlocks := B.notSynchronized
  subst hsz
  have hD := hD0.self (sz := s.heap.size)
  generalize hAe : va_A [(y, .inr (10, [.int 0, .ref mt, .int 0, .ref b0, .ref b1, .int 0, .ref b2, .ref b3, .ref b4, .int 0, .int 0, .int 0, .ref b5, .int 0, .ref b6, .ref b7, .int 0, .ref b8, .ref b9, .ref b10, .ref b11, .ref b12, .ref b13, .ref b14, .ref b15, .ref b16, .ref b17, .ref b18, .ref b19, .ref b20, .ref b21, .ref b22, .int 0, .ref b23, .ref b24, .ref mi, .int 0, .int 0, .int 0, .int 0, .int 0, .int 0, .int 0, .int 0, .int 0])), (mt, .inl (ct, 72, .inl (fun _ => 0))), (mi, .inl (cj, 20, .inl (fun _ => 0)))] s.heap.size = A at hD ⊢
  have hA : ∀ q : Nat, s.heap.size ≤ q → A q := fun q h => by rw [← hAe]; exact Or.inr h
  have hS : va_S A s.heap s.heap [] := va_S.rf
  have hP : va_P (dC, dI) vcl [(y, .inr (10, [.int 0, .ref mt, .int 0, .ref b0, .ref b1, .int 0, .ref b2, .ref b3, .ref b4, .int 0, .int 0, .int 0, .ref b5, .int 0, .ref b6, .ref b7, .int 0, .ref b8, .ref b9, .ref b10, .ref b11, .ref b12, .ref b13, .ref b14, .ref b15, .ref b16, .ref b17, .ref b18, .ref b19, .ref b20, .ref b21, .ref b22, .int 0, .ref b23, .ref b24, .ref mi, .int 0, .int 0, .int 0, .int 0, .int 0, .int 0, .int 0, .int 0, .int 0])), (mt, .inl (ct, 72, .inl (fun _ => 0))), (mi, .inl (cj, 20, .inl (fun _ => 0)))] s.heap := hP
  have hl := lv_entry ([.ref y]) (n := 1) (Nat.le_of_ble_eq_true rfl)
  rw [lg_entry_eq]
  generalize (lg_sl ([.ref y]) ++ List.replicate (1 - (lg_sl ([.ref y])).length) Slot.unset).toArray = ls at hl ⊢
  have hl : lv_has ls 1 [(0, .ref y)] := hl
  refine lv_aload_n hx hb d_M_wipe_0 rfl (lv_at hl 0 rfl) ?_
  refine lv_iconst (v := 0) hx hb d_M_wipe_1 (by decide) ?_
  refine va_put (D := (dC, dI)) (ci := 10) (v := .int 0) (ty := .int) (C := "BigRunnerModel") (T := FT10) (N := 45) hx hb (hw10 hB _) (fun _ h9 => h9) TY10 ok10 nm10 hown hK hP hD hS 0 rfl rfl 0 (by decide) (wd_947 hB _) (fun _ h9 => h9) rfl (by decide +kernel) rfl rfl (Nat.le_of_ble_eq_true rfl) d_M_wipe_2 (fun H locs hP hD hS => ?_)
  have hP : va_P (dC, dI) vcl [(y, .inr (10, [.int 0, .ref mt, .int 0, .ref b0, .ref b1, .int 0, .ref b2, .ref b3, .ref b4, .int 0, .int 0, .int 0, .ref b5, .int 0, .ref b6, .ref b7, .int 0, .ref b8, .ref b9, .ref b10, .ref b11, .ref b12, .ref b13, .ref b14, .ref b15, .ref b16, .ref b17, .ref b18, .ref b19, .ref b20, .ref b21, .ref b22, .int 0, .ref b23, .ref b24, .ref mi, .int 0, .int 0, .int 0, .int 0, .int 0, .int 0, .int 0, .int 0, .int 0])), (mt, .inl (ct, 72, .inl (fun _ => 0))), (mi, .inl (cj, 20, .inl (fun _ => 0)))] H := hP
  have hD : va_D A [(y, .inr (10, [.int 0, .ref mt, .int 0, .ref b0, .ref b1, .int 0, .ref b2, .ref b3, .ref b4, .int 0, .int 0, .int 0, .ref b5, .int 0, .ref b6, .ref b7, .int 0, .ref b8, .ref b9, .ref b10, .ref b11, .ref b12, .ref b13, .ref b14, .ref b15, .ref b16, .ref b17, .ref b18, .ref b19, .ref b20, .ref b21, .ref b22, .int 0, .ref b23, .ref b24, .ref mi, .int 0, .int 0, .int 0, .int 0, .int 0, .int 0, .int 0, .int 0, .int 0])), (mt, .inl (ct, 72, .inl (fun _ => 0))), (mi, .inl (cj, 20, .inl (fun _ => 0)))] := hD
  refine lv_aload_n hx hb d_M_wipe_5 rfl (lv_at hl 0 rfl) ?_
  refine lv_iconst (v := 0) hx hb d_M_wipe_6 (by decide) ?_
  refine va_put (D := (dC, dI)) (ci := 10) (v := .int 0) (ty := .int) (C := "BigRunnerModel") (T := FT10) (N := 45) hx hb (hw10 hB _) (fun _ h9 => h9) TY10 ok10 nm10 hown hK hP hD hS 0 rfl rfl 2 (by decide) (wd_949 hB _) (fun _ h9 => h9) rfl (by decide +kernel) rfl rfl (Nat.le_of_ble_eq_true rfl) d_M_wipe_7 (fun H locs hP hD hS => ?_)
  have hP : va_P (dC, dI) vcl [(y, .inr (10, [.int 0, .ref mt, .int 0, .ref b0, .ref b1, .int 0, .ref b2, .ref b3, .ref b4, .int 0, .int 0, .int 0, .ref b5, .int 0, .ref b6, .ref b7, .int 0, .ref b8, .ref b9, .ref b10, .ref b11, .ref b12, .ref b13, .ref b14, .ref b15, .ref b16, .ref b17, .ref b18, .ref b19, .ref b20, .ref b21, .ref b22, .int 0, .ref b23, .ref b24, .ref mi, .int 0, .int 0, .int 0, .int 0, .int 0, .int 0, .int 0, .int 0, .int 0])), (mt, .inl (ct, 72, .inl (fun _ => 0))), (mi, .inl (cj, 20, .inl (fun _ => 0)))] H := hP
  have hD : va_D A [(y, .inr (10, [.int 0, .ref mt, .int 0, .ref b0, .ref b1, .int 0, .ref b2, .ref b3, .ref b4, .int 0, .int 0, .int 0, .ref b5, .int 0, .ref b6, .ref b7, .int 0, .ref b8, .ref b9, .ref b10, .ref b11, .ref b12, .ref b13, .ref b14, .ref b15, .ref b16, .ref b17, .ref b18, .ref b19, .ref b20, .ref b21, .ref b22, .int 0, .ref b23, .ref b24, .ref mi, .int 0, .int 0, .int 0, .int 0, .int 0, .int 0, .int 0, .int 0, .int 0])), (mt, .inl (ct, 72, .inl (fun _ => 0))), (mi, .inl (cj, 20, .inl (fun _ => 0)))] := hD
  have hP9 := hP.sub (ws' := []) [] rfl
  have hD9 := hD.sub (ws' := []) [] (by decide) rfl
  have hK9 := hK.sub (tys' := []) [] rfl
  refine W.widen (k := 0) (n := 0) (by omega) (by omega) ?_
  exact W.vret hx hb hr (fun t ht hW => ⟨⟨(), rfl, trivial, by rw [ht]; exact hP9, va_K.moved hW.alike hK9, hD9⟩, hS.F ht⟩) hS.2.2 d_M_wipe_10
set_option maxHeartbeats 4000000 in
set_option maxRecDepth 100000 in
theorem c_M_give (l : Launch) (dC : Nat → ClassId) (dI : Nat → Nat → Nat) (sz : Nat) (y : Nat) (mt : Nat) (ct : ClassId) (mi : Nat) (cj : ClassId) (b0 : Nat) (b1 : Nat) (b2 : Nat) (b3 : Nat) (b4 : Nat) (b5 : Nat) (b6 : Nat) (b7 : Nat) (b8 : Nat) (b9 : Nat) (b10 : Nat) (b11 : Nat) (b12 : Nat) (b13 : Nat) (b14 : Nat) (b15 : Nat) (b16 : Nat) (b17 : Nat) (b18 : Nat) (b19 : Nat) (b20 : Nat) (b21 : Nat) (b22 : Nat) (b23 : Nat) (b24 : Nat) (k : Int32) : Met l ⟨"BigRunnerModel", "give", "(I)Z"⟩ [Cond.code ⟨"BigRunnerModel", "give", "(I)Z"⟩ prog_12_method_41_code 2 (some .boolean)] ({ frames := 0, cells := 0, slots := 0, locals := 0 }) (va_Pc [.ref y, .int k] (fun U => U.heap.size = sz ∧ TB U ∧ va_P (dC, dI) vcl [(y, .inr (10, [.int 0, .ref mt, .int 0, .ref b0, .ref b1, .int 0, .ref b2, .ref b3, .ref b4, .int 0, .int 0, .int 0, .ref b5, .int 0, .ref b6, .ref b7, .int 0, .ref b8, .ref b9, .ref b10, .ref b11, .ref b12, .ref b13, .ref b14, .ref b15, .ref b16, .ref b17, .ref b18, .ref b19, .ref b20, .ref b21, .ref b22, .int 0, .ref b23, .ref b24, .ref mi, .int 0, .int 0, .int 0, .int 0, .int 0, .int 0, .int 0, .int 0, .int 0])), (mt, .inl (ct, 72, .inl (fun _ => 0))), (mi, .inl (cj, 20, .inl (fun _ => 0)))] U.heap ∧ va_K (dC, dI) vcl [(ct, .char), (cj, .int)] U ∧ va_D (fun _ => True) [(y, .inr (10, [.int 0, .ref mt, .int 0, .ref b0, .ref b1, .int 0, .ref b2, .ref b3, .ref b4, .int 0, .int 0, .int 0, .ref b5, .int 0, .ref b6, .ref b7, .int 0, .ref b8, .ref b9, .ref b10, .ref b11, .ref b12, .ref b13, .ref b14, .ref b15, .ref b16, .ref b17, .ref b18, .ref b19, .ref b20, .ref b21, .ref b22, .int 0, .ref b23, .ref b24, .ref mi, .int 0, .int 0, .int 0, .int 0, .int 0, .int 0, .int 0, .int 0, .int 0])), (mt, .inl (ct, 72, .inl (fun _ => 0))), (mi, .inl (cj, 20, .inl (fun _ => 0)))])) (va_Qi (fun (r : Int32) (u : Unit) => match u with | _ => r = vt_give k) (fun (u : Unit) (t : State) => match u with | _ => va_P (dC, dI) vcl [] t.heap ∧ va_K (dC, dI) vcl [] t ∧ va_D (va_A [(y, .inr (10, [.int 0, .ref mt, .int 0, .ref b0, .ref b1, .int 0, .ref b2, .ref b3, .ref b4, .int 0, .int 0, .int 0, .ref b5, .int 0, .ref b6, .ref b7, .int 0, .ref b8, .ref b9, .ref b10, .ref b11, .ref b12, .ref b13, .ref b14, .ref b15, .ref b16, .ref b17, .ref b18, .ref b19, .ref b20, .ref b21, .ref b22, .int 0, .ref b23, .ref b24, .ref mi, .int 0, .int 0, .int 0, .int 0, .int 0, .int 0, .int 0, .int 0, .int 0])), (mt, .inl (ct, 72, .inl (fun _ => 0))), (mi, .inl (cj, 20, .inl (fun _ => 0)))] sz) []) (va_A [(y, .inr (10, [.int 0, .ref mt, .int 0, .ref b0, .ref b1, .int 0, .ref b2, .ref b3, .ref b4, .int 0, .int 0, .int 0, .ref b5, .int 0, .ref b6, .ref b7, .int 0, .ref b8, .ref b9, .ref b10, .ref b11, .ref b12, .ref b13, .ref b14, .ref b15, .ref b16, .ref b17, .ref b18, .ref b19, .ref b20, .ref b21, .ref b22, .int 0, .ref b23, .ref b24, .ref mi, .int 0, .int 0, .int 0, .int 0, .int 0, .int 0, .int 0, .int 0, .int 0])), (mt, .inl (ct, 72, .inl (fun _ => 0))), (mi, .inl (cj, 20, .inl (fun _ => 0)))] sz)) 0 0 (va_A [(y, .inr (10, [.int 0, .ref mt, .int 0, .ref b0, .ref b1, .int 0, .ref b2, .ref b3, .ref b4, .int 0, .int 0, .int 0, .ref b5, .int 0, .ref b6, .ref b7, .int 0, .ref b8, .ref b9, .ref b10, .ref b11, .ref b12, .ref b13, .ref b14, .ref b15, .ref b16, .ref b17, .ref b18, .ref b19, .ref b20, .ref b21, .ref b22, .int 0, .ref b23, .ref b24, .ref mi, .int 0, .int 0, .int 0, .int 0, .int 0, .int 0, .int 0, .int 0, .int 0])), (mt, .inl (ct, 72, .inl (fun _ => 0))), (mi, .inl (cj, 20, .inl (fun _ => 0)))] sz) := by
  refine Met.ofW (cc := prog_12_method_41_code) (maxL := 2) (ret := (some .boolean)) (by decide) rfl ?_
  intro p e s m args below meth c s₁ B hml hv
  obtain ⟨rfl, hsz, hB, hP, hK, hD0⟩ := hv
  have hx := B.exec
  have hb := B.bytes
  have hr := B.returns
  have hown : s.vm.findClass "BigRunnerModel" = some m.cls := findClass_of_methodNamed B.named
  have hlocks := B.notSynchronized
  subst hsz
  have hD := hD0.self (sz := s.heap.size)
  generalize hAe : va_A [(y, .inr (10, [.int 0, .ref mt, .int 0, .ref b0, .ref b1, .int 0, .ref b2, .ref b3, .ref b4, .int 0, .int 0, .int 0, .ref b5, .int 0, .ref b6, .ref b7, .int 0, .ref b8, .ref b9, .ref b10, .ref b11, .ref b12, .ref b13, .ref b14, .ref b15, .ref b16, .ref b17, .ref b18, .ref b19, .ref b20, .ref b21, .ref b22, .int 0, .ref b23, .ref b24, .ref mi, .int 0, .int 0, .int 0, .int 0, .int 0, .int 0, .int 0, .int 0, .int 0])), (mt, .inl (ct, 72, .inl (fun _ => 0))), (mi, .inl (cj, 20, .inl (fun _ => 0)))] s.heap.size = A at hD ⊢
  have hA : ∀ q : Nat, s.heap.size ≤ q → A q := fun q h => by rw [← hAe]; exact Or.inr h
  have hS : va_S A s.heap s.heap [] := va_S.rf
  have hP : va_P (dC, dI) vcl [(y, .inr (10, [.int 0, .ref mt, .int 0, .ref b0, .ref b1, .int 0, .ref b2, .ref b3, .ref b4, .int 0, .int 0, .int 0, .ref b5, .int 0, .ref b6, .ref b7, .int 0, .ref b8, .ref b9, .ref b10, .ref b11, .ref b12, .ref b13, .ref b14, .ref b15, .ref b16, .ref b17, .ref b18, .ref b19, .ref b20, .ref b21, .ref b22, .int 0, .ref b23, .ref b24, .ref mi, .int 0, .int 0, .int 0, .int 0, .int 0, .int 0, .int 0, .int 0, .int 0])), (mt, .inl (ct, 72, .inl (fun _ => 0))), (mi, .inl (cj, 20, .inl (fun _ => 0)))] s.heap := hP
  have hl := lv_entry ([.ref y, .int k]) (n := 2) (Nat.le_of_ble_eq_true rfl)
  rw [lg_entry_eq]
  generalize (lg_sl ([.ref y, .int k]) ++ List.replicate (2 - (lg_sl ([.ref y, .int k])).length) Slot.unset).toArray = ls at hl ⊢
  have hl : lv_has ls 2 [(0, .ref y), (1, .int k)] := hl
  refine lv_aload_n hx hb d_M_give_0 rfl (lv_at hl 0 rfl) ?_
  refine lv_iconst (v := 0) hx hb d_M_give_1 (by decide) ?_
  refine va_put (D := (dC, dI)) (ci := 10) (v := .int 0) (ty := .int) (C := "BigRunnerModel") (T := FT10) (N := 45) hx hb (hw10 hB _) (fun _ h9 => h9) TY10 ok10 nm10 hown hK hP hD hS 0 rfl rfl 0 (by decide) (wd_947 hB _) (fun _ h9 => h9) rfl (by decide +kernel) rfl rfl (Nat.le_of_ble_eq_true rfl) d_M_give_2 (fun H locs hP hD hS => ?_)
  have hP : va_P (dC, dI) vcl [(y, .inr (10, [.int 0, .ref mt, .int 0, .ref b0, .ref b1, .int 0, .ref b2, .ref b3, .ref b4, .int 0, .int 0, .int 0, .ref b5, .int 0, .ref b6, .ref b7, .int 0, .ref b8, .ref b9, .ref b10, .ref b11, .ref b12, .ref b13, .ref b14, .ref b15, .ref b16, .ref b17, .ref b18, .ref b19, .ref b20, .ref b21, .ref b22, .int 0, .ref b23, .ref b24, .ref mi, .int 0, .int 0, .int 0, .int 0, .int 0, .int 0, .int 0, .int 0, .int 0])), (mt, .inl (ct, 72, .inl (fun _ => 0))), (mi, .inl (cj, 20, .inl (fun _ => 0)))] H := hP
  have hD : va_D A [(y, .inr (10, [.int 0, .ref mt, .int 0, .ref b0, .ref b1, .int 0, .ref b2, .ref b3, .ref b4, .int 0, .int 0, .int 0, .ref b5, .int 0, .ref b6, .ref b7, .int 0, .ref b8, .ref b9, .ref b10, .ref b11, .ref b12, .ref b13, .ref b14, .ref b15, .ref b16, .ref b17, .ref b18, .ref b19, .ref b20, .ref b21, .ref b22, .int 0, .ref b23, .ref b24, .ref mi, .int 0, .int 0, .int 0, .int 0, .int 0, .int 0, .int 0, .int 0, .int 0])), (mt, .inl (ct, 72, .inl (fun _ => 0))), (mi, .inl (cj, 20, .inl (fun _ => 0)))] := hD
  refine lv_iload_n hx hb d_M_give_5 rfl (lv_at hl 1 rfl) ?_
  refine lv_ldcw hx hb hown (wd_1194 hB _) d_M_give_6 ?_
  refine lv_icmp_lt (tgt := 28) hx hb d_M_give_9 (by decide) (fun h1 => ?_) (fun h1 => ?_)
  · skip
    refine lv_iconst (v := 0) hx hb d_M_give_28 (by decide) ?_
    have hP9 := hP.sub (ws' := []) [] rfl
    have hD9 := hD.sub (ws' := []) [] (by decide) rfl
    have hK9 := hK.sub (tys' := []) [] rfl
    refine W.widen (k := 0) (n := 0) (by omega) (by omega) ?_
    exact W.zret (v := 0) (ty := .boolean) hx hb hr rfl (fun t ht hW => ⟨⟨0, (), rfl, (by simp [vt_give, h1]), by rw [ht]; exact hP9, va_K.moved hW.alike hK9, hD9⟩, hS.F ht⟩) hS.2.2 d_M_give_29
  · skip
    refine lv_iload_n hx hb d_M_give_12 rfl (lv_at hl 1 rfl) ?_
    refine lv_ldcw hx hb hown (wd_1195 hB _) d_M_give_13 ?_
    refine lv_icmp_gt (tgt := 28) hx hb d_M_give_16 (by decide) (fun h2 => ?_) (fun h2 => ?_)
    · skip
      refine lv_iconst (v := 0) hx hb d_M_give_28 (by decide) ?_
      have hP9 := hP.sub (ws' := []) [] rfl
      have hD9 := hD.sub (ws' := []) [] (by decide) rfl
      have hK9 := hK.sub (tys' := []) [] rfl
      refine W.widen (k := 0) (n := 0) (by omega) (by omega) ?_
      exact W.zret (v := 0) (ty := .boolean) hx hb hr rfl (fun t ht hW => ⟨⟨0, (), rfl, (by simp [vt_give, h1, h2]), by rw [ht]; exact hP9, va_K.moved hW.alike hK9, hD9⟩, hS.F ht⟩) hS.2.2 d_M_give_29
    · skip
      refine lv_aload_n hx hb d_M_give_19 rfl (lv_at hl 0 rfl) ?_
      refine va_get (D := (dC, dI)) (ci := 10) (v := .int 0) (C := "BigRunnerModel") (T := FT10) (N := 45) hx hb (hw10 hB _) (fun _ h9 => h9) hown hK hP 0 rfl rfl 36 (by decide) (wd_983 hB _) (fun _ h9 => h9) rfl d_M_give_20 ?_
      refine lv_bipush (v := 20) hx hb d_M_give_23 (by decide) ?_
      refine lv_icmp_ne (tgt := 30) hx hb d_M_give_25 (by decide) (fun _ => ?_) (fun hq => absurd hq (by decide))
      refine lv_aload_n hx hb d_M_give_30 rfl (lv_at hl 0 rfl) ?_
      refine va_get (D := (dC, dI)) (ci := 10) (v := .ref mi) (C := "BigRunnerModel") (T := FT10) (N := 45) hx hb (hw10 hB _) (fun _ h9 => h9) hown hK hP 0 rfl rfl 35 (by decide) (wd_982 hB _) (fun _ h9 => h9) rfl d_M_give_31 ?_
      refine lv_aload_n hx hb d_M_give_34 rfl (lv_at hl 0 rfl) ?_
      refine va_get (D := (dC, dI)) (ci := 10) (v := .int 0) (C := "BigRunnerModel") (T := FT10) (N := 45) hx hb (hw10 hB _) (fun _ h9 => h9) hown hK hP 0 rfl rfl 36 (by decide) (wd_983 hB _) (fun _ h9 => h9) rfl d_M_give_35 ?_
      refine lv_iload_n hx hb d_M_give_38 rfl (lv_at hl 1 rfl) ?_
      refine va_iast (D := (dC, dI)) hx hb hK hP hD hS 2 1 rfl rfl (vp_in_nI (n := 0) (by decide) (by decide)) d_M_give_39 (fun H locs hP hD hS => ?_)
      have hP : va_P (dC, dI) vcl [(y, .inr (10, [.int 0, .ref mt, .int 0, .ref b0, .ref b1, .int 0, .ref b2, .ref b3, .ref b4, .int 0, .int 0, .int 0, .ref b5, .int 0, .ref b6, .ref b7, .int 0, .ref b8, .ref b9, .ref b10, .ref b11, .ref b12, .ref b13, .ref b14, .ref b15, .ref b16, .ref b17, .ref b18, .ref b19, .ref b20, .ref b21, .ref b22, .int 0, .ref b23, .ref b24, .ref mi, .int 0, .int 0, .int 0, .int 0, .int 0, .int 0, .int 0, .int 0, .int 0])), (mt, .inl (ct, 72, .inl (fun _ => 0))), (mi, .inl (cj, 20, .inl (upd (fun _ => 0) (0 : Int32).toNatClampNeg k)))] H := hP
      have hD : va_D A [(y, .inr (10, [.int 0, .ref mt, .int 0, .ref b0, .ref b1, .int 0, .ref b2, .ref b3, .ref b4, .int 0, .int 0, .int 0, .ref b5, .int 0, .ref b6, .ref b7, .int 0, .ref b8, .ref b9, .ref b10, .ref b11, .ref b12, .ref b13, .ref b14, .ref b15, .ref b16, .ref b17, .ref b18, .ref b19, .ref b20, .ref b21, .ref b22, .int 0, .ref b23, .ref b24, .ref mi, .int 0, .int 0, .int 0, .int 0, .int 0, .int 0, .int 0, .int 0, .int 0])), (mt, .inl (ct, 72, .inl (fun _ => 0))), (mi, .inl (cj, 20, .inl (upd (fun _ => 0) (0 : Int32).toNatClampNeg k)))] := hD
      refine lv_aload_n hx hb d_M_give_40 rfl (lv_at hl 0 rfl) ?_
      refine lv_dup hx hb d_M_give_41 rfl ?_
      refine va_get (D := (dC, dI)) (ci := 10) (v := .int 0) (C := "BigRunnerModel") (T := FT10) (N := 45) hx hb (hw10 hB _) (fun _ h9 => h9) hown hK hP 0 rfl rfl 36 (by decide) (wd_983 hB _) (fun _ h9 => h9) rfl d_M_give_42 ?_
      refine lv_iconst (v := 1) hx hb d_M_give_45 (by decide) ?_
      refine lv_iadd hx hb d_M_give_46 ?_
      refine lv_topi (fun z_ hz_ => ?_)
      have hz_ : z_ = 1 := hz_.trans (by decide)
      subst hz_
      refine va_put (D := (dC, dI)) (ci := 10) (v := .int 1) (ty := .int) (C := "BigRunnerModel") (T := FT10) (N := 45) hx hb (hw10 hB _) (fun _ h9 => h9) TY10 ok10 nm10 hown hK hP hD hS 0 rfl rfl 36 (by decide) (wd_983 hB _) (fun _ h9 => h9) rfl (by decide +kernel) rfl rfl (Nat.le_of_ble_eq_true rfl) d_M_give_47 (fun H locs hP hD hS => ?_)
      have hP : va_P (dC, dI) vcl [(y, .inr (10, [.int 0, .ref mt, .int 0, .ref b0, .ref b1, .int 0, .ref b2, .ref b3, .ref b4, .int 0, .int 0, .int 0, .ref b5, .int 0, .ref b6, .ref b7, .int 0, .ref b8, .ref b9, .ref b10, .ref b11, .ref b12, .ref b13, .ref b14, .ref b15, .ref b16, .ref b17, .ref b18, .ref b19, .ref b20, .ref b21, .ref b22, .int 0, .ref b23, .ref b24, .ref mi, .int 1, .int 0, .int 0, .int 0, .int 0, .int 0, .int 0, .int 0, .int 0])), (mt, .inl (ct, 72, .inl (fun _ => 0))), (mi, .inl (cj, 20, .inl (upd (fun _ => 0) (0 : Int32).toNatClampNeg k)))] H := hP
      have hD : va_D A [(y, .inr (10, [.int 0, .ref mt, .int 0, .ref b0, .ref b1, .int 0, .ref b2, .ref b3, .ref b4, .int 0, .int 0, .int 0, .ref b5, .int 0, .ref b6, .ref b7, .int 0, .ref b8, .ref b9, .ref b10, .ref b11, .ref b12, .ref b13, .ref b14, .ref b15, .ref b16, .ref b17, .ref b18, .ref b19, .ref b20, .ref b21, .ref b22, .int 0, .ref b23, .ref b24, .ref mi, .int 1, .int 0, .int 0, .int 0, .int 0, .int 0, .int 0, .int 0, .int 0])), (mt, .inl (ct, 72, .inl (fun _ => 0))), (mi, .inl (cj, 20, .inl (upd (fun _ => 0) (0 : Int32).toNatClampNeg k)))] := hD
      refine lv_iconst (v := 1) hx hb d_M_give_50 (by decide) ?_
      have hP9 := hP.sub (ws' := []) [] rfl
      have hD9 := hD.sub (ws' := []) [] (by decide) rfl
      have hK9 := hK.sub (tys' := []) [] rfl
      refine W.widen (k := 0) (n := 0) (by omega) (by omega) ?_
      exact W.zret (v := 1) (ty := .boolean) hx hb hr rfl (fun t ht hW => ⟨⟨1, (), rfl, (by simp [vt_give, h1, h2]), by rw [ht]; exact hP9, va_K.moved hW.alike hK9, hD9⟩, hS.F ht⟩) hS.2.2 d_M_give_51
set_option maxHeartbeats 4000000 in
set_option maxRecDepth 100000 in
theorem c_M_here (l : Launch) (dC : Nat → ClassId) (dI : Nat → Nat → Nat) (sz : Nat) (y : Nat) (mt : Nat) (ct : ClassId) (mi : Nat) (cj : ClassId) (b0 : Nat) (b1 : Nat) (b2 : Nat) (b3 : Nat) (b4 : Nat) (b5 : Nat) (b6 : Nat) (b7 : Nat) (b8 : Nat) (b9 : Nat) (b10 : Nat) (b11 : Nat) (b12 : Nat) (b13 : Nat) (b14 : Nat) (b15 : Nat) (b16 : Nat) (b17 : Nat) (b18 : Nat) (b19 : Nat) (b20 : Nat) (b21 : Nat) (b22 : Nat) (b23 : Nat) (b24 : Nat) : Met l ⟨"BigRunnerModel", "here", "()C"⟩ [Cond.code ⟨"BigRunnerModel", "here", "()C"⟩ prog_12_method_3_code 1 (some .char)] ({ frames := 0, cells := 0, slots := 0, locals := 0 }) (va_Pc [.ref y] (fun U => U.heap.size = sz ∧ TB U ∧ va_P (dC, dI) vcl [(y, .inr (10, [.int 0, .ref mt, .int 0, .ref b0, .ref b1, .int 0, .ref b2, .ref b3, .ref b4, .int 0, .int 0, .int 1, .ref b5, .int 0, .ref b6, .ref b7, .int 0, .ref b8, .ref b9, .ref b10, .ref b11, .ref b12, .ref b13, .ref b14, .ref b15, .ref b16, .ref b17, .ref b18, .ref b19, .ref b20, .ref b21, .ref b22, .int 0, .ref b23, .ref b24, .ref mi, .int 0, .int 0, .int 0, .int 0, .int 0, .int 0, .int 0, .int 0, .int 0]))] U.heap ∧ va_K (dC, dI) vcl [] U ∧ va_D (fun _ => True) [(y, .inr (10, [.int 0, .ref mt, .int 0, .ref b0, .ref b1, .int 0, .ref b2, .ref b3, .ref b4, .int 0, .int 0, .int 1, .ref b5, .int 0, .ref b6, .ref b7, .int 0, .ref b8, .ref b9, .ref b10, .ref b11, .ref b12, .ref b13, .ref b14, .ref b15, .ref b16, .ref b17, .ref b18, .ref b19, .ref b20, .ref b21, .ref b22, .int 0, .ref b23, .ref b24, .ref mi, .int 0, .int 0, .int 0, .int 0, .int 0, .int 0, .int 0, .int 0, .int 0]))])) (va_Qi (fun (r : Int32) (u : Unit) => match u with | _ => r = 10) (fun (u : Unit) (t : State) => match u with | _ => va_P (dC, dI) vcl [(y, .inr (10, [.int 0, .ref mt, .int 0, .ref b0, .ref b1, .int 0, .ref b2, .ref b3, .ref b4, .int 0, .int 0, .int 1, .ref b5, .int 0, .ref b6, .ref b7, .int 0, .ref b8, .ref b9, .ref b10, .ref b11, .ref b12, .ref b13, .ref b14, .ref b15, .ref b16, .ref b17, .ref b18, .ref b19, .ref b20, .ref b21, .ref b22, .int 0, .ref b23, .ref b24, .ref mi, .int 0, .int 0, .int 0, .int 0, .int 0, .int 0, .int 0, .int 0, .int 0]))] t.heap ∧ va_K (dC, dI) vcl [] t ∧ va_D (va_A [(y, .inr (10, [.int 0, .ref mt, .int 0, .ref b0, .ref b1, .int 0, .ref b2, .ref b3, .ref b4, .int 0, .int 0, .int 1, .ref b5, .int 0, .ref b6, .ref b7, .int 0, .ref b8, .ref b9, .ref b10, .ref b11, .ref b12, .ref b13, .ref b14, .ref b15, .ref b16, .ref b17, .ref b18, .ref b19, .ref b20, .ref b21, .ref b22, .int 0, .ref b23, .ref b24, .ref mi, .int 0, .int 0, .int 0, .int 0, .int 0, .int 0, .int 0, .int 0, .int 0]))] sz) [(y, .inr (10, [.int 0, .ref mt, .int 0, .ref b0, .ref b1, .int 0, .ref b2, .ref b3, .ref b4, .int 0, .int 0, .int 1, .ref b5, .int 0, .ref b6, .ref b7, .int 0, .ref b8, .ref b9, .ref b10, .ref b11, .ref b12, .ref b13, .ref b14, .ref b15, .ref b16, .ref b17, .ref b18, .ref b19, .ref b20, .ref b21, .ref b22, .int 0, .ref b23, .ref b24, .ref mi, .int 0, .int 0, .int 0, .int 0, .int 0, .int 0, .int 0, .int 0, .int 0]))]) (va_A [(y, .inr (10, [.int 0, .ref mt, .int 0, .ref b0, .ref b1, .int 0, .ref b2, .ref b3, .ref b4, .int 0, .int 0, .int 1, .ref b5, .int 0, .ref b6, .ref b7, .int 0, .ref b8, .ref b9, .ref b10, .ref b11, .ref b12, .ref b13, .ref b14, .ref b15, .ref b16, .ref b17, .ref b18, .ref b19, .ref b20, .ref b21, .ref b22, .int 0, .ref b23, .ref b24, .ref mi, .int 0, .int 0, .int 0, .int 0, .int 0, .int 0, .int 0, .int 0, .int 0]))] sz)) 0 0 (va_A [(y, .inr (10, [.int 0, .ref mt, .int 0, .ref b0, .ref b1, .int 0, .ref b2, .ref b3, .ref b4, .int 0, .int 0, .int 1, .ref b5, .int 0, .ref b6, .ref b7, .int 0, .ref b8, .ref b9, .ref b10, .ref b11, .ref b12, .ref b13, .ref b14, .ref b15, .ref b16, .ref b17, .ref b18, .ref b19, .ref b20, .ref b21, .ref b22, .int 0, .ref b23, .ref b24, .ref mi, .int 0, .int 0, .int 0, .int 0, .int 0, .int 0, .int 0, .int 0, .int 0]))] sz) := by
  refine Met.ofW (cc := prog_12_method_3_code) (maxL := 1) (ret := (some .char)) (by decide) rfl ?_
  intro p e s m args below meth c s₁ B hml hv
  obtain ⟨rfl, hsz, hB, hP, hK, hD0⟩ := hv
  have hx := B.exec
  have hb := B.bytes
  have hr := B.returns
  have hown : s.vm.findClass "BigRunnerModel" = some m.cls := findClass_of_methodNamed B.named
  have hlocks := B.notSynchronized
  subst hsz
  have hD := hD0.self (sz := s.heap.size)
  generalize hAe : va_A [(y, .inr (10, [.int 0, .ref mt, .int 0, .ref b0, .ref b1, .int 0, .ref b2, .ref b3, .ref b4, .int 0, .int 0, .int 1, .ref b5, .int 0, .ref b6, .ref b7, .int 0, .ref b8, .ref b9, .ref b10, .ref b11, .ref b12, .ref b13, .ref b14, .ref b15, .ref b16, .ref b17, .ref b18, .ref b19, .ref b20, .ref b21, .ref b22, .int 0, .ref b23, .ref b24, .ref mi, .int 0, .int 0, .int 0, .int 0, .int 0, .int 0, .int 0, .int 0, .int 0]))] s.heap.size = A at hD ⊢
  have hA : ∀ q : Nat, s.heap.size ≤ q → A q := fun q h => by rw [← hAe]; exact Or.inr h
  have hS : va_S A s.heap s.heap [] := va_S.rf
  have hP : va_P (dC, dI) vcl [(y, .inr (10, [.int 0, .ref mt, .int 0, .ref b0, .ref b1, .int 0, .ref b2, .ref b3, .ref b4, .int 0, .int 0, .int 1, .ref b5, .int 0, .ref b6, .ref b7, .int 0, .ref b8, .ref b9, .ref b10, .ref b11, .ref b12, .ref b13, .ref b14, .ref b15, .ref b16, .ref b17, .ref b18, .ref b19, .ref b20, .ref b21, .ref b22, .int 0, .ref b23, .ref b24, .ref mi, .int 0, .int 0, .int 0, .int 0, .int 0, .int 0, .int 0, .int 0, .int 0]))] s.heap := hP
  have hl := lv_entry ([.ref y]) (n := 1) (Nat.le_of_ble_eq_true rfl)
  rw [lg_entry_eq]
  generalize (lg_sl ([.ref y]) ++ List.replicate (1 - (lg_sl ([.ref y])).length) Slot.unset).toArray = ls at hl ⊢
  have hl : lv_has ls 1 [(0, .ref y)] := hl
  refine lv_aload_n hx hb d_M_here_0 rfl (lv_at hl 0 rfl) ?_
  refine va_get (D := (dC, dI)) (ci := 10) (v := .int 0) (C := "BigRunnerModel") (T := FT10) (N := 45) hx hb (hw10 hB _) (fun _ h9 => h9) hown hK hP 0 rfl rfl 10 (by decide) (wd_957 hB _) (fun _ h9 => h9) rfl d_M_here_1 ?_
  refine lv_aload_n hx hb d_M_here_4 rfl (lv_at hl 0 rfl) ?_
  refine va_get (D := (dC, dI)) (ci := 10) (v := .int 0) (C := "BigRunnerModel") (T := FT10) (N := 45) hx hb (hw10 hB _) (fun _ h9 => h9) hown hK hP 0 rfl rfl 2 (by decide) (wd_949 hB _) (fun _ h9 => h9) rfl d_M_here_5 ?_
  refine lv_icmp_ge (tgt := 23) hx hb d_M_here_8 (by decide) (fun _ => ?_) (fun hq => absurd (by decide) hq)
  refine lv_bipush (v := 10) hx hb d_M_here_23 (by decide) ?_
  have hP9 := hP.sub (ws' := [(y, .inr (10, [.int 0, .ref mt, .int 0, .ref b0, .ref b1, .int 0, .ref b2, .ref b3, .ref b4, .int 0, .int 0, .int 1, .ref b5, .int 0, .ref b6, .ref b7, .int 0, .ref b8, .ref b9, .ref b10, .ref b11, .ref b12, .ref b13, .ref b14, .ref b15, .ref b16, .ref b17, .ref b18, .ref b19, .ref b20, .ref b21, .ref b22, .int 0, .ref b23, .ref b24, .ref mi, .int 0, .int 0, .int 0, .int 0, .int 0, .int 0, .int 0, .int 0, .int 0]))]) [0] rfl
  have hD9 := hD.sub (ws' := [(y, .inr (10, [.int 0, .ref mt, .int 0, .ref b0, .ref b1, .int 0, .ref b2, .ref b3, .ref b4, .int 0, .int 0, .int 1, .ref b5, .int 0, .ref b6, .ref b7, .int 0, .ref b8, .ref b9, .ref b10, .ref b11, .ref b12, .ref b13, .ref b14, .ref b15, .ref b16, .ref b17, .ref b18, .ref b19, .ref b20, .ref b21, .ref b22, .int 0, .ref b23, .ref b24, .ref mi, .int 0, .int 0, .int 0, .int 0, .int 0, .int 0, .int 0, .int 0, .int 0]))]) [0] (by decide) rfl
  have hK9 := hK.sub (tys' := []) [] rfl
  refine W.widen (k := 0) (n := 0) (by omega) (by omega) ?_
  exact W.zret (v := 10) (ty := .char) hx hb hr rfl (fun t ht hW => ⟨⟨10, (), rfl, rfl, by rw [ht]; exact hP9, va_K.moved hW.alike hK9, hD9⟩, hS.F ht⟩) hS.2.2 d_M_here_25
set_option maxHeartbeats 4000000 in
set_option maxRecDepth 100000 in
theorem c_M_isName (l : Launch) (dC : Nat → ClassId) (dI : Nat → Nat → Nat) (sz : Nat) : Met l ⟨"BigRunnerModel", "isName", "(C)Z"⟩ [Cond.code ⟨"BigRunnerModel", "isName", "(C)Z"⟩ prog_12_method_6_code 1 (some .boolean)] ({ frames := 0, cells := 0, slots := 0, locals := 0 }) (va_Pc [.int 10] (fun U => U.heap.size = sz ∧ TB U ∧ va_P (dC, dI) vcl [] U.heap ∧ va_K (dC, dI) vcl [] U ∧ va_D (fun _ => True) [])) (va_Qi (fun (r : Int32) (u : Unit) => match u with | _ => r = 0) (fun (u : Unit) (t : State) => match u with | _ => va_P (dC, dI) vcl [] t.heap ∧ va_K (dC, dI) vcl [] t ∧ va_D (va_A [] sz) []) (va_A [] sz)) 0 0 (va_A [] sz) := by
  refine Met.ofW (cc := prog_12_method_6_code) (maxL := 1) (ret := (some .boolean)) (by decide) rfl ?_
  intro p e s m args below meth c s₁ B hml hv
  obtain ⟨rfl, hsz, hB, hP, hK, hD0⟩ := hv
  have hx := B.exec
  have hb := B.bytes
  have hr := B.returns
  have hown : s.vm.findClass "BigRunnerModel" = some m.cls := findClass_of_methodNamed B.named
  have hlocks := B.notSynchronized
  subst hsz
  have hD := hD0.self (sz := s.heap.size)
  generalize hAe : va_A [] s.heap.size = A at hD ⊢
  have hA : ∀ q : Nat, s.heap.size ≤ q → A q := fun q h => by rw [← hAe]; exact Or.inr h
  have hS : va_S A s.heap s.heap [] := va_S.rf
  have hP : va_P (dC, dI) vcl [] s.heap := hP
  have hl := lv_entry ([.int 10]) (n := 1) (Nat.le_of_ble_eq_true rfl)
  rw [lg_entry_eq]
  generalize (lg_sl ([.int 10]) ++ List.replicate (1 - (lg_sl ([.int 10])).length) Slot.unset).toArray = ls at hl ⊢
  have hl : lv_has ls 1 [(0, .int 10)] := hl
  refine lv_iload_n hx hb d_M_isName_0 rfl (lv_at hl 0 rfl) ?_
  refine lv_bipush (v := 97) hx hb d_M_isName_1 (by decide) ?_
  refine lv_icmp_lt (tgt := 16) hx hb d_M_isName_3 (by decide) (fun _ => ?_) (fun hq => absurd (by decide) hq)
  refine lv_iconst (v := 0) hx hb d_M_isName_16 (by decide) ?_
  have hP9 := hP.sub (ws' := []) [] rfl
  have hD9 := hD.sub (ws' := []) [] (by decide) rfl
  have hK9 := hK.sub (tys' := []) [] rfl
  refine W.widen (k := 0) (n := 0) (by omega) (by omega) ?_
  exact W.zret (v := 0) (ty := .boolean) hx hb hr rfl (fun t ht hW => ⟨⟨0, (), rfl, rfl, by rw [ht]; exact hP9, va_K.moved hW.alike hK9, hD9⟩, hS.F ht⟩) hS.2.2 d_M_isName_17
set_option maxHeartbeats 4000000 in
set_option maxRecDepth 100000 in
theorem c_M_statement (l : Launch) (dC : Nat → ClassId) (dI : Nat → Nat → Nat) (sz : Nat) (y : Nat) (mt : Nat) (ct : ClassId) (mi : Nat) (cj : ClassId) (b0 : Nat) (b1 : Nat) (b2 : Nat) (b3 : Nat) (b4 : Nat) (b5 : Nat) (b6 : Nat) (b7 : Nat) (b8 : Nat) (b9 : Nat) (b10 : Nat) (b11 : Nat) (b12 : Nat) (b13 : Nat) (b14 : Nat) (b15 : Nat) (b16 : Nat) (b17 : Nat) (b18 : Nat) (b19 : Nat) (b20 : Nat) (b21 : Nat) (b22 : Nat) (b23 : Nat) (b24 : Nat) : Met l ⟨"BigRunnerModel", "statement", "()Z"⟩ [Cond.code ⟨"BigRunnerModel", "statement", "()Z"⟩ prog_12_method_12_code 3 (some .boolean)] ({ frames := 1, cells := 0, slots := 0, locals := 20 }) (va_Pc [.ref y] (fun U => U.heap.size = sz ∧ TB U ∧ va_P (dC, dI) vcl [(y, .inr (10, [.int 0, .ref mt, .int 0, .ref b0, .ref b1, .int 0, .ref b2, .ref b3, .ref b4, .int 0, .int 0, .int 1, .ref b5, .int 0, .ref b6, .ref b7, .int 0, .ref b8, .ref b9, .ref b10, .ref b11, .ref b12, .ref b13, .ref b14, .ref b15, .ref b16, .ref b17, .ref b18, .ref b19, .ref b20, .ref b21, .ref b22, .int 0, .ref b23, .ref b24, .ref mi, .int 0, .int 0, .int 0, .int 0, .int 0, .int 0, .int 0, .int 0, .int 0]))] U.heap ∧ va_K (dC, dI) vcl [] U ∧ va_D (fun _ => True) [(y, .inr (10, [.int 0, .ref mt, .int 0, .ref b0, .ref b1, .int 0, .ref b2, .ref b3, .ref b4, .int 0, .int 0, .int 1, .ref b5, .int 0, .ref b6, .ref b7, .int 0, .ref b8, .ref b9, .ref b10, .ref b11, .ref b12, .ref b13, .ref b14, .ref b15, .ref b16, .ref b17, .ref b18, .ref b19, .ref b20, .ref b21, .ref b22, .int 0, .ref b23, .ref b24, .ref mi, .int 0, .int 0, .int 0, .int 0, .int 0, .int 0, .int 0, .int 0, .int 0]))])) (va_Qi (fun (r : Int32) (u : Unit) => match u with | _ => r = 0) (fun (u : Unit) (t : State) => match u with | _ => va_P (dC, dI) vcl [(y, .inr (10, [.int 0, .ref mt, .int 0, .ref b0, .ref b1, .int 0, .ref b2, .ref b3, .ref b4, .int 0, .int 1, .int 1, .ref b5, .int 0, .ref b6, .ref b7, .int 0, .ref b8, .ref b9, .ref b10, .ref b11, .ref b12, .ref b13, .ref b14, .ref b15, .ref b16, .ref b17, .ref b18, .ref b19, .ref b20, .ref b21, .ref b22, .int 0, .ref b23, .ref b24, .ref mi, .int 0, .int 0, .int 0, .int 0, .int 0, .int 0, .int 0, .int 0, .int 0]))] t.heap ∧ va_K (dC, dI) vcl [] t ∧ va_D (va_A [(y, .inr (10, [.int 0, .ref mt, .int 0, .ref b0, .ref b1, .int 0, .ref b2, .ref b3, .ref b4, .int 0, .int 0, .int 1, .ref b5, .int 0, .ref b6, .ref b7, .int 0, .ref b8, .ref b9, .ref b10, .ref b11, .ref b12, .ref b13, .ref b14, .ref b15, .ref b16, .ref b17, .ref b18, .ref b19, .ref b20, .ref b21, .ref b22, .int 0, .ref b23, .ref b24, .ref mi, .int 0, .int 0, .int 0, .int 0, .int 0, .int 0, .int 0, .int 0, .int 0]))] sz) [(y, .inr (10, [.int 0, .ref mt, .int 0, .ref b0, .ref b1, .int 0, .ref b2, .ref b3, .ref b4, .int 0, .int 1, .int 1, .ref b5, .int 0, .ref b6, .ref b7, .int 0, .ref b8, .ref b9, .ref b10, .ref b11, .ref b12, .ref b13, .ref b14, .ref b15, .ref b16, .ref b17, .ref b18, .ref b19, .ref b20, .ref b21, .ref b22, .int 0, .ref b23, .ref b24, .ref mi, .int 0, .int 0, .int 0, .int 0, .int 0, .int 0, .int 0, .int 0, .int 0]))]) (va_A [(y, .inr (10, [.int 0, .ref mt, .int 0, .ref b0, .ref b1, .int 0, .ref b2, .ref b3, .ref b4, .int 0, .int 0, .int 1, .ref b5, .int 0, .ref b6, .ref b7, .int 0, .ref b8, .ref b9, .ref b10, .ref b11, .ref b12, .ref b13, .ref b14, .ref b15, .ref b16, .ref b17, .ref b18, .ref b19, .ref b20, .ref b21, .ref b22, .int 0, .ref b23, .ref b24, .ref mi, .int 0, .int 0, .int 0, .int 0, .int 0, .int 0, .int 0, .int 0, .int 0]))] sz)) 0 0 (va_A [(y, .inr (10, [.int 0, .ref mt, .int 0, .ref b0, .ref b1, .int 0, .ref b2, .ref b3, .ref b4, .int 0, .int 0, .int 1, .ref b5, .int 0, .ref b6, .ref b7, .int 0, .ref b8, .ref b9, .ref b10, .ref b11, .ref b12, .ref b13, .ref b14, .ref b15, .ref b16, .ref b17, .ref b18, .ref b19, .ref b20, .ref b21, .ref b22, .int 0, .ref b23, .ref b24, .ref mi, .int 0, .int 0, .int 0, .int 0, .int 0, .int 0, .int 0, .int 0, .int 0]))] sz) := by
  refine Met.ofW (cc := prog_12_method_12_code) (maxL := 3) (ret := (some .boolean)) (by decide) rfl ?_
  intro p e s m args below meth c s₁ B hml hv
  obtain ⟨rfl, hsz, hB, hP, hK, hD0⟩ := hv
  have hx := B.exec
  have hb := B.bytes
  have hr := B.returns
  have hown : s.vm.findClass "BigRunnerModel" = some m.cls := findClass_of_methodNamed B.named
  have hlocks := B.notSynchronized
  subst hsz
  have hD := hD0.self (sz := s.heap.size)
  generalize hAe : va_A [(y, .inr (10, [.int 0, .ref mt, .int 0, .ref b0, .ref b1, .int 0, .ref b2, .ref b3, .ref b4, .int 0, .int 0, .int 1, .ref b5, .int 0, .ref b6, .ref b7, .int 0, .ref b8, .ref b9, .ref b10, .ref b11, .ref b12, .ref b13, .ref b14, .ref b15, .ref b16, .ref b17, .ref b18, .ref b19, .ref b20, .ref b21, .ref b22, .int 0, .ref b23, .ref b24, .ref mi, .int 0, .int 0, .int 0, .int 0, .int 0, .int 0, .int 0, .int 0, .int 0]))] s.heap.size = A at hD ⊢
  have hA : ∀ q : Nat, s.heap.size ≤ q → A q := fun q h => by rw [← hAe]; exact Or.inr h
  have hS : va_S A s.heap s.heap [] := va_S.rf
  have hP : va_P (dC, dI) vcl [(y, .inr (10, [.int 0, .ref mt, .int 0, .ref b0, .ref b1, .int 0, .ref b2, .ref b3, .ref b4, .int 0, .int 0, .int 1, .ref b5, .int 0, .ref b6, .ref b7, .int 0, .ref b8, .ref b9, .ref b10, .ref b11, .ref b12, .ref b13, .ref b14, .ref b15, .ref b16, .ref b17, .ref b18, .ref b19, .ref b20, .ref b21, .ref b22, .int 0, .ref b23, .ref b24, .ref mi, .int 0, .int 0, .int 0, .int 0, .int 0, .int 0, .int 0, .int 0, .int 0]))] s.heap := hP
  have hl := lv_entry ([.ref y]) (n := 3) (Nat.le_of_ble_eq_true rfl)
  rw [lg_entry_eq]
  generalize (lg_sl ([.ref y]) ++ List.replicate (3 - (lg_sl ([.ref y])).length) Slot.unset).toArray = ls at hl ⊢
  have hl : lv_has ls 3 [(0, .ref y)] := hl
  refine lv_aload_n hx hb d_M_statement_0 rfl (lv_at hl 0 rfl) ?_
  have hPc := hP.sub (ws' := [(y, .inr (10, [.int 0, .ref mt, .int 0, .ref b0, .ref b1, .int 0, .ref b2, .ref b3, .ref b4, .int 0, .int 0, .int 1, .ref b5, .int 0, .ref b6, .ref b7, .int 0, .ref b8, .ref b9, .ref b10, .ref b11, .ref b12, .ref b13, .ref b14, .ref b15, .ref b16, .ref b17, .ref b18, .ref b19, .ref b20, .ref b21, .ref b22, .int 0, .ref b23, .ref b24, .ref mi, .int 0, .int 0, .int 0, .int 0, .int 0, .int 0, .int 0, .int 0, .int 0]))]) [0] rfl
  have hDc := hD.sub (ws' := [(y, .inr (10, [.int 0, .ref mt, .int 0, .ref b0, .ref b1, .int 0, .ref b2, .ref b3, .ref b4, .int 0, .int 0, .int 1, .ref b5, .int 0, .ref b6, .ref b7, .int 0, .ref b8, .ref b9, .ref b10, .ref b11, .ref b12, .ref b13, .ref b14, .ref b15, .ref b16, .ref b17, .ref b18, .ref b19, .ref b20, .ref b21, .ref b22, .int 0, .ref b23, .ref b24, .ref mi, .int 0, .int 0, .int 0, .int 0, .int 0, .int 0, .int 0, .int 0, .int 0]))]) [0] (by decide) rfl
  have hKc := hK.sub (tys' := []) [] rfl
  have hFc := va_free (wc := [(y, .inr (10, [.int 0, .ref mt, .int 0, .ref b0, .ref b1, .int 0, .ref b2, .ref b3, .ref b4, .int 0, .int 0, .int 1, .ref b5, .int 0, .ref b6, .ref b7, .int 0, .ref b8, .ref b9, .ref b10, .ref b11, .ref b12, .ref b13, .ref b14, .ref b15, .ref b16, .ref b17, .ref b18, .ref b19, .ref b20, .ref b21, .ref b22, .int 0, .ref b23, .ref b24, .ref mi, .int 0, .int 0, .int 0, .int 0, .int 0, .int 0, .int 0, .int 0, .int 0]))]) hD hS hA [0] rfl
  refine va_calli (va_runV (C := "BigRunnerModel") (As := []) (rest := []) ⟨hx, hb, hml, hown, tb_nil⟩ (c_M_here l dC dI s.heap.size y mt ct mi cj b0 b1 b2 b3 b4 b5 b6 b7 b8 b9 b10 b11 b12 b13 b14 b15 b16 b17 b18 b19 b20 b21 b22 b23 b24) ⟨(callB_of 0 (tb_one (wd_1111 hB _)) tb_good1 rfl rfl rfl (wd_82 hB _) (wd_1108 hB _) (by decide +kernel) ⟨Nat.le_of_ble_eq_true rfl, Nat.le_of_ble_eq_true rfl⟩), (wd_1110 hB _), (wd_43 hB _)⟩ ⟨fun a U g mk q => by obtain ⟨q0, q1, qB, qP, qK, qD⟩ := q; exact ⟨q0, q1, TB.same (s := U) (U := U.calling g mk a) rfl qB, qP, va_K.moved (u := U) (U := U.calling g mk a) (Vm.Alike.refl U.vm) qK, qD⟩, va_recv hK hP (q0 := 0) (ci := 10) rfl rfl, fun U hU hW => ⟨rfl, by rw [hU], hB.moved hW, by rw [hU]; exact hPc, va_K.moved hW.alike hKc, hDc.weaken (fun _ _ _ _ => trivial)⟩⟩ rfl rfl hl.1 rfl (lv_room (Nat.le_of_ble_eq_true rfl)) d_M_statement_1 ⟨(Nat.le_of_ble_eq_true rfl), (Nat.le_of_ble_eq_true rfl)⟩) hS (fun q _ h => hFc q h) hFc (fun r_ u_ t H1 locs ht hvm hw_ hB1 hz1 hk1 hS => ?_)
  obtain ⟨hP1, hK1, hD1⟩ := hB1
  rw [ht] at hP1
  have hK1 := va_K.moved hvm.symm hK1
  try dsimp only at hw_
  obtain ⟨hP, hD⟩ := va_join (wr := []) (w1 := [(y, .inr (10, [.int 0, .ref mt, .int 0, .ref b0, .ref b1, .int 0, .ref b2, .ref b3, .ref b4, .int 0, .int 0, .int 1, .ref b5, .int 0, .ref b6, .ref b7, .int 0, .ref b8, .ref b9, .ref b10, .ref b11, .ref b12, .ref b13, .ref b14, .ref b15, .ref b16, .ref b17, .ref b18, .ref b19, .ref b20, .ref b21, .ref b22, .int 0, .ref b23, .ref b24, .ref mi, .int 0, .int 0, .int 0, .int 0, .int 0, .int 0, .int 0, .int 0, .int 0]))]) hP hD [0] [] rfl rfl (by decide) (by decide) hk1 hFc hP1 hD1
  have hK := (hK.sub (tys' := []) [] rfl).app hK1
  clear hk1 hFc hPc hDc hKc hP1 hD1 hK1 hz1 ht hvm
  generalize H1 = H at hP hS ⊢
  have hP : va_P (dC, dI) vcl [(y, .inr (10, [.int 0, .ref mt, .int 0, .ref b0, .ref b1, .int 0, .ref b2, .ref b3, .ref b4, .int 0, .int 0, .int 1, .ref b5, .int 0, .ref b6, .ref b7, .int 0, .ref b8, .ref b9, .ref b10, .ref b11, .ref b12, .ref b13, .ref b14, .ref b15, .ref b16, .ref b17, .ref b18, .ref b19, .ref b20, .ref b21, .ref b22, .int 0, .ref b23, .ref b24, .ref mi, .int 0, .int 0, .int 0, .int 0, .int 0, .int 0, .int 0, .int 0, .int 0]))] H := hP
  have hD : va_D A [(y, .inr (10, [.int 0, .ref mt, .int 0, .ref b0, .ref b1, .int 0, .ref b2, .ref b3, .ref b4, .int 0, .int 0, .int 1, .ref b5, .int 0, .ref b6, .ref b7, .int 0, .ref b8, .ref b9, .ref b10, .ref b11, .ref b12, .ref b13, .ref b14, .ref b15, .ref b16, .ref b17, .ref b18, .ref b19, .ref b20, .ref b21, .ref b22, .int 0, .ref b23, .ref b24, .ref mi, .int 0, .int 0, .int 0, .int 0, .int 0, .int 0, .int 0, .int 0, .int 0]))] := hD
  have hK : va_K (dC, dI) vcl [] s := hK
  refine W.widen (k := 0) (n := 0) (by omega) (by omega) ?_
  subst hw_
  refine lv_istore_n (lv' := [(1, .int 10), (0, .ref y)]) hx hb d_M_statement_4 rfl hl (by decide) rfl (fun ls hl => ?_)
  refine lv_aload_n hx hb d_M_statement_5 rfl (lv_at hl 1 rfl) ?_
  refine lv_dup hx hb d_M_statement_6 rfl ?_
  refine va_get (D := (dC, dI)) (ci := 10) (v := .int 0) (C := "BigRunnerModel") (T := FT10) (N := 45) hx hb (hw10 hB _) (fun _ h9 => h9) hown hK hP 0 rfl rfl 10 (by decide) (wd_957 hB _) (fun _ h9 => h9) rfl d_M_statement_7 ?_
  refine lv_iconst (v := 1) hx hb d_M_statement_10 (by decide) ?_
  refine lv_iadd hx hb d_M_statement_11 ?_
  refine lv_topi (fun z_ hz_ => ?_)
  have hz_ : z_ = 1 := hz_.trans (by decide)
  subst hz_
  refine va_put (D := (dC, dI)) (ci := 10) (v := .int 1) (ty := .int) (C := "BigRunnerModel") (T := FT10) (N := 45) hx hb (hw10 hB _) (fun _ h9 => h9) TY10 ok10 nm10 hown hK hP hD hS 0 rfl rfl 10 (by decide) (wd_957 hB _) (fun _ h9 => h9) rfl (by decide +kernel) rfl rfl (Nat.le_of_ble_eq_true rfl) d_M_statement_12 (fun H locs hP hD hS => ?_)
  have hP : va_P (dC, dI) vcl [(y, .inr (10, [.int 0, .ref mt, .int 0, .ref b0, .ref b1, .int 0, .ref b2, .ref b3, .ref b4, .int 0, .int 1, .int 1, .ref b5, .int 0, .ref b6, .ref b7, .int 0, .ref b8, .ref b9, .ref b10, .ref b11, .ref b12, .ref b13, .ref b14, .ref b15, .ref b16, .ref b17, .ref b18, .ref b19, .ref b20, .ref b21, .ref b22, .int 0, .ref b23, .ref b24, .ref mi, .int 0, .int 0, .int 0, .int 0, .int 0, .int 0, .int 0, .int 0, .int 0]))] H := hP
  have hD : va_D A [(y, .inr (10, [.int 0, .ref mt, .int 0, .ref b0, .ref b1, .int 0, .ref b2, .ref b3, .ref b4, .int 0, .int 1, .int 1, .ref b5, .int 0, .ref b6, .ref b7, .int 0, .ref b8, .ref b9, .ref b10, .ref b11, .ref b12, .ref b13, .ref b14, .ref b15, .ref b16, .ref b17, .ref b18, .ref b19, .ref b20, .ref b21, .ref b22, .int 0, .ref b23, .ref b24, .ref mi, .int 0, .int 0, .int 0, .int 0, .int 0, .int 0, .int 0, .int 0, .int 0]))] := hD
  refine lv_iload_n hx hb d_M_statement_15 rfl (lv_at hl 0 rfl) ?_
  refine lv_bipush (v := 63) hx hb d_M_statement_16 (by decide) ?_
  refine lv_icmp_ne (tgt := 51) hx hb d_M_statement_18 (by decide) (fun _ => ?_) (fun hq => absurd hq (by decide))
  refine lv_iload_n hx hb d_M_statement_51 rfl (lv_at hl 0 rfl) ?_
  refine lv_bipush (v := 91) hx hb d_M_statement_52 (by decide) ?_
  refine lv_icmp_eq (tgt := 63) hx hb d_M_statement_54 (by decide) (fun hq => absurd hq (by decide)) (fun _ => ?_)
  refine lv_iload_n hx hb d_M_statement_57 rfl (lv_at hl 0 rfl) ?_
  refine lv_bipush (v := 123) hx hb d_M_statement_58 (by decide) ?_
  refine lv_icmp_ne (tgt := 184) hx hb d_M_statement_60 (by decide) (fun _ => ?_) (fun hq => absurd hq (by decide))
  refine lv_iload_n hx hb d_M_statement_184 rfl (lv_at hl 0 rfl) ?_
  refine lv_bipush (v := 33) hx hb d_M_statement_185 (by decide) ?_
  refine lv_icmp_ne (tgt := 204) hx hb d_M_statement_187 (by decide) (fun _ => ?_) (fun hq => absurd hq (by decide))
  refine lv_iload_n hx hb d_M_statement_204 rfl (lv_at hl 0 rfl) ?_
  have hPc := hP.sub (ws' := []) [] rfl
  have hDc := hD.sub (ws' := []) [] (by decide) rfl
  have hKc := hK.sub (tys' := []) [] rfl
  have hFc := va_free (wc := []) hD hS hA [] rfl
  refine va_calli (va_runS (As := [.int 10]) (rest := []) ⟨hx, hb, hml, hown, tb_nil⟩ (c_M_isName l dC dI H.size) ⟨(callB_of 1 (tb_one (wd_1118 hB _)) tb_good1 rfl rfl rfl (wd_82 hB _) (wd_1116 hB _) (by decide +kernel) ⟨Nat.le_of_ble_eq_true rfl, Nat.le_of_ble_eq_true rfl⟩), (wd_1117 hB _)⟩ ⟨fun a U g mk q => by obtain ⟨q0, q1, qB, qP, qK, qD⟩ := q; exact ⟨q0, q1, TB.same (s := U) (U := U.calling g mk a) rfl qB, qP, va_K.moved (u := U) (U := U.calling g mk a) (Vm.Alike.refl U.vm) qK, qD⟩, fun U hU hW => ⟨rfl, by rw [hU], hB.moved hW, by rw [hU]; exact hPc, va_K.moved hW.alike hKc, hDc.weaken (fun _ _ _ _ => trivial)⟩⟩ rfl rfl hl.1 rfl (lv_room (Nat.le_of_ble_eq_true rfl)) d_M_statement_205 ⟨(Nat.le_of_ble_eq_true rfl), (Nat.le_of_ble_eq_true rfl)⟩) hS (fun q _ h => hFc q h) hFc (fun r_ u_ t H1 locs ht hvm hw_ hB1 hz1 hk1 hS => ?_)
  obtain ⟨hP1, hK1, hD1⟩ := hB1
  rw [ht] at hP1
  have hK1 := va_K.moved hvm.symm hK1
  try dsimp only at hw_
  obtain ⟨hP, hD⟩ := va_join (wr := [(y, .inr (10, [.int 0, .ref mt, .int 0, .ref b0, .ref b1, .int 0, .ref b2, .ref b3, .ref b4, .int 0, .int 1, .int 1, .ref b5, .int 0, .ref b6, .ref b7, .int 0, .ref b8, .ref b9, .ref b10, .ref b11, .ref b12, .ref b13, .ref b14, .ref b15, .ref b16, .ref b17, .ref b18, .ref b19, .ref b20, .ref b21, .ref b22, .int 0, .ref b23, .ref b24, .ref mi, .int 0, .int 0, .int 0, .int 0, .int 0, .int 0, .int 0, .int 0, .int 0]))]) (w1 := []) hP hD [] [0] rfl rfl (by decide) (by decide) hk1 hFc hP1 hD1
  have hK := (hK.sub (tys' := []) [] rfl).app hK1
  clear hk1 hFc hPc hDc hKc hP1 hD1 hK1 hz1 ht hvm
  generalize H1 = H at hP hS ⊢
  have hP : va_P (dC, dI) vcl [(y, .inr (10, [.int 0, .ref mt, .int 0, .ref b0, .ref b1, .int 0, .ref b2, .ref b3, .ref b4, .int 0, .int 1, .int 1, .ref b5, .int 0, .ref b6, .ref b7, .int 0, .ref b8, .ref b9, .ref b10, .ref b11, .ref b12, .ref b13, .ref b14, .ref b15, .ref b16, .ref b17, .ref b18, .ref b19, .ref b20, .ref b21, .ref b22, .int 0, .ref b23, .ref b24, .ref mi, .int 0, .int 0, .int 0, .int 0, .int 0, .int 0, .int 0, .int 0, .int 0]))] H := hP
  have hD : va_D A [(y, .inr (10, [.int 0, .ref mt, .int 0, .ref b0, .ref b1, .int 0, .ref b2, .ref b3, .ref b4, .int 0, .int 1, .int 1, .ref b5, .int 0, .ref b6, .ref b7, .int 0, .ref b8, .ref b9, .ref b10, .ref b11, .ref b12, .ref b13, .ref b14, .ref b15, .ref b16, .ref b17, .ref b18, .ref b19, .ref b20, .ref b21, .ref b22, .int 0, .ref b23, .ref b24, .ref mi, .int 0, .int 0, .int 0, .int 0, .int 0, .int 0, .int 0, .int 0, .int 0]))] := hD
  have hK : va_K (dC, dI) vcl [] s := hK
  refine W.widen (k := 0) (n := 0) (by omega) (by omega) ?_
  subst hw_
  refine lv_if_eq (tgt := 220) hx hb d_M_statement_208 (by decide) (fun _ => ?_) (fun hq => absurd rfl hq)
  refine lv_iconst (v := 0) hx hb d_M_statement_220 (by decide) ?_
  have hP9 := hP.sub (ws' := [(y, .inr (10, [.int 0, .ref mt, .int 0, .ref b0, .ref b1, .int 0, .ref b2, .ref b3, .ref b4, .int 0, .int 1, .int 1, .ref b5, .int 0, .ref b6, .ref b7, .int 0, .ref b8, .ref b9, .ref b10, .ref b11, .ref b12, .ref b13, .ref b14, .ref b15, .ref b16, .ref b17, .ref b18, .ref b19, .ref b20, .ref b21, .ref b22, .int 0, .ref b23, .ref b24, .ref mi, .int 0, .int 0, .int 0, .int 0, .int 0, .int 0, .int 0, .int 0, .int 0]))]) [0] rfl
  have hD9 := hD.sub (ws' := [(y, .inr (10, [.int 0, .ref mt, .int 0, .ref b0, .ref b1, .int 0, .ref b2, .ref b3, .ref b4, .int 0, .int 1, .int 1, .ref b5, .int 0, .ref b6, .ref b7, .int 0, .ref b8, .ref b9, .ref b10, .ref b11, .ref b12, .ref b13, .ref b14, .ref b15, .ref b16, .ref b17, .ref b18, .ref b19, .ref b20, .ref b21, .ref b22, .int 0, .ref b23, .ref b24, .ref mi, .int 0, .int 0, .int 0, .int 0, .int 0, .int 0, .int 0, .int 0, .int 0]))]) [0] (by decide) rfl
  have hK9 := hK.sub (tys' := []) [] rfl
  refine W.widen (k := 0) (n := 0) (by omega) (by omega) ?_
  exact W.zret (v := 0) (ty := .boolean) hx hb hr rfl (fun t ht hW => ⟨⟨0, (), rfl, rfl, by rw [ht]; exact hP9, va_K.moved hW.alike hK9, hD9⟩, hS.F ht⟩) hS.2.2 d_M_statement_221
set_option maxHeartbeats 4000000 in
set_option maxRecDepth 100000 in
theorem c_M_reads (l : Launch) (dC : Nat → ClassId) (dI : Nat → Nat → Nat) (sz : Nat) (y : Nat) (mt : Nat) (ct : ClassId) (mi : Nat) (cj : ClassId) (b0 : Nat) (b1 : Nat) (b2 : Nat) (b3 : Nat) (b4 : Nat) (b5 : Nat) (b6 : Nat) (b7 : Nat) (b8 : Nat) (b9 : Nat) (b10 : Nat) (b11 : Nat) (b12 : Nat) (b13 : Nat) (b14 : Nat) (b15 : Nat) (b16 : Nat) (b17 : Nat) (b18 : Nat) (b19 : Nat) (b20 : Nat) (b21 : Nat) (b22 : Nat) (b23 : Nat) (b24 : Nat) : Met l ⟨"BigRunnerModel", "reads", "()Z"⟩ [Cond.code ⟨"BigRunnerModel", "reads", "()Z"⟩ prog_12_method_14_code 3 (some .boolean)] ({ frames := 2, cells := 0, slots := 0, locals := 42 }) (va_Pc [.ref y] (fun U => U.heap.size = sz ∧ TB U ∧ va_P (dC, dI) vcl [(y, .inr (10, [.int 0, .ref mt, .int 0, .ref b0, .ref b1, .int 0, .ref b2, .ref b3, .ref b4, .int 0, .int 0, .int 0, .ref b5, .int 0, .ref b6, .ref b7, .int 0, .ref b8, .ref b9, .ref b10, .ref b11, .ref b12, .ref b13, .ref b14, .ref b15, .ref b16, .ref b17, .ref b18, .ref b19, .ref b20, .ref b21, .ref b22, .int 0, .ref b23, .ref b24, .ref mi, .int 0, .int 0, .int 0, .int 0, .int 0, .int 0, .int 0, .int 0, .int 0]))] U.heap ∧ va_K (dC, dI) vcl [] U ∧ va_D (fun _ => True) [(y, .inr (10, [.int 0, .ref mt, .int 0, .ref b0, .ref b1, .int 0, .ref b2, .ref b3, .ref b4, .int 0, .int 0, .int 0, .ref b5, .int 0, .ref b6, .ref b7, .int 0, .ref b8, .ref b9, .ref b10, .ref b11, .ref b12, .ref b13, .ref b14, .ref b15, .ref b16, .ref b17, .ref b18, .ref b19, .ref b20, .ref b21, .ref b22, .int 0, .ref b23, .ref b24, .ref mi, .int 0, .int 0, .int 0, .int 0, .int 0, .int 0, .int 0, .int 0, .int 0]))])) (va_Qi (fun (r : Int32) (u : Unit) => match u with | _ => r = 0) (fun (u : Unit) (t : State) => match u with | _ => va_P (dC, dI) vcl [(y, .inr (10, [.int 0, .ref mt, .int 0, .ref b0, .ref b1, .int 0, .ref b2, .ref b3, .ref b4, .int 0, .int 1, .int 1, .ref b5, .int 0, .ref b6, .ref b7, .int 0, .ref b8, .ref b9, .ref b10, .ref b11, .ref b12, .ref b13, .ref b14, .ref b15, .ref b16, .ref b17, .ref b18, .ref b19, .ref b20, .ref b21, .ref b22, .int 0, .ref b23, .ref b24, .ref mi, .int 0, .int 0, .int 0, .int 0, .int 0, .int 0, .int 0, .int 0, .int 0]))] t.heap ∧ va_K (dC, dI) vcl [] t ∧ va_D (va_A [(y, .inr (10, [.int 0, .ref mt, .int 0, .ref b0, .ref b1, .int 0, .ref b2, .ref b3, .ref b4, .int 0, .int 0, .int 0, .ref b5, .int 0, .ref b6, .ref b7, .int 0, .ref b8, .ref b9, .ref b10, .ref b11, .ref b12, .ref b13, .ref b14, .ref b15, .ref b16, .ref b17, .ref b18, .ref b19, .ref b20, .ref b21, .ref b22, .int 0, .ref b23, .ref b24, .ref mi, .int 0, .int 0, .int 0, .int 0, .int 0, .int 0, .int 0, .int 0, .int 0]))] sz) [(y, .inr (10, [.int 0, .ref mt, .int 0, .ref b0, .ref b1, .int 0, .ref b2, .ref b3, .ref b4, .int 0, .int 1, .int 1, .ref b5, .int 0, .ref b6, .ref b7, .int 0, .ref b8, .ref b9, .ref b10, .ref b11, .ref b12, .ref b13, .ref b14, .ref b15, .ref b16, .ref b17, .ref b18, .ref b19, .ref b20, .ref b21, .ref b22, .int 0, .ref b23, .ref b24, .ref mi, .int 0, .int 0, .int 0, .int 0, .int 0, .int 0, .int 0, .int 0, .int 0]))]) (va_A [(y, .inr (10, [.int 0, .ref mt, .int 0, .ref b0, .ref b1, .int 0, .ref b2, .ref b3, .ref b4, .int 0, .int 0, .int 0, .ref b5, .int 0, .ref b6, .ref b7, .int 0, .ref b8, .ref b9, .ref b10, .ref b11, .ref b12, .ref b13, .ref b14, .ref b15, .ref b16, .ref b17, .ref b18, .ref b19, .ref b20, .ref b21, .ref b22, .int 0, .ref b23, .ref b24, .ref mi, .int 0, .int 0, .int 0, .int 0, .int 0, .int 0, .int 0, .int 0, .int 0]))] sz)) 0 0 (va_A [(y, .inr (10, [.int 0, .ref mt, .int 0, .ref b0, .ref b1, .int 0, .ref b2, .ref b3, .ref b4, .int 0, .int 0, .int 0, .ref b5, .int 0, .ref b6, .ref b7, .int 0, .ref b8, .ref b9, .ref b10, .ref b11, .ref b12, .ref b13, .ref b14, .ref b15, .ref b16, .ref b17, .ref b18, .ref b19, .ref b20, .ref b21, .ref b22, .int 0, .ref b23, .ref b24, .ref mi, .int 0, .int 0, .int 0, .int 0, .int 0, .int 0, .int 0, .int 0, .int 0]))] sz) := by
  refine Met.ofW (cc := prog_12_method_14_code) (maxL := 3) (ret := (some .boolean)) (by decide) rfl ?_
  intro p e s m args below meth c s₁ B hml hv
  obtain ⟨rfl, hsz, hB, hP, hK, hD0⟩ := hv
  have hx := B.exec
  have hb := B.bytes
  have hr := B.returns
  have hown : s.vm.findClass "BigRunnerModel" = some m.cls := findClass_of_methodNamed B.named
  have hlocks := B.notSynchronized
  subst hsz
  have hD := hD0.self (sz := s.heap.size)
  generalize hAe : va_A [(y, .inr (10, [.int 0, .ref mt, .int 0, .ref b0, .ref b1, .int 0, .ref b2, .ref b3, .ref b4, .int 0, .int 0, .int 0, .ref b5, .int 0, .ref b6, .ref b7, .int 0, .ref b8, .ref b9, .ref b10, .ref b11, .ref b12, .ref b13, .ref b14, .ref b15, .ref b16, .ref b17, .ref b18, .ref b19, .ref b20, .ref b21, .ref b22, .int 0, .ref b23, .ref b24, .ref mi, .int 0, .int 0, .int 0, .int 0, .int 0, .int 0, .int 0, .int 0, .int 0]))] s.heap.size = A at hD ⊢
  have hA : ∀ q : Nat, s.heap.size ≤ q → A q := fun q h => by rw [← hAe]; exact Or.inr h
  have hS : va_S A s.heap s.heap [] := va_S.rf
  have hP : va_P (dC, dI) vcl [(y, .inr (10, [.int 0, .ref mt, .int 0, .ref b0, .ref b1, .int 0, .ref b2, .ref b3, .ref b4, .int 0, .int 0, .int 0, .ref b5, .int 0, .ref b6, .ref b7, .int 0, .ref b8, .ref b9, .ref b10, .ref b11, .ref b12, .ref b13, .ref b14, .ref b15, .ref b16, .ref b17, .ref b18, .ref b19, .ref b20, .ref b21, .ref b22, .int 0, .ref b23, .ref b24, .ref mi, .int 0, .int 0, .int 0, .int 0, .int 0, .int 0, .int 0, .int 0, .int 0]))] s.heap := hP
  have hl := lv_entry ([.ref y]) (n := 3) (Nat.le_of_ble_eq_true rfl)
  rw [lg_entry_eq]
  generalize (lg_sl ([.ref y]) ++ List.replicate (3 - (lg_sl ([.ref y])).length) Slot.unset).toArray = ls at hl ⊢
  have hl : lv_has ls 3 [(0, .ref y)] := hl
  refine lv_aload_n hx hb d_M_reads_0 rfl (lv_at hl 0 rfl) ?_
  refine lv_iconst (v := 0) hx hb d_M_reads_1 (by decide) ?_
  refine va_put (D := (dC, dI)) (ci := 10) (v := .int 0) (ty := .int) (C := "BigRunnerModel") (T := FT10) (N := 45) hx hb (hw10 hB _) (fun _ h9 => h9) TY10 ok10 nm10 hown hK hP hD hS 0 rfl rfl 10 (by decide) (wd_957 hB _) (fun _ h9 => h9) rfl (by decide +kernel) rfl rfl (Nat.le_of_ble_eq_true rfl) d_M_reads_2 (fun H locs hP hD hS => ?_)
  have hP : va_P (dC, dI) vcl [(y, .inr (10, [.int 0, .ref mt, .int 0, .ref b0, .ref b1, .int 0, .ref b2, .ref b3, .ref b4, .int 0, .int 0, .int 0, .ref b5, .int 0, .ref b6, .ref b7, .int 0, .ref b8, .ref b9, .ref b10, .ref b11, .ref b12, .ref b13, .ref b14, .ref b15, .ref b16, .ref b17, .ref b18, .ref b19, .ref b20, .ref b21, .ref b22, .int 0, .ref b23, .ref b24, .ref mi, .int 0, .int 0, .int 0, .int 0, .int 0, .int 0, .int 0, .int 0, .int 0]))] H := hP
  have hD : va_D A [(y, .inr (10, [.int 0, .ref mt, .int 0, .ref b0, .ref b1, .int 0, .ref b2, .ref b3, .ref b4, .int 0, .int 0, .int 0, .ref b5, .int 0, .ref b6, .ref b7, .int 0, .ref b8, .ref b9, .ref b10, .ref b11, .ref b12, .ref b13, .ref b14, .ref b15, .ref b16, .ref b17, .ref b18, .ref b19, .ref b20, .ref b21, .ref b22, .int 0, .ref b23, .ref b24, .ref mi, .int 0, .int 0, .int 0, .int 0, .int 0, .int 0, .int 0, .int 0, .int 0]))] := hD
  refine lv_aload_n hx hb d_M_reads_5 rfl (lv_at hl 0 rfl) ?_
  refine lv_iconst (v := 1) hx hb d_M_reads_6 (by decide) ?_
  refine va_put (D := (dC, dI)) (ci := 10) (v := .int 1) (ty := .int) (C := "BigRunnerModel") (T := FT10) (N := 45) hx hb (hw10 hB _) (fun _ h9 => h9) TY10 ok10 nm10 hown hK hP hD hS 0 rfl rfl 11 (by decide) (wd_958 hB _) (fun _ h9 => h9) rfl (by decide +kernel) rfl rfl (Nat.le_of_ble_eq_true rfl) d_M_reads_7 (fun H locs hP hD hS => ?_)
  have hP : va_P (dC, dI) vcl [(y, .inr (10, [.int 0, .ref mt, .int 0, .ref b0, .ref b1, .int 0, .ref b2, .ref b3, .ref b4, .int 0, .int 0, .int 1, .ref b5, .int 0, .ref b6, .ref b7, .int 0, .ref b8, .ref b9, .ref b10, .ref b11, .ref b12, .ref b13, .ref b14, .ref b15, .ref b16, .ref b17, .ref b18, .ref b19, .ref b20, .ref b21, .ref b22, .int 0, .ref b23, .ref b24, .ref mi, .int 0, .int 0, .int 0, .int 0, .int 0, .int 0, .int 0, .int 0, .int 0]))] H := hP
  have hD : va_D A [(y, .inr (10, [.int 0, .ref mt, .int 0, .ref b0, .ref b1, .int 0, .ref b2, .ref b3, .ref b4, .int 0, .int 0, .int 1, .ref b5, .int 0, .ref b6, .ref b7, .int 0, .ref b8, .ref b9, .ref b10, .ref b11, .ref b12, .ref b13, .ref b14, .ref b15, .ref b16, .ref b17, .ref b18, .ref b19, .ref b20, .ref b21, .ref b22, .int 0, .ref b23, .ref b24, .ref mi, .int 0, .int 0, .int 0, .int 0, .int 0, .int 0, .int 0, .int 0, .int 0]))] := hD
  refine lv_aload_n hx hb d_M_reads_10 rfl (lv_at hl 0 rfl) ?_
  refine lv_iconst (v := 0) hx hb d_M_reads_11 (by decide) ?_
  refine va_put (D := (dC, dI)) (ci := 10) (v := .int 0) (ty := .int) (C := "BigRunnerModel") (T := FT10) (N := 45) hx hb (hw10 hB _) (fun _ h9 => h9) TY10 ok10 nm10 hown hK hP hD hS 0 rfl rfl 5 (by decide) (wd_952 hB _) (fun _ h9 => h9) rfl (by decide +kernel) rfl rfl (Nat.le_of_ble_eq_true rfl) d_M_reads_12 (fun H locs hP hD hS => ?_)
  have hP : va_P (dC, dI) vcl [(y, .inr (10, [.int 0, .ref mt, .int 0, .ref b0, .ref b1, .int 0, .ref b2, .ref b3, .ref b4, .int 0, .int 0, .int 1, .ref b5, .int 0, .ref b6, .ref b7, .int 0, .ref b8, .ref b9, .ref b10, .ref b11, .ref b12, .ref b13, .ref b14, .ref b15, .ref b16, .ref b17, .ref b18, .ref b19, .ref b20, .ref b21, .ref b22, .int 0, .ref b23, .ref b24, .ref mi, .int 0, .int 0, .int 0, .int 0, .int 0, .int 0, .int 0, .int 0, .int 0]))] H := hP
  have hD : va_D A [(y, .inr (10, [.int 0, .ref mt, .int 0, .ref b0, .ref b1, .int 0, .ref b2, .ref b3, .ref b4, .int 0, .int 0, .int 1, .ref b5, .int 0, .ref b6, .ref b7, .int 0, .ref b8, .ref b9, .ref b10, .ref b11, .ref b12, .ref b13, .ref b14, .ref b15, .ref b16, .ref b17, .ref b18, .ref b19, .ref b20, .ref b21, .ref b22, .int 0, .ref b23, .ref b24, .ref mi, .int 0, .int 0, .int 0, .int 0, .int 0, .int 0, .int 0, .int 0, .int 0]))] := hD
  refine lv_aload_n hx hb d_M_reads_15 rfl (lv_at hl 0 rfl) ?_
  refine lv_iconst (v := 0) hx hb d_M_reads_16 (by decide) ?_
  refine va_put (D := (dC, dI)) (ci := 10) (v := .int 0) (ty := .int) (C := "BigRunnerModel") (T := FT10) (N := 45) hx hb (hw10 hB _) (fun _ h9 => h9) TY10 ok10 nm10 hown hK hP hD hS 0 rfl rfl 16 (by decide) (wd_963 hB _) (fun _ h9 => h9) rfl (by decide +kernel) rfl rfl (Nat.le_of_ble_eq_true rfl) d_M_reads_17 (fun H locs hP hD hS => ?_)
  have hP : va_P (dC, dI) vcl [(y, .inr (10, [.int 0, .ref mt, .int 0, .ref b0, .ref b1, .int 0, .ref b2, .ref b3, .ref b4, .int 0, .int 0, .int 1, .ref b5, .int 0, .ref b6, .ref b7, .int 0, .ref b8, .ref b9, .ref b10, .ref b11, .ref b12, .ref b13, .ref b14, .ref b15, .ref b16, .ref b17, .ref b18, .ref b19, .ref b20, .ref b21, .ref b22, .int 0, .ref b23, .ref b24, .ref mi, .int 0, .int 0, .int 0, .int 0, .int 0, .int 0, .int 0, .int 0, .int 0]))] H := hP
  have hD : va_D A [(y, .inr (10, [.int 0, .ref mt, .int 0, .ref b0, .ref b1, .int 0, .ref b2, .ref b3, .ref b4, .int 0, .int 0, .int 1, .ref b5, .int 0, .ref b6, .ref b7, .int 0, .ref b8, .ref b9, .ref b10, .ref b11, .ref b12, .ref b13, .ref b14, .ref b15, .ref b16, .ref b17, .ref b18, .ref b19, .ref b20, .ref b21, .ref b22, .int 0, .ref b23, .ref b24, .ref mi, .int 0, .int 0, .int 0, .int 0, .int 0, .int 0, .int 0, .int 0, .int 0]))] := hD
  refine lv_aload_n hx hb d_M_reads_20 rfl (lv_at hl 0 rfl) ?_
  refine lv_iconst (v := 1) hx hb d_M_reads_21 (by decide) ?_
  refine va_put (D := (dC, dI)) (ci := 10) (v := .int 1) (ty := .boolean) (C := "BigRunnerModel") (T := FT10) (N := 45) hx hb (hw10 hB _) (fun _ h9 => h9) TY10 ok10 nm10 hown hK hP hD hS 0 rfl rfl 44 (by decide) (wd_991 hB _) (fun _ h9 => h9) rfl (by decide +kernel) rfl rfl (Nat.le_of_ble_eq_true rfl) d_M_reads_22 (fun H locs hP hD hS => ?_)
  have hP : va_P (dC, dI) vcl [(y, .inr (10, [.int 0, .ref mt, .int 0, .ref b0, .ref b1, .int 0, .ref b2, .ref b3, .ref b4, .int 0, .int 0, .int 1, .ref b5, .int 0, .ref b6, .ref b7, .int 0, .ref b8, .ref b9, .ref b10, .ref b11, .ref b12, .ref b13, .ref b14, .ref b15, .ref b16, .ref b17, .ref b18, .ref b19, .ref b20, .ref b21, .ref b22, .int 0, .ref b23, .ref b24, .ref mi, .int 0, .int 0, .int 0, .int 0, .int 0, .int 0, .int 0, .int 0, .int 1]))] H := hP
  have hD : va_D A [(y, .inr (10, [.int 0, .ref mt, .int 0, .ref b0, .ref b1, .int 0, .ref b2, .ref b3, .ref b4, .int 0, .int 0, .int 1, .ref b5, .int 0, .ref b6, .ref b7, .int 0, .ref b8, .ref b9, .ref b10, .ref b11, .ref b12, .ref b13, .ref b14, .ref b15, .ref b16, .ref b17, .ref b18, .ref b19, .ref b20, .ref b21, .ref b22, .int 0, .ref b23, .ref b24, .ref mi, .int 0, .int 0, .int 0, .int 0, .int 0, .int 0, .int 0, .int 0, .int 1]))] := hD
  refine lv_iconst (v := 1) hx hb d_M_reads_25 (by decide) ?_
  refine lv_istore_n (lv' := [(1, .int 1), (0, .ref y)]) hx hb d_M_reads_26 rfl hl (by decide) rfl (fun ls hl => ?_)
  refine lv_iload_n hx hb d_M_reads_27 rfl (lv_at hl 0 rfl) ?_
  refine lv_if_eq (tgt := 107) hx hb d_M_reads_28 (by decide) (fun hq => absurd hq (by decide)) (fun _ => ?_)
  refine lv_aload_n hx hb d_M_reads_31 rfl (lv_at hl 1 rfl) ?_
  refine va_get (D := (dC, dI)) (ci := 10) (v := .int 1) (C := "BigRunnerModel") (T := FT10) (N := 45) hx hb (hw10 hB _) (fun _ h9 => h9) hown hK hP 0 rfl rfl 44 (by decide) (wd_991 hB _) (fun _ h9 => h9) rfl d_M_reads_32 ?_
  refine lv_if_ne (tgt := 49) hx hb d_M_reads_35 (by decide) (fun _ => ?_) (fun hq => absurd hq (by decide))
  refine lv_aload_n hx hb d_M_reads_49 rfl (lv_at hl 1 rfl) ?_
  refine va_get (D := (dC, dI)) (ci := 10) (v := .int 1) (C := "BigRunnerModel") (T := FT10) (N := 45) hx hb (hw10 hB _) (fun _ h9 => h9) hown hK hP 0 rfl rfl 44 (by decide) (wd_991 hB _) (fun _ h9 => h9) rfl d_M_reads_50 ?_
  refine lv_if_eq (tgt := 69) hx hb d_M_reads_53 (by decide) (fun hq => absurd hq (by decide)) (fun _ => ?_)
  refine lv_aload_n hx hb d_M_reads_56 rfl (lv_at hl 1 rfl) ?_
  refine lv_iconst (v := 0) hx hb d_M_reads_57 (by decide) ?_
  refine va_put (D := (dC, dI)) (ci := 10) (v := .int 0) (ty := .boolean) (C := "BigRunnerModel") (T := FT10) (N := 45) hx hb (hw10 hB _) (fun _ h9 => h9) TY10 ok10 nm10 hown hK hP hD hS 0 rfl rfl 44 (by decide) (wd_991 hB _) (fun _ h9 => h9) rfl (by decide +kernel) rfl rfl (Nat.le_of_ble_eq_true rfl) d_M_reads_58 (fun H locs hP hD hS => ?_)
  have hP : va_P (dC, dI) vcl [(y, .inr (10, [.int 0, .ref mt, .int 0, .ref b0, .ref b1, .int 0, .ref b2, .ref b3, .ref b4, .int 0, .int 0, .int 1, .ref b5, .int 0, .ref b6, .ref b7, .int 0, .ref b8, .ref b9, .ref b10, .ref b11, .ref b12, .ref b13, .ref b14, .ref b15, .ref b16, .ref b17, .ref b18, .ref b19, .ref b20, .ref b21, .ref b22, .int 0, .ref b23, .ref b24, .ref mi, .int 0, .int 0, .int 0, .int 0, .int 0, .int 0, .int 0, .int 0, .int 0]))] H := hP
  have hD : va_D A [(y, .inr (10, [.int 0, .ref mt, .int 0, .ref b0, .ref b1, .int 0, .ref b2, .ref b3, .ref b4, .int 0, .int 0, .int 1, .ref b5, .int 0, .ref b6, .ref b7, .int 0, .ref b8, .ref b9, .ref b10, .ref b11, .ref b12, .ref b13, .ref b14, .ref b15, .ref b16, .ref b17, .ref b18, .ref b19, .ref b20, .ref b21, .ref b22, .int 0, .ref b23, .ref b24, .ref mi, .int 0, .int 0, .int 0, .int 0, .int 0, .int 0, .int 0, .int 0, .int 0]))] := hD
  refine lv_aload_n hx hb d_M_reads_61 rfl (lv_at hl 1 rfl) ?_
  have hPc := hP.sub (ws' := [(y, .inr (10, [.int 0, .ref mt, .int 0, .ref b0, .ref b1, .int 0, .ref b2, .ref b3, .ref b4, .int 0, .int 0, .int 1, .ref b5, .int 0, .ref b6, .ref b7, .int 0, .ref b8, .ref b9, .ref b10, .ref b11, .ref b12, .ref b13, .ref b14, .ref b15, .ref b16, .ref b17, .ref b18, .ref b19, .ref b20, .ref b21, .ref b22, .int 0, .ref b23, .ref b24, .ref mi, .int 0, .int 0, .int 0, .int 0, .int 0, .int 0, .int 0, .int 0, .int 0]))]) [0] rfl
  have hDc := hD.sub (ws' := [(y, .inr (10, [.int 0, .ref mt, .int 0, .ref b0, .ref b1, .int 0, .ref b2, .ref b3, .ref b4, .int 0, .int 0, .int 1, .ref b5, .int 0, .ref b6, .ref b7, .int 0, .ref b8, .ref b9, .ref b10, .ref b11, .ref b12, .ref b13, .ref b14, .ref b15, .ref b16, .ref b17, .ref b18, .ref b19, .ref b20, .ref b21, .ref b22, .int 0, .ref b23, .ref b24, .ref mi, .int 0, .int 0, .int 0, .int 0, .int 0, .int 0, .int 0, .int 0, .int 0]))]) [0] (by decide) rfl
  have hKc := hK.sub (tys' := []) [] rfl
  have hFc := va_free (wc := [(y, .inr (10, [.int 0, .ref mt, .int 0, .ref b0, .ref b1, .int 0, .ref b2, .ref b3, .ref b4, .int 0, .int 0, .int 1, .ref b5, .int 0, .ref b6, .ref b7, .int 0, .ref b8, .ref b9, .ref b10, .ref b11, .ref b12, .ref b13, .ref b14, .ref b15, .ref b16, .ref b17, .ref b18, .ref b19, .ref b20, .ref b21, .ref b22, .int 0, .ref b23, .ref b24, .ref mi, .int 0, .int 0, .int 0, .int 0, .int 0, .int 0, .int 0, .int 0, .int 0]))]) hD hS hA [0] rfl
  refine va_calli (va_runV (C := "BigRunnerModel") (As := []) (rest := []) ⟨hx, hb, hml, hown, tb_nil⟩ (c_M_statement l dC dI H.size y mt ct mi cj b0 b1 b2 b3 b4 b5 b6 b7 b8 b9 b10 b11 b12 b13 b14 b15 b16 b17 b18 b19 b20 b21 b22 b23 b24) ⟨(callB_of 0 (tb_one (wd_1107 hB _)) tb_good1 rfl rfl rfl (wd_82 hB _) (wd_1104 hB _) (by decide +kernel) ⟨Nat.le_of_ble_eq_true rfl, Nat.le_of_ble_eq_true rfl⟩), (wd_1106 hB _), (wd_42 hB _)⟩ ⟨fun a U g mk q => by obtain ⟨q0, q1, qB, qP, qK, qD⟩ := q; exact ⟨q0, q1, TB.same (s := U) (U := U.calling g mk a) rfl qB, qP, va_K.moved (u := U) (U := U.calling g mk a) (Vm.Alike.refl U.vm) qK, qD⟩, va_recv hK hP (q0 := 0) (ci := 10) rfl rfl, fun U hU hW => ⟨rfl, by rw [hU], hB.moved hW, by rw [hU]; exact hPc, va_K.moved hW.alike hKc, hDc.weaken (fun _ _ _ _ => trivial)⟩⟩ rfl rfl hl.1 rfl (lv_room (Nat.le_of_ble_eq_true rfl)) d_M_reads_62 ⟨(Nat.le_of_ble_eq_true rfl), (Nat.le_of_ble_eq_true rfl)⟩) hS (fun q _ h => hFc q h) hFc (fun r_ u_ t H1 locs ht hvm hw_ hB1 hz1 hk1 hS => ?_)
  obtain ⟨hP1, hK1, hD1⟩ := hB1
  rw [ht] at hP1
  have hK1 := va_K.moved hvm.symm hK1
  try dsimp only at hw_
  obtain ⟨hP, hD⟩ := va_join (wr := []) (w1 := [(y, .inr (10, [.int 0, .ref mt, .int 0, .ref b0, .ref b1, .int 0, .ref b2, .ref b3, .ref b4, .int 0, .int 1, .int 1, .ref b5, .int 0, .ref b6, .ref b7, .int 0, .ref b8, .ref b9, .ref b10, .ref b11, .ref b12, .ref b13, .ref b14, .ref b15, .ref b16, .ref b17, .ref b18, .ref b19, .ref b20, .ref b21, .ref b22, .int 0, .ref b23, .ref b24, .ref mi, .int 0, .int 0, .int 0, .int 0, .int 0, .int 0, .int 0, .int 0, .int 0]))]) hP hD [0] [] rfl rfl (by decide) (by decide) hk1 hFc hP1 hD1
  have hK := (hK.sub (tys' := []) [] rfl).app hK1
  clear hk1 hFc hPc hDc hKc hP1 hD1 hK1 hz1 ht hvm
  generalize H1 = H at hP hS ⊢
  have hP : va_P (dC, dI) vcl [(y, .inr (10, [.int 0, .ref mt, .int 0, .ref b0, .ref b1, .int 0, .ref b2, .ref b3, .ref b4, .int 0, .int 1, .int 1, .ref b5, .int 0, .ref b6, .ref b7, .int 0, .ref b8, .ref b9, .ref b10, .ref b11, .ref b12, .ref b13, .ref b14, .ref b15, .ref b16, .ref b17, .ref b18, .ref b19, .ref b20, .ref b21, .ref b22, .int 0, .ref b23, .ref b24, .ref mi, .int 0, .int 0, .int 0, .int 0, .int 0, .int 0, .int 0, .int 0, .int 0]))] H := hP
  have hD : va_D A [(y, .inr (10, [.int 0, .ref mt, .int 0, .ref b0, .ref b1, .int 0, .ref b2, .ref b3, .ref b4, .int 0, .int 1, .int 1, .ref b5, .int 0, .ref b6, .ref b7, .int 0, .ref b8, .ref b9, .ref b10, .ref b11, .ref b12, .ref b13, .ref b14, .ref b15, .ref b16, .ref b17, .ref b18, .ref b19, .ref b20, .ref b21, .ref b22, .int 0, .ref b23, .ref b24, .ref mi, .int 0, .int 0, .int 0, .int 0, .int 0, .int 0, .int 0, .int 0, .int 0]))] := hD
  have hK : va_K (dC, dI) vcl [] s := hK
  refine W.widen (k := 0) (n := 0) (by omega) (by omega) ?_
  subst hw_
  refine lv_istore_n (lv' := [(1, .int 0), (0, .ref y)]) hx hb d_M_reads_65 rfl hl (by decide) rfl (fun ls hl => ?_)
  refine lv_goto (tgt := 27) hx hb d_M_reads_66 (by decide) ?_
  refine lv_iload_n hx hb d_M_reads_27 rfl (lv_at hl 0 rfl) ?_
  refine lv_if_eq (tgt := 107) hx hb d_M_reads_28 (by decide) (fun _ => ?_) (fun hq => absurd rfl hq)
  refine lv_iload_n hx hb d_M_reads_107 rfl (lv_at hl 0 rfl) ?_
  refine lv_if_eq (tgt := 122) hx hb d_M_reads_108 (by decide) (fun _ => ?_) (fun hq => absurd rfl hq)
  refine lv_iconst (v := 0) hx hb d_M_reads_122 (by decide) ?_
  have hP9 := hP.sub (ws' := [(y, .inr (10, [.int 0, .ref mt, .int 0, .ref b0, .ref b1, .int 0, .ref b2, .ref b3, .ref b4, .int 0, .int 1, .int 1, .ref b5, .int 0, .ref b6, .ref b7, .int 0, .ref b8, .ref b9, .ref b10, .ref b11, .ref b12, .ref b13, .ref b14, .ref b15, .ref b16, .ref b17, .ref b18, .ref b19, .ref b20, .ref b21, .ref b22, .int 0, .ref b23, .ref b24, .ref mi, .int 0, .int 0, .int 0, .int 0, .int 0, .int 0, .int 0, .int 0, .int 0]))]) [0] rfl
  have hD9 := hD.sub (ws' := [(y, .inr (10, [.int 0, .ref mt, .int 0, .ref b0, .ref b1, .int 0, .ref b2, .ref b3, .ref b4, .int 0, .int 1, .int 1, .ref b5, .int 0, .ref b6, .ref b7, .int 0, .ref b8, .ref b9, .ref b10, .ref b11, .ref b12, .ref b13, .ref b14, .ref b15, .ref b16, .ref b17, .ref b18, .ref b19, .ref b20, .ref b21, .ref b22, .int 0, .ref b23, .ref b24, .ref mi, .int 0, .int 0, .int 0, .int 0, .int 0, .int 0, .int 0, .int 0, .int 0]))]) [0] (by decide) rfl
  have hK9 := hK.sub (tys' := []) [] rfl
  refine W.widen (k := 0) (n := 0) (by omega) (by omega) ?_
  exact W.zret (v := 0) (ty := .boolean) hx hb hr rfl (fun t ht hW => ⟨⟨0, (), rfl, rfl, by rw [ht]; exact hP9, va_K.moved hW.alike hK9, hD9⟩, hS.F ht⟩) hS.2.2 d_M_reads_123
set_option maxHeartbeats 4000000 in
set_option maxRecDepth 100000 in
theorem c_M_load (l : Launch) (dC : Nat → ClassId) (dI : Nat → Nat → Nat) (sz : Nat) (y : Nat) (mt : Nat) (ct : ClassId) (mi : Nat) (cj : ClassId) (b0 : Nat) (b1 : Nat) (b2 : Nat) (b3 : Nat) (b4 : Nat) (b5 : Nat) (b6 : Nat) (b7 : Nat) (b8 : Nat) (b9 : Nat) (b10 : Nat) (b11 : Nat) (b12 : Nat) (b13 : Nat) (b14 : Nat) (b15 : Nat) (b16 : Nat) (b17 : Nat) (b18 : Nat) (b19 : Nat) (b20 : Nat) (b21 : Nat) (b22 : Nat) (b23 : Nat) (b24 : Nat) : Met l ⟨"BigRunnerModel", "load", "()I"⟩ [Cond.code ⟨"BigRunnerModel", "load", "()I"⟩ prog_12_method_40_code 2 (some .int)] ({ frames := 3, cells := 0, slots := 0, locals := 64 }) (va_Pc [.ref y] (fun U => U.heap.size = sz ∧ TB U ∧ va_P (dC, dI) vcl [(y, .inr (10, [.int 0, .ref mt, .int 0, .ref b0, .ref b1, .int 0, .ref b2, .ref b3, .ref b4, .int 0, .int 0, .int 0, .ref b5, .int 0, .ref b6, .ref b7, .int 0, .ref b8, .ref b9, .ref b10, .ref b11, .ref b12, .ref b13, .ref b14, .ref b15, .ref b16, .ref b17, .ref b18, .ref b19, .ref b20, .ref b21, .ref b22, .int 0, .ref b23, .ref b24, .ref mi, .int 0, .int 0, .int 0, .int 0, .int 0, .int 0, .int 0, .int 0, .int 0]))] U.heap ∧ va_K (dC, dI) vcl [] U ∧ va_D (fun _ => True) [(y, .inr (10, [.int 0, .ref mt, .int 0, .ref b0, .ref b1, .int 0, .ref b2, .ref b3, .ref b4, .int 0, .int 0, .int 0, .ref b5, .int 0, .ref b6, .ref b7, .int 0, .ref b8, .ref b9, .ref b10, .ref b11, .ref b12, .ref b13, .ref b14, .ref b15, .ref b16, .ref b17, .ref b18, .ref b19, .ref b20, .ref b21, .ref b22, .int 0, .ref b23, .ref b24, .ref mi, .int 0, .int 0, .int 0, .int 0, .int 0, .int 0, .int 0, .int 0, .int 0]))])) (va_Qi (fun (r : Int32) (u : Unit) => match u with | _ => r = 0) (fun (u : Unit) (t : State) => match u with | _ => va_P (dC, dI) vcl [(y, .inr (10, [.int 1, .ref mt, .int 0, .ref b0, .ref b1, .int 0, .ref b2, .ref b3, .ref b4, .int 0, .int 1, .int 1, .ref b5, .int 0, .ref b6, .ref b7, .int 0, .ref b8, .ref b9, .ref b10, .ref b11, .ref b12, .ref b13, .ref b14, .ref b15, .ref b16, .ref b17, .ref b18, .ref b19, .ref b20, .ref b21, .ref b22, .int 0, .ref b23, .ref b24, .ref mi, .int 0, .int 0, .int 0, .int 0, .int 0, .int 0, .int 0, .int 0, .int 0]))] t.heap ∧ va_K (dC, dI) vcl [] t ∧ va_D (va_A [(y, .inr (10, [.int 0, .ref mt, .int 0, .ref b0, .ref b1, .int 0, .ref b2, .ref b3, .ref b4, .int 0, .int 0, .int 0, .ref b5, .int 0, .ref b6, .ref b7, .int 0, .ref b8, .ref b9, .ref b10, .ref b11, .ref b12, .ref b13, .ref b14, .ref b15, .ref b16, .ref b17, .ref b18, .ref b19, .ref b20, .ref b21, .ref b22, .int 0, .ref b23, .ref b24, .ref mi, .int 0, .int 0, .int 0, .int 0, .int 0, .int 0, .int 0, .int 0, .int 0]))] sz) [(y, .inr (10, [.int 1, .ref mt, .int 0, .ref b0, .ref b1, .int 0, .ref b2, .ref b3, .ref b4, .int 0, .int 1, .int 1, .ref b5, .int 0, .ref b6, .ref b7, .int 0, .ref b8, .ref b9, .ref b10, .ref b11, .ref b12, .ref b13, .ref b14, .ref b15, .ref b16, .ref b17, .ref b18, .ref b19, .ref b20, .ref b21, .ref b22, .int 0, .ref b23, .ref b24, .ref mi, .int 0, .int 0, .int 0, .int 0, .int 0, .int 0, .int 0, .int 0, .int 0]))]) (va_A [(y, .inr (10, [.int 0, .ref mt, .int 0, .ref b0, .ref b1, .int 0, .ref b2, .ref b3, .ref b4, .int 0, .int 0, .int 0, .ref b5, .int 0, .ref b6, .ref b7, .int 0, .ref b8, .ref b9, .ref b10, .ref b11, .ref b12, .ref b13, .ref b14, .ref b15, .ref b16, .ref b17, .ref b18, .ref b19, .ref b20, .ref b21, .ref b22, .int 0, .ref b23, .ref b24, .ref mi, .int 0, .int 0, .int 0, .int 0, .int 0, .int 0, .int 0, .int 0, .int 0]))] sz)) 0 0 (va_A [(y, .inr (10, [.int 0, .ref mt, .int 0, .ref b0, .ref b1, .int 0, .ref b2, .ref b3, .ref b4, .int 0, .int 0, .int 0, .ref b5, .int 0, .ref b6, .ref b7, .int 0, .ref b8, .ref b9, .ref b10, .ref b11, .ref b12, .ref b13, .ref b14, .ref b15, .ref b16, .ref b17, .ref b18, .ref b19, .ref b20, .ref b21, .ref b22, .int 0, .ref b23, .ref b24, .ref mi, .int 0, .int 0, .int 0, .int 0, .int 0, .int 0, .int 0, .int 0, .int 0]))] sz) := by
  refine Met.ofW (cc := prog_12_method_40_code) (maxL := 2) (ret := (some .int)) (by decide) rfl ?_
  intro p e s m args below meth c s₁ B hml hv
  obtain ⟨rfl, hsz, hB, hP, hK, hD0⟩ := hv
  have hx := B.exec
  have hb := B.bytes
  have hr := B.returns
  have hown : s.vm.findClass "BigRunnerModel" = some m.cls := findClass_of_methodNamed B.named
  have hlocks := B.notSynchronized
  subst hsz
  have hD := hD0.self (sz := s.heap.size)
  generalize hAe : va_A [(y, .inr (10, [.int 0, .ref mt, .int 0, .ref b0, .ref b1, .int 0, .ref b2, .ref b3, .ref b4, .int 0, .int 0, .int 0, .ref b5, .int 0, .ref b6, .ref b7, .int 0, .ref b8, .ref b9, .ref b10, .ref b11, .ref b12, .ref b13, .ref b14, .ref b15, .ref b16, .ref b17, .ref b18, .ref b19, .ref b20, .ref b21, .ref b22, .int 0, .ref b23, .ref b24, .ref mi, .int 0, .int 0, .int 0, .int 0, .int 0, .int 0, .int 0, .int 0, .int 0]))] s.heap.size = A at hD ⊢
  have hA : ∀ q : Nat, s.heap.size ≤ q → A q := fun q h => by rw [← hAe]; exact Or.inr h
  have hS : va_S A s.heap s.heap [] := va_S.rf
  have hP : va_P (dC, dI) vcl [(y, .inr (10, [.int 0, .ref mt, .int 0, .ref b0, .ref b1, .int 0, .ref b2, .ref b3, .ref b4, .int 0, .int 0, .int 0, .ref b5, .int 0, .ref b6, .ref b7, .int 0, .ref b8, .ref b9, .ref b10, .ref b11, .ref b12, .ref b13, .ref b14, .ref b15, .ref b16, .ref b17, .ref b18, .ref b19, .ref b20, .ref b21, .ref b22, .int 0, .ref b23, .ref b24, .ref mi, .int 0, .int 0, .int 0, .int 0, .int 0, .int 0, .int 0, .int 0, .int 0]))] s.heap := hP
  have hl := lv_entry ([.ref y]) (n := 2) (Nat.le_of_ble_eq_true rfl)
  rw [lg_entry_eq]
  generalize (lg_sl ([.ref y]) ++ List.replicate (2 - (lg_sl ([.ref y])).length) Slot.unset).toArray = ls at hl ⊢
  have hl : lv_has ls 2 [(0, .ref y)] := hl
  refine lv_aload_n hx hb d_M_load_0 rfl (lv_at hl 0 rfl) ?_
  refine lv_aload_n hx hb d_M_load_1 rfl (lv_at hl 0 rfl) ?_
  have hPc := hP.sub (ws' := [(y, .inr (10, [.int 0, .ref mt, .int 0, .ref b0, .ref b1, .int 0, .ref b2, .ref b3, .ref b4, .int 0, .int 0, .int 0, .ref b5, .int 0, .ref b6, .ref b7, .int 0, .ref b8, .ref b9, .ref b10, .ref b11, .ref b12, .ref b13, .ref b14, .ref b15, .ref b16, .ref b17, .ref b18, .ref b19, .ref b20, .ref b21, .ref b22, .int 0, .ref b23, .ref b24, .ref mi, .int 0, .int 0, .int 0, .int 0, .int 0, .int 0, .int 0, .int 0, .int 0]))]) [0] rfl
  have hDc := hD.sub (ws' := [(y, .inr (10, [.int 0, .ref mt, .int 0, .ref b0, .ref b1, .int 0, .ref b2, .ref b3, .ref b4, .int 0, .int 0, .int 0, .ref b5, .int 0, .ref b6, .ref b7, .int 0, .ref b8, .ref b9, .ref b10, .ref b11, .ref b12, .ref b13, .ref b14, .ref b15, .ref b16, .ref b17, .ref b18, .ref b19, .ref b20, .ref b21, .ref b22, .int 0, .ref b23, .ref b24, .ref mi, .int 0, .int 0, .int 0, .int 0, .int 0, .int 0, .int 0, .int 0, .int 0]))]) [0] (by decide) rfl
  have hKc := hK.sub (tys' := []) [] rfl
  have hFc := va_free (wc := [(y, .inr (10, [.int 0, .ref mt, .int 0, .ref b0, .ref b1, .int 0, .ref b2, .ref b3, .ref b4, .int 0, .int 0, .int 0, .ref b5, .int 0, .ref b6, .ref b7, .int 0, .ref b8, .ref b9, .ref b10, .ref b11, .ref b12, .ref b13, .ref b14, .ref b15, .ref b16, .ref b17, .ref b18, .ref b19, .ref b20, .ref b21, .ref b22, .int 0, .ref b23, .ref b24, .ref mi, .int 0, .int 0, .int 0, .int 0, .int 0, .int 0, .int 0, .int 0, .int 0]))]) hD hS hA [0] rfl
  refine va_calli (va_runV (C := "BigRunnerModel") (As := []) (rest := [.ref y]) ⟨hx, hb, hml, hown, tb_nil⟩ (c_M_reads l dC dI s.heap.size y mt ct mi cj b0 b1 b2 b3 b4 b5 b6 b7 b8 b9 b10 b11 b12 b13 b14 b15 b16 b17 b18 b19 b20 b21 b22 b23 b24) ⟨(callB_of 0 (tb_one (wd_1103 hB _)) tb_good1 rfl rfl rfl (wd_82 hB _) (wd_1100 hB _) (by decide +kernel) ⟨Nat.le_of_ble_eq_true rfl, Nat.le_of_ble_eq_true rfl⟩), (wd_1102 hB _), (wd_41 hB _)⟩ ⟨fun a U g mk q => by obtain ⟨q0, q1, qB, qP, qK, qD⟩ := q; exact ⟨q0, q1, TB.same (s := U) (U := U.calling g mk a) rfl qB, qP, va_K.moved (u := U) (U := U.calling g mk a) (Vm.Alike.refl U.vm) qK, qD⟩, va_recv hK hP (q0 := 0) (ci := 10) rfl rfl, fun U hU hW => ⟨rfl, by rw [hU], hB.moved hW, by rw [hU]; exact hPc, va_K.moved hW.alike hKc, hDc.weaken (fun _ _ _ _ => trivial)⟩⟩ rfl rfl hl.1 rfl (lv_room (Nat.le_of_ble_eq_true rfl)) d_M_load_2 ⟨(Nat.le_of_ble_eq_true rfl), (Nat.le_of_ble_eq_true rfl)⟩) hS (fun q _ h => hFc q h) hFc (fun r_ u_ t H1 locs ht hvm hw_ hB1 hz1 hk1 hS => ?_)
  obtain ⟨hP1, hK1, hD1⟩ := hB1
  rw [ht] at hP1
  have hK1 := va_K.moved hvm.symm hK1
  try dsimp only at hw_
  obtain ⟨hP, hD⟩ := va_join (wr := []) (w1 := [(y, .inr (10, [.int 0, .ref mt, .int 0, .ref b0, .ref b1, .int 0, .ref b2, .ref b3, .ref b4, .int 0, .int 1, .int 1, .ref b5, .int 0, .ref b6, .ref b7, .int 0, .ref b8, .ref b9, .ref b10, .ref b11, .ref b12, .ref b13, .ref b14, .ref b15, .ref b16, .ref b17, .ref b18, .ref b19, .ref b20, .ref b21, .ref b22, .int 0, .ref b23, .ref b24, .ref mi, .int 0, .int 0, .int 0, .int 0, .int 0, .int 0, .int 0, .int 0, .int 0]))]) hP hD [0] [] rfl rfl (by decide) (by decide) hk1 hFc hP1 hD1
  have hK := (hK.sub (tys' := []) [] rfl).app hK1
  clear hk1 hFc hPc hDc hKc hP1 hD1 hK1 hz1 ht hvm
  generalize H1 = H at hP hS ⊢
  have hP : va_P (dC, dI) vcl [(y, .inr (10, [.int 0, .ref mt, .int 0, .ref b0, .ref b1, .int 0, .ref b2, .ref b3, .ref b4, .int 0, .int 1, .int 1, .ref b5, .int 0, .ref b6, .ref b7, .int 0, .ref b8, .ref b9, .ref b10, .ref b11, .ref b12, .ref b13, .ref b14, .ref b15, .ref b16, .ref b17, .ref b18, .ref b19, .ref b20, .ref b21, .ref b22, .int 0, .ref b23, .ref b24, .ref mi, .int 0, .int 0, .int 0, .int 0, .int 0, .int 0, .int 0, .int 0, .int 0]))] H := hP
  have hD : va_D A [(y, .inr (10, [.int 0, .ref mt, .int 0, .ref b0, .ref b1, .int 0, .ref b2, .ref b3, .ref b4, .int 0, .int 1, .int 1, .ref b5, .int 0, .ref b6, .ref b7, .int 0, .ref b8, .ref b9, .ref b10, .ref b11, .ref b12, .ref b13, .ref b14, .ref b15, .ref b16, .ref b17, .ref b18, .ref b19, .ref b20, .ref b21, .ref b22, .int 0, .ref b23, .ref b24, .ref mi, .int 0, .int 0, .int 0, .int 0, .int 0, .int 0, .int 0, .int 0, .int 0]))] := hD
  have hK : va_K (dC, dI) vcl [] s := hK
  refine W.widen (k := 0) (n := 0) (by omega) (by omega) ?_
  subst hw_
  refine lv_if_eq (tgt := 12) hx hb d_M_load_5 (by decide) (fun _ => ?_) (fun hq => absurd rfl hq)
  refine lv_iconst (v := 1) hx hb d_M_load_12 (by decide) ?_
  refine va_put (D := (dC, dI)) (ci := 10) (v := .int 1) (ty := .int) (C := "BigRunnerModel") (T := FT10) (N := 45) hx hb (hw10 hB _) (fun _ h9 => h9) TY10 ok10 nm10 hown hK hP hD hS 0 rfl rfl 0 (by decide) (wd_947 hB _) (fun _ h9 => h9) rfl (by decide +kernel) rfl rfl (Nat.le_of_ble_eq_true rfl) d_M_load_13 (fun H locs hP hD hS => ?_)
  have hP : va_P (dC, dI) vcl [(y, .inr (10, [.int 1, .ref mt, .int 0, .ref b0, .ref b1, .int 0, .ref b2, .ref b3, .ref b4, .int 0, .int 1, .int 1, .ref b5, .int 0, .ref b6, .ref b7, .int 0, .ref b8, .ref b9, .ref b10, .ref b11, .ref b12, .ref b13, .ref b14, .ref b15, .ref b16, .ref b17, .ref b18, .ref b19, .ref b20, .ref b21, .ref b22, .int 0, .ref b23, .ref b24, .ref mi, .int 0, .int 0, .int 0, .int 0, .int 0, .int 0, .int 0, .int 0, .int 0]))] H := hP
  have hD : va_D A [(y, .inr (10, [.int 1, .ref mt, .int 0, .ref b0, .ref b1, .int 0, .ref b2, .ref b3, .ref b4, .int 0, .int 1, .int 1, .ref b5, .int 0, .ref b6, .ref b7, .int 0, .ref b8, .ref b9, .ref b10, .ref b11, .ref b12, .ref b13, .ref b14, .ref b15, .ref b16, .ref b17, .ref b18, .ref b19, .ref b20, .ref b21, .ref b22, .int 0, .ref b23, .ref b24, .ref mi, .int 0, .int 0, .int 0, .int 0, .int 0, .int 0, .int 0, .int 0, .int 0]))] := hD
  refine lv_aload_n hx hb d_M_load_16 rfl (lv_at hl 0 rfl) ?_
  refine va_get (D := (dC, dI)) (ci := 10) (v := .int 1) (C := "BigRunnerModel") (T := FT10) (N := 45) hx hb (hw10 hB _) (fun _ h9 => h9) hown hK hP 0 rfl rfl 0 (by decide) (wd_947 hB _) (fun _ h9 => h9) rfl d_M_load_17 ?_
  refine lv_if_le (tgt := 25) hx hb d_M_load_20 (by decide) (fun hq => absurd hq (by decide)) (fun _ => ?_)
  refine lv_iconst (v := 0) hx hb d_M_load_23 (by decide) ?_
  have hP9 := hP.sub (ws' := [(y, .inr (10, [.int 1, .ref mt, .int 0, .ref b0, .ref b1, .int 0, .ref b2, .ref b3, .ref b4, .int 0, .int 1, .int 1, .ref b5, .int 0, .ref b6, .ref b7, .int 0, .ref b8, .ref b9, .ref b10, .ref b11, .ref b12, .ref b13, .ref b14, .ref b15, .ref b16, .ref b17, .ref b18, .ref b19, .ref b20, .ref b21, .ref b22, .int 0, .ref b23, .ref b24, .ref mi, .int 0, .int 0, .int 0, .int 0, .int 0, .int 0, .int 0, .int 0, .int 0]))]) [0] rfl
  have hD9 := hD.sub (ws' := [(y, .inr (10, [.int 1, .ref mt, .int 0, .ref b0, .ref b1, .int 0, .ref b2, .ref b3, .ref b4, .int 0, .int 1, .int 1, .ref b5, .int 0, .ref b6, .ref b7, .int 0, .ref b8, .ref b9, .ref b10, .ref b11, .ref b12, .ref b13, .ref b14, .ref b15, .ref b16, .ref b17, .ref b18, .ref b19, .ref b20, .ref b21, .ref b22, .int 0, .ref b23, .ref b24, .ref mi, .int 0, .int 0, .int 0, .int 0, .int 0, .int 0, .int 0, .int 0, .int 0]))]) [0] (by decide) rfl
  have hK9 := hK.sub (tys' := []) [] rfl
  refine W.widen (k := 0) (n := 0) (by omega) (by omega) ?_
  exact W.iret (v := 0) hx hb hr (fun t ht hW => ⟨⟨0, (), rfl, rfl, by rw [ht]; exact hP9, va_K.moved hW.alike hK9, hD9⟩, hS.F ht⟩) hS.2.2 d_M_load_24
set_option maxHeartbeats 4000000 in
set_option maxRecDepth 100000 in
theorem c_M_run (l : Launch) (dC : Nat → ClassId) (dI : Nat → Nat → Nat) (sz : Nat) (y : Nat) (mt : Nat) (ct : ClassId) (mi : Nat) (cj : ClassId) (b0 : Nat) (b1 : Nat) (b2 : Nat) (b3 : Nat) (b4 : Nat) (b5 : Nat) (b6 : Nat) (b7 : Nat) (b8 : Nat) (b9 : Nat) (b10 : Nat) (b11 : Nat) (b12 : Nat) (b13 : Nat) (b14 : Nat) (b15 : Nat) (b16 : Nat) (b17 : Nat) (b18 : Nat) (b19 : Nat) (b20 : Nat) (b21 : Nat) (b22 : Nat) (b23 : Nat) (b24 : Nat) (k : Int32) : Met l ⟨"BigRunnerModel", "run", "(I)I"⟩ [Cond.code ⟨"BigRunnerModel", "run", "(I)I"⟩ prog_12_method_45_code 3 (some .int)] ({ frames := 0, cells := 0, slots := 0, locals := 0 }) (va_Pc [.ref y, .int k] (fun U => U.heap.size = sz ∧ TB U ∧ va_P (dC, dI) vcl [(y, .inr (10, [.int 0, .ref mt, .int 0, .ref b0, .ref b1, .int 0, .ref b2, .ref b3, .ref b4, .int 0, .int 0, .int 0, .ref b5, .int 0, .ref b6, .ref b7, .int 0, .ref b8, .ref b9, .ref b10, .ref b11, .ref b12, .ref b13, .ref b14, .ref b15, .ref b16, .ref b17, .ref b18, .ref b19, .ref b20, .ref b21, .ref b22, .int 0, .ref b23, .ref b24, .ref mi, .int 0, .int 0, .int 0, .int 0, .int 0, .int 0, .int 0, .int 0, .int 0]))] U.heap ∧ va_K (dC, dI) vcl [] U ∧ va_D (fun _ => True) [(y, .inr (10, [.int 0, .ref mt, .int 0, .ref b0, .ref b1, .int 0, .ref b2, .ref b3, .ref b4, .int 0, .int 0, .int 0, .ref b5, .int 0, .ref b6, .ref b7, .int 0, .ref b8, .ref b9, .ref b10, .ref b11, .ref b12, .ref b13, .ref b14, .ref b15, .ref b16, .ref b17, .ref b18, .ref b19, .ref b20, .ref b21, .ref b22, .int 0, .ref b23, .ref b24, .ref mi, .int 0, .int 0, .int 0, .int 0, .int 0, .int 0, .int 0, .int 0, .int 0]))])) (va_Qi (fun (r : Int32) (u : Unit) => match u with | _ => r = 0) (fun (u : Unit) (t : State) => match u with | _ => va_P (dC, dI) vcl [(y, .inr (10, [.int 1, .ref mt, .int 0, .ref b0, .ref b1, .int 0, .ref b2, .ref b3, .ref b4, .int 0, .int 0, .int 0, .ref b5, .int 0, .ref b6, .ref b7, .int 0, .ref b8, .ref b9, .ref b10, .ref b11, .ref b12, .ref b13, .ref b14, .ref b15, .ref b16, .ref b17, .ref b18, .ref b19, .ref b20, .ref b21, .ref b22, .int 0, .ref b23, .ref b24, .ref mi, .int 0, .int 0, .int 0, .int 0, .int 0, .int 0, .int 0, .int 0, .int 0]))] t.heap ∧ va_K (dC, dI) vcl [] t ∧ va_D (va_A [(y, .inr (10, [.int 0, .ref mt, .int 0, .ref b0, .ref b1, .int 0, .ref b2, .ref b3, .ref b4, .int 0, .int 0, .int 0, .ref b5, .int 0, .ref b6, .ref b7, .int 0, .ref b8, .ref b9, .ref b10, .ref b11, .ref b12, .ref b13, .ref b14, .ref b15, .ref b16, .ref b17, .ref b18, .ref b19, .ref b20, .ref b21, .ref b22, .int 0, .ref b23, .ref b24, .ref mi, .int 0, .int 0, .int 0, .int 0, .int 0, .int 0, .int 0, .int 0, .int 0]))] sz) [(y, .inr (10, [.int 1, .ref mt, .int 0, .ref b0, .ref b1, .int 0, .ref b2, .ref b3, .ref b4, .int 0, .int 0, .int 0, .ref b5, .int 0, .ref b6, .ref b7, .int 0, .ref b8, .ref b9, .ref b10, .ref b11, .ref b12, .ref b13, .ref b14, .ref b15, .ref b16, .ref b17, .ref b18, .ref b19, .ref b20, .ref b21, .ref b22, .int 0, .ref b23, .ref b24, .ref mi, .int 0, .int 0, .int 0, .int 0, .int 0, .int 0, .int 0, .int 0, .int 0]))]) (va_A [(y, .inr (10, [.int 0, .ref mt, .int 0, .ref b0, .ref b1, .int 0, .ref b2, .ref b3, .ref b4, .int 0, .int 0, .int 0, .ref b5, .int 0, .ref b6, .ref b7, .int 0, .ref b8, .ref b9, .ref b10, .ref b11, .ref b12, .ref b13, .ref b14, .ref b15, .ref b16, .ref b17, .ref b18, .ref b19, .ref b20, .ref b21, .ref b22, .int 0, .ref b23, .ref b24, .ref mi, .int 0, .int 0, .int 0, .int 0, .int 0, .int 0, .int 0, .int 0, .int 0]))] sz)) 0 0 (va_A [(y, .inr (10, [.int 0, .ref mt, .int 0, .ref b0, .ref b1, .int 0, .ref b2, .ref b3, .ref b4, .int 0, .int 0, .int 0, .ref b5, .int 0, .ref b6, .ref b7, .int 0, .ref b8, .ref b9, .ref b10, .ref b11, .ref b12, .ref b13, .ref b14, .ref b15, .ref b16, .ref b17, .ref b18, .ref b19, .ref b20, .ref b21, .ref b22, .int 0, .ref b23, .ref b24, .ref mi, .int 0, .int 0, .int 0, .int 0, .int 0, .int 0, .int 0, .int 0, .int 0]))] sz) := by
  refine Met.ofW (cc := prog_12_method_45_code) (maxL := 3) (ret := (some .int)) (by decide) rfl ?_
  intro p e s m args below meth c s₁ B hml hv
  obtain ⟨rfl, hsz, hB, hP, hK, hD0⟩ := hv
  have hx := B.exec
  have hb := B.bytes
  have hr := B.returns
  have hown : s.vm.findClass "BigRunnerModel" = some m.cls := findClass_of_methodNamed B.named
  have hlocks := B.notSynchronized
  subst hsz
  have hD := hD0.self (sz := s.heap.size)
  generalize hAe : va_A [(y, .inr (10, [.int 0, .ref mt, .int 0, .ref b0, .ref b1, .int 0, .ref b2, .ref b3, .ref b4, .int 0, .int 0, .int 0, .ref b5, .int 0, .ref b6, .ref b7, .int 0, .ref b8, .ref b9, .ref b10, .ref b11, .ref b12, .ref b13, .ref b14, .ref b15, .ref b16, .ref b17, .ref b18, .ref b19, .ref b20, .ref b21, .ref b22, .int 0, .ref b23, .ref b24, .ref mi, .int 0, .int 0, .int 0, .int 0, .int 0, .int 0, .int 0, .int 0, .int 0]))] s.heap.size = A at hD ⊢
  have hA : ∀ q : Nat, s.heap.size ≤ q → A q := fun q h => by rw [← hAe]; exact Or.inr h
  have hS : va_S A s.heap s.heap [] := va_S.rf
  have hP : va_P (dC, dI) vcl [(y, .inr (10, [.int 0, .ref mt, .int 0, .ref b0, .ref b1, .int 0, .ref b2, .ref b3, .ref b4, .int 0, .int 0, .int 0, .ref b5, .int 0, .ref b6, .ref b7, .int 0, .ref b8, .ref b9, .ref b10, .ref b11, .ref b12, .ref b13, .ref b14, .ref b15, .ref b16, .ref b17, .ref b18, .ref b19, .ref b20, .ref b21, .ref b22, .int 0, .ref b23, .ref b24, .ref mi, .int 0, .int 0, .int 0, .int 0, .int 0, .int 0, .int 0, .int 0, .int 0]))] s.heap := hP
  have hl := lv_entry ([.ref y, .int k]) (n := 3) (Nat.le_of_ble_eq_true rfl)
  rw [lg_entry_eq]
  generalize (lg_sl ([.ref y, .int k]) ++ List.replicate (3 - (lg_sl ([.ref y, .int k])).length) Slot.unset).toArray = ls at hl ⊢
  have hl : lv_has ls 3 [(0, .ref y), (1, .int k)] := hl
  refine lv_aload_n hx hb d_M_run_0 rfl (lv_at hl 0 rfl) ?_
  refine lv_aload_n hx hb d_M_run_1 rfl (lv_at hl 0 rfl) ?_
  refine va_get (D := (dC, dI)) (ci := 10) (v := .int 0) (C := "BigRunnerModel") (T := FT10) (N := 45) hx hb (hw10 hB _) (fun _ h9 => h9) hown hK hP 0 rfl rfl 39 (by decide) (wd_986 hB _) (fun _ h9 => h9) rfl d_M_run_2 ?_
  refine lv_if_eq (tgt := 16) hx hb d_M_run_5 (by decide) (fun _ => ?_) (fun hq => absurd rfl hq)
  refine lv_iconst (v := 1) hx hb d_M_run_16 (by decide) ?_
  refine lv_goto (tgt := 37) hx hb d_M_run_17 (by decide) ?_
  refine va_put (D := (dC, dI)) (ci := 10) (v := .int 1) (ty := .int) (C := "BigRunnerModel") (T := FT10) (N := 45) hx hb (hw10 hB _) (fun _ h9 => h9) TY10 ok10 nm10 hown hK hP hD hS 0 rfl rfl 0 (by decide) (wd_947 hB _) (fun _ h9 => h9) rfl (by decide +kernel) rfl rfl (Nat.le_of_ble_eq_true rfl) d_M_run_37 (fun H locs hP hD hS => ?_)
  have hP : va_P (dC, dI) vcl [(y, .inr (10, [.int 1, .ref mt, .int 0, .ref b0, .ref b1, .int 0, .ref b2, .ref b3, .ref b4, .int 0, .int 0, .int 0, .ref b5, .int 0, .ref b6, .ref b7, .int 0, .ref b8, .ref b9, .ref b10, .ref b11, .ref b12, .ref b13, .ref b14, .ref b15, .ref b16, .ref b17, .ref b18, .ref b19, .ref b20, .ref b21, .ref b22, .int 0, .ref b23, .ref b24, .ref mi, .int 0, .int 0, .int 0, .int 0, .int 0, .int 0, .int 0, .int 0, .int 0]))] H := hP
  have hD : va_D A [(y, .inr (10, [.int 1, .ref mt, .int 0, .ref b0, .ref b1, .int 0, .ref b2, .ref b3, .ref b4, .int 0, .int 0, .int 0, .ref b5, .int 0, .ref b6, .ref b7, .int 0, .ref b8, .ref b9, .ref b10, .ref b11, .ref b12, .ref b13, .ref b14, .ref b15, .ref b16, .ref b17, .ref b18, .ref b19, .ref b20, .ref b21, .ref b22, .int 0, .ref b23, .ref b24, .ref mi, .int 0, .int 0, .int 0, .int 0, .int 0, .int 0, .int 0, .int 0, .int 0]))] := hD
  refine lv_aload_n hx hb d_M_run_40 rfl (lv_at hl 0 rfl) ?_
  refine va_get (D := (dC, dI)) (ci := 10) (v := .int 1) (C := "BigRunnerModel") (T := FT10) (N := 45) hx hb (hw10 hB _) (fun _ h9 => h9) hown hK hP 0 rfl rfl 0 (by decide) (wd_947 hB _) (fun _ h9 => h9) rfl d_M_run_41 ?_
  refine lv_if_le (tgt := 49) hx hb d_M_run_44 (by decide) (fun hq => absurd hq (by decide)) (fun _ => ?_)
  refine lv_iconst (v := 0) hx hb d_M_run_47 (by decide) ?_
  have hP9 := hP.sub (ws' := [(y, .inr (10, [.int 1, .ref mt, .int 0, .ref b0, .ref b1, .int 0, .ref b2, .ref b3, .ref b4, .int 0, .int 0, .int 0, .ref b5, .int 0, .ref b6, .ref b7, .int 0, .ref b8, .ref b9, .ref b10, .ref b11, .ref b12, .ref b13, .ref b14, .ref b15, .ref b16, .ref b17, .ref b18, .ref b19, .ref b20, .ref b21, .ref b22, .int 0, .ref b23, .ref b24, .ref mi, .int 0, .int 0, .int 0, .int 0, .int 0, .int 0, .int 0, .int 0, .int 0]))]) [0] rfl
  have hD9 := hD.sub (ws' := [(y, .inr (10, [.int 1, .ref mt, .int 0, .ref b0, .ref b1, .int 0, .ref b2, .ref b3, .ref b4, .int 0, .int 0, .int 0, .ref b5, .int 0, .ref b6, .ref b7, .int 0, .ref b8, .ref b9, .ref b10, .ref b11, .ref b12, .ref b13, .ref b14, .ref b15, .ref b16, .ref b17, .ref b18, .ref b19, .ref b20, .ref b21, .ref b22, .int 0, .ref b23, .ref b24, .ref mi, .int 0, .int 0, .int 0, .int 0, .int 0, .int 0, .int 0, .int 0, .int 0]))]) [0] (by decide) rfl
  have hK9 := hK.sub (tys' := []) [] rfl
  refine W.widen (k := 0) (n := 0) (by omega) (by omega) ?_
  exact W.iret (v := 0) hx hb hr (fun t ht hW => ⟨⟨0, (), rfl, rfl, by rw [ht]; exact hP9, va_K.moved hW.alike hK9, hD9⟩, hS.F ht⟩) hS.2.2 d_M_run_48
set_option maxHeartbeats 4000000 in
set_option maxRecDepth 100000 in
theorem c_M_look (l : Launch) (dC : Nat → ClassId) (dI : Nat → Nat → Nat) (sz : Nat) (y : Nat) (mt : Nat) (ct : ClassId) (mi : Nat) (cj : ClassId) (b0 : Nat) (b1 : Nat) (b2 : Nat) (b3 : Nat) (b4 : Nat) (b5 : Nat) (b6 : Nat) (b7 : Nat) (b8 : Nat) (b9 : Nat) (b10 : Nat) (b11 : Nat) (b12 : Nat) (b13 : Nat) (b14 : Nat) (b15 : Nat) (b16 : Nat) (b17 : Nat) (b18 : Nat) (b19 : Nat) (b20 : Nat) (b21 : Nat) (b22 : Nat) (b23 : Nat) (b24 : Nat) (k : Int32) : Met l ⟨"BigRunnerModel", "look", "(I)I"⟩ [Cond.code ⟨"BigRunnerModel", "look", "(I)I"⟩ prog_12_method_46_code 2 (some .int)] ({ frames := 0, cells := 0, slots := 0, locals := 0 }) (va_Pc [.ref y, .int k] (fun U => U.heap.size = sz ∧ TB U ∧ va_P (dC, dI) vcl [(y, .inr (10, [.int 0, .ref mt, .int 0, .ref b0, .ref b1, .int 0, .ref b2, .ref b3, .ref b4, .int 0, .int 0, .int 0, .ref b5, .int 0, .ref b6, .ref b7, .int 0, .ref b8, .ref b9, .ref b10, .ref b11, .ref b12, .ref b13, .ref b14, .ref b15, .ref b16, .ref b17, .ref b18, .ref b19, .ref b20, .ref b21, .ref b22, .int 0, .ref b23, .ref b24, .ref mi, .int 0, .int 0, .int 0, .int 0, .int 0, .int 0, .int 0, .int 0, .int 0]))] U.heap ∧ va_K (dC, dI) vcl [] U ∧ va_D (fun _ => True) [(y, .inr (10, [.int 0, .ref mt, .int 0, .ref b0, .ref b1, .int 0, .ref b2, .ref b3, .ref b4, .int 0, .int 0, .int 0, .ref b5, .int 0, .ref b6, .ref b7, .int 0, .ref b8, .ref b9, .ref b10, .ref b11, .ref b12, .ref b13, .ref b14, .ref b15, .ref b16, .ref b17, .ref b18, .ref b19, .ref b20, .ref b21, .ref b22, .int 0, .ref b23, .ref b24, .ref mi, .int 0, .int 0, .int 0, .int 0, .int 0, .int 0, .int 0, .int 0, .int 0]))])) (va_Qi (fun (r : Int32) (u : Unit) => match u with | _ => r = vt_look k) (fun (u : Unit) (t : State) => match u with | _ => va_P (dC, dI) vcl [] t.heap ∧ va_K (dC, dI) vcl [] t ∧ va_D (va_A [(y, .inr (10, [.int 0, .ref mt, .int 0, .ref b0, .ref b1, .int 0, .ref b2, .ref b3, .ref b4, .int 0, .int 0, .int 0, .ref b5, .int 0, .ref b6, .ref b7, .int 0, .ref b8, .ref b9, .ref b10, .ref b11, .ref b12, .ref b13, .ref b14, .ref b15, .ref b16, .ref b17, .ref b18, .ref b19, .ref b20, .ref b21, .ref b22, .int 0, .ref b23, .ref b24, .ref mi, .int 0, .int 0, .int 0, .int 0, .int 0, .int 0, .int 0, .int 0, .int 0]))] sz) []) (va_A [(y, .inr (10, [.int 0, .ref mt, .int 0, .ref b0, .ref b1, .int 0, .ref b2, .ref b3, .ref b4, .int 0, .int 0, .int 0, .ref b5, .int 0, .ref b6, .ref b7, .int 0, .ref b8, .ref b9, .ref b10, .ref b11, .ref b12, .ref b13, .ref b14, .ref b15, .ref b16, .ref b17, .ref b18, .ref b19, .ref b20, .ref b21, .ref b22, .int 0, .ref b23, .ref b24, .ref mi, .int 0, .int 0, .int 0, .int 0, .int 0, .int 0, .int 0, .int 0, .int 0]))] sz)) 0 0 (va_A [(y, .inr (10, [.int 0, .ref mt, .int 0, .ref b0, .ref b1, .int 0, .ref b2, .ref b3, .ref b4, .int 0, .int 0, .int 0, .ref b5, .int 0, .ref b6, .ref b7, .int 0, .ref b8, .ref b9, .ref b10, .ref b11, .ref b12, .ref b13, .ref b14, .ref b15, .ref b16, .ref b17, .ref b18, .ref b19, .ref b20, .ref b21, .ref b22, .int 0, .ref b23, .ref b24, .ref mi, .int 0, .int 0, .int 0, .int 0, .int 0, .int 0, .int 0, .int 0, .int 0]))] sz) := by
  refine Met.ofW (cc := prog_12_method_46_code) (maxL := 2) (ret := (some .int)) (by decide) rfl ?_
  intro p e s m args below meth c s₁ B hml hv
  obtain ⟨rfl, hsz, hB, hP, hK, hD0⟩ := hv
  have hx := B.exec
  have hb := B.bytes
  have hr := B.returns
  have hown : s.vm.findClass "BigRunnerModel" = some m.cls := findClass_of_methodNamed B.named
  have hlocks := B.notSynchronized
  subst hsz
  have hD := hD0.self (sz := s.heap.size)
  generalize hAe : va_A [(y, .inr (10, [.int 0, .ref mt, .int 0, .ref b0, .ref b1, .int 0, .ref b2, .ref b3, .ref b4, .int 0, .int 0, .int 0, .ref b5, .int 0, .ref b6, .ref b7, .int 0, .ref b8, .ref b9, .ref b10, .ref b11, .ref b12, .ref b13, .ref b14, .ref b15, .ref b16, .ref b17, .ref b18, .ref b19, .ref b20, .ref b21, .ref b22, .int 0, .ref b23, .ref b24, .ref mi, .int 0, .int 0, .int 0, .int 0, .int 0, .int 0, .int 0, .int 0, .int 0]))] s.heap.size = A at hD ⊢
  have hA : ∀ q : Nat, s.heap.size ≤ q → A q := fun q h => by rw [← hAe]; exact Or.inr h
  have hS : va_S A s.heap s.heap [] := va_S.rf
  have hP : va_P (dC, dI) vcl [(y, .inr (10, [.int 0, .ref mt, .int 0, .ref b0, .ref b1, .int 0, .ref b2, .ref b3, .ref b4, .int 0, .int 0, .int 0, .ref b5, .int 0, .ref b6, .ref b7, .int 0, .ref b8, .ref b9, .ref b10, .ref b11, .ref b12, .ref b13, .ref b14, .ref b15, .ref b16, .ref b17, .ref b18, .ref b19, .ref b20, .ref b21, .ref b22, .int 0, .ref b23, .ref b24, .ref mi, .int 0, .int 0, .int 0, .int 0, .int 0, .int 0, .int 0, .int 0, .int 0]))] s.heap := hP
  have hl := lv_entry ([.ref y, .int k]) (n := 2) (Nat.le_of_ble_eq_true rfl)
  rw [lg_entry_eq]
  generalize (lg_sl ([.ref y, .int k]) ++ List.replicate (2 - (lg_sl ([.ref y, .int k])).length) Slot.unset).toArray = ls at hl ⊢
  have hl : lv_has ls 2 [(0, .ref y), (1, .int k)] := hl
  refine lv_aload_n hx hb d_M_look_0 rfl (lv_at hl 0 rfl) ?_
  refine lv_iconst (v := 0) hx hb d_M_look_1 (by decide) ?_
  refine va_put (D := (dC, dI)) (ci := 10) (v := .int 0) (ty := .int) (C := "BigRunnerModel") (T := FT10) (N := 45) hx hb (hw10 hB _) (fun _ h9 => h9) TY10 ok10 nm10 hown hK hP hD hS 0 rfl rfl 0 (by decide) (wd_947 hB _) (fun _ h9 => h9) rfl (by decide +kernel) rfl rfl (Nat.le_of_ble_eq_true rfl) d_M_look_2 (fun H locs hP hD hS => ?_)
  have hP : va_P (dC, dI) vcl [(y, .inr (10, [.int 0, .ref mt, .int 0, .ref b0, .ref b1, .int 0, .ref b2, .ref b3, .ref b4, .int 0, .int 0, .int 0, .ref b5, .int 0, .ref b6, .ref b7, .int 0, .ref b8, .ref b9, .ref b10, .ref b11, .ref b12, .ref b13, .ref b14, .ref b15, .ref b16, .ref b17, .ref b18, .ref b19, .ref b20, .ref b21, .ref b22, .int 0, .ref b23, .ref b24, .ref mi, .int 0, .int 0, .int 0, .int 0, .int 0, .int 0, .int 0, .int 0, .int 0]))] H := hP
  have hD : va_D A [(y, .inr (10, [.int 0, .ref mt, .int 0, .ref b0, .ref b1, .int 0, .ref b2, .ref b3, .ref b4, .int 0, .int 0, .int 0, .ref b5, .int 0, .ref b6, .ref b7, .int 0, .ref b8, .ref b9, .ref b10, .ref b11, .ref b12, .ref b13, .ref b14, .ref b15, .ref b16, .ref b17, .ref b18, .ref b19, .ref b20, .ref b21, .ref b22, .int 0, .ref b23, .ref b24, .ref mi, .int 0, .int 0, .int 0, .int 0, .int 0, .int 0, .int 0, .int 0, .int 0]))] := hD
  by_cases hk0 : k = 0
  · skip
    subst hk0
    refine lv_iload_n hx hb d_M_look_5 rfl (lv_at hl 1 rfl) ?_
    refine lv_iconst (v := 4) hx hb d_M_look_6 (by decide) ?_
    refine lv_icmp_ge (tgt := 59) hx hb d_M_look_7 (by decide) (fun hq => absurd hq (by decide)) (fun _ => ?_)
    refine lv_iload_n hx hb d_M_look_10 rfl (lv_at hl 1 rfl) ?_
    refine lv_if_ne (tgt := 21) hx hb d_M_look_11 (by decide) (fun hq => absurd hq (by decide)) (fun _ => ?_)
    refine lv_aload_n hx hb d_M_look_14 rfl (lv_at hl 0 rfl) ?_
    refine va_get (D := (dC, dI)) (ci := 10) (v := .int 0) (C := "BigRunnerModel") (T := FT10) (N := 45) hx hb (hw10 hB _) (fun _ h9 => h9) hown hK hP 0 rfl rfl 39 (by decide) (wd_986 hB _) (fun _ h9 => h9) rfl d_M_look_15 ?_
    refine lv_goto (tgt := 58) hx hb d_M_look_18 (by decide) ?_
    have hP9 := hP.sub (ws' := []) [] rfl
    have hD9 := hD.sub (ws' := []) [] (by decide) rfl
    have hK9 := hK.sub (tys' := []) [] rfl
    refine W.widen (k := 0) (n := 0) (by omega) (by omega) ?_
    exact W.iret (v := 0) hx hb hr (fun t ht hW => ⟨⟨0, (), rfl, (by decide), by rw [ht]; exact hP9, va_K.moved hW.alike hK9, hD9⟩, hS.F ht⟩) hS.2.2 d_M_look_58
  by_cases hk1 : k = 1
  · skip
    subst hk1
    refine lv_iload_n hx hb d_M_look_5 rfl (lv_at hl 1 rfl) ?_
    refine lv_iconst (v := 4) hx hb d_M_look_6 (by decide) ?_
    refine lv_icmp_ge (tgt := 59) hx hb d_M_look_7 (by decide) (fun hq => absurd hq (by decide)) (fun _ => ?_)
    refine lv_iload_n hx hb d_M_look_10 rfl (lv_at hl 1 rfl) ?_
    refine lv_if_ne (tgt := 21) hx hb d_M_look_11 (by decide) (fun _ => ?_) (fun hq => absurd hq (by decide))
    refine lv_iload_n hx hb d_M_look_21 rfl (lv_at hl 1 rfl) ?_
    refine lv_iconst (v := 1) hx hb d_M_look_22 (by decide) ?_
    refine lv_icmp_ne (tgt := 33) hx hb d_M_look_23 (by decide) (fun hq => absurd hq (by decide)) (fun _ => ?_)
    refine lv_aload_n hx hb d_M_look_26 rfl (lv_at hl 0 rfl) ?_
    refine va_get (D := (dC, dI)) (ci := 10) (v := .int 0) (C := "BigRunnerModel") (T := FT10) (N := 45) hx hb (hw10 hB _) (fun _ h9 => h9) hown hK hP 0 rfl rfl 40 (by decide) (wd_987 hB _) (fun _ h9 => h9) rfl d_M_look_27 ?_
    refine lv_goto (tgt := 58) hx hb d_M_look_30 (by decide) ?_
    have hP9 := hP.sub (ws' := []) [] rfl
    have hD9 := hD.sub (ws' := []) [] (by decide) rfl
    have hK9 := hK.sub (tys' := []) [] rfl
    refine W.widen (k := 0) (n := 0) (by omega) (by omega) ?_
    exact W.iret (v := 0) hx hb hr (fun t ht hW => ⟨⟨0, (), rfl, (by decide), by rw [ht]; exact hP9, va_K.moved hW.alike hK9, hD9⟩, hS.F ht⟩) hS.2.2 d_M_look_58
  by_cases hk2 : k = 2
  · skip
    subst hk2
    refine lv_iload_n hx hb d_M_look_5 rfl (lv_at hl 1 rfl) ?_
    refine lv_iconst (v := 4) hx hb d_M_look_6 (by decide) ?_
    refine lv_icmp_ge (tgt := 59) hx hb d_M_look_7 (by decide) (fun hq => absurd hq (by decide)) (fun _ => ?_)
    refine lv_iload_n hx hb d_M_look_10 rfl (lv_at hl 1 rfl) ?_
    refine lv_if_ne (tgt := 21) hx hb d_M_look_11 (by decide) (fun _ => ?_) (fun hq => absurd hq (by decide))
    refine lv_iload_n hx hb d_M_look_21 rfl (lv_at hl 1 rfl) ?_
    refine lv_iconst (v := 1) hx hb d_M_look_22 (by decide) ?_
    refine lv_icmp_ne (tgt := 33) hx hb d_M_look_23 (by decide) (fun _ => ?_) (fun hq => absurd hq (by decide))
    refine lv_iload_n hx hb d_M_look_33 rfl (lv_at hl 1 rfl) ?_
    refine lv_iconst (v := 2) hx hb d_M_look_34 (by decide) ?_
    refine lv_icmp_ne (tgt := 45) hx hb d_M_look_35 (by decide) (fun hq => absurd hq (by decide)) (fun _ => ?_)
    refine lv_aload_n hx hb d_M_look_38 rfl (lv_at hl 0 rfl) ?_
    refine va_get (D := (dC, dI)) (ci := 10) (v := .int 0) (C := "BigRunnerModel") (T := FT10) (N := 45) hx hb (hw10 hB _) (fun _ h9 => h9) hown hK hP 0 rfl rfl 41 (by decide) (wd_988 hB _) (fun _ h9 => h9) rfl d_M_look_39 ?_
    refine lv_goto (tgt := 58) hx hb d_M_look_42 (by decide) ?_
    have hP9 := hP.sub (ws' := []) [] rfl
    have hD9 := hD.sub (ws' := []) [] (by decide) rfl
    have hK9 := hK.sub (tys' := []) [] rfl
    refine W.widen (k := 0) (n := 0) (by omega) (by omega) ?_
    exact W.iret (v := 0) hx hb hr (fun t ht hW => ⟨⟨0, (), rfl, (by decide), by rw [ht]; exact hP9, va_K.moved hW.alike hK9, hD9⟩, hS.F ht⟩) hS.2.2 d_M_look_58
  by_cases hk3 : k = 3
  · skip
    subst hk3
    refine lv_iload_n hx hb d_M_look_5 rfl (lv_at hl 1 rfl) ?_
    refine lv_iconst (v := 4) hx hb d_M_look_6 (by decide) ?_
    refine lv_icmp_ge (tgt := 59) hx hb d_M_look_7 (by decide) (fun hq => absurd hq (by decide)) (fun _ => ?_)
    refine lv_iload_n hx hb d_M_look_10 rfl (lv_at hl 1 rfl) ?_
    refine lv_if_ne (tgt := 21) hx hb d_M_look_11 (by decide) (fun _ => ?_) (fun hq => absurd hq (by decide))
    refine lv_iload_n hx hb d_M_look_21 rfl (lv_at hl 1 rfl) ?_
    refine lv_iconst (v := 1) hx hb d_M_look_22 (by decide) ?_
    refine lv_icmp_ne (tgt := 33) hx hb d_M_look_23 (by decide) (fun _ => ?_) (fun hq => absurd hq (by decide))
    refine lv_iload_n hx hb d_M_look_33 rfl (lv_at hl 1 rfl) ?_
    refine lv_iconst (v := 2) hx hb d_M_look_34 (by decide) ?_
    refine lv_icmp_ne (tgt := 45) hx hb d_M_look_35 (by decide) (fun _ => ?_) (fun hq => absurd hq (by decide))
    refine lv_iload_n hx hb d_M_look_45 rfl (lv_at hl 1 rfl) ?_
    refine lv_iconst (v := 3) hx hb d_M_look_46 (by decide) ?_
    refine lv_icmp_ne (tgt := 57) hx hb d_M_look_47 (by decide) (fun hq => absurd hq (by decide)) (fun _ => ?_)
    refine lv_aload_n hx hb d_M_look_50 rfl (lv_at hl 0 rfl) ?_
    refine va_get (D := (dC, dI)) (ci := 10) (v := .int 0) (C := "BigRunnerModel") (T := FT10) (N := 45) hx hb (hw10 hB _) (fun _ h9 => h9) hown hK hP 0 rfl rfl 42 (by decide) (wd_989 hB _) (fun _ h9 => h9) rfl d_M_look_51 ?_
    refine lv_goto (tgt := 58) hx hb d_M_look_54 (by decide) ?_
    have hP9 := hP.sub (ws' := []) [] rfl
    have hD9 := hD.sub (ws' := []) [] (by decide) rfl
    have hK9 := hK.sub (tys' := []) [] rfl
    refine W.widen (k := 0) (n := 0) (by omega) (by omega) ?_
    exact W.iret (v := 0) hx hb hr (fun t ht hW => ⟨⟨0, (), rfl, (by decide), by rw [ht]; exact hP9, va_K.moved hW.alike hK9, hD9⟩, hS.F ht⟩) hS.2.2 d_M_look_58
  by_cases hk4 : k = 4
  · skip
    subst hk4
    refine lv_iload_n hx hb d_M_look_5 rfl (lv_at hl 1 rfl) ?_
    refine lv_iconst (v := 4) hx hb d_M_look_6 (by decide) ?_
    refine lv_icmp_ge (tgt := 59) hx hb d_M_look_7 (by decide) (fun _ => ?_) (fun hq => absurd (by decide) hq)
    refine lv_iload_n hx hb d_M_look_59 rfl (lv_at hl 1 rfl) ?_
    refine lv_iconst (v := 4) hx hb d_M_look_60 (by decide) ?_
    refine lv_icmp_ne (tgt := 71) hx hb d_M_look_61 (by decide) (fun hq => absurd hq (by decide)) (fun _ => ?_)
    refine lv_aload_n hx hb d_M_look_64 rfl (lv_at hl 0 rfl) ?_
    refine va_get (D := (dC, dI)) (ci := 10) (v := .int 0) (C := "BigRunnerModel") (T := FT10) (N := 45) hx hb (hw10 hB _) (fun _ h9 => h9) hown hK hP 0 rfl rfl 43 (by decide) (wd_990 hB _) (fun _ h9 => h9) rfl d_M_look_65 ?_
    refine lv_goto (tgt := 97) hx hb d_M_look_68 (by decide) ?_
    have hP9 := hP.sub (ws' := []) [] rfl
    have hD9 := hD.sub (ws' := []) [] (by decide) rfl
    have hK9 := hK.sub (tys' := []) [] rfl
    refine W.widen (k := 0) (n := 0) (by omega) (by omega) ?_
    exact W.iret (v := 0) hx hb hr (fun t ht hW => ⟨⟨0, (), rfl, (by decide), by rw [ht]; exact hP9, va_K.moved hW.alike hK9, hD9⟩, hS.F ht⟩) hS.2.2 d_M_look_97
  by_cases hk5 : k = 5
  · skip
    subst hk5
    refine lv_iload_n hx hb d_M_look_5 rfl (lv_at hl 1 rfl) ?_
    refine lv_iconst (v := 4) hx hb d_M_look_6 (by decide) ?_
    refine lv_icmp_ge (tgt := 59) hx hb d_M_look_7 (by decide) (fun _ => ?_) (fun hq => absurd (by decide) hq)
    refine lv_iload_n hx hb d_M_look_59 rfl (lv_at hl 1 rfl) ?_
    refine lv_iconst (v := 4) hx hb d_M_look_60 (by decide) ?_
    refine lv_icmp_ne (tgt := 71) hx hb d_M_look_61 (by decide) (fun _ => ?_) (fun hq => absurd hq (by decide))
    refine lv_iload_n hx hb d_M_look_71 rfl (lv_at hl 1 rfl) ?_
    refine lv_iconst (v := 5) hx hb d_M_look_72 (by decide) ?_
    refine lv_icmp_ne (tgt := 83) hx hb d_M_look_73 (by decide) (fun hq => absurd hq (by decide)) (fun _ => ?_)
    refine lv_aload_n hx hb d_M_look_76 rfl (lv_at hl 0 rfl) ?_
    refine va_get (D := (dC, dI)) (ci := 10) (v := .int 0) (C := "BigRunnerModel") (T := FT10) (N := 45) hx hb (hw10 hB _) (fun _ h9 => h9) hown hK hP 0 rfl rfl 37 (by decide) (wd_984 hB _) (fun _ h9 => h9) rfl d_M_look_77 ?_
    refine lv_goto (tgt := 97) hx hb d_M_look_80 (by decide) ?_
    have hP9 := hP.sub (ws' := []) [] rfl
    have hD9 := hD.sub (ws' := []) [] (by decide) rfl
    have hK9 := hK.sub (tys' := []) [] rfl
    refine W.widen (k := 0) (n := 0) (by omega) (by omega) ?_
    exact W.iret (v := 0) hx hb hr (fun t ht hW => ⟨⟨0, (), rfl, (by decide), by rw [ht]; exact hP9, va_K.moved hW.alike hK9, hD9⟩, hS.F ht⟩) hS.2.2 d_M_look_97
  by_cases hk6 : k = 6
  · skip
    subst hk6
    refine lv_iload_n hx hb d_M_look_5 rfl (lv_at hl 1 rfl) ?_
    refine lv_iconst (v := 4) hx hb d_M_look_6 (by decide) ?_
    refine lv_icmp_ge (tgt := 59) hx hb d_M_look_7 (by decide) (fun _ => ?_) (fun hq => absurd (by decide) hq)
    refine lv_iload_n hx hb d_M_look_59 rfl (lv_at hl 1 rfl) ?_
    refine lv_iconst (v := 4) hx hb d_M_look_60 (by decide) ?_
    refine lv_icmp_ne (tgt := 71) hx hb d_M_look_61 (by decide) (fun _ => ?_) (fun hq => absurd hq (by decide))
    refine lv_iload_n hx hb d_M_look_71 rfl (lv_at hl 1 rfl) ?_
    refine lv_iconst (v := 5) hx hb d_M_look_72 (by decide) ?_
    refine lv_icmp_ne (tgt := 83) hx hb d_M_look_73 (by decide) (fun _ => ?_) (fun hq => absurd hq (by decide))
    refine lv_iload_n hx hb d_M_look_83 rfl (lv_at hl 1 rfl) ?_
    refine lv_bipush (v := 6) hx hb d_M_look_84 (by decide) ?_
    refine lv_icmp_ne (tgt := 96) hx hb d_M_look_86 (by decide) (fun hq => absurd hq (by decide)) (fun _ => ?_)
    refine lv_aload_n hx hb d_M_look_89 rfl (lv_at hl 0 rfl) ?_
    refine va_get (D := (dC, dI)) (ci := 10) (v := .int 0) (C := "BigRunnerModel") (T := FT10) (N := 45) hx hb (hw10 hB _) (fun _ h9 => h9) hown hK hP 0 rfl rfl 36 (by decide) (wd_983 hB _) (fun _ h9 => h9) rfl d_M_look_90 ?_
    refine lv_goto (tgt := 97) hx hb d_M_look_93 (by decide) ?_
    have hP9 := hP.sub (ws' := []) [] rfl
    have hD9 := hD.sub (ws' := []) [] (by decide) rfl
    have hK9 := hK.sub (tys' := []) [] rfl
    refine W.widen (k := 0) (n := 0) (by omega) (by omega) ?_
    exact W.iret (v := 0) hx hb hr (fun t ht hW => ⟨⟨0, (), rfl, (by decide), by rw [ht]; exact hP9, va_K.moved hW.alike hK9, hD9⟩, hS.F ht⟩) hS.2.2 d_M_look_97
  refine lv_iload_n hx hb d_M_look_5 rfl (lv_at hl 1 rfl) ?_
  refine lv_iconst (v := 4) hx hb d_M_look_6 (by decide) ?_
  refine lv_icmp_ge (tgt := 59) hx hb d_M_look_7 (by decide) (fun h9 => ?_) (fun h9 => ?_)
  · skip
    refine lv_iload_n hx hb d_M_look_59 rfl (lv_at hl 1 rfl) ?_
    refine lv_iconst (v := 4) hx hb d_M_look_60 (by decide) ?_
    refine lv_icmp_ne (tgt := 71) hx hb d_M_look_61 (by decide) (fun _ => ?_) (fun hq => absurd hq hk4)
    refine lv_iload_n hx hb d_M_look_71 rfl (lv_at hl 1 rfl) ?_
    refine lv_iconst (v := 5) hx hb d_M_look_72 (by decide) ?_
    refine lv_icmp_ne (tgt := 83) hx hb d_M_look_73 (by decide) (fun _ => ?_) (fun hq => absurd hq hk5)
    refine lv_iload_n hx hb d_M_look_83 rfl (lv_at hl 1 rfl) ?_
    refine lv_bipush (v := 6) hx hb d_M_look_84 (by decide) ?_
    refine lv_icmp_ne (tgt := 96) hx hb d_M_look_86 (by decide) (fun _ => ?_) (fun hq => absurd hq hk6)
    refine lv_iconst (v := (-1)) hx hb d_M_look_96 (by decide) ?_
    have hP9 := hP.sub (ws' := []) [] rfl
    have hD9 := hD.sub (ws' := []) [] (by decide) rfl
    have hK9 := hK.sub (tys' := []) [] rfl
    refine W.widen (k := 0) (n := 0) (by omega) (by omega) ?_
    exact W.iret (v := (-1)) hx hb hr (fun t ht hW => ⟨⟨(-1), (), rfl, (by simp [vt_look, hk0, hk1, hk2, hk3, hk4, hk5, hk6]), by rw [ht]; exact hP9, va_K.moved hW.alike hK9, hD9⟩, hS.F ht⟩) hS.2.2 d_M_look_97
  · skip
    refine lv_iload_n hx hb d_M_look_10 rfl (lv_at hl 1 rfl) ?_
    refine lv_if_ne (tgt := 21) hx hb d_M_look_11 (by decide) (fun _ => ?_) (fun hq => absurd hq hk0)
    refine lv_iload_n hx hb d_M_look_21 rfl (lv_at hl 1 rfl) ?_
    refine lv_iconst (v := 1) hx hb d_M_look_22 (by decide) ?_
    refine lv_icmp_ne (tgt := 33) hx hb d_M_look_23 (by decide) (fun _ => ?_) (fun hq => absurd hq hk1)
    refine lv_iload_n hx hb d_M_look_33 rfl (lv_at hl 1 rfl) ?_
    refine lv_iconst (v := 2) hx hb d_M_look_34 (by decide) ?_
    refine lv_icmp_ne (tgt := 45) hx hb d_M_look_35 (by decide) (fun _ => ?_) (fun hq => absurd hq hk2)
    refine lv_iload_n hx hb d_M_look_45 rfl (lv_at hl 1 rfl) ?_
    refine lv_iconst (v := 3) hx hb d_M_look_46 (by decide) ?_
    refine lv_icmp_ne (tgt := 57) hx hb d_M_look_47 (by decide) (fun _ => ?_) (fun hq => absurd hq hk3)
    refine lv_iconst (v := (-1)) hx hb d_M_look_57 (by decide) ?_
    have hP9 := hP.sub (ws' := []) [] rfl
    have hD9 := hD.sub (ws' := []) [] (by decide) rfl
    have hK9 := hK.sub (tys' := []) [] rfl
    refine W.widen (k := 0) (n := 0) (by omega) (by omega) ?_
    exact W.iret (v := (-1)) hx hb hr (fun t ht hW => ⟨⟨(-1), (), rfl, (by simp [vt_look, hk0, hk1, hk2, hk3, hk4, hk5, hk6]), by rw [ht]; exact hP9, va_K.moved hW.alike hK9, hD9⟩, hS.F ht⟩) hS.2.2 d_M_look_58
set_option maxHeartbeats 4000000 in
set_option maxRecDepth 100000 in
theorem c_M_small (l : Launch) (dC : Nat → ClassId) (dI : Nat → Nat → Nat) (sz : Nat) (y : Nat) (mt : Nat) (ct : ClassId) (mi : Nat) (cj : ClassId) (b0 : Nat) (b1 : Nat) (b2 : Nat) (b3 : Nat) (b4 : Nat) (b5 : Nat) (b6 : Nat) (b7 : Nat) (b8 : Nat) (b9 : Nat) (b10 : Nat) (b11 : Nat) (b12 : Nat) (b13 : Nat) (b14 : Nat) (b15 : Nat) (b16 : Nat) (b17 : Nat) (b18 : Nat) (b19 : Nat) (b20 : Nat) (b21 : Nat) (b22 : Nat) (b23 : Nat) (b24 : Nat) (k : Int32) : Met l ⟨"BigRunnerModel", "small", "(I)Z"⟩ [Cond.code ⟨"BigRunnerModel", "small", "(I)Z"⟩ prog_12_method_48_code 2 (some .boolean)] ({ frames := 0, cells := 0, slots := 0, locals := 0 }) (va_Pc [.ref y, .int k] (fun U => U.heap.size = sz ∧ TB U ∧ va_P (dC, dI) vcl [(y, .inr (10, [.int 0, .ref mt, .int 0, .ref b0, .ref b1, .int 0, .ref b2, .ref b3, .ref b4, .int 0, .int 0, .int 0, .ref b5, .int 0, .ref b6, .ref b7, .int 0, .ref b8, .ref b9, .ref b10, .ref b11, .ref b12, .ref b13, .ref b14, .ref b15, .ref b16, .ref b17, .ref b18, .ref b19, .ref b20, .ref b21, .ref b22, .int 0, .ref b23, .ref b24, .ref mi, .int 0, .int 0, .int 0, .int 0, .int 0, .int 0, .int 0, .int 0, .int 0]))] U.heap ∧ va_K (dC, dI) vcl [] U ∧ va_D (fun _ => True) [(y, .inr (10, [.int 0, .ref mt, .int 0, .ref b0, .ref b1, .int 0, .ref b2, .ref b3, .ref b4, .int 0, .int 0, .int 0, .ref b5, .int 0, .ref b6, .ref b7, .int 0, .ref b8, .ref b9, .ref b10, .ref b11, .ref b12, .ref b13, .ref b14, .ref b15, .ref b16, .ref b17, .ref b18, .ref b19, .ref b20, .ref b21, .ref b22, .int 0, .ref b23, .ref b24, .ref mi, .int 0, .int 0, .int 0, .int 0, .int 0, .int 0, .int 0, .int 0, .int 0]))])) (va_Qi (fun (r : Int32) (u : Unit) => match u with | _ => r = 0) (fun (u : Unit) (t : State) => match u with | _ => va_P (dC, dI) vcl [] t.heap ∧ va_K (dC, dI) vcl [] t ∧ va_D (va_A [(y, .inr (10, [.int 0, .ref mt, .int 0, .ref b0, .ref b1, .int 0, .ref b2, .ref b3, .ref b4, .int 0, .int 0, .int 0, .ref b5, .int 0, .ref b6, .ref b7, .int 0, .ref b8, .ref b9, .ref b10, .ref b11, .ref b12, .ref b13, .ref b14, .ref b15, .ref b16, .ref b17, .ref b18, .ref b19, .ref b20, .ref b21, .ref b22, .int 0, .ref b23, .ref b24, .ref mi, .int 0, .int 0, .int 0, .int 0, .int 0, .int 0, .int 0, .int 0, .int 0]))] sz) []) (va_A [(y, .inr (10, [.int 0, .ref mt, .int 0, .ref b0, .ref b1, .int 0, .ref b2, .ref b3, .ref b4, .int 0, .int 0, .int 0, .ref b5, .int 0, .ref b6, .ref b7, .int 0, .ref b8, .ref b9, .ref b10, .ref b11, .ref b12, .ref b13, .ref b14, .ref b15, .ref b16, .ref b17, .ref b18, .ref b19, .ref b20, .ref b21, .ref b22, .int 0, .ref b23, .ref b24, .ref mi, .int 0, .int 0, .int 0, .int 0, .int 0, .int 0, .int 0, .int 0, .int 0]))] sz)) 0 0 (va_A [(y, .inr (10, [.int 0, .ref mt, .int 0, .ref b0, .ref b1, .int 0, .ref b2, .ref b3, .ref b4, .int 0, .int 0, .int 0, .ref b5, .int 0, .ref b6, .ref b7, .int 0, .ref b8, .ref b9, .ref b10, .ref b11, .ref b12, .ref b13, .ref b14, .ref b15, .ref b16, .ref b17, .ref b18, .ref b19, .ref b20, .ref b21, .ref b22, .int 0, .ref b23, .ref b24, .ref mi, .int 0, .int 0, .int 0, .int 0, .int 0, .int 0, .int 0, .int 0, .int 0]))] sz) := by
  refine Met.ofW (cc := prog_12_method_48_code) (maxL := 2) (ret := (some .boolean)) (by decide) rfl ?_
  intro p e s m args below meth c s₁ B hml hv
  obtain ⟨rfl, hsz, hB, hP, hK, hD0⟩ := hv
  have hx := B.exec
  have hb := B.bytes
  have hr := B.returns
  have hown : s.vm.findClass "BigRunnerModel" = some m.cls := findClass_of_methodNamed B.named
  have hlocks := B.notSynchronized
  subst hsz
  have hD := hD0.self (sz := s.heap.size)
  generalize hAe : va_A [(y, .inr (10, [.int 0, .ref mt, .int 0, .ref b0, .ref b1, .int 0, .ref b2, .ref b3, .ref b4, .int 0, .int 0, .int 0, .ref b5, .int 0, .ref b6, .ref b7, .int 0, .ref b8, .ref b9, .ref b10, .ref b11, .ref b12, .ref b13, .ref b14, .ref b15, .ref b16, .ref b17, .ref b18, .ref b19, .ref b20, .ref b21, .ref b22, .int 0, .ref b23, .ref b24, .ref mi, .int 0, .int 0, .int 0, .int 0, .int 0, .int 0, .int 0, .int 0, .int 0]))] s.heap.size = A at hD ⊢
  have hA : ∀ q : Nat, s.heap.size ≤ q → A q := fun q h => by rw [← hAe]; exact Or.inr h
  have hS : va_S A s.heap s.heap [] := va_S.rf
  have hP : va_P (dC, dI) vcl [(y, .inr (10, [.int 0, .ref mt, .int 0, .ref b0, .ref b1, .int 0, .ref b2, .ref b3, .ref b4, .int 0, .int 0, .int 0, .ref b5, .int 0, .ref b6, .ref b7, .int 0, .ref b8, .ref b9, .ref b10, .ref b11, .ref b12, .ref b13, .ref b14, .ref b15, .ref b16, .ref b17, .ref b18, .ref b19, .ref b20, .ref b21, .ref b22, .int 0, .ref b23, .ref b24, .ref mi, .int 0, .int 0, .int 0, .int 0, .int 0, .int 0, .int 0, .int 0, .int 0]))] s.heap := hP
  have hl := lv_entry ([.ref y, .int k]) (n := 2) (Nat.le_of_ble_eq_true rfl)
  rw [lg_entry_eq]
  generalize (lg_sl ([.ref y, .int k]) ++ List.replicate (2 - (lg_sl ([.ref y, .int k])).length) Slot.unset).toArray = ls at hl ⊢
  have hl : lv_has ls 2 [(0, .ref y), (1, .int k)] := hl
  refine lv_aload_n hx hb d_M_small_0 rfl (lv_at hl 0 rfl) ?_
  refine lv_iconst (v := 0) hx hb d_M_small_1 (by decide) ?_
  refine va_put (D := (dC, dI)) (ci := 10) (v := .int 0) (ty := .int) (C := "BigRunnerModel") (T := FT10) (N := 45) hx hb (hw10 hB _) (fun _ h9 => h9) TY10 ok10 nm10 hown hK hP hD hS 0 rfl rfl 0 (by decide) (wd_947 hB _) (fun _ h9 => h9) rfl (by decide +kernel) rfl rfl (Nat.le_of_ble_eq_true rfl) d_M_small_2 (fun H locs hP hD hS => ?_)
  have hP : va_P (dC, dI) vcl [(y, .inr (10, [.int 0, .ref mt, .int 0, .ref b0, .ref b1, .int 0, .ref b2, .ref b3, .ref b4, .int 0, .int 0, .int 0, .ref b5, .int 0, .ref b6, .ref b7, .int 0, .ref b8, .ref b9, .ref b10, .ref b11, .ref b12, .ref b13, .ref b14, .ref b15, .ref b16, .ref b17, .ref b18, .ref b19, .ref b20, .ref b21, .ref b22, .int 0, .ref b23, .ref b24, .ref mi, .int 0, .int 0, .int 0, .int 0, .int 0, .int 0, .int 0, .int 0, .int 0]))] H := hP
  have hD : va_D A [(y, .inr (10, [.int 0, .ref mt, .int 0, .ref b0, .ref b1, .int 0, .ref b2, .ref b3, .ref b4, .int 0, .int 0, .int 0, .ref b5, .int 0, .ref b6, .ref b7, .int 0, .ref b8, .ref b9, .ref b10, .ref b11, .ref b12, .ref b13, .ref b14, .ref b15, .ref b16, .ref b17, .ref b18, .ref b19, .ref b20, .ref b21, .ref b22, .int 0, .ref b23, .ref b24, .ref mi, .int 0, .int 0, .int 0, .int 0, .int 0, .int 0, .int 0, .int 0, .int 0]))] := hD
  refine lv_iload_n hx hb d_M_small_5 rfl (lv_at hl 1 rfl) ?_
  refine lv_if_lt (tgt := 44) hx hb d_M_small_6 (by decide) (fun h1 => ?_) (fun h1 => ?_)
  · skip
    refine lv_iconst (v := 0) hx hb d_M_small_44 (by decide) ?_
    have hP9 := hP.sub (ws' := []) [] rfl
    have hD9 := hD.sub (ws' := []) [] (by decide) rfl
    have hK9 := hK.sub (tys' := []) [] rfl
    refine W.widen (k := 0) (n := 0) (by omega) (by omega) ?_
    exact W.zret (v := 0) (ty := .boolean) hx hb hr rfl (fun t ht hW => ⟨⟨0, (), rfl, rfl, by rw [ht]; exact hP9, va_K.moved hW.alike hK9, hD9⟩, hS.F ht⟩) hS.2.2 d_M_small_45
  · skip
    refine lv_iload_n hx hb d_M_small_9 rfl (lv_at hl 1 rfl) ?_
    refine lv_bipush (v := 10) hx hb d_M_small_10 (by decide) ?_
    refine lv_icmp_ge (tgt := 44) hx hb d_M_small_12 (by decide) (fun h2 => ?_) (fun h2 => ?_)
    · skip
      refine lv_iconst (v := 0) hx hb d_M_small_44 (by decide) ?_
      have hP9 := hP.sub (ws' := []) [] rfl
      have hD9 := hD.sub (ws' := []) [] (by decide) rfl
      have hK9 := hK.sub (tys' := []) [] rfl
      refine W.widen (k := 0) (n := 0) (by omega) (by omega) ?_
      exact W.zret (v := 0) (ty := .boolean) hx hb hr rfl (fun t ht hW => ⟨⟨0, (), rfl, rfl, by rw [ht]; exact hP9, va_K.moved hW.alike hK9, hD9⟩, hS.F ht⟩) hS.2.2 d_M_small_45
    · skip
      refine lv_aload_n hx hb d_M_small_15 rfl (lv_at hl 0 rfl) ?_
      refine va_get (D := (dC, dI)) (ci := 10) (v := .int 0) (C := "BigRunnerModel") (T := FT10) (N := 45) hx hb (hw10 hB _) (fun _ h9 => h9) hown hK hP 0 rfl rfl 39 (by decide) (wd_986 hB _) (fun _ h9 => h9) rfl d_M_small_16 ?_
      refine lv_if_le (tgt := 44) hx hb d_M_small_19 (by decide) (fun _ => ?_) (fun hq => absurd (by decide) hq)
      refine lv_iconst (v := 0) hx hb d_M_small_44 (by decide) ?_
      have hP9 := hP.sub (ws' := []) [] rfl
      have hD9 := hD.sub (ws' := []) [] (by decide) rfl
      have hK9 := hK.sub (tys' := []) [] rfl
      refine W.widen (k := 0) (n := 0) (by omega) (by omega) ?_
      exact W.zret (v := 0) (ty := .boolean) hx hb hr rfl (fun t ht hW => ⟨⟨0, (), rfl, rfl, by rw [ht]; exact hP9, va_K.moved hW.alike hK9, hD9⟩, hS.F ht⟩) hS.2.2 d_M_small_45
set_option maxHeartbeats 4000000 in
set_option maxRecDepth 100000 in
theorem c_M_bound (l : Launch) (dC : Nat → ClassId) (dI : Nat → Nat → Nat) (sz : Nat) (y : Nat) (mt : Nat) (ct : ClassId) (mi : Nat) (cj : ClassId) (b0 : Nat) (b1 : Nat) (b2 : Nat) (b3 : Nat) (b4 : Nat) (b5 : Nat) (b6 : Nat) (b7 : Nat) (b8 : Nat) (b9 : Nat) (b10 : Nat) (b11 : Nat) (b12 : Nat) (b13 : Nat) (b14 : Nat) (b15 : Nat) (b16 : Nat) (b17 : Nat) (b18 : Nat) (b19 : Nat) (b20 : Nat) (b21 : Nat) (b22 : Nat) (b23 : Nat) (b24 : Nat) (k : Int32) (g : Int32) : Met l ⟨"BigRunnerModel", "bound", "(IZ)J"⟩ [Cond.code ⟨"BigRunnerModel", "bound", "(IZ)J"⟩ prog_12_method_47_code 4 (some .long)] ({ frames := 0, cells := 0, slots := 0, locals := 0 }) (va_Pc [.ref y, .int k, .int g] (fun U => U.heap.size = sz ∧ TB U ∧ va_P (dC, dI) vcl [(y, .inr (10, [.int 0, .ref mt, .int 0, .ref b0, .ref b1, .int 0, .ref b2, .ref b3, .ref b4, .int 0, .int 0, .int 0, .ref b5, .int 0, .ref b6, .ref b7, .int 0, .ref b8, .ref b9, .ref b10, .ref b11, .ref b12, .ref b13, .ref b14, .ref b15, .ref b16, .ref b17, .ref b18, .ref b19, .ref b20, .ref b21, .ref b22, .int 0, .ref b23, .ref b24, .ref mi, .int 0, .int 0, .int 0, .int 0, .int 0, .int 0, .int 0, .int 0, .int 0]))] U.heap ∧ va_K (dC, dI) vcl [] U ∧ va_D (fun _ => True) [(y, .inr (10, [.int 0, .ref mt, .int 0, .ref b0, .ref b1, .int 0, .ref b2, .ref b3, .ref b4, .int 0, .int 0, .int 0, .ref b5, .int 0, .ref b6, .ref b7, .int 0, .ref b8, .ref b9, .ref b10, .ref b11, .ref b12, .ref b13, .ref b14, .ref b15, .ref b16, .ref b17, .ref b18, .ref b19, .ref b20, .ref b21, .ref b22, .int 0, .ref b23, .ref b24, .ref mi, .int 0, .int 0, .int 0, .int 0, .int 0, .int 0, .int 0, .int 0, .int 0]))])) (va_Ql (fun (r : Int64) (u : Unit) => match u with | _ => r = 0) (fun (u : Unit) (t : State) => match u with | _ => va_P (dC, dI) vcl [(y, .inr (10, [.int 1, .ref mt, .int 0, .ref b0, .ref b1, .int 0, .ref b2, .ref b3, .ref b4, .int 0, .int 0, .int 0, .ref b5, .int 0, .ref b6, .ref b7, .int 0, .ref b8, .ref b9, .ref b10, .ref b11, .ref b12, .ref b13, .ref b14, .ref b15, .ref b16, .ref b17, .ref b18, .ref b19, .ref b20, .ref b21, .ref b22, .int 0, .ref b23, .ref b24, .ref mi, .int 0, .int 0, .int 0, .int 0, .int 0, .int 0, .int 0, .int 0, .int 0]))] t.heap ∧ va_K (dC, dI) vcl [] t ∧ va_D (va_A [(y, .inr (10, [.int 0, .ref mt, .int 0, .ref b0, .ref b1, .int 0, .ref b2, .ref b3, .ref b4, .int 0, .int 0, .int 0, .ref b5, .int 0, .ref b6, .ref b7, .int 0, .ref b8, .ref b9, .ref b10, .ref b11, .ref b12, .ref b13, .ref b14, .ref b15, .ref b16, .ref b17, .ref b18, .ref b19, .ref b20, .ref b21, .ref b22, .int 0, .ref b23, .ref b24, .ref mi, .int 0, .int 0, .int 0, .int 0, .int 0, .int 0, .int 0, .int 0, .int 0]))] sz) [(y, .inr (10, [.int 1, .ref mt, .int 0, .ref b0, .ref b1, .int 0, .ref b2, .ref b3, .ref b4, .int 0, .int 0, .int 0, .ref b5, .int 0, .ref b6, .ref b7, .int 0, .ref b8, .ref b9, .ref b10, .ref b11, .ref b12, .ref b13, .ref b14, .ref b15, .ref b16, .ref b17, .ref b18, .ref b19, .ref b20, .ref b21, .ref b22, .int 0, .ref b23, .ref b24, .ref mi, .int 0, .int 0, .int 0, .int 0, .int 0, .int 0, .int 0, .int 0, .int 0]))]) (va_A [(y, .inr (10, [.int 0, .ref mt, .int 0, .ref b0, .ref b1, .int 0, .ref b2, .ref b3, .ref b4, .int 0, .int 0, .int 0, .ref b5, .int 0, .ref b6, .ref b7, .int 0, .ref b8, .ref b9, .ref b10, .ref b11, .ref b12, .ref b13, .ref b14, .ref b15, .ref b16, .ref b17, .ref b18, .ref b19, .ref b20, .ref b21, .ref b22, .int 0, .ref b23, .ref b24, .ref mi, .int 0, .int 0, .int 0, .int 0, .int 0, .int 0, .int 0, .int 0, .int 0]))] sz)) 0 0 (va_A [(y, .inr (10, [.int 0, .ref mt, .int 0, .ref b0, .ref b1, .int 0, .ref b2, .ref b3, .ref b4, .int 0, .int 0, .int 0, .ref b5, .int 0, .ref b6, .ref b7, .int 0, .ref b8, .ref b9, .ref b10, .ref b11, .ref b12, .ref b13, .ref b14, .ref b15, .ref b16, .ref b17, .ref b18, .ref b19, .ref b20, .ref b21, .ref b22, .int 0, .ref b23, .ref b24, .ref mi, .int 0, .int 0, .int 0, .int 0, .int 0, .int 0, .int 0, .int 0, .int 0]))] sz) := by
  refine Met.ofW (cc := prog_12_method_47_code) (maxL := 4) (ret := (some .long)) (by decide) rfl ?_
  intro p e s m args below meth c s₁ B hml hv
  obtain ⟨rfl, hsz, hB, hP, hK, hD0⟩ := hv
  have hx := B.exec
  have hb := B.bytes
  have hr := B.returns
  have hown : s.vm.findClass "BigRunnerModel" = some m.cls := findClass_of_methodNamed B.named
  have hlocks := B.notSynchronized
  subst hsz
  have hD := hD0.self (sz := s.heap.size)
  generalize hAe : va_A [(y, .inr (10, [.int 0, .ref mt, .int 0, .ref b0, .ref b1, .int 0, .ref b2, .ref b3, .ref b4, .int 0, .int 0, .int 0, .ref b5, .int 0, .ref b6, .ref b7, .int 0, .ref b8, .ref b9, .ref b10, .ref b11, .ref b12, .ref b13, .ref b14, .ref b15, .ref b16, .ref b17, .ref b18, .ref b19, .ref b20, .ref b21, .ref b22, .int 0, .ref b23, .ref b24, .ref mi, .int 0, .int 0, .int 0, .int 0, .int 0, .int 0, .int 0, .int 0, .int 0]))] s.heap.size = A at hD ⊢
  have hA : ∀ q : Nat, s.heap.size ≤ q → A q := fun q h => by rw [← hAe]; exact Or.inr h
  have hS : va_S A s.heap s.heap [] := va_S.rf
  have hP : va_P (dC, dI) vcl [(y, .inr (10, [.int 0, .ref mt, .int 0, .ref b0, .ref b1, .int 0, .ref b2, .ref b3, .ref b4, .int 0, .int 0, .int 0, .ref b5, .int 0, .ref b6, .ref b7, .int 0, .ref b8, .ref b9, .ref b10, .ref b11, .ref b12, .ref b13, .ref b14, .ref b15, .ref b16, .ref b17, .ref b18, .ref b19, .ref b20, .ref b21, .ref b22, .int 0, .ref b23, .ref b24, .ref mi, .int 0, .int 0, .int 0, .int 0, .int 0, .int 0, .int 0, .int 0, .int 0]))] s.heap := hP
  have hl := lv_entry ([.ref y, .int k, .int g]) (n := 4) (Nat.le_of_ble_eq_true rfl)
  rw [lg_entry_eq]
  generalize (lg_sl ([.ref y, .int k, .int g]) ++ List.replicate (4 - (lg_sl ([.ref y, .int k, .int g])).length) Slot.unset).toArray = ls at hl ⊢
  have hl : lv_has ls 4 [(0, .ref y), (1, .int k), (2, .int g)] := hl
  refine lv_iload_n hx hb d_M_bound_0 rfl (lv_at hl 1 rfl) ?_
  refine lv_if_lt (tgt := 21) hx hb d_M_bound_1 (by decide) (fun h1 => ?_) (fun h1 => ?_)
  · skip
    refine lv_iconst (v := 0) hx hb d_M_bound_21 (by decide) ?_
    refine lv_istore_n (lv' := [(3, .int 0), (0, .ref y), (1, .int k), (2, .int g)]) hx hb d_M_bound_22 rfl hl (by decide) rfl (fun ls hl => ?_)
    refine lv_aload_n hx hb d_M_bound_23 rfl (lv_at hl 1 rfl) ?_
    refine lv_iload_n hx hb d_M_bound_24 rfl (lv_at hl 0 rfl) ?_
    refine lv_if_eq (tgt := 32) hx hb d_M_bound_25 (by decide) (fun _ => ?_) (fun hq => absurd rfl hq)
    refine lv_iconst (v := 1) hx hb d_M_bound_32 (by decide) ?_
    refine va_put (D := (dC, dI)) (ci := 10) (v := .int 1) (ty := .int) (C := "BigRunnerModel") (T := FT10) (N := 45) hx hb (hw10 hB _) (fun _ h9 => h9) TY10 ok10 nm10 hown hK hP hD hS 0 rfl rfl 0 (by decide) (wd_947 hB _) (fun _ h9 => h9) rfl (by decide +kernel) rfl rfl (Nat.le_of_ble_eq_true rfl) d_M_bound_33 (fun H locs hP hD hS => ?_)
    have hP : va_P (dC, dI) vcl [(y, .inr (10, [.int 1, .ref mt, .int 0, .ref b0, .ref b1, .int 0, .ref b2, .ref b3, .ref b4, .int 0, .int 0, .int 0, .ref b5, .int 0, .ref b6, .ref b7, .int 0, .ref b8, .ref b9, .ref b10, .ref b11, .ref b12, .ref b13, .ref b14, .ref b15, .ref b16, .ref b17, .ref b18, .ref b19, .ref b20, .ref b21, .ref b22, .int 0, .ref b23, .ref b24, .ref mi, .int 0, .int 0, .int 0, .int 0, .int 0, .int 0, .int 0, .int 0, .int 0]))] H := hP
    have hD : va_D A [(y, .inr (10, [.int 1, .ref mt, .int 0, .ref b0, .ref b1, .int 0, .ref b2, .ref b3, .ref b4, .int 0, .int 0, .int 0, .ref b5, .int 0, .ref b6, .ref b7, .int 0, .ref b8, .ref b9, .ref b10, .ref b11, .ref b12, .ref b13, .ref b14, .ref b15, .ref b16, .ref b17, .ref b18, .ref b19, .ref b20, .ref b21, .ref b22, .int 0, .ref b23, .ref b24, .ref mi, .int 0, .int 0, .int 0, .int 0, .int 0, .int 0, .int 0, .int 0, .int 0]))] := hD
    refine lv_iload_n hx hb d_M_bound_36 rfl (lv_at hl 0 rfl) ?_
    refine lv_if_ne (tgt := 42) hx hb d_M_bound_37 (by decide) (fun hq => absurd hq (fun h => h rfl)) (fun _ => ?_)
    refine lv_lconst (v := 0) hx hb d_M_bound_40 (by decide) ?_
    have hP9 := hP.sub (ws' := [(y, .inr (10, [.int 1, .ref mt, .int 0, .ref b0, .ref b1, .int 0, .ref b2, .ref b3, .ref b4, .int 0, .int 0, .int 0, .ref b5, .int 0, .ref b6, .ref b7, .int 0, .ref b8, .ref b9, .ref b10, .ref b11, .ref b12, .ref b13, .ref b14, .ref b15, .ref b16, .ref b17, .ref b18, .ref b19, .ref b20, .ref b21, .ref b22, .int 0, .ref b23, .ref b24, .ref mi, .int 0, .int 0, .int 0, .int 0, .int 0, .int 0, .int 0, .int 0, .int 0]))]) [0] rfl
    have hD9 := hD.sub (ws' := [(y, .inr (10, [.int 1, .ref mt, .int 0, .ref b0, .ref b1, .int 0, .ref b2, .ref b3, .ref b4, .int 0, .int 0, .int 0, .ref b5, .int 0, .ref b6, .ref b7, .int 0, .ref b8, .ref b9, .ref b10, .ref b11, .ref b12, .ref b13, .ref b14, .ref b15, .ref b16, .ref b17, .ref b18, .ref b19, .ref b20, .ref b21, .ref b22, .int 0, .ref b23, .ref b24, .ref mi, .int 0, .int 0, .int 0, .int 0, .int 0, .int 0, .int 0, .int 0, .int 0]))]) [0] (by decide) rfl
    have hK9 := hK.sub (tys' := []) [] rfl
    refine W.widen (k := 0) (n := 0) (by omega) (by omega) ?_
    exact W.lret (v := 0) hx hb hr (fun t ht hW => ⟨⟨0, (), rfl, rfl, by rw [ht]; exact hP9, va_K.moved hW.alike hK9, hD9⟩, hS.F ht⟩) hS.2.2 d_M_bound_41
  · skip
    refine lv_iload_n hx hb d_M_bound_4 rfl (lv_at hl 1 rfl) ?_
    refine lv_bipush (v := 10) hx hb d_M_bound_5 (by decide) ?_
    refine lv_icmp_ge (tgt := 21) hx hb d_M_bound_7 (by decide) (fun h2 => ?_) (fun h2 => ?_)
    · skip
      refine lv_iconst (v := 0) hx hb d_M_bound_21 (by decide) ?_
      refine lv_istore_n (lv' := [(3, .int 0), (0, .ref y), (1, .int k), (2, .int g)]) hx hb d_M_bound_22 rfl hl (by decide) rfl (fun ls hl => ?_)
      refine lv_aload_n hx hb d_M_bound_23 rfl (lv_at hl 1 rfl) ?_
      refine lv_iload_n hx hb d_M_bound_24 rfl (lv_at hl 0 rfl) ?_
      refine lv_if_eq (tgt := 32) hx hb d_M_bound_25 (by decide) (fun _ => ?_) (fun hq => absurd rfl hq)
      refine lv_iconst (v := 1) hx hb d_M_bound_32 (by decide) ?_
      refine va_put (D := (dC, dI)) (ci := 10) (v := .int 1) (ty := .int) (C := "BigRunnerModel") (T := FT10) (N := 45) hx hb (hw10 hB _) (fun _ h9 => h9) TY10 ok10 nm10 hown hK hP hD hS 0 rfl rfl 0 (by decide) (wd_947 hB _) (fun _ h9 => h9) rfl (by decide +kernel) rfl rfl (Nat.le_of_ble_eq_true rfl) d_M_bound_33 (fun H locs hP hD hS => ?_)
      have hP : va_P (dC, dI) vcl [(y, .inr (10, [.int 1, .ref mt, .int 0, .ref b0, .ref b1, .int 0, .ref b2, .ref b3, .ref b4, .int 0, .int 0, .int 0, .ref b5, .int 0, .ref b6, .ref b7, .int 0, .ref b8, .ref b9, .ref b10, .ref b11, .ref b12, .ref b13, .ref b14, .ref b15, .ref b16, .ref b17, .ref b18, .ref b19, .ref b20, .ref b21, .ref b22, .int 0, .ref b23, .ref b24, .ref mi, .int 0, .int 0, .int 0, .int 0, .int 0, .int 0, .int 0, .int 0, .int 0]))] H := hP
      have hD : va_D A [(y, .inr (10, [.int 1, .ref mt, .int 0, .ref b0, .ref b1, .int 0, .ref b2, .ref b3, .ref b4, .int 0, .int 0, .int 0, .ref b5, .int 0, .ref b6, .ref b7, .int 0, .ref b8, .ref b9, .ref b10, .ref b11, .ref b12, .ref b13, .ref b14, .ref b15, .ref b16, .ref b17, .ref b18, .ref b19, .ref b20, .ref b21, .ref b22, .int 0, .ref b23, .ref b24, .ref mi, .int 0, .int 0, .int 0, .int 0, .int 0, .int 0, .int 0, .int 0, .int 0]))] := hD
      refine lv_iload_n hx hb d_M_bound_36 rfl (lv_at hl 0 rfl) ?_
      refine lv_if_ne (tgt := 42) hx hb d_M_bound_37 (by decide) (fun hq => absurd hq (fun h => h rfl)) (fun _ => ?_)
      refine lv_lconst (v := 0) hx hb d_M_bound_40 (by decide) ?_
      have hP9 := hP.sub (ws' := [(y, .inr (10, [.int 1, .ref mt, .int 0, .ref b0, .ref b1, .int 0, .ref b2, .ref b3, .ref b4, .int 0, .int 0, .int 0, .ref b5, .int 0, .ref b6, .ref b7, .int 0, .ref b8, .ref b9, .ref b10, .ref b11, .ref b12, .ref b13, .ref b14, .ref b15, .ref b16, .ref b17, .ref b18, .ref b19, .ref b20, .ref b21, .ref b22, .int 0, .ref b23, .ref b24, .ref mi, .int 0, .int 0, .int 0, .int 0, .int 0, .int 0, .int 0, .int 0, .int 0]))]) [0] rfl
      have hD9 := hD.sub (ws' := [(y, .inr (10, [.int 1, .ref mt, .int 0, .ref b0, .ref b1, .int 0, .ref b2, .ref b3, .ref b4, .int 0, .int 0, .int 0, .ref b5, .int 0, .ref b6, .ref b7, .int 0, .ref b8, .ref b9, .ref b10, .ref b11, .ref b12, .ref b13, .ref b14, .ref b15, .ref b16, .ref b17, .ref b18, .ref b19, .ref b20, .ref b21, .ref b22, .int 0, .ref b23, .ref b24, .ref mi, .int 0, .int 0, .int 0, .int 0, .int 0, .int 0, .int 0, .int 0, .int 0]))]) [0] (by decide) rfl
      have hK9 := hK.sub (tys' := []) [] rfl
      refine W.widen (k := 0) (n := 0) (by omega) (by omega) ?_
      exact W.lret (v := 0) hx hb hr (fun t ht hW => ⟨⟨0, (), rfl, rfl, by rw [ht]; exact hP9, va_K.moved hW.alike hK9, hD9⟩, hS.F ht⟩) hS.2.2 d_M_bound_41
    · skip
      refine lv_aload_n hx hb d_M_bound_10 rfl (lv_at hl 0 rfl) ?_
      refine va_get (D := (dC, dI)) (ci := 10) (v := .int 0) (C := "BigRunnerModel") (T := FT10) (N := 45) hx hb (hw10 hB _) (fun _ h9 => h9) hown hK hP 0 rfl rfl 39 (by decide) (wd_986 hB _) (fun _ h9 => h9) rfl d_M_bound_11 ?_
      refine lv_if_le (tgt := 21) hx hb d_M_bound_14 (by decide) (fun _ => ?_) (fun hq => absurd (by decide) hq)
      refine lv_iconst (v := 0) hx hb d_M_bound_21 (by decide) ?_
      refine lv_istore_n (lv' := [(3, .int 0), (0, .ref y), (1, .int k), (2, .int g)]) hx hb d_M_bound_22 rfl hl (by decide) rfl (fun ls hl => ?_)
      refine lv_aload_n hx hb d_M_bound_23 rfl (lv_at hl 1 rfl) ?_
      refine lv_iload_n hx hb d_M_bound_24 rfl (lv_at hl 0 rfl) ?_
      refine lv_if_eq (tgt := 32) hx hb d_M_bound_25 (by decide) (fun _ => ?_) (fun hq => absurd rfl hq)
      refine lv_iconst (v := 1) hx hb d_M_bound_32 (by decide) ?_
      refine va_put (D := (dC, dI)) (ci := 10) (v := .int 1) (ty := .int) (C := "BigRunnerModel") (T := FT10) (N := 45) hx hb (hw10 hB _) (fun _ h9 => h9) TY10 ok10 nm10 hown hK hP hD hS 0 rfl rfl 0 (by decide) (wd_947 hB _) (fun _ h9 => h9) rfl (by decide +kernel) rfl rfl (Nat.le_of_ble_eq_true rfl) d_M_bound_33 (fun H locs hP hD hS => ?_)
      have hP : va_P (dC, dI) vcl [(y, .inr (10, [.int 1, .ref mt, .int 0, .ref b0, .ref b1, .int 0, .ref b2, .ref b3, .ref b4, .int 0, .int 0, .int 0, .ref b5, .int 0, .ref b6, .ref b7, .int 0, .ref b8, .ref b9, .ref b10, .ref b11, .ref b12, .ref b13, .ref b14, .ref b15, .ref b16, .ref b17, .ref b18, .ref b19, .ref b20, .ref b21, .ref b22, .int 0, .ref b23, .ref b24, .ref mi, .int 0, .int 0, .int 0, .int 0, .int 0, .int 0, .int 0, .int 0, .int 0]))] H := hP
      have hD : va_D A [(y, .inr (10, [.int 1, .ref mt, .int 0, .ref b0, .ref b1, .int 0, .ref b2, .ref b3, .ref b4, .int 0, .int 0, .int 0, .ref b5, .int 0, .ref b6, .ref b7, .int 0, .ref b8, .ref b9, .ref b10, .ref b11, .ref b12, .ref b13, .ref b14, .ref b15, .ref b16, .ref b17, .ref b18, .ref b19, .ref b20, .ref b21, .ref b22, .int 0, .ref b23, .ref b24, .ref mi, .int 0, .int 0, .int 0, .int 0, .int 0, .int 0, .int 0, .int 0, .int 0]))] := hD
      refine lv_iload_n hx hb d_M_bound_36 rfl (lv_at hl 0 rfl) ?_
      refine lv_if_ne (tgt := 42) hx hb d_M_bound_37 (by decide) (fun hq => absurd hq (fun h => h rfl)) (fun _ => ?_)
      refine lv_lconst (v := 0) hx hb d_M_bound_40 (by decide) ?_
      have hP9 := hP.sub (ws' := [(y, .inr (10, [.int 1, .ref mt, .int 0, .ref b0, .ref b1, .int 0, .ref b2, .ref b3, .ref b4, .int 0, .int 0, .int 0, .ref b5, .int 0, .ref b6, .ref b7, .int 0, .ref b8, .ref b9, .ref b10, .ref b11, .ref b12, .ref b13, .ref b14, .ref b15, .ref b16, .ref b17, .ref b18, .ref b19, .ref b20, .ref b21, .ref b22, .int 0, .ref b23, .ref b24, .ref mi, .int 0, .int 0, .int 0, .int 0, .int 0, .int 0, .int 0, .int 0, .int 0]))]) [0] rfl
      have hD9 := hD.sub (ws' := [(y, .inr (10, [.int 1, .ref mt, .int 0, .ref b0, .ref b1, .int 0, .ref b2, .ref b3, .ref b4, .int 0, .int 0, .int 0, .ref b5, .int 0, .ref b6, .ref b7, .int 0, .ref b8, .ref b9, .ref b10, .ref b11, .ref b12, .ref b13, .ref b14, .ref b15, .ref b16, .ref b17, .ref b18, .ref b19, .ref b20, .ref b21, .ref b22, .int 0, .ref b23, .ref b24, .ref mi, .int 0, .int 0, .int 0, .int 0, .int 0, .int 0, .int 0, .int 0, .int 0]))]) [0] (by decide) rfl
      have hK9 := hK.sub (tys' := []) [] rfl
      refine W.widen (k := 0) (n := 0) (by omega) (by omega) ?_
      exact W.lret (v := 0) hx hb hr (fun t ht hW => ⟨⟨0, (), rfl, rfl, by rw [ht]; exact hP9, va_K.moved hW.alike hK9, hD9⟩, hS.F ht⟩) hS.2.2 d_M_bound_41
set_option maxHeartbeats 4000000 in
set_option maxRecDepth 100000 in
theorem c_M_variable (l : Launch) (dC : Nat → ClassId) (dI : Nat → Nat → Nat) (sz : Nat) (y : Nat) (mt : Nat) (ct : ClassId) (mi : Nat) (cj : ClassId) (b0 : Nat) (b1 : Nat) (b2 : Nat) (b3 : Nat) (b4 : Nat) (b5 : Nat) (b6 : Nat) (b7 : Nat) (b8 : Nat) (b9 : Nat) (b10 : Nat) (b11 : Nat) (b12 : Nat) (b13 : Nat) (b14 : Nat) (b15 : Nat) (b16 : Nat) (b17 : Nat) (b18 : Nat) (b19 : Nat) (b20 : Nat) (b21 : Nat) (b22 : Nat) (b23 : Nat) (b24 : Nat) (k : Int32) (g : Int32) : Met l ⟨"BigRunnerModel", "variable", "(II)I"⟩ [Cond.code ⟨"BigRunnerModel", "variable", "(II)I"⟩ prog_12_method_50_code 4 (some .int)] ({ frames := 0, cells := 0, slots := 0, locals := 0 }) (va_Pc [.ref y, .int k, .int g] (fun U => U.heap.size = sz ∧ TB U ∧ va_P (dC, dI) vcl [(y, .inr (10, [.int 0, .ref mt, .int 0, .ref b0, .ref b1, .int 0, .ref b2, .ref b3, .ref b4, .int 0, .int 0, .int 0, .ref b5, .int 0, .ref b6, .ref b7, .int 0, .ref b8, .ref b9, .ref b10, .ref b11, .ref b12, .ref b13, .ref b14, .ref b15, .ref b16, .ref b17, .ref b18, .ref b19, .ref b20, .ref b21, .ref b22, .int 0, .ref b23, .ref b24, .ref mi, .int 0, .int 0, .int 0, .int 0, .int 0, .int 0, .int 0, .int 0, .int 0]))] U.heap ∧ va_K (dC, dI) vcl [] U ∧ va_D (fun _ => True) [(y, .inr (10, [.int 0, .ref mt, .int 0, .ref b0, .ref b1, .int 0, .ref b2, .ref b3, .ref b4, .int 0, .int 0, .int 0, .ref b5, .int 0, .ref b6, .ref b7, .int 0, .ref b8, .ref b9, .ref b10, .ref b11, .ref b12, .ref b13, .ref b14, .ref b15, .ref b16, .ref b17, .ref b18, .ref b19, .ref b20, .ref b21, .ref b22, .int 0, .ref b23, .ref b24, .ref mi, .int 0, .int 0, .int 0, .int 0, .int 0, .int 0, .int 0, .int 0, .int 0]))])) (va_Qi (fun (r : Int32) (u : Unit) => match u with | _ => r = 0) (fun (u : Unit) (t : State) => match u with | _ => va_P (dC, dI) vcl [(y, .inr (10, [.int 1, .ref mt, .int 0, .ref b0, .ref b1, .int 0, .ref b2, .ref b3, .ref b4, .int 0, .int 0, .int 0, .ref b5, .int 0, .ref b6, .ref b7, .int 0, .ref b8, .ref b9, .ref b10, .ref b11, .ref b12, .ref b13, .ref b14, .ref b15, .ref b16, .ref b17, .ref b18, .ref b19, .ref b20, .ref b21, .ref b22, .int 0, .ref b23, .ref b24, .ref mi, .int 0, .int 0, .int 0, .int 0, .int 0, .int 0, .int 0, .int 0, .int 0]))] t.heap ∧ va_K (dC, dI) vcl [] t ∧ va_D (va_A [(y, .inr (10, [.int 0, .ref mt, .int 0, .ref b0, .ref b1, .int 0, .ref b2, .ref b3, .ref b4, .int 0, .int 0, .int 0, .ref b5, .int 0, .ref b6, .ref b7, .int 0, .ref b8, .ref b9, .ref b10, .ref b11, .ref b12, .ref b13, .ref b14, .ref b15, .ref b16, .ref b17, .ref b18, .ref b19, .ref b20, .ref b21, .ref b22, .int 0, .ref b23, .ref b24, .ref mi, .int 0, .int 0, .int 0, .int 0, .int 0, .int 0, .int 0, .int 0, .int 0]))] sz) [(y, .inr (10, [.int 1, .ref mt, .int 0, .ref b0, .ref b1, .int 0, .ref b2, .ref b3, .ref b4, .int 0, .int 0, .int 0, .ref b5, .int 0, .ref b6, .ref b7, .int 0, .ref b8, .ref b9, .ref b10, .ref b11, .ref b12, .ref b13, .ref b14, .ref b15, .ref b16, .ref b17, .ref b18, .ref b19, .ref b20, .ref b21, .ref b22, .int 0, .ref b23, .ref b24, .ref mi, .int 0, .int 0, .int 0, .int 0, .int 0, .int 0, .int 0, .int 0, .int 0]))]) (va_A [(y, .inr (10, [.int 0, .ref mt, .int 0, .ref b0, .ref b1, .int 0, .ref b2, .ref b3, .ref b4, .int 0, .int 0, .int 0, .ref b5, .int 0, .ref b6, .ref b7, .int 0, .ref b8, .ref b9, .ref b10, .ref b11, .ref b12, .ref b13, .ref b14, .ref b15, .ref b16, .ref b17, .ref b18, .ref b19, .ref b20, .ref b21, .ref b22, .int 0, .ref b23, .ref b24, .ref mi, .int 0, .int 0, .int 0, .int 0, .int 0, .int 0, .int 0, .int 0, .int 0]))] sz)) 0 0 (va_A [(y, .inr (10, [.int 0, .ref mt, .int 0, .ref b0, .ref b1, .int 0, .ref b2, .ref b3, .ref b4, .int 0, .int 0, .int 0, .ref b5, .int 0, .ref b6, .ref b7, .int 0, .ref b8, .ref b9, .ref b10, .ref b11, .ref b12, .ref b13, .ref b14, .ref b15, .ref b16, .ref b17, .ref b18, .ref b19, .ref b20, .ref b21, .ref b22, .int 0, .ref b23, .ref b24, .ref mi, .int 0, .int 0, .int 0, .int 0, .int 0, .int 0, .int 0, .int 0, .int 0]))] sz) := by
  refine Met.ofW (cc := prog_12_method_50_code) (maxL := 4) (ret := (some .int)) (by decide) rfl ?_
  intro p e s m args below meth c s₁ B hml hv
  obtain ⟨rfl, hsz, hB, hP, hK, hD0⟩ := hv
  have hx := B.exec
  have hb := B.bytes
  have hr := B.returns
  have hown : s.vm.findClass "BigRunnerModel" = some m.cls := findClass_of_methodNamed B.named
  have hlocks := B.notSynchronized
  subst hsz
  have hD := hD0.self (sz := s.heap.size)
  generalize hAe : va_A [(y, .inr (10, [.int 0, .ref mt, .int 0, .ref b0, .ref b1, .int 0, .ref b2, .ref b3, .ref b4, .int 0, .int 0, .int 0, .ref b5, .int 0, .ref b6, .ref b7, .int 0, .ref b8, .ref b9, .ref b10, .ref b11, .ref b12, .ref b13, .ref b14, .ref b15, .ref b16, .ref b17, .ref b18, .ref b19, .ref b20, .ref b21, .ref b22, .int 0, .ref b23, .ref b24, .ref mi, .int 0, .int 0, .int 0, .int 0, .int 0, .int 0, .int 0, .int 0, .int 0]))] s.heap.size = A at hD ⊢
  have hA : ∀ q : Nat, s.heap.size ≤ q → A q := fun q h => by rw [← hAe]; exact Or.inr h
  have hS : va_S A s.heap s.heap [] := va_S.rf
  have hP : va_P (dC, dI) vcl [(y, .inr (10, [.int 0, .ref mt, .int 0, .ref b0, .ref b1, .int 0, .ref b2, .ref b3, .ref b4, .int 0, .int 0, .int 0, .ref b5, .int 0, .ref b6, .ref b7, .int 0, .ref b8, .ref b9, .ref b10, .ref b11, .ref b12, .ref b13, .ref b14, .ref b15, .ref b16, .ref b17, .ref b18, .ref b19, .ref b20, .ref b21, .ref b22, .int 0, .ref b23, .ref b24, .ref mi, .int 0, .int 0, .int 0, .int 0, .int 0, .int 0, .int 0, .int 0, .int 0]))] s.heap := hP
  have hl := lv_entry ([.ref y, .int k, .int g]) (n := 4) (Nat.le_of_ble_eq_true rfl)
  rw [lg_entry_eq]
  generalize (lg_sl ([.ref y, .int k, .int g]) ++ List.replicate (4 - (lg_sl ([.ref y, .int k, .int g])).length) Slot.unset).toArray = ls at hl ⊢
  have hl : lv_has ls 4 [(0, .ref y), (1, .int k), (2, .int g)] := hl
  refine lv_iload_n hx hb d_M_variable_0 rfl (lv_at hl 1 rfl) ?_
  refine lv_if_lt (tgt := 27) hx hb d_M_variable_1 (by decide) (fun h1 => ?_) (fun h1 => ?_)
  · skip
    refine lv_iconst (v := 0) hx hb d_M_variable_27 (by decide) ?_
    refine lv_istore_n (lv' := [(3, .int 0), (0, .ref y), (1, .int k), (2, .int g)]) hx hb d_M_variable_28 rfl hl (by decide) rfl (fun ls hl => ?_)
    refine lv_aload_n hx hb d_M_variable_29 rfl (lv_at hl 1 rfl) ?_
    refine lv_iload_n hx hb d_M_variable_30 rfl (lv_at hl 0 rfl) ?_
    refine lv_if_eq (tgt := 38) hx hb d_M_variable_31 (by decide) (fun _ => ?_) (fun hq => absurd rfl hq)
    refine lv_iconst (v := 1) hx hb d_M_variable_38 (by decide) ?_
    refine va_put (D := (dC, dI)) (ci := 10) (v := .int 1) (ty := .int) (C := "BigRunnerModel") (T := FT10) (N := 45) hx hb (hw10 hB _) (fun _ h9 => h9) TY10 ok10 nm10 hown hK hP hD hS 0 rfl rfl 0 (by decide) (wd_947 hB _) (fun _ h9 => h9) rfl (by decide +kernel) rfl rfl (Nat.le_of_ble_eq_true rfl) d_M_variable_39 (fun H locs hP hD hS => ?_)
    have hP : va_P (dC, dI) vcl [(y, .inr (10, [.int 1, .ref mt, .int 0, .ref b0, .ref b1, .int 0, .ref b2, .ref b3, .ref b4, .int 0, .int 0, .int 0, .ref b5, .int 0, .ref b6, .ref b7, .int 0, .ref b8, .ref b9, .ref b10, .ref b11, .ref b12, .ref b13, .ref b14, .ref b15, .ref b16, .ref b17, .ref b18, .ref b19, .ref b20, .ref b21, .ref b22, .int 0, .ref b23, .ref b24, .ref mi, .int 0, .int 0, .int 0, .int 0, .int 0, .int 0, .int 0, .int 0, .int 0]))] H := hP
    have hD : va_D A [(y, .inr (10, [.int 1, .ref mt, .int 0, .ref b0, .ref b1, .int 0, .ref b2, .ref b3, .ref b4, .int 0, .int 0, .int 0, .ref b5, .int 0, .ref b6, .ref b7, .int 0, .ref b8, .ref b9, .ref b10, .ref b11, .ref b12, .ref b13, .ref b14, .ref b15, .ref b16, .ref b17, .ref b18, .ref b19, .ref b20, .ref b21, .ref b22, .int 0, .ref b23, .ref b24, .ref mi, .int 0, .int 0, .int 0, .int 0, .int 0, .int 0, .int 0, .int 0, .int 0]))] := hD
    refine lv_iload_n hx hb d_M_variable_42 rfl (lv_at hl 0 rfl) ?_
    refine lv_if_eq (tgt := 67) hx hb d_M_variable_43 (by decide) (fun _ => ?_) (fun hq => absurd rfl hq)
    refine lv_iconst (v := 0) hx hb d_M_variable_67 (by decide) ?_
    have hP9 := hP.sub (ws' := [(y, .inr (10, [.int 1, .ref mt, .int 0, .ref b0, .ref b1, .int 0, .ref b2, .ref b3, .ref b4, .int 0, .int 0, .int 0, .ref b5, .int 0, .ref b6, .ref b7, .int 0, .ref b8, .ref b9, .ref b10, .ref b11, .ref b12, .ref b13, .ref b14, .ref b15, .ref b16, .ref b17, .ref b18, .ref b19, .ref b20, .ref b21, .ref b22, .int 0, .ref b23, .ref b24, .ref mi, .int 0, .int 0, .int 0, .int 0, .int 0, .int 0, .int 0, .int 0, .int 0]))]) [0] rfl
    have hD9 := hD.sub (ws' := [(y, .inr (10, [.int 1, .ref mt, .int 0, .ref b0, .ref b1, .int 0, .ref b2, .ref b3, .ref b4, .int 0, .int 0, .int 0, .ref b5, .int 0, .ref b6, .ref b7, .int 0, .ref b8, .ref b9, .ref b10, .ref b11, .ref b12, .ref b13, .ref b14, .ref b15, .ref b16, .ref b17, .ref b18, .ref b19, .ref b20, .ref b21, .ref b22, .int 0, .ref b23, .ref b24, .ref mi, .int 0, .int 0, .int 0, .int 0, .int 0, .int 0, .int 0, .int 0, .int 0]))]) [0] (by decide) rfl
    have hK9 := hK.sub (tys' := []) [] rfl
    refine W.widen (k := 0) (n := 0) (by omega) (by omega) ?_
    exact W.iret (v := 0) hx hb hr (fun t ht hW => ⟨⟨0, (), rfl, rfl, by rw [ht]; exact hP9, va_K.moved hW.alike hK9, hD9⟩, hS.F ht⟩) hS.2.2 d_M_variable_68
  · skip
    refine lv_iload_n hx hb d_M_variable_4 rfl (lv_at hl 1 rfl) ?_
    refine lv_bipush (v := 10) hx hb d_M_variable_5 (by decide) ?_
    refine lv_icmp_ge (tgt := 27) hx hb d_M_variable_7 (by decide) (fun h2 => ?_) (fun h2 => ?_)
    · skip
      refine lv_iconst (v := 0) hx hb d_M_variable_27 (by decide) ?_
      refine lv_istore_n (lv' := [(3, .int 0), (0, .ref y), (1, .int k), (2, .int g)]) hx hb d_M_variable_28 rfl hl (by decide) rfl (fun ls hl => ?_)
      refine lv_aload_n hx hb d_M_variable_29 rfl (lv_at hl 1 rfl) ?_
      refine lv_iload_n hx hb d_M_variable_30 rfl (lv_at hl 0 rfl) ?_
      refine lv_if_eq (tgt := 38) hx hb d_M_variable_31 (by decide) (fun _ => ?_) (fun hq => absurd rfl hq)
      refine lv_iconst (v := 1) hx hb d_M_variable_38 (by decide) ?_
      refine va_put (D := (dC, dI)) (ci := 10) (v := .int 1) (ty := .int) (C := "BigRunnerModel") (T := FT10) (N := 45) hx hb (hw10 hB _) (fun _ h9 => h9) TY10 ok10 nm10 hown hK hP hD hS 0 rfl rfl 0 (by decide) (wd_947 hB _) (fun _ h9 => h9) rfl (by decide +kernel) rfl rfl (Nat.le_of_ble_eq_true rfl) d_M_variable_39 (fun H locs hP hD hS => ?_)
      have hP : va_P (dC, dI) vcl [(y, .inr (10, [.int 1, .ref mt, .int 0, .ref b0, .ref b1, .int 0, .ref b2, .ref b3, .ref b4, .int 0, .int 0, .int 0, .ref b5, .int 0, .ref b6, .ref b7, .int 0, .ref b8, .ref b9, .ref b10, .ref b11, .ref b12, .ref b13, .ref b14, .ref b15, .ref b16, .ref b17, .ref b18, .ref b19, .ref b20, .ref b21, .ref b22, .int 0, .ref b23, .ref b24, .ref mi, .int 0, .int 0, .int 0, .int 0, .int 0, .int 0, .int 0, .int 0, .int 0]))] H := hP
      have hD : va_D A [(y, .inr (10, [.int 1, .ref mt, .int 0, .ref b0, .ref b1, .int 0, .ref b2, .ref b3, .ref b4, .int 0, .int 0, .int 0, .ref b5, .int 0, .ref b6, .ref b7, .int 0, .ref b8, .ref b9, .ref b10, .ref b11, .ref b12, .ref b13, .ref b14, .ref b15, .ref b16, .ref b17, .ref b18, .ref b19, .ref b20, .ref b21, .ref b22, .int 0, .ref b23, .ref b24, .ref mi, .int 0, .int 0, .int 0, .int 0, .int 0, .int 0, .int 0, .int 0, .int 0]))] := hD
      refine lv_iload_n hx hb d_M_variable_42 rfl (lv_at hl 0 rfl) ?_
      refine lv_if_eq (tgt := 67) hx hb d_M_variable_43 (by decide) (fun _ => ?_) (fun hq => absurd rfl hq)
      refine lv_iconst (v := 0) hx hb d_M_variable_67 (by decide) ?_
      have hP9 := hP.sub (ws' := [(y, .inr (10, [.int 1, .ref mt, .int 0, .ref b0, .ref b1, .int 0, .ref b2, .ref b3, .ref b4, .int 0, .int 0, .int 0, .ref b5, .int 0, .ref b6, .ref b7, .int 0, .ref b8, .ref b9, .ref b10, .ref b11, .ref b12, .ref b13, .ref b14, .ref b15, .ref b16, .ref b17, .ref b18, .ref b19, .ref b20, .ref b21, .ref b22, .int 0, .ref b23, .ref b24, .ref mi, .int 0, .int 0, .int 0, .int 0, .int 0, .int 0, .int 0, .int 0, .int 0]))]) [0] rfl
      have hD9 := hD.sub (ws' := [(y, .inr (10, [.int 1, .ref mt, .int 0, .ref b0, .ref b1, .int 0, .ref b2, .ref b3, .ref b4, .int 0, .int 0, .int 0, .ref b5, .int 0, .ref b6, .ref b7, .int 0, .ref b8, .ref b9, .ref b10, .ref b11, .ref b12, .ref b13, .ref b14, .ref b15, .ref b16, .ref b17, .ref b18, .ref b19, .ref b20, .ref b21, .ref b22, .int 0, .ref b23, .ref b24, .ref mi, .int 0, .int 0, .int 0, .int 0, .int 0, .int 0, .int 0, .int 0, .int 0]))]) [0] (by decide) rfl
      have hK9 := hK.sub (tys' := []) [] rfl
      refine W.widen (k := 0) (n := 0) (by omega) (by omega) ?_
      exact W.iret (v := 0) hx hb hr (fun t ht hW => ⟨⟨0, (), rfl, rfl, by rw [ht]; exact hP9, va_K.moved hW.alike hK9, hD9⟩, hS.F ht⟩) hS.2.2 d_M_variable_68
    · skip
      refine lv_aload_n hx hb d_M_variable_10 rfl (lv_at hl 0 rfl) ?_
      refine va_get (D := (dC, dI)) (ci := 10) (v := .int 0) (C := "BigRunnerModel") (T := FT10) (N := 45) hx hb (hw10 hB _) (fun _ h9 => h9) hown hK hP 0 rfl rfl 39 (by decide) (wd_986 hB _) (fun _ h9 => h9) rfl d_M_variable_11 ?_
      refine lv_if_le (tgt := 27) hx hb d_M_variable_14 (by decide) (fun _ => ?_) (fun hq => absurd (by decide) hq)
      refine lv_iconst (v := 0) hx hb d_M_variable_27 (by decide) ?_
      refine lv_istore_n (lv' := [(3, .int 0), (0, .ref y), (1, .int k), (2, .int g)]) hx hb d_M_variable_28 rfl hl (by decide) rfl (fun ls hl => ?_)
      refine lv_aload_n hx hb d_M_variable_29 rfl (lv_at hl 1 rfl) ?_
      refine lv_iload_n hx hb d_M_variable_30 rfl (lv_at hl 0 rfl) ?_
      refine lv_if_eq (tgt := 38) hx hb d_M_variable_31 (by decide) (fun _ => ?_) (fun hq => absurd rfl hq)
      refine lv_iconst (v := 1) hx hb d_M_variable_38 (by decide) ?_
      refine va_put (D := (dC, dI)) (ci := 10) (v := .int 1) (ty := .int) (C := "BigRunnerModel") (T := FT10) (N := 45) hx hb (hw10 hB _) (fun _ h9 => h9) TY10 ok10 nm10 hown hK hP hD hS 0 rfl rfl 0 (by decide) (wd_947 hB _) (fun _ h9 => h9) rfl (by decide +kernel) rfl rfl (Nat.le_of_ble_eq_true rfl) d_M_variable_39 (fun H locs hP hD hS => ?_)
      have hP : va_P (dC, dI) vcl [(y, .inr (10, [.int 1, .ref mt, .int 0, .ref b0, .ref b1, .int 0, .ref b2, .ref b3, .ref b4, .int 0, .int 0, .int 0, .ref b5, .int 0, .ref b6, .ref b7, .int 0, .ref b8, .ref b9, .ref b10, .ref b11, .ref b12, .ref b13, .ref b14, .ref b15, .ref b16, .ref b17, .ref b18, .ref b19, .ref b20, .ref b21, .ref b22, .int 0, .ref b23, .ref b24, .ref mi, .int 0, .int 0, .int 0, .int 0, .int 0, .int 0, .int 0, .int 0, .int 0]))] H := hP
      have hD : va_D A [(y, .inr (10, [.int 1, .ref mt, .int 0, .ref b0, .ref b1, .int 0, .ref b2, .ref b3, .ref b4, .int 0, .int 0, .int 0, .ref b5, .int 0, .ref b6, .ref b7, .int 0, .ref b8, .ref b9, .ref b10, .ref b11, .ref b12, .ref b13, .ref b14, .ref b15, .ref b16, .ref b17, .ref b18, .ref b19, .ref b20, .ref b21, .ref b22, .int 0, .ref b23, .ref b24, .ref mi, .int 0, .int 0, .int 0, .int 0, .int 0, .int 0, .int 0, .int 0, .int 0]))] := hD
      refine lv_iload_n hx hb d_M_variable_42 rfl (lv_at hl 0 rfl) ?_
      refine lv_if_eq (tgt := 67) hx hb d_M_variable_43 (by decide) (fun _ => ?_) (fun hq => absurd rfl hq)
      refine lv_iconst (v := 0) hx hb d_M_variable_67 (by decide) ?_
      have hP9 := hP.sub (ws' := [(y, .inr (10, [.int 1, .ref mt, .int 0, .ref b0, .ref b1, .int 0, .ref b2, .ref b3, .ref b4, .int 0, .int 0, .int 0, .ref b5, .int 0, .ref b6, .ref b7, .int 0, .ref b8, .ref b9, .ref b10, .ref b11, .ref b12, .ref b13, .ref b14, .ref b15, .ref b16, .ref b17, .ref b18, .ref b19, .ref b20, .ref b21, .ref b22, .int 0, .ref b23, .ref b24, .ref mi, .int 0, .int 0, .int 0, .int 0, .int 0, .int 0, .int 0, .int 0, .int 0]))]) [0] rfl
      have hD9 := hD.sub (ws' := [(y, .inr (10, [.int 1, .ref mt, .int 0, .ref b0, .ref b1, .int 0, .ref b2, .ref b3, .ref b4, .int 0, .int 0, .int 0, .ref b5, .int 0, .ref b6, .ref b7, .int 0, .ref b8, .ref b9, .ref b10, .ref b11, .ref b12, .ref b13, .ref b14, .ref b15, .ref b16, .ref b17, .ref b18, .ref b19, .ref b20, .ref b21, .ref b22, .int 0, .ref b23, .ref b24, .ref mi, .int 0, .int 0, .int 0, .int 0, .int 0, .int 0, .int 0, .int 0, .int 0]))]) [0] (by decide) rfl
      have hK9 := hK.sub (tys' := []) [] rfl
      refine W.widen (k := 0) (n := 0) (by omega) (by omega) ?_
      exact W.iret (v := 0) hx hb hr (fun t ht hW => ⟨⟨0, (), rfl, rfl, by rw [ht]; exact hP9, va_K.moved hW.alike hK9, hD9⟩, hS.F ht⟩) hS.2.2 d_M_variable_68
set_option maxHeartbeats 4000000 in
set_option maxRecDepth 100000 in
theorem c_M_output (l : Launch) (dC : Nat → ClassId) (dI : Nat → Nat → Nat) (sz : Nat) (y : Nat) (mt : Nat) (ct : ClassId) (mi : Nat) (cj : ClassId) (b0 : Nat) (b1 : Nat) (b2 : Nat) (b3 : Nat) (b4 : Nat) (b5 : Nat) (b6 : Nat) (b7 : Nat) (b8 : Nat) (b9 : Nat) (b10 : Nat) (b11 : Nat) (b12 : Nat) (b13 : Nat) (b14 : Nat) (b15 : Nat) (b16 : Nat) (b17 : Nat) (b18 : Nat) (b19 : Nat) (b20 : Nat) (b21 : Nat) (b22 : Nat) (b23 : Nat) (b24 : Nat) (k : Int32) (g : Int32) : Met l ⟨"BigRunnerModel", "output", "(II)I"⟩ [Cond.code ⟨"BigRunnerModel", "output", "(II)I"⟩ prog_12_method_51_code 4 (some .int)] ({ frames := 0, cells := 0, slots := 0, locals := 0 }) (va_Pc [.ref y, .int k, .int g] (fun U => U.heap.size = sz ∧ TB U ∧ va_P (dC, dI) vcl [(y, .inr (10, [.int 0, .ref mt, .int 0, .ref b0, .ref b1, .int 0, .ref b2, .ref b3, .ref b4, .int 0, .int 0, .int 0, .ref b5, .int 0, .ref b6, .ref b7, .int 0, .ref b8, .ref b9, .ref b10, .ref b11, .ref b12, .ref b13, .ref b14, .ref b15, .ref b16, .ref b17, .ref b18, .ref b19, .ref b20, .ref b21, .ref b22, .int 0, .ref b23, .ref b24, .ref mi, .int 0, .int 0, .int 0, .int 0, .int 0, .int 0, .int 0, .int 0, .int 0]))] U.heap ∧ va_K (dC, dI) vcl [] U ∧ va_D (fun _ => True) [(y, .inr (10, [.int 0, .ref mt, .int 0, .ref b0, .ref b1, .int 0, .ref b2, .ref b3, .ref b4, .int 0, .int 0, .int 0, .ref b5, .int 0, .ref b6, .ref b7, .int 0, .ref b8, .ref b9, .ref b10, .ref b11, .ref b12, .ref b13, .ref b14, .ref b15, .ref b16, .ref b17, .ref b18, .ref b19, .ref b20, .ref b21, .ref b22, .int 0, .ref b23, .ref b24, .ref mi, .int 0, .int 0, .int 0, .int 0, .int 0, .int 0, .int 0, .int 0, .int 0]))])) (va_Qi (fun (r : Int32) (u : Unit) => match u with | _ => r = 0) (fun (u : Unit) (t : State) => match u with | _ => va_P (dC, dI) vcl [(y, .inr (10, [.int 1, .ref mt, .int 0, .ref b0, .ref b1, .int 0, .ref b2, .ref b3, .ref b4, .int 0, .int 0, .int 0, .ref b5, .int 0, .ref b6, .ref b7, .int 0, .ref b8, .ref b9, .ref b10, .ref b11, .ref b12, .ref b13, .ref b14, .ref b15, .ref b16, .ref b17, .ref b18, .ref b19, .ref b20, .ref b21, .ref b22, .int 0, .ref b23, .ref b24, .ref mi, .int 0, .int 0, .int 0, .int 0, .int 0, .int 0, .int 0, .int 0, .int 0]))] t.heap ∧ va_K (dC, dI) vcl [] t ∧ va_D (va_A [(y, .inr (10, [.int 0, .ref mt, .int 0, .ref b0, .ref b1, .int 0, .ref b2, .ref b3, .ref b4, .int 0, .int 0, .int 0, .ref b5, .int 0, .ref b6, .ref b7, .int 0, .ref b8, .ref b9, .ref b10, .ref b11, .ref b12, .ref b13, .ref b14, .ref b15, .ref b16, .ref b17, .ref b18, .ref b19, .ref b20, .ref b21, .ref b22, .int 0, .ref b23, .ref b24, .ref mi, .int 0, .int 0, .int 0, .int 0, .int 0, .int 0, .int 0, .int 0, .int 0]))] sz) [(y, .inr (10, [.int 1, .ref mt, .int 0, .ref b0, .ref b1, .int 0, .ref b2, .ref b3, .ref b4, .int 0, .int 0, .int 0, .ref b5, .int 0, .ref b6, .ref b7, .int 0, .ref b8, .ref b9, .ref b10, .ref b11, .ref b12, .ref b13, .ref b14, .ref b15, .ref b16, .ref b17, .ref b18, .ref b19, .ref b20, .ref b21, .ref b22, .int 0, .ref b23, .ref b24, .ref mi, .int 0, .int 0, .int 0, .int 0, .int 0, .int 0, .int 0, .int 0, .int 0]))]) (va_A [(y, .inr (10, [.int 0, .ref mt, .int 0, .ref b0, .ref b1, .int 0, .ref b2, .ref b3, .ref b4, .int 0, .int 0, .int 0, .ref b5, .int 0, .ref b6, .ref b7, .int 0, .ref b8, .ref b9, .ref b10, .ref b11, .ref b12, .ref b13, .ref b14, .ref b15, .ref b16, .ref b17, .ref b18, .ref b19, .ref b20, .ref b21, .ref b22, .int 0, .ref b23, .ref b24, .ref mi, .int 0, .int 0, .int 0, .int 0, .int 0, .int 0, .int 0, .int 0, .int 0]))] sz)) 0 0 (va_A [(y, .inr (10, [.int 0, .ref mt, .int 0, .ref b0, .ref b1, .int 0, .ref b2, .ref b3, .ref b4, .int 0, .int 0, .int 0, .ref b5, .int 0, .ref b6, .ref b7, .int 0, .ref b8, .ref b9, .ref b10, .ref b11, .ref b12, .ref b13, .ref b14, .ref b15, .ref b16, .ref b17, .ref b18, .ref b19, .ref b20, .ref b21, .ref b22, .int 0, .ref b23, .ref b24, .ref mi, .int 0, .int 0, .int 0, .int 0, .int 0, .int 0, .int 0, .int 0, .int 0]))] sz) := by
  refine Met.ofW (cc := prog_12_method_51_code) (maxL := 4) (ret := (some .int)) (by decide) rfl ?_
  intro p e s m args below meth c s₁ B hml hv
  obtain ⟨rfl, hsz, hB, hP, hK, hD0⟩ := hv
  have hx := B.exec
  have hb := B.bytes
  have hr := B.returns
  have hown : s.vm.findClass "BigRunnerModel" = some m.cls := findClass_of_methodNamed B.named
  have hlocks := B.notSynchronized
  subst hsz
  have hD := hD0.self (sz := s.heap.size)
  generalize hAe : va_A [(y, .inr (10, [.int 0, .ref mt, .int 0, .ref b0, .ref b1, .int 0, .ref b2, .ref b3, .ref b4, .int 0, .int 0, .int 0, .ref b5, .int 0, .ref b6, .ref b7, .int 0, .ref b8, .ref b9, .ref b10, .ref b11, .ref b12, .ref b13, .ref b14, .ref b15, .ref b16, .ref b17, .ref b18, .ref b19, .ref b20, .ref b21, .ref b22, .int 0, .ref b23, .ref b24, .ref mi, .int 0, .int 0, .int 0, .int 0, .int 0, .int 0, .int 0, .int 0, .int 0]))] s.heap.size = A at hD ⊢
  have hA : ∀ q : Nat, s.heap.size ≤ q → A q := fun q h => by rw [← hAe]; exact Or.inr h
  have hS : va_S A s.heap s.heap [] := va_S.rf
  have hP : va_P (dC, dI) vcl [(y, .inr (10, [.int 0, .ref mt, .int 0, .ref b0, .ref b1, .int 0, .ref b2, .ref b3, .ref b4, .int 0, .int 0, .int 0, .ref b5, .int 0, .ref b6, .ref b7, .int 0, .ref b8, .ref b9, .ref b10, .ref b11, .ref b12, .ref b13, .ref b14, .ref b15, .ref b16, .ref b17, .ref b18, .ref b19, .ref b20, .ref b21, .ref b22, .int 0, .ref b23, .ref b24, .ref mi, .int 0, .int 0, .int 0, .int 0, .int 0, .int 0, .int 0, .int 0, .int 0]))] s.heap := hP
  have hl := lv_entry ([.ref y, .int k, .int g]) (n := 4) (Nat.le_of_ble_eq_true rfl)
  rw [lg_entry_eq]
  generalize (lg_sl ([.ref y, .int k, .int g]) ++ List.replicate (4 - (lg_sl ([.ref y, .int k, .int g])).length) Slot.unset).toArray = ls at hl ⊢
  have hl : lv_has ls 4 [(0, .ref y), (1, .int k), (2, .int g)] := hl
  refine lv_iload_n hx hb d_M_output_0 rfl (lv_at hl 1 rfl) ?_
  refine lv_if_lt (tgt := 28) hx hb d_M_output_1 (by decide) (fun h1 => ?_) (fun h1 => ?_)
  · skip
    refine lv_iconst (v := 0) hx hb d_M_output_28 (by decide) ?_
    refine lv_istore_n (lv' := [(3, .int 0), (0, .ref y), (1, .int k), (2, .int g)]) hx hb d_M_output_29 rfl hl (by decide) rfl (fun ls hl => ?_)
    refine lv_aload_n hx hb d_M_output_30 rfl (lv_at hl 1 rfl) ?_
    refine lv_iload_n hx hb d_M_output_31 rfl (lv_at hl 0 rfl) ?_
    refine lv_if_eq (tgt := 39) hx hb d_M_output_32 (by decide) (fun _ => ?_) (fun hq => absurd rfl hq)
    refine lv_iconst (v := 1) hx hb d_M_output_39 (by decide) ?_
    refine va_put (D := (dC, dI)) (ci := 10) (v := .int 1) (ty := .int) (C := "BigRunnerModel") (T := FT10) (N := 45) hx hb (hw10 hB _) (fun _ h9 => h9) TY10 ok10 nm10 hown hK hP hD hS 0 rfl rfl 0 (by decide) (wd_947 hB _) (fun _ h9 => h9) rfl (by decide +kernel) rfl rfl (Nat.le_of_ble_eq_true rfl) d_M_output_40 (fun H locs hP hD hS => ?_)
    have hP : va_P (dC, dI) vcl [(y, .inr (10, [.int 1, .ref mt, .int 0, .ref b0, .ref b1, .int 0, .ref b2, .ref b3, .ref b4, .int 0, .int 0, .int 0, .ref b5, .int 0, .ref b6, .ref b7, .int 0, .ref b8, .ref b9, .ref b10, .ref b11, .ref b12, .ref b13, .ref b14, .ref b15, .ref b16, .ref b17, .ref b18, .ref b19, .ref b20, .ref b21, .ref b22, .int 0, .ref b23, .ref b24, .ref mi, .int 0, .int 0, .int 0, .int 0, .int 0, .int 0, .int 0, .int 0, .int 0]))] H := hP
    have hD : va_D A [(y, .inr (10, [.int 1, .ref mt, .int 0, .ref b0, .ref b1, .int 0, .ref b2, .ref b3, .ref b4, .int 0, .int 0, .int 0, .ref b5, .int 0, .ref b6, .ref b7, .int 0, .ref b8, .ref b9, .ref b10, .ref b11, .ref b12, .ref b13, .ref b14, .ref b15, .ref b16, .ref b17, .ref b18, .ref b19, .ref b20, .ref b21, .ref b22, .int 0, .ref b23, .ref b24, .ref mi, .int 0, .int 0, .int 0, .int 0, .int 0, .int 0, .int 0, .int 0, .int 0]))] := hD
    refine lv_iload_n hx hb d_M_output_43 rfl (lv_at hl 0 rfl) ?_
    refine lv_if_eq (tgt := 68) hx hb d_M_output_44 (by decide) (fun _ => ?_) (fun hq => absurd rfl hq)
    refine lv_iconst (v := 0) hx hb d_M_output_68 (by decide) ?_
    have hP9 := hP.sub (ws' := [(y, .inr (10, [.int 1, .ref mt, .int 0, .ref b0, .ref b1, .int 0, .ref b2, .ref b3, .ref b4, .int 0, .int 0, .int 0, .ref b5, .int 0, .ref b6, .ref b7, .int 0, .ref b8, .ref b9, .ref b10, .ref b11, .ref b12, .ref b13, .ref b14, .ref b15, .ref b16, .ref b17, .ref b18, .ref b19, .ref b20, .ref b21, .ref b22, .int 0, .ref b23, .ref b24, .ref mi, .int 0, .int 0, .int 0, .int 0, .int 0, .int 0, .int 0, .int 0, .int 0]))]) [0] rfl
    have hD9 := hD.sub (ws' := [(y, .inr (10, [.int 1, .ref mt, .int 0, .ref b0, .ref b1, .int 0, .ref b2, .ref b3, .ref b4, .int 0, .int 0, .int 0, .ref b5, .int 0, .ref b6, .ref b7, .int 0, .ref b8, .ref b9, .ref b10, .ref b11, .ref b12, .ref b13, .ref b14, .ref b15, .ref b16, .ref b17, .ref b18, .ref b19, .ref b20, .ref b21, .ref b22, .int 0, .ref b23, .ref b24, .ref mi, .int 0, .int 0, .int 0, .int 0, .int 0, .int 0, .int 0, .int 0, .int 0]))]) [0] (by decide) rfl
    have hK9 := hK.sub (tys' := []) [] rfl
    refine W.widen (k := 0) (n := 0) (by omega) (by omega) ?_
    exact W.iret (v := 0) hx hb hr (fun t ht hW => ⟨⟨0, (), rfl, rfl, by rw [ht]; exact hP9, va_K.moved hW.alike hK9, hD9⟩, hS.F ht⟩) hS.2.2 d_M_output_69
  · skip
    refine lv_iload_n hx hb d_M_output_4 rfl (lv_at hl 1 rfl) ?_
    refine lv_aload_n hx hb d_M_output_5 rfl (lv_at hl 0 rfl) ?_
    refine va_get (D := (dC, dI)) (ci := 10) (v := .int 0) (C := "BigRunnerModel") (T := FT10) (N := 45) hx hb (hw10 hB _) (fun _ h9 => h9) hown hK hP 0 rfl rfl 37 (by decide) (wd_984 hB _) (fun _ h9 => h9) rfl d_M_output_6 ?_
    refine lv_icmp_ge (tgt := 28) hx hb d_M_output_9 (by decide) (fun h2 => ?_) (fun h2 => ?_)
    · skip
      refine lv_iconst (v := 0) hx hb d_M_output_28 (by decide) ?_
      refine lv_istore_n (lv' := [(3, .int 0), (0, .ref y), (1, .int k), (2, .int g)]) hx hb d_M_output_29 rfl hl (by decide) rfl (fun ls hl => ?_)
      refine lv_aload_n hx hb d_M_output_30 rfl (lv_at hl 1 rfl) ?_
      refine lv_iload_n hx hb d_M_output_31 rfl (lv_at hl 0 rfl) ?_
      refine lv_if_eq (tgt := 39) hx hb d_M_output_32 (by decide) (fun _ => ?_) (fun hq => absurd rfl hq)
      refine lv_iconst (v := 1) hx hb d_M_output_39 (by decide) ?_
      refine va_put (D := (dC, dI)) (ci := 10) (v := .int 1) (ty := .int) (C := "BigRunnerModel") (T := FT10) (N := 45) hx hb (hw10 hB _) (fun _ h9 => h9) TY10 ok10 nm10 hown hK hP hD hS 0 rfl rfl 0 (by decide) (wd_947 hB _) (fun _ h9 => h9) rfl (by decide +kernel) rfl rfl (Nat.le_of_ble_eq_true rfl) d_M_output_40 (fun H locs hP hD hS => ?_)
      have hP : va_P (dC, dI) vcl [(y, .inr (10, [.int 1, .ref mt, .int 0, .ref b0, .ref b1, .int 0, .ref b2, .ref b3, .ref b4, .int 0, .int 0, .int 0, .ref b5, .int 0, .ref b6, .ref b7, .int 0, .ref b8, .ref b9, .ref b10, .ref b11, .ref b12, .ref b13, .ref b14, .ref b15, .ref b16, .ref b17, .ref b18, .ref b19, .ref b20, .ref b21, .ref b22, .int 0, .ref b23, .ref b24, .ref mi, .int 0, .int 0, .int 0, .int 0, .int 0, .int 0, .int 0, .int 0, .int 0]))] H := hP
      have hD : va_D A [(y, .inr (10, [.int 1, .ref mt, .int 0, .ref b0, .ref b1, .int 0, .ref b2, .ref b3, .ref b4, .int 0, .int 0, .int 0, .ref b5, .int 0, .ref b6, .ref b7, .int 0, .ref b8, .ref b9, .ref b10, .ref b11, .ref b12, .ref b13, .ref b14, .ref b15, .ref b16, .ref b17, .ref b18, .ref b19, .ref b20, .ref b21, .ref b22, .int 0, .ref b23, .ref b24, .ref mi, .int 0, .int 0, .int 0, .int 0, .int 0, .int 0, .int 0, .int 0, .int 0]))] := hD
      refine lv_iload_n hx hb d_M_output_43 rfl (lv_at hl 0 rfl) ?_
      refine lv_if_eq (tgt := 68) hx hb d_M_output_44 (by decide) (fun _ => ?_) (fun hq => absurd rfl hq)
      refine lv_iconst (v := 0) hx hb d_M_output_68 (by decide) ?_
      have hP9 := hP.sub (ws' := [(y, .inr (10, [.int 1, .ref mt, .int 0, .ref b0, .ref b1, .int 0, .ref b2, .ref b3, .ref b4, .int 0, .int 0, .int 0, .ref b5, .int 0, .ref b6, .ref b7, .int 0, .ref b8, .ref b9, .ref b10, .ref b11, .ref b12, .ref b13, .ref b14, .ref b15, .ref b16, .ref b17, .ref b18, .ref b19, .ref b20, .ref b21, .ref b22, .int 0, .ref b23, .ref b24, .ref mi, .int 0, .int 0, .int 0, .int 0, .int 0, .int 0, .int 0, .int 0, .int 0]))]) [0] rfl
      have hD9 := hD.sub (ws' := [(y, .inr (10, [.int 1, .ref mt, .int 0, .ref b0, .ref b1, .int 0, .ref b2, .ref b3, .ref b4, .int 0, .int 0, .int 0, .ref b5, .int 0, .ref b6, .ref b7, .int 0, .ref b8, .ref b9, .ref b10, .ref b11, .ref b12, .ref b13, .ref b14, .ref b15, .ref b16, .ref b17, .ref b18, .ref b19, .ref b20, .ref b21, .ref b22, .int 0, .ref b23, .ref b24, .ref mi, .int 0, .int 0, .int 0, .int 0, .int 0, .int 0, .int 0, .int 0, .int 0]))]) [0] (by decide) rfl
      have hK9 := hK.sub (tys' := []) [] rfl
      refine W.widen (k := 0) (n := 0) (by omega) (by omega) ?_
      exact W.iret (v := 0) hx hb hr (fun t ht hW => ⟨⟨0, (), rfl, rfl, by rw [ht]; exact hP9, va_K.moved hW.alike hK9, hD9⟩, hS.F ht⟩) hS.2.2 d_M_output_69
    · skip
      exact absurd (Int32.not_lt.mp h1) h2
end
