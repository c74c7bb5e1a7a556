abbrev GS := Option (List (Nat × Nat)) × PS
def CV2 (g : Lay) (B : Nat) (f : Nat → va_E) (n : Nat) (hT : Nat → Int32) (sg : GS) : Prop := CV g B f n hT sg.1 sg.2
def GOK (v : Int32) (ins : List Int) : Prop := -1000000000 ≤ v.toInt ∧ v.toInt ≤ 1000000000 ∧ ins.length < 20
def PS.give (s : PS) (x : Int) : PS := PS.mk s.vr (s.ins ++ [x]) s.outs s.pc s.sp s.tr
def gvG (sg : GS) (v : Int32) : GS := if -1000000000 ≤ v.toInt ∧ v.toInt ≤ 1000000000 ∧ sg.2.ins.length < 20 then (sg.1, sg.2.give v.toInt) else sg
theorem gv_y {sg : GS} {v : Int32} (h : GOK v sg.2.ins) : gvG sg v = (sg.1, sg.2.give v.toInt) := if_pos h
theorem gv_n {sg : GS} {v : Int32} (h : ¬ GOK v sg.2.ins) : gvG sg v = sg := if_neg h
/-- what run answers -/
def prG (sg : GS) (k : Int32) : Nat × Nat × GS := match sg.1 with
  | none => (1, 0, sg)
  | some L => ((prunA L k.toInt sg.2).1, (prunA L k.toInt sg.2).2.1, (some L, (prunA L k.toInt sg.2).2.2))
theorem INS_app {g : Lay} {f1 : Nat → va_E} {X fi wa : Nat} {hR : Nat → Int32} {ins : List Int} {v : Int32} (hfi : fi < 20) (hwa : wa = ins.length) (hw : wa < 20) (hk : ∀ k, k < wa → (hR ((fi + k) % 20)).toInt = ins.getD k 0 ∧ (ins.getD k 0).natAbs ≤ 1000000000) (hv : v.toInt.natAbs ≤ 1000000000) (e1 : f1 (g.lk X 1) = .inr (1, [.ref (g.lk (g.lk X 1) 0), .int (nI fi), .int (nI (wa + 1))])) (e2 : f1 (g.lk (g.lk X 1) 0) = .inl (g.ac (g.lk (g.lk X 1) 0), 20, .inl (upd hR ((fi + wa) % 20) v))) : INS g f1 X (ins ++ [v.toInt]) := by
  refine ⟨fi, wa + 1, _, e1, e2, hfi, by rw [List.length_append, List.length_singleton, hwa], by omega, fun k hk2 => ?_⟩
  by_cases q : k = wa
  · subst q
    rw [upd_at, hwa, gd_e]
    exact ⟨rfl, hv⟩
  · rw [upd_ne _ _ (by omega), gd_l (by omega)]
    exact hk k (by omega)
theorem CVS_in {g : Lay} {f f1 : Nat → va_E} {X pr sn nn ix os st tr : Nat} {ld : Int32} {o : Option (List (Nat × Nat))} {s : PS} {x : Int} (hL : LO g) (hX : g.tg X = 9) (hP : g.tg pr = 7) (h : CVS g f X pr sn nn ix os st tr ld o s) (hu : un [2, 21] g f f1) (hi : INS g f1 X (s.ins ++ [x])) : CVS g f1 X pr sn nn ix os st tr ld o (s.give x) := by
  cases o with
  | none => exact ⟨h.1, h.2.1, hi, h.2.2.2⟩
  | some L =>
    obtain ⟨h0, T, nb, en, h1, r1, r2, r3, r4, r5, r6, r7, r8⟩ := h
    exact ⟨h0, T, nb, en, h1, TPN_un hL hP r1 hu (by decide), TPS_un hL hP r2 hu (by decide), EV_un hL hP r3 hu (by decide), VARS_un hL hX r4 hu (by decide) (by decide) (by decide), r5, hi, OUTS_un hL hX r7 hu (by decide) (by decide), r8⟩
theorem CVS_in0 {g : Lay} {f f1 : Nat → va_E} {X pr sn nn ix os st tr : Nat} {ld : Int32} {o : Option (List (Nat × Nat))} {s : PS} (hL : LO g) (hX : g.tg X = 9) (hP : g.tg pr = 7) (h : CVS g f X pr sn nn ix os st tr ld o s) (hu : un [2, 21] g f f1) (hi : INS g f1 X s.ins) : CVS g f1 X pr sn nn ix os st tr ld o s := by
  cases o with
  | none => exact ⟨h.1, h.2.1, hi, h.2.2.2⟩
  | some L =>
    obtain ⟨h0, T, nb, en, h1, r1, r2, r3, r4, r5, r6, r7, r8⟩ := h
    exact ⟨h0, T, nb, en, h1, TPN_un hL hP r1 hu (by decide), TPS_un hL hP r2 hu (by decide), EV_un hL hP r3 hu (by decide), VARS_un hL hX r4 hu (by decide) (by decide) (by decide), r5, hi, OUTS_un hL hX r7 hu (by decide) (by decide), r8⟩
theorem CVS_sh {g : Lay} {f f1 : Nat → va_E} {X pr sn nn ix os st tr : Nat} {ld : Int32} {o : Option (List (Nat × Nat))} {s : PS} (hL : LO g) (hX : g.tg X = 9) (hP : g.tg pr = 7) (h : CVS g f X pr sn nn ix os st tr ld o s) (hu : ∀ b, b ≠ g.lk X 5 → b ≠ g.lk (g.lk X 5) 2 → f1 b = f b) : CVS g f1 X pr sn nn ix os st tr ld o s := by
  have t5 := lo_k9_5 hL X hX
  have t23 := lo_k5_2 hL _ t5
  have hw : un [5, 23] g f f1 := fun a ha => hu a (fun q => ha (by rw [q, t5]; decide)) (fun q => ha (by rw [q, t23]; decide))
  have hn : ∀ x, g.tg x = 5 → g.tn x ≠ 140 → f1 x = f x ∧ f1 (g.lk x 2) = f (g.lk x 2) := fun x hx hne => by
    have e := tn5_ne hL hx t5 (by rw [lo_n9 hL X hX]; exact hne)
    exact ⟨hu x e.1 (tg_ne hx t23 (by decide)), hu _ (tg_ne (lo_k5_2 hL x hx) t5 (by decide)) e.2⟩
  cases o with
  | none => exact ⟨h.1, h.2.1, INS_un hL hX h.2.2.1 hw (by decide) (by decide), h.2.2.2⟩
  | some L =>
    obtain ⟨h0, T, nb, en, h1, r1, r2, r3, r4, r5, r6, r7, r8⟩ := h
    refine ⟨h0, T, nb, en, h1, TPN_un hL hP r1 hw (by decide), TPS_un hL hP r2 hw (by decide), EV_un hL hP r3 hw (by decide), VARS_of hL hX r4 (fun x hx _ h120 => hn x hx (by omega)) (hw _ (by rw [lo_k9_3 hL X hX]; decide)), r5, INS_un hL hX r6 hw (by decide) (by decide), fun k hk hk2 => ⟨LV_eq (r7 k hk hk2).1 (hn _ (lo_e29 hL _ (lo_k9_7 hL X hX) k hk) (by rw [lo_n29 hL _ (lo_k9_7 hL X hX) k hk]; omega)), (r7 k hk hk2).2⟩, r8⟩
set_option maxHeartbeats 4000000 in
set_option maxRecDepth 100000 in
theorem v_append (l : Launch) (g : Lay) (sz : Nat) (f : Nat → va_E) (X : Nat) (v : Int32) (ins : List Int) (hL : LO g) (t_X : g.tg X = 9) (hI : IV g f) (hIN : INS g f X ins) : Met l ⟨"BigRunner$Inputs", "append", "(I)Z"⟩ [Cond.code ⟨"BigRunner$Inputs", "append", "(I)Z"⟩ prog_2_method_2_code 2 (some .boolean)] ({ frames := 0, cells := 0, slots := 0, locals := 0 }) (va_Pc [.ref (g.lk X 1), .int v] (pc_in g sz f)) (va_Qi (fun r f1 => ((r = nI 1 ∧ GOK v ins ∧ INS g f1 X (ins ++ [v.toInt])) ∨ (r = nI 0 ∧ ¬ GOK v ins ∧ INS g f1 X ins)) ∧ (IV g f1) ∧ (un [2, 21] g f f1)) (pc_out g sz) (pc_A g sz)) 0 0 (pc_A g sz) := by
  refine pe_ofW (cc := prog_2_method_2_code) (maxL := 2) (ret := (some .boolean)) (lv := [(0, .ref (g.lk X 1)), (1, .int v)]) (by decide) (Nat.le_of_ble_eq_true rfl) rfl ?_
  intro p e s m args below meth c ls hx hb hr hml hlocks hown hB hP hK hD hsz hS hl
  subst hsz
  have hu : un [2, 21] g f f := un.rf
  have hIN0 := hIN
  obtain ⟨fi, wa, hR, eI, eR, hfi, hwa, hw20, hk⟩ := hIN
  have hmod : (fi + wa) % 20 < 20 := Nat.mod_lt _ (by decide)
  have hI9 : (-1000000000 : Int32).toInt = -1000000000 := by decide
  have hI8 : (nI 1000000000).toInt = 1000000000 := by decide
  refine lv_iload_n hx hb d_NInputs_append_0 rfl (lv_at hl 1 rfl) ?_
  refine lv_ldc (v := (-1000000000)) hx hb hown (wd_410 hB _) d_NInputs_append_1 ?_
  refine lv_icmp_lt (tgt := 21) hx hb d_NInputs_append_3 (by decide) (fun b1 => ?_) (fun b1 => ?_)
  · skip
    refine lv_iconst (v := nI 0) hx hb d_NInputs_append_21 (by decide) ?_
    exact pe_zret hx hb hr hlocks hK hP hD hS d_NInputs_append_22 rfl ⟨(Or.inr ⟨rfl, (fun z9 => by have y9 := Int32.lt_iff_toInt_lt.mp b1; rw [hI9] at y9; have := z9.1; omega), hIN0⟩), hI, hu⟩
  · skip
    have hg1 : -1000000000 ≤ v.toInt := by have z9 := Int32.not_lt.mp b1; rw [Int32.le_iff_toInt_le, hI9] at z9; exact z9
    refine lv_iload_n hx hb d_NInputs_append_6 rfl (lv_at hl 1 rfl) ?_
    refine lv_ldc (v := 1000000000) hx hb hown (wd_411 hB _) d_NInputs_append_7 ?_
    refine lv_topi (fun z_ hz_ => ?_)
    obtain rfl : z_ = nI 1000000000 := hz_
    refine lv_icmp_gt (tgt := 21) hx hb d_NInputs_append_9 (by decide) (fun b2 => ?_) (fun b2 => ?_)
    · skip
      refine lv_iconst (v := nI 0) hx hb d_NInputs_append_21 (by decide) ?_
      exact pe_zret hx hb hr hlocks hK hP hD hS d_NInputs_append_22 rfl ⟨(Or.inr ⟨rfl, (fun z9 => by have y9 := Int32.lt_iff_toInt_lt.mp b2; rw [hI8] at y9; have := z9.2.1; omega), hIN0⟩), hI, hu⟩
    · skip
      have hg2 : v.toInt ≤ 1000000000 := by have z9 := Int32.not_lt.mp b2; rw [Int32.le_iff_toInt_le, hI8] at z9; exact z9
      refine lv_aload_n hx hb d_NInputs_append_12 rfl (lv_at hl 0 rfl) ?_
      refine pf_get (v := .int (nI wa)) (C := "BigRunner$Inputs") (T := FT1) (N := 3) hx hb (hw1 hB _) (fun _ h9 => h9) hown hK hP (lo_in hL (lo_k9_1 hL _ t_X) (by decide)) eI rfl 2 (by decide) (wd_300 hB _) rfl d_NInputs_append_13 ?_
      refine lv_bipush (v := nI 20) hx hb d_NInputs_append_16 (by decide) ?_
      refine lv_icmp_lt (tgt := 23) hx hb d_NInputs_append_18 (by decide) (fun b3 => ?_) (fun b3 => ?_)
      · skip
        replace b3 := (nI_ltI (a := wa) (b := 20) (by omega) (by omega)).mp b3
        refine lv_aload_n hx hb d_NInputs_append_23 rfl (lv_at hl 0 rfl) ?_
        refine pf_get (v := .ref (g.lk (g.lk X 1) 0)) (C := "BigRunner$Inputs") (T := FT1) (N := 3) hx hb (hw1 hB _) (fun _ h9 => h9) hown hK hP (lo_in hL (lo_k9_1 hL _ t_X) (by decide)) eI rfl 0 (by decide) (wd_298 hB _) rfl d_NInputs_append_24 ?_
        refine lv_aload_n hx hb d_NInputs_append_27 rfl (lv_at hl 0 rfl) ?_
        refine pf_get (v := .int (nI fi)) (C := "BigRunner$Inputs") (T := FT1) (N := 3) hx hb (hw1 hB _) (fun _ h9 => h9) hown hK hP (lo_in hL (lo_k9_1 hL _ t_X) (by decide)) eI rfl 1 (by decide) (wd_299 hB _) rfl d_NInputs_append_28 ?_
        refine lv_aload_n hx hb d_NInputs_append_31 rfl (lv_at hl 0 rfl) ?_
        refine pf_get (v := .int (nI wa)) (C := "BigRunner$Inputs") (T := FT1) (N := 3) hx hb (hw1 hB _) (fun _ h9 => h9) hown hK hP (lo_in hL (lo_k9_1 hL _ t_X) (by decide)) eI rfl 2 (by decide) (wd_300 hB _) rfl d_NInputs_append_32 ?_
        refine pf_iaddN (x := fi) (y := wa) hx hb d_NInputs_append_35 ?_
        refine lv_bipush (v := nI 20) hx hb d_NInputs_append_36 (by decide) ?_
        refine pf_iremN (x := fi + wa) (y := 20) hx hb (by omega) (by omega) (by omega) d_NInputs_append_38 ?_
        refine lv_iload_n hx hb d_NInputs_append_39 rfl (lv_at hl 1 rfl) ?_
        refine pf_iast (i := (fi + wa) % 20) hx hb hK hP hD hS (lo_in hL (lo_k2_0 hL _ (lo_k9_1 hL _ t_X)) (by decide)) eR (lo_t21 hL _ (lo_k2_0 hL _ (lo_k9_1 hL _ t_X))) (by omega) (by decide) d_NInputs_append_40 (fun f4 H locs e5 k6 hP hD hS => ?_)
        have eI := (k6 (g.lk X 1) (tg_ne (lo_k9_1 hL _ t_X) (lo_k2_0 hL _ (lo_k9_1 hL _ t_X)) (by decide))).trans eI
        have hu := hu.st k6 (lo_k2_0 hL _ (lo_k9_1 hL _ t_X)) (by decide)
        have hk7 : ∀ b, b ≠ (g.lk (g.lk X 1) 0) → f4 b = f b := k6
        refine lv_aload_n hx hb d_NInputs_append_41 rfl (lv_at hl 0 rfl) ?_
        refine lv_dup hx hb d_NInputs_append_42 rfl ?_
        refine pf_get (v := .int (nI wa)) (C := "BigRunner$Inputs") (T := FT1) (N := 3) hx hb (hw1 hB _) (fun _ h9 => h9) hown hK hP (lo_in hL (lo_k9_1 hL _ t_X) (by decide)) eI rfl 2 (by decide) (wd_300 hB _) rfl d_NInputs_append_43 ?_
        refine lv_iconst (v := nI 1) hx hb d_NInputs_append_46 (by decide) ?_
        refine pf_iaddN (x := wa) (y := 1) hx hb d_NInputs_append_47 ?_
        have hI8 := iv_1 hI hL (lo_k2_0 hL _ (lo_k9_1 hL _ t_X)) (by decide) hk7 (oc_21.mk (lo_k2_0 hL _ (lo_k9_1 hL _ t_X)) (⟨_, e5⟩))
        refine pf_put (v := .int (nI (wa + 1))) (ty := .int) (fs' := [.ref (g.lk (g.lk X 1) 0), .int (nI fi), .int (nI (wa + 1))]) (C := "BigRunner$Inputs") (T := FT1) (N := 3) hx hb (hw1 hB _) (fun _ h9 => h9) TY1 ok1 nm1 hown hK hP hD hS (lo_in hL (lo_k9_1 hL _ t_X) (by decide)) eI rfl 2 (by decide) (wd_300 hB _) rfl (by decide +kernel) rfl rfl (Nat.le_of_ble_eq_true rfl) rfl d_NInputs_append_48 (fun f9 H locs e10 k11 hP hD hS => ?_)
        have e5 := (k11 (g.lk (g.lk X 1) 0) (tg_ne (lo_k2_0 hL _ (lo_k9_1 hL _ t_X)) (lo_k9_1 hL _ t_X) (by decide))).trans e5
        have hu := hu.st k11 (lo_k9_1 hL _ t_X) (by decide)
        have hk12 : ∀ b, b ≠ (g.lk X 1) → f9 b = f4 b := k11
        refine lv_iconst (v := nI 1) hx hb d_NInputs_append_51 (by decide) ?_
        have hI13 := iv_1 hI8 hL (lo_k9_1 hL _ t_X) (by decide) hk12 (oc_2.mk (lo_k9_1 hL _ t_X) (⟨fi, (wa + 1), e10, (by omega), (by omega)⟩))
        exact pe_zret hx hb hr hlocks hK hP hD hS d_NInputs_append_52 rfl ⟨(Or.inl ⟨rfl, ⟨hg1, hg2, by omega⟩, INS_app hfi hwa (by omega) hk (by omega) e10 e5⟩), hI13, hu⟩
      · skip
        replace b3 := mt (nI_ltI (a := wa) (b := 20) (by omega) (by omega)).mpr b3
        refine lv_iconst (v := nI 0) hx hb d_NInputs_append_21 (by decide) ?_
        exact pe_zret hx hb hr hlocks hK hP hD hS d_NInputs_append_22 rfl ⟨(Or.inr ⟨rfl, (fun z9 => by have := z9.2.2; omega), hIN0⟩), hI, hu⟩
set_option maxHeartbeats 4000000 in
set_option maxRecDepth 100000 in
theorem v_give (l : Launch) (g : Lay) (sz : Nat) (f : Nat → va_E) (B : Nat) (v : Int32) (ins : List Int) (hL : LO g) (t_B : g.tg B = 1) (hI : IV g f) (hIN : INS g f (g.lk B 3) ins) : Met l ⟨"BigRunner", "give", "(I)Z"⟩ [Cond.code ⟨"BigRunner", "give", "(I)Z"⟩ prog_1_method_5_code 2 (some .boolean)] ({ frames := 1, cells := 0, slots := 0, locals := 21 }) (va_Pc [.ref B, .int v] (pc_in g sz f)) (va_Qi (fun r f1 => ((r = nI 1 ∧ GOK v ins ∧ INS g f1 (g.lk B 3) (ins ++ [v.toInt])) ∨ (r = nI 0 ∧ ¬ GOK v ins ∧ INS g f1 (g.lk B 3) ins)) ∧ (IV g f1) ∧ (un [2, 21] g f f1)) (pc_out g sz) (pc_A g sz)) 0 0 (pc_A g sz) := by
  refine pe_ofW (cc := prog_1_method_5_code) (maxL := 2) (ret := (some .boolean)) (lv := [(0, .ref B), (1, .int v)]) (by decide) (Nat.le_of_ble_eq_true rfl) rfl ?_
  intro p e s m args below meth c ls hx hb hr hml hlocks hown hB hP hK hD hsz hS hl
  subst hsz
  have hu : un [2, 21] g f f := un.rf
  refine lv_aload_n hx hb d_B_give_0 rfl (lv_at hl 0 rfl) ?_
  obtain ⟨n_2, ld_3, e1, c4, c5⟩ := oc_1.of t_B (hI.1 B)
  refine pf_get (v := .ref (g.lk B 3)) (C := "BigRunner") (T := FT0) (N := 5) hx hb (hw0 hB _) (fun _ h9 => h9) hown hK hP (lo_in hL t_B (by decide)) e1 rfl 3 (by decide) (wd_381 hB _) rfl d_B_give_1 ?_
  obtain ⟨pr_7, ix_8, os_9, st_10, mo_11, lo_12, tr_13, e6, c14, c15, c16, c17, c18⟩ := oc_9.of (lo_k1_3 hL _ t_B) (hI.1 (g.lk B 3))
  refine pf_get (v := .ref (g.lk (g.lk B 3) 1)) (C := "BigRunner$Runner") (T := FT8) (N := 13) hx hb (hw8 hB _) (fun _ h9 => h9) hown hK hP (lo_in hL (lo_k1_3 hL _ t_B) (by decide)) e6 rfl 1 (by decide) (wd_333 hB _) rfl d_B_give_4 ?_
  refine lv_iload_n hx hb d_B_give_7 rfl (lv_at hl 1 rfl) ?_
  obtain ⟨fi_20, wa_21, e19, c22, c23⟩ := oc_2.of (lo_k9_1 hL _ (lo_k1_3 hL _ t_B)) (hI.1 (g.lk (g.lk B 3) 1))
  refine pcc_i (va_runV (C := "BigRunner$Inputs") (As := [.int v]) (rest := []) ⟨hx, hb, hml, hown, tb_nil⟩ (v_append l g s.heap.size f ((g.lk B 3)) v ins hL (lo_k1_3 hL _ t_B) hI hIN) ⟨(callB_of 1 (tb_one (wd_409 hB _)) tb_good1 rfl rfl rfl (wd_80 hB _) (wd_406 hB _) (by decide +kernel) ⟨Nat.le_of_ble_eq_true rfl, Nat.le_of_ble_eq_true rfl⟩), (wd_407 hB _), (wd_408 hB _)⟩ ⟨pe_bl, pg_recv (ci := 1) hK hP (lo_in hL (lo_k9_1 hL _ (lo_k1_3 hL _ t_B)) (by decide)) e19 rfl, pe_pre hB hK hP hD⟩ rfl rfl hl.1 rfl (lv_room (Nat.le_of_ble_eq_true rfl)) d_B_give_8 ⟨Nat.le_of_ble_eq_true rfl, Nat.le_of_ble_eq_true rfl⟩) hS (fun r24 f25 H locs hq26 hP hD hS => ?_)
  obtain ⟨ap_27, hI1_28, hu1_29⟩ := hq26
  have hu := hu.tr hu1_29 (by decide)
  have e1 := hu1_29.at t_B (by decide) e1
  have e6 := hu1_29.at (lo_k1_3 hL _ t_B) (by decide) e6
  have hbo9 : r24 = nI 0 ∨ r24 = nI 1 := by rcases ap_27 with z9 | z9; exact Or.inr z9.1; exact Or.inl z9.1
  exact pe_zret hx hb hr hlocks hK hP hD hS d_B_give_11 (by rcases hbo9 with h9 | h9 <;> rw [h9] <;> rfl) ⟨ap_27, hI1_28, hu⟩
set_option maxHeartbeats 4000000 in
set_option maxRecDepth 100000 in
theorem v_valueOf (l : Launch) (g : Lay) (sz : Nat) (f : Nat → va_E) (X : Nat) (pr : Nat) (ix : Nat) (os : Nat) (st : Nat) (mo : Int32) (lo : Int32) (tr : Nat) (i : Nat) (en : Nat → IVL) (vr : Nat → Int) (hL : LO g) (t_X : g.tg X = 9) (t_pr : g.tg pr = 7) (hI : IV g f) (eX : f X = .inr (8, [.ref pr, .ref (g.lk X 1), .int (nI ix), .ref (g.lk X 3), .ref (g.lk X 4), .ref (g.lk X 5), .ref (g.lk X 6), .ref (g.lk X 7), .int (nI os), .int (nI st), .int mo, .int lo, .int (nI tr)])) (hix : ix ≤ 36) (hos : os ≤ st) (hst : st ≤ 3000) (htr : tr ≤ 3) (hi : i < 10) (hEV : EV g f pr en) (hV : VARS g f X en vr) (hVI : VIN en vr) : Met l ⟨"BigRunner$Runner", "valueOf", "(I)LBigRunner$LongNumber;"⟩ [Cond.code ⟨"BigRunner$Runner", "valueOf", "(I)LBigRunner$LongNumber;"⟩ prog_9_method_6_code 2 (some (.object "BigRunner$LongNumber"))] ({ frames := 2, cells := 0, slots := 0, locals := 65 }) (va_Pc [.ref X, .int (nI i)] (pc_in g sz f)) (va_Qr (fun _ => True) (pc_outr g sz (fun f1 ra => (g.tg ra = 5) ∧ (LV g f1 ra (vr i)) ∧ (IV g f1) ∧ (∀ b, b ≠ (g.lk X 5) → b ≠ (g.lk (g.lk X 5) 2) → f1 b = f b))) (pc_A g sz)) 0 0 (pc_A g sz) := by
  refine pe_ofW (cc := prog_9_method_6_code) (maxL := 2) (ret := (some (.object "BigRunner$LongNumber"))) (lv := [(0, .ref X), (1, .int (nI i))]) (by decide) (Nat.le_of_ble_eq_true rfl) rfl ?_
  intro p e s m args below meth c ls hx hb hr hml hlocks hown hB hP hK hD hsz hS hl
  subst hsz
  have hu : ∀ b, b ≠ (g.lk X 5) → b ≠ (g.lk (g.lk X 5) 2) → f b = f b := fun _ _ _  => rfl
  obtain ⟨hM, eM, hva⟩ := hV
  have evi := hEV.2 i hi
  refine lv_aload_n hx hb d_NRunner_valueOf_0 rfl (lv_at hl 0 rfl) ?_
  refine pf_get (v := .ref pr) (C := "BigRunner$Runner") (T := FT8) (N := 13) hx hb (hw8 hB _) (fun _ h9 => h9) hown hK hP (lo_in hL t_X (by decide)) eX rfl 0 (by decide) (wd_330 hB _) rfl d_NRunner_valueOf_1 ?_
  obtain ⟨sc_2, nc_3, e1, c4, c5⟩ := oc_7.of t_pr (hI.1 pr)
  refine pf_get (v := .ref (g.lk pr 4)) (C := "BigRunner$Program") (T := FT6) (N := 6) hx hb (hw6 hB _) (fun _ h9 => h9) hown hK hP (lo_in hL t_pr (by decide)) e1 rfl 4 (by decide) (wd_254 hB _) rfl d_NRunner_valueOf_4 ?_
  refine lv_iload_n hx hb d_NRunner_valueOf_7 rfl (lv_at hl 1 rfl) ?_
  have e6 := oc_26.of (lo_k7_4 hL _ t_pr) (hI.1 (g.lk pr 4))
  refine pf_aald (i := i) hx hb hK hP (lo_in hL (lo_k7_4 hL _ t_pr) (by decide)) e6 (lo_t26 hL _ (lo_k7_4 hL _ t_pr)) (by omega) (by decide) d_NRunner_valueOf_8 ?_
  have t7 := lo_e26 hL _ (lo_k7_4 hL _ t_pr) i (by omega)
  refine pcc_i (va_runV (C := "BigRunner$Interval") (As := []) (rest := []) ⟨hx, hb, hml, hown, tb_nil⟩ (c2_isBounded l g s.heap.size f ((g.lk (g.lk pr 4) i)) ((cL ((en i)).1)) ((cH ((en i)).2)) hL t7 hI.1 evi) ⟨(callB_of 0 (tb_one (wd_440 hB _)) tb_good1 rfl rfl rfl (wd_75 hB _) (wd_730 hB _) (by decide +kernel) ⟨Nat.le_of_ble_eq_true rfl, Nat.le_of_ble_eq_true rfl⟩), (wd_438 hB _), (wd_439 hB _)⟩ ⟨pe_bl, pg_recv (ci := 2) hK hP (lo_in hL t7 (by decide)) evi rfl, pe_pre hB hK hP hD⟩ rfl rfl hl.1 rfl (lv_room (Nat.le_of_ble_eq_true rfl)) d_NRunner_valueOf_9 ⟨Nat.le_of_ble_eq_true rfl, Nat.le_of_ble_eq_true rfl⟩) hS (fun r8 f9 H locs hq10 hP hD hS => ?_)
  obtain ⟨bo_11, i0_12, i1_13, rfl⟩ := hq10
  refine lv_if_ne (tgt := 22) hx hb d_NRunner_valueOf_12 (by decide) (fun b14 => ?_) (fun b14 => ?_)
  · skip
    have hr15 : r8 = nI 1 := (bl_1 bo_11 b14)
    have hi16 := i1_13 hr15
    have hbd9 : bdd (en i) := (bdd_k (hEV.1 i)).mp (by assumption)
    refine lv_aload_n hx hb d_NRunner_valueOf_22 rfl (lv_at hl 0 rfl) ?_
    refine pf_get (v := .ref (g.lk X 5)) (C := "BigRunner$Runner") (T := FT8) (N := 13) hx hb (hw8 hB _) (fun _ h9 => h9) hown hK hP (lo_in hL t_X (by decide)) eX rfl 5 (by decide) (wd_337 hB _) rfl d_NRunner_valueOf_23 ?_
    refine lv_aload_n hx hb d_NRunner_valueOf_26 rfl (lv_at hl 0 rfl) ?_
    refine pf_get (v := .ref (g.lk X 3)) (C := "BigRunner$Runner") (T := FT8) (N := 13) hx hb (hw8 hB _) (fun _ h9 => h9) hown hK hP (lo_in hL t_X (by decide)) eX rfl 3 (by decide) (wd_335 hB _) rfl d_NRunner_valueOf_27 ?_
    refine lv_iload_n hx hb d_NRunner_valueOf_30 rfl (lv_at hl 1 rfl) ?_
    refine pf_lald (i := i) hx hb hK hP (lo_in hL (lo_k9_3 hL _ t_X) (by decide)) eM (lo_t27 hL _ (lo_k9_3 hL _ t_X)) (by omega) (by decide) d_NRunner_valueOf_31 ?_
    obtain ⟨sg_18, n_19, e17, c20⟩ := oc_5.of (lo_k9_5 hL _ t_X) (hI.1 (g.lk X 5))
    refine pcc_v (va_runV (C := "BigRunner$LongNumber") (As := [.long (hM i)]) (rest := []) ⟨hx, hb, hml, hown, tb_nil⟩ (v_setTo l g H.size f ((g.lk X 5)) ((hM i)) hL (lo_k9_5 hL _ t_X) hI (by rw [(hva i hi).1 hbd9]; have := ivin_60 (hVI i hi).1 hbd9 (hEV.1 i); omega)) ⟨(callB_of 1 (tb_one (wd_680 hB _)) tb_good1 rfl rfl rfl (wd_78 hB _) (wd_677 hB _) (by decide +kernel) ⟨Nat.le_of_ble_eq_true rfl, Nat.le_of_ble_eq_true rfl⟩), (wd_678 hB _), (wd_679 hB _)⟩ ⟨pe_bl, pg_recv (ci := 4) hK hP (lo_in hL (lo_k9_5 hL _ t_X) (by decide)) e17 rfl, pe_pre hB hK hP hD⟩ rfl rfl hl.1 rfl (lv_room (Nat.le_of_ble_eq_true rfl)) d_NRunner_valueOf_32 ⟨Nat.le_of_ble_eq_true rfl, Nat.le_of_ble_eq_true rfl⟩) hS (fun f22 H locs hq23 hP hD hS => ?_)
    obtain ⟨lv_24, hI1_25, hk1_26⟩ := hq23
    have hu : ∀ b, b ≠ (g.lk X 5) → b ≠ (g.lk (g.lk X 5) 2) → f22 b = f b := fun b q0 q1 => (hk1_26 b q0 q1).trans (hu b q0 q1)
    have eX := (hk1_26 X (tg_ne t_X (lo_k9_5 hL _ t_X) (by decide)) (tg_ne t_X (lo_k5_2 hL _ (lo_k9_5 hL _ t_X)) (by decide))).trans eX
    have eM := (hk1_26 (g.lk X 3) (tg_ne (lo_k9_3 hL _ t_X) (lo_k9_5 hL _ t_X) (by decide)) (tg_ne (lo_k9_3 hL _ t_X) (lo_k5_2 hL _ (lo_k9_5 hL _ t_X)) (by decide))).trans eM
    have evi := (hk1_26 (g.lk (g.lk pr 4) i) (tg_ne t7 (lo_k9_5 hL _ t_X) (by decide)) (tg_ne t7 (lo_k5_2 hL _ (lo_k9_5 hL _ t_X)) (by decide))).trans evi
    have e1 := (hk1_26 pr (tg_ne t_pr (lo_k9_5 hL _ t_X) (by decide)) (tg_ne t_pr (lo_k5_2 hL _ (lo_k9_5 hL _ t_X)) (by decide))).trans e1
    have e6 := (hk1_26 (g.lk pr 4) (tg_ne (lo_k7_4 hL _ t_pr) (lo_k9_5 hL _ t_X) (by decide)) (tg_ne (lo_k7_4 hL _ t_pr) (lo_k5_2 hL _ (lo_k9_5 hL _ t_X)) (by decide))).trans e6
    obtain ⟨sg27, nn28, dd29, e30, e31, hN32⟩ := lv_24
    have c33 : ∀ i, i < 15 → ∃ k, k < 1000000000 ∧ dd29 i = nI k := hN32.2.1
    have hnn28 : nn28 ≤ 15 := hN32.1
    refine lv_aload_n hx hb d_NRunner_valueOf_35 rfl (lv_at hl 0 rfl) ?_
    refine pf_get (v := .ref (g.lk X 5)) (C := "BigRunner$Runner") (T := FT8) (N := 13) hx hb (hw8 hB _) (fun _ h9 => h9) hown hK hP (lo_in hL t_X (by decide)) eX rfl 5 (by decide) (wd_337 hB _) rfl d_NRunner_valueOf_36 ?_
    exact pe_aret hx hb hr hlocks hK hP hD hS d_NRunner_valueOf_39 ⟨(lo_k9_5 hL _ t_X), ⟨_, _, _, e30, e31, LNV_cast hN32 ((hva i hi).1 hbd9)⟩, hI1_25, hu⟩
  · skip
    have hr34 : r8 = nI 0 := b14
    have hi35 := i0_12 hr34
    have hbd9 : ¬ bdd (en i) := (bdd_n (hEV.1 i)).mp (by assumption)
    refine lv_aload_n hx hb d_NRunner_valueOf_15 rfl (lv_at hl 0 rfl) ?_
    refine pf_get (v := .ref (g.lk X 4)) (C := "BigRunner$Runner") (T := FT8) (N := 13) hx hb (hw8 hB _) (fun _ h9 => h9) hown hK hP (lo_in hL t_X (by decide)) eX rfl 4 (by decide) (wd_336 hB _) rfl d_NRunner_valueOf_16 ?_
    refine lv_iload_n hx hb d_NRunner_valueOf_19 rfl (lv_at hl 1 rfl) ?_
    have e36 := oc_28.of (lo_k9_4 hL _ t_X) (hI.1 (g.lk X 4))
    refine pf_aald (i := i) hx hb hK hP (lo_in hL (lo_k9_4 hL _ t_X) (by decide)) e36 (lo_t28 hL _ (lo_k9_4 hL _ t_X)) (by omega) (by decide) d_NRunner_valueOf_20 ?_
    have t37 := lo_e28 hL _ (lo_k9_4 hL _ t_X) i (by omega)
    exact pe_aret hx hb hr hlocks hK hP hD hS d_NRunner_valueOf_21 ⟨t37, ((hva i hi).2 hbd9), hI, hu⟩

