set_option maxHeartbeats 4000000 in
set_option maxRecDepth 100000 in
theorem c3_hasVarIn (l : Launch) (g : Lay) (sz : Nat) (f : Nat → va_E) (B : Nat) (n : Nat) (ld : Int32) (k9 : Nat) (hL : LO g) (t_B : g.tg B = 1) (hI : OC g f) (eB : f B = .inr (0, [.ref (g.lk B 0), .int (nI n), .ref (g.lk B 2), .ref (g.lk B 3), .int ld])) (hld : ld = nI 0 ∨ ld = nI 1) (hk : k9 < 10) : Met l ⟨"BigRunner", "hasVariable", "(I)Z"⟩ [Cond.code ⟨"BigRunner", "hasVariable", "(I)Z"⟩ prog_1_method_12_code 2 (some .boolean)] ({ frames := 0, cells := 0, slots := 0, locals := 0 }) (va_Pc [.ref B, .int (nI k9)] (pc_in g sz f)) (va_Qi (fun r f1 => (r = ld) ∧ (f = f1)) (pc_out g sz) (pc_A g sz)) 0 0 (pc_A g sz) := by
  refine pe_ofW (cc := prog_1_method_12_code) (maxL := 2) (ret := (some .boolean)) (lv := [(0, .ref B), (1, .int (nI k9))]) (by decide) (Nat.le_of_ble_eq_true rfl) rfl ?_
  intro p e s m args below meth c ls hx hb hr hml hlocks hown hB hP hK hD hsz hS hl
  subst hsz
  refine lv_aload_n hx hb d_B_hasVariable_0 rfl (lv_at hl 0 rfl) ?_
  refine pf_get (v := .int ld) (C := "BigRunner") (T := FT0) (N := 5) hx hb (hw0 hB _) (fun _ h9 => h9) hown hK hP (lo_in hL t_B (by decide)) eB rfl 4 (by decide) (wd_382 hB _) rfl d_B_hasVariable_1 ?_
  refine lv_if_eq (tgt := 21) hx hb d_B_hasVariable_4 (by decide) (fun b1 => ?_) (fun b1 => ?_)
  · skip
    have hr2 : ld = nI 0 := b1
    replace b1 : ld = nI 0 := b1
    refine lv_iconst (v := nI 0) hx hb d_B_hasVariable_21 (by decide) ?_
    exact pe_zret hx hb hr hlocks hK hP hD hS d_B_hasVariable_22 rfl ⟨(by assumption : ld = nI 0).symm, rfl⟩
  · skip
    have hr3 : ld = nI 1 := (bl_1 hld b1)
    replace b1 : ¬ ld = nI 0 := b1
    refine lv_iload_n hx hb d_B_hasVariable_7 rfl (lv_at hl 1 rfl) ?_
    refine lv_if_lt (tgt := 21) hx hb d_B_hasVariable_8 (by decide) (fun b4 => ?_) (fun b4 => ?_)
    · skip
      replace b4 := (nI_ltI (a := k9) (b := 0) (by omega) (by omega)).mp b4
      exfalso; omega
    · skip
      replace b4 := mt (nI_ltI (a := k9) (b := 0) (by omega) (by omega)).mpr b4
      refine lv_iload_n hx hb d_B_hasVariable_11 rfl (lv_at hl 1 rfl) ?_
      refine lv_bipush (v := nI 10) hx hb d_B_hasVariable_12 (by decide) ?_
      refine lv_icmp_ge (tgt := 21) hx hb d_B_hasVariable_14 (by decide) (fun b5 => ?_) (fun b5 => ?_)
      · skip
        replace b5 := (nI_leI (a := 10) (b := k9) (by omega) (by omega)).mp b5
        exfalso; omega
      · skip
        replace b5 := mt (nI_leI (a := 10) (b := k9) (by omega) (by omega)).mpr b5
        refine lv_iconst (v := nI 1) hx hb d_B_hasVariable_17 (by decide) ?_
        refine lv_goto (tgt := 22) hx hb d_B_hasVariable_18 (by decide) ?_
        exact pe_zret hx hb hr hlocks hK hP hD hS d_B_hasVariable_22 rfl ⟨(bl_1 hld (by assumption)).symm, rfl⟩
set_option maxHeartbeats 4000000 in
set_option maxRecDepth 100000 in
theorem c3_hasVarOut (l : Launch) (g : Lay) (sz : Nat) (f : Nat → va_E) (B : Nat) (n : Nat) (ld : Int32) (v : Int32) (hL : LO g) (t_B : g.tg B = 1) (hI : OC g f) (eB : f B = .inr (0, [.ref (g.lk B 0), .int (nI n), .ref (g.lk B 2), .ref (g.lk B 3), .int ld])) (hld : ld = nI 0 ∨ ld = nI 1) (hno : vok v = false ∨ ld = nI 0) : Met l ⟨"BigRunner", "hasVariable", "(I)Z"⟩ [Cond.code ⟨"BigRunner", "hasVariable", "(I)Z"⟩ prog_1_method_12_code 2 (some .boolean)] ({ frames := 0, cells := 0, slots := 0, locals := 0 }) (va_Pc [.ref B, .int v] (pc_in g sz f)) (va_Qi (fun r f1 => (r = nI 0) ∧ (f = f1)) (pc_out g sz) (pc_A g sz)) 0 0 (pc_A g sz) := by
  refine pe_ofW (cc := prog_1_method_12_code) (maxL := 2) (ret := (some .boolean)) (lv := [(0, .ref B), (1, .int v)]) (by decide) (Nat.le_of_ble_eq_true rfl) rfl ?_
  intro p e s m args below meth c ls hx hb hr hml hlocks hown hB hP hK hD hsz hS hl
  subst hsz
  refine lv_aload_n hx hb d_B_hasVariable_0 rfl (lv_at hl 0 rfl) ?_
  refine pf_get (v := .int ld) (C := "BigRunner") (T := FT0) (N := 5) hx hb (hw0 hB _) (fun _ h9 => h9) hown hK hP (lo_in hL t_B (by decide)) eB rfl 4 (by decide) (wd_382 hB _) rfl d_B_hasVariable_1 ?_
  refine lv_if_eq (tgt := 21) hx hb d_B_hasVariable_4 (by decide) (fun b1 => ?_) (fun b1 => ?_)
  · skip
    have hr2 : ld = nI 0 := b1
    replace b1 : ld = nI 0 := b1
    refine lv_iconst (v := nI 0) hx hb d_B_hasVariable_21 (by decide) ?_
    exact pe_zret hx hb hr hlocks hK hP hD hS d_B_hasVariable_22 rfl ⟨rfl, rfl⟩
  · skip
    have hr3 : ld = nI 1 := (bl_1 hld b1)
    replace b1 : ¬ ld = nI 0 := b1
    refine lv_iload_n hx hb d_B_hasVariable_7 rfl (lv_at hl 1 rfl) ?_
    refine lv_if_lt (tgt := 21) hx hb d_B_hasVariable_8 (by decide) (fun b4 => ?_) (fun b4 => ?_)
    · skip
      refine lv_iconst (v := nI 0) hx hb d_B_hasVariable_21 (by decide) ?_
      exact pe_zret hx hb hr hlocks hK hP hD hS d_B_hasVariable_22 rfl ⟨rfl, rfl⟩
    · skip
      refine lv_iload_n hx hb d_B_hasVariable_11 rfl (lv_at hl 1 rfl) ?_
      refine lv_bipush (v := nI 10) hx hb d_B_hasVariable_12 (by decide) ?_
      refine lv_icmp_ge (tgt := 21) hx hb d_B_hasVariable_14 (by decide) (fun b5 => ?_) (fun b5 => ?_)
      · skip
        refine lv_iconst (v := nI 0) hx hb d_B_hasVariable_21 (by decide) ?_
        exact pe_zret hx hb hr hlocks hK hP hD hS d_B_hasVariable_22 rfl ⟨rfl, rfl⟩
      · skip
        exfalso
        rcases hno with hno | hno
        · simp [vok, b4, b5] at hno
        · exact b1 hno
theorem RP_cB {X : IVL} (h : iK X) : kB (cL X.1) (cH X.2) = (X.1.isSome && X.2.isSome) := kB_RP (x := X) (RP_L h.1) (RP_H h.2)
set_option maxHeartbeats 4000000 in
set_option maxRecDepth 100000 in
theorem c3_smallIn (l : Launch) (g : Lay) (sz : Nat) (f : Nat → va_E) (B : Nat) (n : Nat) (hT : Nat → Int32) (ld : Int32) (tx : Value) (ln0 : Nat) (ax0 : Nat) (PR : Nat) (pr : Nat) (ix : Nat) (os : Nat) (st : Nat) (mo : Int32) (lo : Int32) (tr : Nat) (sn : Nat) (nn : Nat) (en : Nat → IVL) (k9 : Nat) (hL : LO g) (t_B : g.tg B = 1) (t_PR : g.tg PR = 7) (t_pr : g.tg pr = 7) (hI : OC g f) (eB : f B = .inr (0, [.ref (g.lk B 0), .int (nI n), .ref (g.lk B 2), .ref (g.lk B 3), .int ld])) (hn : n ≤ 72) (hld : ld = nI 0 ∨ ld = nI 1) (eT : f (g.lk B 0) = .inl (g.ac (g.lk B 0), 72, .inl hT)) (cT : ∀ i, i < 72 → vp_nar .char (hT i) = hT i) (eR : f (g.lk B 2) = .inr (7, [tx, .int (nI ln0), .int (nI ax0), .ref PR])) (hl0 : ln0 ≤ 72) (ha0 : ax0 ≤ 72) (eX : f (g.lk B 3) = .inr (8, [.ref pr, .ref (g.lk (g.lk B 3) 1), .int (nI ix), .ref (g.lk (g.lk B 3) 3), .ref (g.lk (g.lk B 3) 4), .ref (g.lk (g.lk B 3) 5), .ref (g.lk (g.lk B 3) 6), .ref (g.lk (g.lk B 3) 7), .int (nI os), .int (nI st), .int mo, .int lo, .int (nI tr)])) (hix : ix ≤ 36) (hos : os ≤ st) (hst : st ≤ 3000) (htr : tr ≤ 3) (hPR : PR ≠ pr) (eP : f pr = .inr (6, [.ref (g.lk pr 0), .int (nI sn), .ref (g.lk pr 2), .int (nI nn), .ref (g.lk pr 4), .ref (g.lk pr 5)])) (hsn : sn ≤ 36) (hnn : nn ≤ 72) (hSG : SG g f pr 0 sn) (hnj : sn ≤ ix ∨ nj g f pr ix) (hld1 : ld = nI 1) (hEV : EV g f pr en) (hk : k9 < 10) : Met l ⟨"BigRunner", "small", "(I)Z"⟩ [Cond.code ⟨"BigRunner", "small", "(I)Z"⟩ prog_1_method_9_code 2 (some .boolean)] ({ frames := 40, cells := 0, slots := 0, locals := 1500 }) (va_Pc [.ref B, .int (nI k9)] (pc_in g sz f)) (va_Qi (fun r f1 => (r = bI ((en k9).1.isSome && (en k9).2.isSome)) ∧ (f = f1)) (pc_out g sz) (pc_A g sz)) 0 0 (pc_A g sz) := by
  refine pe_ofW (cc := prog_1_method_9_code) (maxL := 2) (ret := (some .boolean)) (lv := [(0, .ref B), (1, .int (nI k9))]) (by decide) (Nat.le_of_ble_eq_true rfl) rfl ?_
  intro p e s m args below meth c ls hx hb hr hml hlocks hown hB hP hK hD hsz hS hl
  subst hsz
  subst hld1
  have eva := hEV.2 k9 hk
  refine lv_aload_n hx hb d_B_small_0 rfl (lv_at hl 0 rfl) ?_
  refine lv_iload_n hx hb d_B_small_1 rfl (lv_at hl 1 rfl) ?_
  refine pcc_i (va_runV (C := "BigRunner") (As := [.int (nI k9)]) (rest := []) ⟨hx, hb, hml, hown, tb_nil⟩ (c3_hasVarIn l g s.heap.size f B n ((nI 1)) k9 hL t_B hI eB (Or.inr rfl) (by omega)) ⟨(callB_of 1 (tb_one (wd_436 hB _)) tb_good1 rfl rfl rfl (wd_72 hB _) (wd_433 hB _) (by decide +kernel) ⟨Nat.le_of_ble_eq_true rfl, Nat.le_of_ble_eq_true rfl⟩), (wd_435 hB _), (wd_1 hB _)⟩ ⟨pe_bl, pg_recv (ci := 0) hK hP (lo_in hL t_B (by decide)) eB rfl, pe_pre hB hK hP hD⟩ rfl rfl hl.1 rfl (lv_room (Nat.le_of_ble_eq_true rfl)) d_B_small_2 ⟨Nat.le_of_ble_eq_true rfl, Nat.le_of_ble_eq_true rfl⟩) hS (fun r1 f2 H locs hq3 hP hD hS => ?_)
  obtain ⟨qv_4, rfl⟩ := hq3
  subst qv_4
  refine lv_if_eq (tgt := 30) hx hb d_B_small_5 (by decide) (fun b5 => ?_) (fun b5 => ?_)
  · skip
    replace b5 := (nI_eq (a := 1) (b := 0) (by omega) (by omega)).mp b5
    exfalso; omega
  · skip
    replace b5 := mt (nI_eq (a := 1) (b := 0) (by omega) (by omega)).mpr b5
    refine lv_aload_n hx hb d_B_small_8 rfl (lv_at hl 0 rfl) ?_
    refine pf_get (v := .ref (g.lk B 3)) (C := "BigRunner") (T := FT0) (N := 5) hx hb (hw0 hB _) (fun _ h9 => h9) hown hK hP (lo_in hL t_B (by decide)) eB rfl 3 (by decide) (wd_381 hB _) rfl d_B_small_9 ?_
    refine pf_get (v := .ref pr) (C := "BigRunner$Runner") (T := FT8) (N := 13) hx hb (hw8 hB _) (fun _ h9 => h9) hown hK hP (lo_in hL (lo_k1_3 hL _ t_B) (by decide)) eX rfl 0 (by decide) (wd_331 hB _) rfl d_B_small_12 ?_
    refine pf_get (v := .ref (g.lk pr 4)) (C := "BigRunner$Program") (T := FT6) (N := 6) hx hb (hw6 hB _) (fun _ h9 => h9) hown hK hP (lo_in hL t_pr (by decide)) eP rfl 4 (by decide) (wd_255 hB _) rfl d_B_small_15 ?_
    refine lv_iload_n hx hb d_B_small_18 rfl (lv_at hl 1 rfl) ?_
    have e6 := oc_26.of (lo_k7_4 hL _ t_pr) (hI (g.lk pr 4))
    refine pf_aald (i := k9) hx hb hK hP (lo_in hL (lo_k7_4 hL _ t_pr) (by decide)) e6 (lo_t26 hL _ (lo_k7_4 hL _ t_pr)) (by omega) (by decide) d_B_small_19 ?_
    have t7 := lo_e26 hL _ (lo_k7_4 hL _ t_pr) k9 (by omega)
    refine pcc_i (va_runV (C := "BigRunner$Interval") (As := []) (rest := []) ⟨hx, hb, hml, hown, tb_nil⟩ (c2_isBounded l g H.size f ((g.lk (g.lk pr 4) k9)) ((cL ((en k9)).1)) ((cH ((en k9)).2)) hL t7 hI eva) ⟨(callB_of 0 (tb_one (wd_440 hB _)) tb_good1 rfl rfl rfl (wd_75 hB _) (wd_437 hB _) (by decide +kernel) ⟨Nat.le_of_ble_eq_true rfl, Nat.le_of_ble_eq_true rfl⟩), (wd_438 hB _), (wd_439 hB _)⟩ ⟨pe_bl, pg_recv (ci := 2) hK hP (lo_in hL t7 (by decide)) eva rfl, pe_pre hB hK hP hD⟩ rfl rfl hl.1 rfl (lv_room (Nat.le_of_ble_eq_true rfl)) d_B_small_20 ⟨Nat.le_of_ble_eq_true rfl, Nat.le_of_ble_eq_true rfl⟩) hS (fun r8 f9 H locs hq10 hP hD hS => ?_)
    obtain ⟨bo_11, i0_12, i1_13, rfl⟩ := hq10
    refine lv_if_eq (tgt := 30) hx hb d_B_small_23 (by decide) (fun b14 => ?_) (fun b14 => ?_)
    · skip
      have hr15 : r8 = nI 0 := b14
      have hi16 := i0_12 hr15
      refine lv_iconst (v := nI 0) hx hb d_B_small_30 (by decide) ?_
      exact pe_zret hx hb hr hlocks hK hP hD hS d_B_small_31 rfl ⟨(by rw [← RP_cB (hEV.1 k9), hi16]; rfl), rfl⟩
    · skip
      have hr17 : r8 = nI 1 := (bl_1 bo_11 b14)
      have hi18 := i1_13 hr17
      refine lv_iconst (v := nI 1) hx hb d_B_small_26 (by decide) ?_
      refine lv_goto (tgt := 31) hx hb d_B_small_27 (by decide) ?_
      exact pe_zret hx hb hr hlocks hK hP hD hS d_B_small_31 rfl ⟨(by rw [← RP_cB (hEV.1 k9), hi18]; rfl), rfl⟩
set_option maxHeartbeats 4000000 in
set_option maxRecDepth 100000 in
theorem c3_smallOut (l : Launch) (g : Lay) (sz : Nat) (f : Nat → va_E) (B : Nat) (n : Nat) (hT : Nat → Int32) (ld : Int32) (tx : Value) (ln0 : Nat) (ax0 : Nat) (PR : Nat) (pr : Nat) (ix : Nat) (os : Nat) (st : Nat) (mo : Int32) (lo : Int32) (tr : Nat) (sn : Nat) (nn : Nat) (v : Int32) (hL : LO g) (t_B : g.tg B = 1) (t_PR : g.tg PR = 7) (t_pr : g.tg pr = 7) (hI : OC g f) (eB : f B = .inr (0, [.ref (g.lk B 0), .int (nI n), .ref (g.lk B 2), .ref (g.lk B 3), .int ld])) (hn : n ≤ 72) (hld : ld = nI 0 ∨ ld = nI 1) (eT : f (g.lk B 0) = .inl (g.ac (g.lk B 0), 72, .inl hT)) (cT : ∀ i, i < 72 → vp_nar .char (hT i) = hT i) (eR : f (g.lk B 2) = .inr (7, [tx, .int (nI ln0), .int (nI ax0), .ref PR])) (hl0 : ln0 ≤ 72) (ha0 : ax0 ≤ 72) (eX : f (g.lk B 3) = .inr (8, [.ref pr, .ref (g.lk (g.lk B 3) 1), .int (nI ix), .ref (g.lk (g.lk B 3) 3), .ref (g.lk (g.lk B 3) 4), .ref (g.lk (g.lk B 3) 5), .ref (g.lk (g.lk B 3) 6), .ref (g.lk (g.lk B 3) 7), .int (nI os), .int (nI st), .int mo, .int lo, .int (nI tr)])) (hix : ix ≤ 36) (hos : os ≤ st) (hst : st ≤ 3000) (htr : tr ≤ 3) (hPR : PR ≠ pr) (eP : f pr = .inr (6, [.ref (g.lk pr 0), .int (nI sn), .ref (g.lk pr 2), .int (nI nn), .ref (g.lk pr 4), .ref (g.lk pr 5)])) (hsn : sn ≤ 36) (hnn : nn ≤ 72) (hSG : SG g f pr 0 sn) (hnj : sn ≤ ix ∨ nj g f pr ix) (hno : vok v = false ∨ ld = nI 0) : Met l ⟨"BigRunner", "small", "(I)Z"⟩ [Cond.code ⟨"BigRunner", "small", "(I)Z"⟩ prog_1_method_9_code 2 (some .boolean)] ({ frames := 40, cells := 0, slots := 0, locals := 1500 }) (va_Pc [.ref B, .int v] (pc_in g sz f)) (va_Qi (fun r f1 => (r = nI 0) ∧ (f = f1)) (pc_out g sz) (pc_A g sz)) 0 0 (pc_A g sz) := by
  refine pe_ofW (cc := prog_1_method_9_code) (maxL := 2) (ret := (some .boolean)) (lv := [(0, .ref B), (1, .int v)]) (by decide) (Nat.le_of_ble_eq_true rfl) rfl ?_
  intro p e s m args below meth c ls hx hb hr hml hlocks hown hB hP hK hD hsz hS hl
  subst hsz
  refine lv_aload_n hx hb d_B_small_0 rfl (lv_at hl 0 rfl) ?_
  refine lv_iload_n hx hb d_B_small_1 rfl (lv_at hl 1 rfl) ?_
  refine pcc_i (va_runV (C := "BigRunner") (As := [.int v]) (rest := []) ⟨hx, hb, hml, hown, tb_nil⟩ (c3_hasVarOut l g s.heap.size f B n ld v hL t_B hI eB hld hno) ⟨(callB_of 1 (tb_one (wd_436 hB _)) tb_good1 rfl rfl rfl (wd_72 hB _) (wd_433 hB _) (by decide +kernel) ⟨Nat.le_of_ble_eq_true rfl, Nat.le_of_ble_eq_true rfl⟩), (wd_435 hB _), (wd_1 hB _)⟩ ⟨pe_bl, pg_recv (ci := 0) hK hP (lo_in hL t_B (by decide)) eB rfl, pe_pre hB hK hP hD⟩ rfl rfl hl.1 rfl (lv_room (Nat.le_of_ble_eq_true rfl)) d_B_small_2 ⟨Nat.le_of_ble_eq_true rfl, Nat.le_of_ble_eq_true rfl⟩) hS (fun r1 f2 H locs hq3 hP hD hS => ?_)
  obtain ⟨qv_4, rfl⟩ := hq3
  subst qv_4
  refine lv_if_eq (tgt := 30) hx hb d_B_small_5 (by decide) (fun b5 => ?_) (fun b5 => ?_)
  · skip
    replace b5 := (nI_eq (a := 0) (b := 0) (by omega) (by omega)).mp b5
    refine lv_iconst (v := nI 0) hx hb d_B_small_30 (by decide) ?_
    exact pe_zret hx hb hr hlocks hK hP hD hS d_B_small_31 rfl ⟨rfl, rfl⟩
  · skip
    replace b5 := mt (nI_eq (a := 0) (b := 0) (by omega) (by omega)).mpr b5
    exfalso; omega
set_option maxHeartbeats 4000000 in
set_option maxRecDepth 100000 in
theorem k3_csmall (l : Launch) (g : Lay) (sz : Nat) (f : Nat → va_E) (B : Nat) (n : Nat) (hT : Nat → Int32) (sg : Option (Nat → IVL)) (v : Int32) (hL : LO g) (t_B : g.tg B = 1) (hI : IV g f) (hJ : CK g B f n hT sg) : Met l ⟨"BigRunner", "small", "(I)Z"⟩ [Cond.code ⟨"BigRunner", "small", "(I)Z"⟩ prog_1_method_9_code 2 (some .boolean)] ({ frames := 40, cells := 0, slots := 0, locals := 1500 }) (va_Pc [.ref B, .int v] (pc_in g sz f)) (va_Qi (fun r f1 => (r = bI (smf sg v) ∧ CK g B f1 n hT sg) ∧ (IV g f1) ∧ (un [1, 2, 3, 4, 5, 6, 7, 8, 9, 10, 20, 21, 22, 23, 24, 25, 26, 27, 28, 29] g f f1)) (pc_out g sz) (pc_A g sz)) 0 0 (pc_A g sz) := by
  have hJ0 := hJ
  obtain ⟨ld, tx, ln0, ax0, PR, pr, ix, os, st, mo, lo, tr, sn, nn, t_PR, t_pr, eB, hn, hld, eT, cT, eR, hl0, ha0, eX, hix, hos, hst, htr, hPR, eP, hsn, hnn, hSG, hnj, hi1, hi2, hce⟩ := hJ
  by_cases hvk : vok v = true
  · cases sg with
    | none =>
      refine pm_mono (c3_smallOut l g sz f B n hT ld tx ln0 ax0 PR pr ix os st mo lo tr sn nn v hL t_B t_PR t_pr hI.1 eB hn hld eT cT eR hl0 ha0 eX hix hos hst htr hPR eP hsn hnn hSG hnj (Or.inr hce)) ?_
      rintro a9 st9 o9 t9 ⟨⟨r, f1, q1, ⟨hq, rfl⟩, q5⟩, q6⟩
      exact ⟨⟨r, f, q1, ⟨⟨hq.trans (rfl), hJ0⟩, hI, un.rf⟩, q5⟩, q6⟩
    | some en =>
      obtain ⟨k9, hk, rfl⟩ := vok_k hvk
      refine pm_mono (c3_smallIn l g sz f B n hT ld tx ln0 ax0 PR pr ix os st mo lo tr sn nn en k9 hL t_B t_PR t_pr hI.1 eB hn hld eT cT eR hl0 ha0 eX hix hos hst htr hPR eP hsn hnn hSG hnj hce.1 hce.2 hk) ?_
      rintro a9 st9 o9 t9 ⟨⟨r, f1, q1, ⟨hq, rfl⟩, q5⟩, q6⟩
      exact ⟨⟨r, f, q1, ⟨⟨hq.trans (by rw [smf_k hk]), hJ0⟩, hI, un.rf⟩, q5⟩, q6⟩
  · have hvf := Bool.eq_false_iff.mpr hvk
    refine pm_mono (c3_smallOut l g sz f B n hT ld tx ln0 ax0 PR pr ix os st mo lo tr sn nn v hL t_B t_PR t_pr hI.1 eB hn hld eT cT eR hl0 ha0 eX hix hos hst htr hPR eP hsn hnn hSG hnj (Or.inl hvf)) ?_
    rintro a9 st9 o9 t9 ⟨⟨r, f1, q1, ⟨hq, rfl⟩, q5⟩, q6⟩
    exact ⟨⟨r, f, q1, ⟨⟨hq.trans (by rw [smf_o hvf]; rfl), hJ0⟩, hI, un.rf⟩, q5⟩, q6⟩
def MK (g : Lay) (M : Nat) (f : Nat → va_E) (n : Nat) (hT : Nat → Int32) (sg : Option (Nat → IVL)) : Prop := ∃ (mth : Int32) (mdr : Nat) (msz : Nat) (mix : Nat) (mdp : Nat) (mwt : Nat) (mop : Nat) (mtp : Nat) (mwa : Nat) (mgi : Nat) (mpc : Nat) (mst : Nat) (mtr : Nat) (msp : Nat) (mma : Int32) (mlg : Int32) (mdu : Int32) (hC : Nat → Int32) (hA : Nat → Int32) (dpf : Nat → Nat), (f M = .inr (10, [.int mth, .ref (g.lk M 1), .int (nI n), .ref (g.lk M 3), .ref (g.lk M 4), .int (nI mdr), .ref (g.lk M 6), .ref (g.lk M 7), .ref (g.lk M 8), .int (nI msz), .int (nI mix), .int (nI mdp), .ref (g.lk M 12), .int (nI mwt), .ref (g.lk M 14), .ref (g.lk M 15), .int (nI mop), .ref (g.lk M 17), .ref (g.lk M 18), .ref (g.lk M 19), .ref (g.lk M 20), .ref (g.lk M 21), .ref (g.lk M 22), .ref (g.lk M 23), .ref (g.lk M 24), .ref (g.lk M 25), .ref (g.lk M 26), .ref (g.lk M 27), .ref (g.lk M 28), .ref (g.lk M 29), .ref (g.lk M 30), .ref (g.lk M 31), .int (nI mtp), .ref (g.lk M 33), .ref (g.lk M 34), .ref (g.lk M 35), .int (nI mwa), .int (nI mgi), .int (nI mpc), .int (nI mst), .int (nI mtr), .int (nI msp), .int mma, .int mlg, .int mdu])) ∧ (n ≤ 72 ∧ mdr ≤ 100 ∧ msz ≤ 100 ∧ mix ≤ 100 ∧ mdp ≤ 20 ∧ mwt ≤ 72 ∧ mop ≤ 40 ∧ mtp ≤ 80 ∧ mwa ≤ 20 ∧ mgi ≤ msp ∧ mpc ≤ 100 ∧ mst ≤ 4 ∧ mtr ≤ 3 ∧ msp ≤ 3000 ∧ (mdu = 0 ∨ mdu = 1)) ∧ (f (g.lk M 1) = .inl (g.ac (g.lk M 1), 72, .inl hT)) ∧ (∀ i, i < 72 → vp_nar .char (hT i) = hT i) ∧ (f (g.lk M 6) = .inl (g.ac (g.lk M 6), 100, .inl hC)) ∧ (f (g.lk M 7) = .inl (g.ac (g.lk M 7), 100, .inl hA)) ∧ (WF hC hA dpf msz) ∧ (RI hC dpf msz mst mpc mtr) ∧ (ME g f M mst sg)
/-- a fresh object of the reference: no program -/
def MJ0 (g : Lay) (M : Nat) (f : Nat → va_E) (n : Nat) (hT : Nat → Int32) : Prop := ∃ (mth : Int32) (mdr : Nat) (msz : Nat) (mix : Nat) (mdp : Nat) (mwt : Nat) (mop : Nat) (mtp : Nat) (mwa : Nat) (mgi : Nat) (mpc : Nat) (mst : Nat) (mtr : Nat) (msp : Nat) (mma : Int32) (mlg : Int32) (mdu : Int32) (hC : Nat → Int32) (hA : Nat → Int32) (dpf : Nat → Nat), (f M = .inr (10, [.int mth, .ref (g.lk M 1), .int (nI n), .ref (g.lk M 3), .ref (g.lk M 4), .int (nI mdr), .ref (g.lk M 6), .ref (g.lk M 7), .ref (g.lk M 8), .int (nI msz), .int (nI mix), .int (nI mdp), .ref (g.lk M 12), .int (nI mwt), .ref (g.lk M 14), .ref (g.lk M 15), .int (nI mop), .ref (g.lk M 17), .ref (g.lk M 18), .ref (g.lk M 19), .ref (g.lk M 20), .ref (g.lk M 21), .ref (g.lk M 22), .ref (g.lk M 23), .ref (g.lk M 24), .ref (g.lk M 25), .ref (g.lk M 26), .ref (g.lk M 27), .ref (g.lk M 28), .ref (g.lk M 29), .ref (g.lk M 30), .ref (g.lk M 31), .int (nI mtp), .ref (g.lk M 33), .ref (g.lk M 34), .ref (g.lk M 35), .int (nI mwa), .int (nI mgi), .int (nI mpc), .int (nI mst), .int (nI mtr), .int (nI msp), .int mma, .int mlg, .int mdu])) ∧ (n ≤ 72 ∧ mdr ≤ 100 ∧ msz ≤ 100 ∧ mix ≤ 100 ∧ mdp ≤ 20 ∧ mwt ≤ 72 ∧ mop ≤ 40 ∧ mtp ≤ 80 ∧ mwa ≤ 20 ∧ mgi ≤ msp ∧ mpc ≤ 100 ∧ mst ≤ 4 ∧ mtr ≤ 3 ∧ msp ≤ 3000 ∧ (mdu = 0 ∨ mdu = 1)) ∧ (f (g.lk M 1) = .inl (g.ac (g.lk M 1), 72, .inl hT)) ∧ (∀ i, i < 72 → vp_nar .char (hT i) = hT i) ∧ (f (g.lk M 6) = .inl (g.ac (g.lk M 6), 100, .inl hC)) ∧ (f (g.lk M 7) = .inl (g.ac (g.lk M 7), 100, .inl hA)) ∧ (WF hC hA dpf msz) ∧ (RI hC dpf msz mst mpc mtr) ∧ mst = 0
theorem MK.un {g : Lay} {M n : Nat} {hT : Nat → Int32} {sg : Option (Nat → IVL)} {f f1 : Nat → va_E} (hL : LO g) (t_M : g.tg M = 11) {W : List Nat} (h : MK g M f n hT sg) (hu : un W g f f1) (hW : ∀ x ∈ [11, 40, 43, 44, 49, 50, 51, 52], x ∉ W) : MK g M f1 n hT sg := by
  obtain ⟨mth, mdr, msz, mix, mdp, mwt, mop, mtp, mwa, mgi, mpc, mst, mtr, msp, mma, mlg, mdu, hC, hA, dpf, eM, hMB, eT, cT, eC, eA, hWF, hRI, hme⟩ := h
  exact ⟨mth, mdr, msz, mix, mdp, mwt, mop, mtp, mwa, mgi, mpc, mst, mtr, msp, mma, mlg, mdu, hC, hA, dpf, hu.at t_M (hW 11 (by decide)) eM, hMB, hu.at (lo_k11_1 hL _ t_M) (hW 40 (by decide)) eT, cT, hu.at (lo_k11_6 hL _ t_M) (hW 43 (by decide)) eC, hu.at (lo_k11_7 hL _ t_M) (hW 44 (by decide)) eA, hWF, hRI, hme.un hL t_M hu (fun x hx => hW x (by revert x; decide))⟩
theorem MJ.mk0 {g : Lay} {M n : Nat} {hT : Nat → Int32} {f : Nat → va_E} (h : MJ0 g M f n hT) : MK g M f n hT none := by
  obtain ⟨mth, mdr, msz, mix, mdp, mwt, mop, mtp, mwa, mgi, mpc, mst, mtr, msp, mma, mlg, mdu, hC, hA, dpf, eM, hMB, eT, cT, eC, eA, hWF, hRI, h0⟩ := h
  exact ⟨mth, mdr, msz, mix, mdp, mwt, mop, mtp, mwa, mgi, mpc, mst, mtr, msp, mma, mlg, mdu, hC, hA, dpf, eM, hMB, eT, cT, eC, eA, hWF, hRI, h0⟩
theorem MJ0.ex {g g1 : Lay} {M n z : Nat} {hT : Nat → Int32} {f f1 : Nat → va_E} (h : MJ0 g M f n hT) (hL : LO g) (t_M : g.tg M = 11) (hz : EX z g f g1 f1) (h0 : g.tg z = 0) : MJ0 g1 M f1 n hT := by
  obtain ⟨mth, mdr, msz, mix, mdp, mwt, mop, mtp, mwa, mgi, mpc, mst, mtr, msp, mma, mlg, mdu, hC, hA, dpf, eM, hMB, eT, cT, eC, eA, hWF, hRI, hm0⟩ := h
  obtain ⟨-, a1, a2, a3, a4, a5⟩ := hz.tg_ hL h0 t_M (by decide)
  obtain ⟨-, d1, d2, d3, d4, d5⟩ := hz.tg_ hL h0 (lo_k11_1 hL _ t_M) (by decide)
  obtain ⟨-, b1, b2, b3, b4, b5⟩ := hz.tg_ hL h0 (lo_k11_6 hL _ t_M) (by decide)
  obtain ⟨-, c1, c2, c3, c4, c5⟩ := hz.tg_ hL h0 (lo_k11_7 hL _ t_M) (by decide)
  exact ⟨mth, mdr, msz, mix, mdp, mwt, mop, mtp, mwa, mgi, mpc, mst, mtr, msp, mma, mlg, mdu, hC, hA, dpf, (by rw [a5, a2]; exact eM), hMB, (by rw [a2, d5, d3]; exact eT), cT, (by rw [a2, b5, b3]; exact eC), (by rw [a2, c5, c3]; exact eA), hWF, hRI, hm0⟩
set_option maxHeartbeats 4000000 in
set_option maxRecDepth 100000 in
theorem k3_mtype (l : Launch) (g : Lay) (sz : Nat) (f : Nat → va_E) (M : Nat) (n : Nat) (hT : Nat → Int32) (sg : Option (Nat → IVL)) (c9 : Int32) (hL : LO g) (t_M : g.tg M = 11) (hI : IV g f) (hJ : MK g M f n hT sg) : Met l ⟨"BigRunnerModel", "type", "(C)Z"⟩ [Cond.code ⟨"BigRunnerModel", "type", "(C)Z"⟩ prog_12_method_38_code 2 (some .boolean)] ({ frames := 0, cells := 0, slots := 0, locals := 0 }) (va_Pc [.ref M, .int c9] (pc_in g sz f)) (va_Qi (fun r f1 => ((r = nI 0 ∧ ¬ (nI 33 ≤ c9 ∧ c9 ≤ nI 126 ∧ n < 72) ∧ MK g M f1 n hT sg) ∨ (r = nI 1 ∧ (nI 33 ≤ c9 ∧ c9 ≤ nI 126 ∧ n < 72) ∧ MK g M f1 (n + 1) (upd hT n (vp_nar .char c9)) sg)) ∧ (IV g f1) ∧ (un [11, 40, 41, 42, 43, 44, 45, 46, 47, 48, 49, 50, 51, 52, 53, 54, 55, 56, 57, 58, 59, 60, 61, 62, 63, 64, 65, 66] g f f1)) (pc_out g sz) (pc_A g sz)) 0 0 (pc_A g sz) := by
  have hJ0 := hJ
  obtain ⟨mth, mdr, msz, mix, mdp, mwt, mop, mtp, mwa, mgi, mpc, mst, mtr, msp, mma, mlg, mdu, hC, hA, dpf, eM, hMB, eT, cT, eC, eA, hWF, hRI, hme⟩ := hJ
  refine pm_mono (m_type l g sz f M mth n mdr msz mix mdp mwt mop mtp mwa mgi mpc mst mtr msp mma mlg mdu hT c9 hL t_M hI eM hMB eT cT) ?_
  obtain ⟨hmb0, hmb1, hmb2, hmb3, hmb4, hmb5, hmb6, hmb7, hmb8, hmb9, hmb10, hmb11, hmb12, hmb13, hmb14⟩ := hMB
  rintro a9 st9 o9 t9 ⟨⟨r, f1, q1, ⟨hq, hI1, hu⟩, q5⟩, q6⟩
  have hq9 : (r = nI 0 ∧ ¬ (nI 33 ≤ c9 ∧ c9 ≤ nI 126 ∧ n < 72) ∧ MK g M f1 n hT sg) ∨ (r = nI 1 ∧ (nI 33 ≤ c9 ∧ c9 ≤ nI 126 ∧ n < 72) ∧ MK g M f1 (n + 1) (upd hT n (vp_nar .char c9)) sg) := by
    rcases hq with ⟨z1, z2, eM1, eT1⟩ | ⟨z1, z2, eM1, eT1⟩
    · exact Or.inl ⟨z1, z2, ⟨nI 0, mdr, msz, mix, mdp, mwt, mop, mtp, mwa, mgi, mpc, mst, mtr, msp, mma, mlg, mdu, hC, hA, dpf, eM1, ⟨by omega, by omega, by omega, by omega, by omega, by omega, by omega, by omega, by omega, by omega, by omega, by omega, by omega, by omega, hmb14⟩, eT1, cT, (hu.at (lo_k11_6 hL _ t_M) (by decide) eC), (hu.at (lo_k11_7 hL _ t_M) (by decide) eA), hWF, hRI, hme.un hL t_M hu (by decide)⟩⟩
    · have z3 := z2.2.2
      exact Or.inr ⟨z1, z2, ⟨nI 0, mdr, msz, mix, mdp, mwt, mop, mtp, mwa, mgi, mpc, mst, mtr, msp, mma, mlg, mdu, hC, hA, dpf, eM1, ⟨by omega, by omega, by omega, by omega, by omega, by omega, by omega, by omega, by omega, by omega, by omega, by omega, by omega, by omega, hmb14⟩, eT1, upd_nar cT, (hu.at (lo_k11_6 hL _ t_M) (by decide) eC), (hu.at (lo_k11_7 hL _ t_M) (by decide) eA), hWF, hRI, hme.un hL t_M hu (by decide)⟩⟩
  exact ⟨⟨r, f1, q1, ⟨hq9, hI1, hu.wd (by decide)⟩, q5⟩, q6⟩
set_option maxHeartbeats 4000000 in
set_option maxRecDepth 100000 in
theorem k3_mwipe (l : Launch) (g : Lay) (sz : Nat) (f : Nat → va_E) (M : Nat) (n : Nat) (hT : Nat → Int32) (sg : Option (Nat → IVL)) (hL : LO g) (t_M : g.tg M = 11) (hI : IV g f) (hJ : MK g M f n hT sg) : Met l ⟨"BigRunnerModel", "wipe", "()V"⟩ [Cond.code ⟨"BigRunnerModel", "wipe", "()V"⟩ prog_12_method_39_code 1 none] ({ frames := 0, cells := 0, slots := 0, locals := 0 }) (va_Pc [.ref M] (pc_in g sz f)) (va_Qv (fun f1 => (MK g M f1 0 hT sg) ∧ (IV g f1) ∧ (un [11, 40, 41, 42, 43, 44, 45, 46, 47, 48, 49, 50, 51, 52, 53, 54, 55, 56, 57, 58, 59, 60, 61, 62, 63, 64, 65, 66] g f f1)) (pc_out g sz) (pc_A g sz)) 0 0 (pc_A g sz) := by
  have hJ0 := hJ
  obtain ⟨mth, mdr, msz, mix, mdp, mwt, mop, mtp, mwa, mgi, mpc, mst, mtr, msp, mma, mlg, mdu, hC, hA, dpf, eM, hMB, eT, cT, eC, eA, hWF, hRI, hme⟩ := hJ
  refine pm_mono (m_wipe l g sz f M mth n mdr msz mix mdp mwt mop mtp mwa mgi mpc mst mtr msp mma mlg mdu hL t_M hI eM hMB) ?_
  obtain ⟨hmb0, hmb1, hmb2, hmb3, hmb4, hmb5, hmb6, hmb7, hmb8, hmb9, hmb10, hmb11, hmb12, hmb13, hmb14⟩ := hMB
  rintro a9 st9 o9 t9 ⟨⟨f1, q1, ⟨eM1, hI1, hu⟩, q5⟩, q6⟩
  exact ⟨⟨f1, q1, ⟨⟨nI 0, mdr, msz, mix, mdp, mwt, mop, mtp, mwa, mgi, mpc, mst, mtr, msp, mma, mlg, mdu, hC, hA, dpf, eM1, ⟨by omega, by omega, by omega, by omega, by omega, by omega, by omega, by omega, by omega, by omega, by omega, by omega, by omega, by omega, hmb14⟩, (hu.at (lo_k11_1 hL _ t_M) (by decide) eT), cT, (hu.at (lo_k11_6 hL _ t_M) (by decide) eC), (hu.at (lo_k11_7 hL _ t_M) (by decide) eA), hWF, hRI, hme.un hL t_M hu (by decide)⟩, hI1, hu.wd (by decide)⟩, q5⟩, q6⟩
set_option maxHeartbeats 4000000 in
set_option maxRecDepth 100000 in
theorem k3_mgive (l : Launch) (g : Lay) (sz : Nat) (f : Nat → va_E) (M : Nat) (n : Nat) (hT : Nat → Int32) (sg : Option (Nat → IVL)) (v : Int32) (hL : LO g) (t_M : g.tg M = 11) (hI : IV g f) (hJ : MK g M f n hT sg) : Met l ⟨"BigRunnerModel", "give", "(I)Z"⟩ [Cond.code ⟨"BigRunnerModel", "give", "(I)Z"⟩ prog_12_method_41_code 2 (some .boolean)] ({ frames := 0, cells := 0, slots := 0, locals := 0 }) (va_Pc [.ref M, .int v] (pc_in g sz f)) (va_Qi (fun r f1 => (MK g M f1 n hT sg) ∧ (IV g f1) ∧ (un [11, 40, 41, 42, 43, 44, 45, 46, 47, 48, 49, 50, 51, 52, 53, 54, 55, 56, 57, 58, 59, 60, 61, 62, 63, 64, 65, 66] g f f1)) (pc_out g sz) (pc_A g sz)) 0 0 (pc_A g sz) := by
  have hJ0 := hJ
  obtain ⟨mth, mdr, msz, mix, mdp, mwt, mop, mtp, mwa, mgi, mpc, mst, mtr, msp, mma, mlg, mdu, hC, hA, dpf, eM, hMB, eT, cT, eC, eA, hWF, hRI, hme⟩ := hJ
  refine pm_mono (m_give l g sz f M mth n mdr msz mix mdp mwt mop mtp mwa mgi mpc mst mtr msp mma mlg mdu v hL t_M hI eM hMB) ?_
  obtain ⟨hmb0, hmb1, hmb2, hmb3, hmb4, hmb5, hmb6, hmb7, hmb8, hmb9, hmb10, hmb11, hmb12, hmb13, hmb14⟩ := hMB
  rintro a9 st9 o9 t9 ⟨⟨r, f1, q1, ⟨-, ⟨th1, wa1, c1, eM1⟩, hI1, hu⟩, q5⟩, q6⟩
  exact ⟨⟨r, f1, q1, ⟨⟨th1, mdr, msz, mix, mdp, mwt, mop, mtp, wa1, mgi, mpc, mst, mtr, msp, mma, mlg, mdu, hC, hA, dpf, eM1, ⟨by omega, by omega, by omega, by omega, by omega, by omega, by omega, by omega, by omega, by omega, by omega, by omega, by omega, by omega, hmb14⟩, (hu.at (lo_k11_1 hL _ t_M) (by decide) eT), cT, (hu.at (lo_k11_6 hL _ t_M) (by decide) eC), (hu.at (lo_k11_7 hL _ t_M) (by decide) eA), hWF, hRI, hme.un hL t_M hu (by decide)⟩, hI1, hu.wd (by decide)⟩, q5⟩, q6⟩
set_option maxHeartbeats 4000000 in
set_option maxRecDepth 100000 in
theorem k3_mlook (l : Launch) (g : Lay) (sz : Nat) (f : Nat → va_E) (M : Nat) (n : Nat) (hT : Nat → Int32) (sg : Option (Nat → IVL)) (v : Int32) (hL : LO g) (t_M : g.tg M = 11) (hI : IV g f) (hJ : MK g M f n hT sg) : Met l ⟨"BigRunnerModel", "look", "(I)I"⟩ [Cond.code ⟨"BigRunnerModel", "look", "(I)I"⟩ prog_12_method_46_code 2 (some .int)] ({ frames := 0, cells := 0, slots := 0, locals := 0 }) (va_Pc [.ref M, .int v] (pc_in g sz f)) (va_Qi (fun r f1 => (MK g M f1 n hT sg) ∧ (IV g f1) ∧ (un [11, 40, 41, 42, 43, 44, 45, 46, 47, 48, 49, 50, 51, 52, 53, 54, 55, 56, 57, 58, 59, 60, 61, 62, 63, 64, 65, 66] g f f1)) (pc_out g sz) (pc_A g sz)) 0 0 (pc_A g sz) := by
  have hJ0 := hJ
  obtain ⟨mth, mdr, msz, mix, mdp, mwt, mop, mtp, mwa, mgi, mpc, mst, mtr, msp, mma, mlg, mdu, hC, hA, dpf, eM, hMB, eT, cT, eC, eA, hWF, hRI, hme⟩ := hJ
  refine pm_mono (m_look l g sz f M mth n mdr msz mix mdp mwt mop mtp mwa mgi mpc mst mtr msp mma mlg mdu v hL t_M hI eM hMB) ?_
  obtain ⟨hmb0, hmb1, hmb2, hmb3, hmb4, hmb5, hmb6, hmb7, hmb8, hmb9, hmb10, hmb11, hmb12, hmb13, hmb14⟩ := hMB
  rintro a9 st9 o9 t9 ⟨⟨r, f1, q1, ⟨⟨th1, eM1⟩, hI1, hu⟩, q5⟩, q6⟩
  exact ⟨⟨r, f1, q1, ⟨⟨th1, mdr, msz, mix, mdp, mwt, mop, mtp, mwa, mgi, mpc, mst, mtr, msp, mma, mlg, mdu, hC, hA, dpf, eM1, ⟨by omega, by omega, by omega, by omega, by omega, by omega, by omega, by omega, by omega, by omega, by omega, by omega, by omega, by omega, hmb14⟩, (hu.at (lo_k11_1 hL _ t_M) (by decide) eT), cT, (hu.at (lo_k11_6 hL _ t_M) (by decide) eC), (hu.at (lo_k11_7 hL _ t_M) (by decide) eA), hWF, hRI, hme.un hL t_M hu (by decide)⟩, hI1, hu.wd (by decide)⟩, q5⟩, q6⟩
set_option maxHeartbeats 4000000 in
set_option maxRecDepth 100000 in
theorem k3_mvariable (l : Launch) (g : Lay) (sz : Nat) (f : Nat → va_E) (M : Nat) (n : Nat) (hT : Nat → Int32) (sg : Option (Nat → IVL)) (v : Int32) (kk : Int32) (hL : LO g) (t_M : g.tg M = 11) (hI : IV g f) (hJ : MK g M f n hT sg) : Met l ⟨"BigRunnerModel", "variable", "(II)I"⟩ [Cond.code ⟨"BigRunnerModel", "variable", "(II)I"⟩ prog_12_method_50_code 4 (some .int)] ({ frames := 2, cells := 0, slots := 0, locals := 51 }) (va_Pc [.ref M, .int v, .int kk] (pc_in g sz f)) (va_Qi (fun r f1 => (MK g M f1 n hT sg) ∧ (IV g f1) ∧ (un [11, 40, 41, 42, 43, 44, 45, 46, 47, 48, 49, 50, 51, 52, 53, 54, 55, 56, 57, 58, 59, 60, 61, 62, 63, 64, 65, 66] g f f1)) (pc_out g sz) (pc_A g sz)) 0 0 (pc_A g sz) := by
  have hJ0 := hJ
  obtain ⟨mth, mdr, msz, mix, mdp, mwt, mop, mtp, mwa, mgi, mpc, mst, mtr, msp, mma, mlg, mdu, hC, hA, dpf, eM, hMB, eT, cT, eC, eA, hWF, hRI, hme⟩ := hJ
  refine pm_mono (m_variable l g sz f M mth n mdr msz mix mdp mwt mop mtp mwa mgi mpc mst mtr msp mma mlg mdu v kk hL t_M hI eM hMB) ?_
  obtain ⟨hmb0, hmb1, hmb2, hmb3, hmb4, hmb5, hmb6, hmb7, hmb8, hmb9, hmb10, hmb11, hmb12, hmb13, hmb14⟩ := hMB
  rintro a9 st9 o9 t9 ⟨⟨r, f1, q1, ⟨⟨th1, eM1⟩, hI1, hu⟩, q5⟩, q6⟩
  exact ⟨⟨r, f1, q1, ⟨⟨th1, mdr, msz, mix, mdp, mwt, mop, mtp, mwa, mgi, mpc, mst, mtr, msp, mma, mlg, mdu, hC, hA, dpf, eM1, ⟨by omega, by omega, by omega, by omega, by omega, by omega, by omega, by omega, by omega, by omega, by omega, by omega, by omega, by omega, hmb14⟩, (hu.at (lo_k11_1 hL _ t_M) (by decide) eT), cT, (hu.at (lo_k11_6 hL _ t_M) (by decide) eC), (hu.at (lo_k11_7 hL _ t_M) (by decide) eA), hWF, hRI, hme.un hL t_M hu (by decide)⟩, hI1, hu.wd (by decide)⟩, q5⟩, q6⟩
set_option maxHeartbeats 4000000 in
set_option maxRecDepth 100000 in
theorem k3_moutput (l : Launch) (g : Lay) (sz : Nat) (f : Nat → va_E) (M : Nat) (n : Nat) (hT : Nat → Int32) (sg : Option (Nat → IVL)) (v : Int32) (kk : Int32) (hL : LO g) (t_M : g.tg M = 11) (hI : IV g f) (hJ : MK g M f n hT sg) : Met l ⟨"BigRunnerModel", "output", "(II)I"⟩ [Cond.code ⟨"BigRunnerModel", "output", "(II)I"⟩ prog_12_method_51_code 4 (some .int)] ({ frames := 2, cells := 0, slots := 0, locals := 51 }) (va_Pc [.ref M, .int v, .int kk] (pc_in g sz f)) (va_Qi (fun r f1 => (MK g M f1 n hT sg) ∧ (IV g f1) ∧ (un [11, 40, 41, 42, 43, 44, 45, 46, 47, 48, 49, 50, 51, 52, 53, 54, 55, 56, 57, 58, 59, 60, 61, 62, 63, 64, 65, 66] g f f1)) (pc_out g sz) (pc_A g sz)) 0 0 (pc_A g sz) := by
  have hJ0 := hJ
  obtain ⟨mth, mdr, msz, mix, mdp, mwt, mop, mtp, mwa, mgi, mpc, mst, mtr, msp, mma, mlg, mdu, hC, hA, dpf, eM, hMB, eT, cT, eC, eA, hWF, hRI, hme⟩ := hJ
  refine pm_mono (m_output l g sz f M mth n mdr msz mix mdp mwt mop mtp mwa mgi mpc mst mtr msp mma mlg mdu v kk hL t_M hI eM hMB) ?_
  obtain ⟨hmb0, hmb1, hmb2, hmb3, hmb4, hmb5, hmb6, hmb7, hmb8, hmb9, hmb10, hmb11, hmb12, hmb13, hmb14⟩ := hMB
  rintro a9 st9 o9 t9 ⟨⟨r, f1, q1, ⟨⟨th1, eM1⟩, hI1, hu⟩, q5⟩, q6⟩
  exact ⟨⟨r, f1, q1, ⟨⟨th1, mdr, msz, mix, mdp, mwt, mop, mtp, mwa, mgi, mpc, mst, mtr, msp, mma, mlg, mdu, hC, hA, dpf, eM1, ⟨by omega, by omega, by omega, by omega, by omega, by omega, by omega, by omega, by omega, by omega, by omega, by omega, by omega, by omega, hmb14⟩, (hu.at (lo_k11_1 hL _ t_M) (by decide) eT), cT, (hu.at (lo_k11_6 hL _ t_M) (by decide) eC), (hu.at (lo_k11_7 hL _ t_M) (by decide) eA), hWF, hRI, hme.un hL t_M hu (by decide)⟩, hI1, hu.wd (by decide)⟩, q5⟩, q6⟩
set_option maxHeartbeats 4000000 in
set_option maxRecDepth 100000 in
theorem k3_mbound (l : Launch) (g : Lay) (sz : Nat) (f : Nat → va_E) (M : Nat) (n : Nat) (hT : Nat → Int32) (sg : Option (Nat → IVL)) (v : Int32) (gr : Int32) (hL : LO g) (t_M : g.tg M = 11) (hI : IV g f) (hJ : MK g M f n hT sg) : Met l ⟨"BigRunnerModel", "bound", "(IZ)J"⟩ [Cond.code ⟨"BigRunnerModel", "bound", "(IZ)J"⟩ prog_12_method_47_code 4 (some .long)] ({ frames := 0, cells := 0, slots := 0, locals := 0 }) (va_Pc [.ref M, .int v, .int gr] (pc_in g sz f)) (va_Ql (fun r f1 => (MK g M f1 n hT sg) ∧ (IV g f1) ∧ (un [11, 40, 41, 42, 43, 44, 45, 46, 47, 48, 49, 50, 51, 52, 53, 54, 55, 56, 57, 58, 59, 60, 61, 62, 63, 64, 65, 66] g f f1)) (pc_out g sz) (pc_A g sz)) 0 0 (pc_A g sz) := by
  have hJ0 := hJ
  obtain ⟨mth, mdr, msz, mix, mdp, mwt, mop, mtp, mwa, mgi, mpc, mst, mtr, msp, mma, mlg, mdu, hC, hA, dpf, eM, hMB, eT, cT, eC, eA, hWF, hRI, hme⟩ := hJ
  refine pm_mono (m_bound l g sz f M mth n mdr msz mix mdp mwt mop mtp mwa mgi mpc mst mtr msp mma mlg mdu v gr hL t_M hI eM hMB) ?_
  obtain ⟨hmb0, hmb1, hmb2, hmb3, hmb4, hmb5, hmb6, hmb7, hmb8, hmb9, hmb10, hmb11, hmb12, hmb13, hmb14⟩ := hMB
  rintro a9 st9 o9 t9 ⟨⟨r, f1, q1, ⟨⟨th1, eM1⟩, hI1, hu⟩, q5⟩, q6⟩
  exact ⟨⟨r, f1, q1, ⟨⟨th1, mdr, msz, mix, mdp, mwt, mop, mtp, mwa, mgi, mpc, mst, mtr, msp, mma, mlg, mdu, hC, hA, dpf, eM1, ⟨by omega, by omega, by omega, by omega, by omega, by omega, by omega, by omega, by omega, by omega, by omega, by omega, by omega, by omega, hmb14⟩, (hu.at (lo_k11_1 hL _ t_M) (by decide) eT), cT, (hu.at (lo_k11_6 hL _ t_M) (by decide) eC), (hu.at (lo_k11_7 hL _ t_M) (by decide) eA), hWF, hRI, hme.un hL t_M hu (by decide)⟩, hI1, hu.wd (by decide)⟩, q5⟩, q6⟩
set_option maxHeartbeats 4000000 in
set_option maxRecDepth 100000 in
theorem k3_msmall (l : Launch) (g : Lay) (sz : Nat) (f : Nat → va_E) (M : Nat) (n : Nat) (hT : Nat → Int32) (sg : Option (Nat → IVL)) (v : Int32) (hL : LO g) (t_M : g.tg M = 11) (hI : IV g f) (hJ : MK g M f n hT sg) : Met l ⟨"BigRunnerModel", "small", "(I)Z"⟩ [Cond.code ⟨"BigRunnerModel", "small", "(I)Z"⟩ prog_12_method_48_code 2 (some .boolean)] ({ frames := 0, cells := 0, slots := 0, locals := 0 }) (va_Pc [.ref M, .int v] (pc_in g sz f)) (va_Qi (fun r f1 => (MK g M f1 n hT sg) ∧ (IV g f1) ∧ (un [11, 40, 41, 42, 43, 44, 45, 46, 47, 48, 49, 50, 51, 52, 53, 54, 55, 56, 57, 58, 59, 60, 61, 62, 63, 64, 65, 66] g f f1)) (pc_out g sz) (pc_A g sz)) 0 0 (pc_A g sz) := by
  have hJ0 := hJ
  obtain ⟨mth, mdr, msz, mix, mdp, mwt, mop, mtp, mwa, mgi, mpc, mst, mtr, msp, mma, mlg, mdu, hC, hA, dpf, eM, hMB, eT, cT, eC, eA, hWF, hRI, hme⟩ := hJ
  refine pm_mono (m_small l g sz f M mth n mdr msz mix mdp mwt mop mtp mwa mgi mpc mst mtr msp mma mlg mdu v hL t_M hI eM hMB) ?_
  obtain ⟨hmb0, hmb1, hmb2, hmb3, hmb4, hmb5, hmb6, hmb7, hmb8, hmb9, hmb10, hmb11, hmb12, hmb13, hmb14⟩ := hMB
  rintro a9 st9 o9 t9 ⟨⟨r, f1, q1, ⟨-, ⟨th1, eM1⟩, hI1, hu⟩, q5⟩, q6⟩
  exact ⟨⟨r, f1, q1, ⟨⟨th1, mdr, msz, mix, mdp, mwt, mop, mtp, mwa, mgi, mpc, mst, mtr, msp, mma, mlg, mdu, hC, hA, dpf, eM1, ⟨by omega, by omega, by omega, by omega, by omega, by omega, by omega, by omega, by omega, by omega, by omega, by omega, by omega, by omega, hmb14⟩, (hu.at (lo_k11_1 hL _ t_M) (by decide) eT), cT, (hu.at (lo_k11_6 hL _ t_M) (by decide) eC), (hu.at (lo_k11_7 hL _ t_M) (by decide) eA), hWF, hRI, hme.un hL t_M hu (by decide)⟩, hI1, hu.wd (by decide)⟩, q5⟩, q6⟩
set_option maxHeartbeats 4000000 in
set_option maxRecDepth 100000 in
theorem k3_mrun (l : Launch) (g : Lay) (sz : Nat) (f : Nat → va_E) (M : Nat) (n : Nat) (hT : Nat → Int32) (sg : Option (Nat → IVL)) (vn : Int32) (hL : LO g) (t_M : g.tg M = 11) (hI : IV g f) (hJ : MK g M f n hT sg) : Met l ⟨"BigRunnerModel", "run", "(I)I"⟩ [Cond.code ⟨"BigRunnerModel", "run", "(I)I"⟩ prog_12_method_45_code 3 (some .int)] ({ frames := 5, cells := 0, slots := 0, locals := 124 }) (va_Pc [.ref M, .int vn] (pc_in g sz f)) (va_Qi (fun r f1 => (MK g M f1 n hT sg) ∧ (IV g f1) ∧ (un [11, 40, 41, 42, 43, 44, 45, 46, 47, 48, 49, 50, 51, 52, 53, 54, 55, 56, 57, 58, 59, 60, 61, 62, 63, 64, 65, 66] g f f1)) (pc_out g sz) (pc_A g sz)) 0 0 (pc_A g sz) := by
  have hJ0 := hJ
  obtain ⟨mth, mdr, msz, mix, mdp, mwt, mop, mtp, mwa, mgi, mpc, mst, mtr, msp, mma, mlg, mdu, hC, hA, dpf, eM, hMB, eT, cT, eC, eA, hWF, hRI, hme⟩ := hJ
  refine pm_mono (m3_run l g sz f M mth n mdr msz mix mdp mwt mop mtp mwa mgi mpc mst mtr msp mma mlg mdu hC hA dpf vn hL t_M hI eM hMB eC eA hWF hRI) ?_
  obtain ⟨hmb0, hmb1, hmb2, hmb3, hmb4, hmb5, hmb6, hmb7, hmb8, hmb9, hmb10, hmb11, hmb12, hmb13, hmb14⟩ := hMB
  rintro a9 st9 o9 t9 ⟨⟨r, f1, q1, ⟨⟨th1, tp1, wa1, gi1, pc1, st1, tr1, sp1, ma1, lg1, c0_, c1_, c2_, c3_, c4_, c5_, c6_, c7_, c8_, eM1⟩, hI1, hu⟩, q5⟩, q6⟩
  exact ⟨⟨r, f1, q1, ⟨⟨th1, mdr, msz, mix, mdp, mwt, mop, tp1, wa1, gi1, pc1, st1, tr1, sp1, ma1, lg1, mdu, hC, hA, dpf, eM1, ⟨by omega, by omega, by omega, by omega, by omega, by omega, by omega, by omega, by omega, by omega, by omega, by omega, by omega, by omega, hmb14⟩, (hu.at (lo_k11_1 hL _ t_M) (by decide) eT), cT, (hu.at (lo_k11_6 hL _ t_M) (by decide) eC), (hu.at (lo_k11_7 hL _ t_M) (by decide) eA), hWF, c7_, (hme.un hL t_M hu (by decide)).sz c8_⟩, hI1, hu.wd (by decide)⟩, q5⟩, q6⟩
set_option maxHeartbeats 4000000 in
set_option maxRecDepth 100000 in
theorem k3_mload (l : Launch) (g : Lay) (sz : Nat) (f : Nat → va_E) (M : Nat) (n : Nat) (hT : Nat → Int32) (sg : Option (Nat → IVL)) (hL : LO g) (t_M : g.tg M = 11) (hI : IV g f) (hJ : MK g M f n hT sg) : Met l ⟨"BigRunnerModel", "load", "()I"⟩ [Cond.code ⟨"BigRunnerModel", "load", "()I"⟩ prog_12_method_40_code 2 (some .int)] ({ frames := 6, cells := 0, slots := 0, locals := 144 }) (va_Pc [.ref M] (pc_in g sz f)) (va_Qi (fun r f1 => ((px_s (tk hT n) 400 1 1 0 = some n → r = nI (rds (ox_s (tk hT n) (vc hT n) 400 1 1 0 0) 30 1 (fun _ => zI)).1 ∧ THf f1 M (nI 0) ∧ MK g M f1 0 hT (some (rds (ox_s (tk hT n) (vc hT n) 400 1 1 0 0) 30 1 (fun _ => zI)).2)) ∧ (px_s (tk hT n) 400 1 1 0 ≠ some n → THf f1 M (nI 1) ∧ MK g M f1 n hT sg)) ∧ (IV g f1) ∧ (un [11, 40, 41, 42, 43, 44, 45, 46, 47, 48, 49, 50, 51, 52, 53, 54, 55, 56, 57, 58, 59, 60, 61, 62, 63, 64, 65, 66] g f f1)) (pc_out g sz) (pc_A g sz)) 0 0 (pc_A g sz) := by
  have hJ0 := hJ
  obtain ⟨mth, mdr, msz, mix, mdp, mwt, mop, mtp, mwa, mgi, mpc, mst, mtr, msp, mma, mlg, mdu, hC, hA, dpf, eM, hMB, eT, cT, eC, eA, hWF, hRI, hme⟩ := hJ
  obtain ⟨hn72, -⟩ := (⟨hMB.1, trivial⟩ : n ≤ 72 ∧ True)
  have hpx := px_fin (tk hT n) n (tk_end hT n) (by omega) (F := 400) (by decide)
  have hoxf : px_s (tk hT n) 400 1 1 0 = some n → oy_r (tk hT n) (vc hT n) n 400 0 [] [] 1 true = (ox_s (tk hT n) (vc hT n) 400 1 1 0 0) := fun z => ox_fin (tk hT n) (vc hT n) (vk_tk hT n) n (tk_end hT n) (by omega) z
  have hLB9 : py_r (tk hT n) n 400 0 [] 1 true = true → ∀ x, x ∈ oy_r (tk hT n) (vc hT n) n 400 0 [] [] 1 true → LB x := fun z => by rw [hoxf (of_decide_eq_true (hpx.symm.trans z))]; exact ox_LB
  refine pm_mono (m3_load l g sz f M mth n mdr msz mix mdp mwt mop mtp mwa mgi mpc mst mtr msp mma mlg mdu hT hC hA hL t_M hI eM hMB eT cT eC eA hLB9) ?_
  obtain ⟨hmb0, hmb1, hmb2, hmb3, hmb4, hmb5, hmb6, hmb7, hmb8, hmb9, hmb10, hmb11, hmb12, hmb13, hmb14⟩ := hMB
  rintro a9 st9 o9 t9 ⟨⟨r, f1, q1, ⟨hq, hI1, hu⟩, q5⟩, q6⟩
  have hq9 : (px_s (tk hT n) 400 1 1 0 = some n → r = nI (rds (ox_s (tk hT n) (vc hT n) 400 1 1 0 0) 30 1 (fun _ => zI)).1 ∧ THf f1 M (nI 0) ∧ MK g M f1 0 hT (some (rds (ox_s (tk hT n) (vc hT n) 400 1 1 0 0) 30 1 (fun _ => zI)).2)) ∧ (px_s (tk hT n) 400 1 1 0 ≠ some n → THf f1 M (nI 1) ∧ MK g M f1 n hT sg) := by
    rcases hq with ⟨ix1, dp1, n1, wt1, tp1, c1, a1, dpf1, z1, d1, d2, d3, d4, d5, w1, w2, w3, w4, eM1, eC1, eA1⟩ | ⟨z1, ⟨fb, ix1, op1, dp1, dr1, wt1, d1, d2, d3, d4, d5, d6, eM1⟩, eC1, eA1, hun9⟩
    · have z2 : px_s (tk hT n) 400 1 1 0 = some n := of_decide_eq_true (hpx.symm.trans z1)
      rw [hoxf z2] at w3 w4
      exact ⟨fun _ => ⟨w3, ⟨_, eM1⟩, ⟨nI 0, n1, n1, ix1, dp1, wt1, 0, tp1, mwa, 0, 0, 1, 0, 0, nI 0, nI 0, nI 0, c1, a1, dpf1, eM1, ⟨by omega, by omega, by omega, by omega, by omega, by omega, by omega, by omega, by omega, by omega, by omega, by omega, by omega, by omega, Or.inl rfl⟩, (hu.at (lo_k11_1 hL _ t_M) (by decide) eT), cT, eC1, eA1, w1, w2, ⟨by decide, w4⟩⟩⟩, fun z => absurd z2 z⟩
    · have z2 : px_s (tk hT n) 400 1 1 0 ≠ some n := of_decide_eq_false (hpx.symm.trans z1)
      exact ⟨fun z => absurd z z2, fun _ => ⟨⟨_, eM1⟩, ⟨nI 1, dr1, msz, ix1, dp1, wt1, op1, mtp, mwa, mgi, mpc, mst, mtr, msp, mma, mlg, nI fb, hC, hA, dpf, eM1, ⟨by omega, by omega, by omega, by omega, by omega, by omega, by omega, by omega, by omega, by omega, by omega, by omega, by omega, by omega, (by rcases (show fb = 0 ∨ fb = 1 by omega) with y | y <;> rw [y] <;> decide)⟩, (hu.at (lo_k11_1 hL _ t_M) (by decide) eT), cT, eC1, eA1, hWF, hRI, hme.un hL t_M hun9 (by decide)⟩⟩⟩
  exact ⟨⟨r, f1, q1, ⟨hq9, hI1, hu.wd (by decide)⟩, q5⟩, q6⟩
set_option maxHeartbeats 4000000 in
set_option maxRecDepth 100000 in
theorem k3_mthrown (l : Launch) (g : Lay) (sz : Nat) (f : Nat → va_E) (M : Nat) (n : Nat) (hT : Nat → Int32) (sg : Option (Nat → IVL)) (t0 : Int32) (hL : LO g) (t_M : g.tg M = 11) (hI : IV g f) (hJ : MK g M f n hT sg) (hth : THf f M t0) : Met l ⟨"BigRunnerModel", "thrown", "()I"⟩ [Cond.code ⟨"BigRunnerModel", "thrown", "()I"⟩ prog_12_method_2_code 1 (some .int)] ({ frames := 0, cells := 0, slots := 0, locals := 0 }) (va_Pc [.ref M] (pc_in g sz f)) (va_Qi (fun r f1 => (r = t0 ∧ MK g M f1 n hT sg) ∧ (IV g f1) ∧ (un [11, 40, 41, 42, 43, 44, 45, 46, 47, 48, 49, 50, 51, 52, 53, 54, 55, 56, 57, 58, 59, 60, 61, 62, 63, 64, 65, 66] g f f1)) (pc_out g sz) (pc_A g sz)) 0 0 (pc_A g sz) := by
  have hJ0 := hJ
  obtain ⟨mth, mdr, msz, mix, mdp, mwt, mop, mtp, mwa, mgi, mpc, mst, mtr, msp, mma, mlg, mdu, hC, hA, dpf, eM, hMB, eT, cT, eC, eA, hWF, hRI, hme⟩ := hJ
  refine pm_mono (m2_thrown l g sz f M mth n mdr msz mix mdp mwt mop mtp mwa mgi mpc mst mtr msp mma mlg mdu hL t_M hI.1 eM hMB) ?_
  obtain ⟨hmb0, hmb1, hmb2, hmb3, hmb4, hmb5, hmb6, hmb7, hmb8, hmb9, hmb10, hmb11, hmb12, hmb13, hmb14⟩ := hMB
  rintro a9 st9 o9 t9 ⟨⟨r, f1, q1, ⟨hq, rfl⟩, q5⟩, q6⟩
  exact ⟨⟨r, f, q1, ⟨⟨hq.trans (th_eq eM hth), hJ0⟩, hI, un.rf⟩, q5⟩, q6⟩
set_option maxHeartbeats 4000000 in
set_option maxRecDepth 100000 in
theorem k3_msmall2 (l : Launch) (g : Lay) (sz : Nat) (f : Nat → va_E) (M : Nat) (n : Nat) (hT : Nat → Int32) (sg : Option (Nat → IVL)) (v : Int32) (hL : LO g) (t_M : g.tg M = 11) (hI : IV g f) (hJ : MK g M f n hT sg) : Met l ⟨"BigRunnerModel", "small", "(I)Z"⟩ [Cond.code ⟨"BigRunnerModel", "small", "(I)Z"⟩ prog_12_method_48_code 2 (some .boolean)] ({ frames := 0, cells := 0, slots := 0, locals := 0 }) (va_Pc [.ref M, .int v] (pc_in g sz f)) (va_Qi (fun r f1 => (r = bI (smf sg v) ∧ MK g M f1 n hT sg) ∧ (IV g f1) ∧ (un [11, 40, 41, 42, 43, 44, 45, 46, 47, 48, 49, 50, 51, 52, 53, 54, 55, 56, 57, 58, 59, 60, 61, 62, 63, 64, 65, 66] g f f1)) (pc_out g sz) (pc_A g sz)) 0 0 (pc_A g sz) := by
  obtain ⟨mth, mdr, msz, mix, mdp, mwt, mop, mtp, mwa, mgi, mpc, mst, mtr, msp, mma, mlg, mdu, hC, hA, dpf, eM, hMB, eT, cT, eC, eA, hWF, hRI, hme⟩ := hJ
  have hme0 := hme
  by_cases hvk : vok v = true
  · cases sg with
    | none =>
      refine pm_mono (m3_smallOut l g sz f M mth n mdr msz mix mdp mwt mop mtp mwa mgi mpc mst mtr msp mma mlg mdu v hL t_M hI eM hMB (Or.inr hme)) ?_
      obtain ⟨hmb0, hmb1, hmb2, hmb3, hmb4, hmb5, hmb6, hmb7, hmb8, hmb9, hmb10, hmb11, hmb12, hmb13, hmb14⟩ := hMB
      rintro a9 st9 o9 t9 ⟨⟨r, f1, q1, ⟨hq, eM1, hI1, hu⟩, q5⟩, q6⟩
      exact ⟨⟨r, f1, q1, ⟨⟨hq.trans (rfl), ⟨nI 0, mdr, msz, mix, mdp, mwt, mop, mtp, mwa, mgi, mpc, mst, mtr, msp, mma, mlg, mdu, hC, hA, dpf, eM1, ⟨by omega, by omega, by omega, by omega, by omega, by omega, by omega, by omega, by omega, by omega, by omega, by omega, by omega, by omega, hmb14⟩, (hu.at (lo_k11_1 hL _ t_M) (by decide) eT), cT, (hu.at (lo_k11_6 hL _ t_M) (by decide) eC), (hu.at (lo_k11_7 hL _ t_M) (by decide) eA), hWF, hRI, hme0.un hL t_M hu (by decide)⟩⟩, hI1, hu.wd (by decide)⟩, q5⟩, q6⟩
    | some en =>
      obtain ⟨k9, hk, rfl⟩ := vok_k hvk
      obtain ⟨hm0, lw, hg9, un9, ov, eLW, eHG, eUN, eOV, hVR⟩ := hme
      refine pm_mono (m3_smallIn l g sz f M mth n mdr msz mix mdp mwt mop mtp mwa mgi mpc mst mtr msp mma mlg mdu lw hg9 un9 ov en k9 hL t_M hI eM hMB eLW eHG eUN eOV hk (Nat.pos_of_ne_zero hm0) hVR) ?_
      obtain ⟨hmb0, hmb1, hmb2, hmb3, hmb4, hmb5, hmb6, hmb7, hmb8, hmb9, hmb10, hmb11, hmb12, hmb13, hmb14⟩ := hMB
      rintro a9 st9 o9 t9 ⟨⟨r, f1, q1, ⟨hq, eM1, hI1, hu⟩, q5⟩, q6⟩
      exact ⟨⟨r, f1, q1, ⟨⟨hq.trans (by rw [smf_k hk]), ⟨nI 0, mdr, msz, mix, mdp, mwt, mop, mtp, mwa, mgi, mpc, mst, mtr, msp, mma, mlg, mdu, hC, hA, dpf, eM1, ⟨by omega, by omega, by omega, by omega, by omega, by omega, by omega, by omega, by omega, by omega, by omega, by omega, by omega, by omega, hmb14⟩, (hu.at (lo_k11_1 hL _ t_M) (by decide) eT), cT, (hu.at (lo_k11_6 hL _ t_M) (by decide) eC), (hu.at (lo_k11_7 hL _ t_M) (by decide) eA), hWF, hRI, hme0.un hL t_M hu (by decide)⟩⟩, hI1, hu.wd (by decide)⟩, q5⟩, q6⟩
  · have hvf := Bool.eq_false_iff.mpr hvk
    refine pm_mono (m3_smallOut l g sz f M mth n mdr msz mix mdp mwt mop mtp mwa mgi mpc mst mtr msp mma mlg mdu v hL t_M hI eM hMB (Or.inl hvf)) ?_
    obtain ⟨hmb0, hmb1, hmb2, hmb3, hmb4, hmb5, hmb6, hmb7, hmb8, hmb9, hmb10, hmb11, hmb12, hmb13, hmb14⟩ := hMB
    rintro a9 st9 o9 t9 ⟨⟨r, f1, q1, ⟨hq, eM1, hI1, hu⟩, q5⟩, q6⟩
    exact ⟨⟨r, f1, q1, ⟨⟨hq.trans (by rw [smf_o hvf]; rfl), ⟨nI 0, mdr, msz, mix, mdp, mwt, mop, mtp, mwa, mgi, mpc, mst, mtr, msp, mma, mlg, mdu, hC, hA, dpf, eM1, ⟨by omega, by omega, by omega, by omega, by omega, by omega, by omega, by omega, by omega, by omega, by omega, by omega, by omega, by omega, hmb14⟩, (hu.at (lo_k11_1 hL _ t_M) (by decide) eT), cT, (hu.at (lo_k11_6 hL _ t_M) (by decide) eC), (hu.at (lo_k11_7 hL _ t_M) (by decide) eA), hWF, hRI, hme0.un hL t_M hu (by decide)⟩⟩, hI1, hu.wd (by decide)⟩, q5⟩, q6⟩
