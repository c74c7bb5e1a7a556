set_option maxHeartbeats 4000000 in
set_option maxRecDepth 100000 in
theorem v_lacks (l : Launch) (g : Lay) (sz : Nat) (f : Nat → va_E) (X : Nat) (pr : Nat) (ix : Nat) (os : Nat) (st : Nat) (mo : Int32) (lo : Int32) (tr : Nat) (sn : Nat) (nn : Nat) (fi : Nat) (wa : Nat) (T : TT) (hL : LO g) (t_X : g.tg X = 9) (t_pr : g.tg pr = 7) (hI : OC g f) (eX : f X = .inr (8, [.ref pr, .ref (g.lk X 1), .int (nI ix), .ref (g.lk X 3), .ref (g.lk X 4), .ref (g.lk X 5), .ref (g.lk X 6), .ref (g.lk X 7), .int (nI os), .int (nI st), .int mo, .int lo, .int (nI tr)])) (hix : ix ≤ 36) (hos : os ≤ st) (hst : st ≤ 3000) (htr : tr ≤ 3) (eP : f pr = .inr (6, [.ref (g.lk pr 0), .int (nI sn), .ref (g.lk pr 2), .int (nI nn), .ref (g.lk pr 4), .ref (g.lk pr 5)])) (hsn : sn ≤ 36) (hnn : nn ≤ 72) (eI : f (g.lk X 1) = .inr (1, [.ref (g.lk (g.lk X 1) 0), .int (nI fi), .int (nI wa)])) (hwa : wa ≤ 20) (hTS : TPS g f pr T) (hTB : TB2 T) : Met l ⟨"BigRunner$Runner", "lacksInput", "()Z"⟩ [Cond.code ⟨"BigRunner$Runner", "lacksInput", "()Z"⟩ prog_9_method_4_code 1 (some .boolean)] ({ frames := 1, cells := 0, slots := 0, locals := 20 }) (va_Pc [.ref X] (pc_in g sz f)) (va_Qi (fun r f1 => (r = nI 0 ∨ r = nI 1) ∧ (r = nI 0 → sn ≤ ix ∨ T 5 ix ≠ 1 ∨ wa ≠ 0) ∧ (r = nI 1 → ix < sn ∧ T 5 ix = 1 ∧ wa = 0) ∧ (f = f1)) (pc_out g sz) (pc_A g sz)) 0 0 (pc_A g sz) := by
  refine pe_ofW (cc := prog_9_method_4_code) (maxL := 1) (ret := (some .boolean)) (lv := [(0, .ref X)]) (by decide) (Nat.le_of_ble_eq_true rfl) rfl ?_
  intro p e s m args below meth c ls hx hb hr hml hlocks hown hB hP hK hD hsz hS hl
  subst hsz
  refine lv_aload_n hx hb d_NRunner_lacksInput_0 rfl (lv_at hl 0 rfl) ?_
  refine pcc_i (va_runV (C := "BigRunner$Runner") (As := []) (rest := []) ⟨hx, hb, hml, hown, tb_nil⟩ (c_ended l g s.heap.size f X pr ix os st mo lo tr sn nn hL t_X t_pr hI eX (by omega) (by omega) (by omega) (by omega) eP (by omega) (by omega)) ⟨(callB_of 0 (tb_one (wd_423 hB _)) tb_good1 rfl rfl rfl (wd_79 hB _) (wd_428 hB _) (by decide +kernel) ⟨Nat.le_of_ble_eq_true rfl, Nat.le_of_ble_eq_true rfl⟩), (wd_421 hB _), (wd_422 hB _)⟩ ⟨pe_bl, pg_recv (ci := 8) hK hP (lo_in hL t_X (by decide)) eX rfl, pe_pre hB hK hP hD⟩ rfl rfl hl.1 rfl (lv_room (Nat.le_of_ble_eq_true rfl)) d_NRunner_lacksInput_1 ⟨Nat.le_of_ble_eq_true rfl, Nat.le_of_ble_eq_true rfl⟩) hS (fun r1 f2 H locs hq3 hP hD hS => ?_)
  obtain ⟨bo_4, i0_5, i1_6, rfl⟩ := hq3
  refine lv_if_ne (tgt := 40) hx hb d_NRunner_lacksInput_4 (by decide) (fun b7 => ?_) (fun b7 => ?_)
  · skip
    have hr8 : r1 = nI 1 := (bl_1 bo_4 b7)
    have hi9 := i1_6 hr8
    refine lv_iconst (v := nI 0) hx hb d_NRunner_lacksInput_40 (by decide) ?_
    exact pe_zret hx hb hr hlocks hK hP hD hS d_NRunner_lacksInput_41 rfl ⟨(Or.inl rfl), (fun _ => by first | omega | assumption), (fun z9 => absurd z9 (by decide)), rfl⟩
  · skip
    have hr10 : r1 = nI 0 := b7
    have hi11 := i0_5 hr10
    refine lv_aload_n hx hb d_NRunner_lacksInput_7 rfl (lv_at hl 0 rfl) ?_
    refine pf_get (v := .ref pr) (C := "BigRunner$Runner") (T := FT8) (N := 13) hx hb (hw8 hB _) (fun _ h9 => h9) hown hK hP (lo_in hL t_X (by decide)) eX rfl 0 (by decide) (wd_330 hB _) rfl d_NRunner_lacksInput_8 ?_
    refine pf_get (v := .ref (g.lk pr 0)) (C := "BigRunner$Program") (T := FT6) (N := 6) hx hb (hw6 hB _) (fun _ h9 => h9) hown hK hP (lo_in hL t_pr (by decide)) eP rfl 0 (by decide) (wd_243 hB _) rfl d_NRunner_lacksInput_11 ?_
    refine lv_aload_n hx hb d_NRunner_lacksInput_14 rfl (lv_at hl 0 rfl) ?_
    refine pf_get (v := .int (nI ix)) (C := "BigRunner$Runner") (T := FT8) (N := 13) hx hb (hw8 hB _) (fun _ h9 => h9) hown hK hP (lo_in hL t_X (by decide)) eX rfl 2 (by decide) (wd_334 hB _) rfl d_NRunner_lacksInput_15 ?_
    have e12 := oc_24.of (lo_k7_0 hL _ t_pr) (hI (g.lk pr 0))
    refine pf_aald (i := ix) hx hb hK hP (lo_in hL (lo_k7_0 hL _ t_pr) (by decide)) e12 (lo_t24 hL _ (lo_k7_0 hL _ t_pr)) (by omega) (by decide) d_NRunner_lacksInput_18 ?_
    have t13 := lo_e24 hL _ (lo_k7_0 hL _ t_pr) ix (by omega)
    obtain ⟨hb5, hb6, hb7, hb8, hb9⟩ := hTB.2 ix (by omega)
    obtain ⟨la_14, e15, hla16⟩ := hTS ix (by omega)
    refine pf_get (v := .int (nI (T 5 ix))) (C := "BigRunner$Statement") (T := FT9) (N := 5) hx hb (hw9 hB _) (fun _ h9 => h9) hown hK hP (lo_in hL t13 (by decide)) e15 rfl 0 (by decide) (wd_145 hB _) rfl d_NRunner_lacksInput_19 ?_
    refine lv_iconst (v := nI 1) hx hb d_NRunner_lacksInput_22 (by decide) ?_
    refine lv_icmp_ne (tgt := 40) hx hb d_NRunner_lacksInput_23 (by decide) (fun b17 => ?_) (fun b17 => ?_)
    · skip
      replace b17 := mt (nI_eq (a := T 5 ix) (b := 1) (by omega) (by omega)).mpr b17
      refine lv_iconst (v := nI 0) hx hb d_NRunner_lacksInput_40 (by decide) ?_
      exact pe_zret hx hb hr hlocks hK hP hD hS d_NRunner_lacksInput_41 rfl ⟨(Or.inl rfl), (fun _ => by first | omega | assumption), (fun z9 => absurd z9 (by decide)), rfl⟩
    · skip
      replace b17 := (nI_eq (a := T 5 ix) (b := 1) (by omega) (by omega)).mp b17
      refine lv_aload_n hx hb d_NRunner_lacksInput_26 rfl (lv_at hl 0 rfl) ?_
      refine pf_get (v := .ref (g.lk X 1)) (C := "BigRunner$Runner") (T := FT8) (N := 13) hx hb (hw8 hB _) (fun _ h9 => h9) hown hK hP (lo_in hL t_X (by decide)) eX rfl 1 (by decide) (wd_332 hB _) rfl d_NRunner_lacksInput_27 ?_
      refine pf_get (v := .int (nI wa)) (C := "BigRunner$Inputs") (T := FT1) (N := 3) hx hb (hw1 hB _) (fun _ h9 => h9) hown hK hP (lo_in hL (lo_k9_1 hL _ t_X) (by decide)) eI rfl 2 (by decide) (wd_301 hB _) rfl d_NRunner_lacksInput_30 ?_
      refine lv_if_ne (tgt := 40) hx hb d_NRunner_lacksInput_33 (by decide) (fun b18 => ?_) (fun b18 => ?_)
      · skip
        replace b18 := mt (nI_eq (a := wa) (b := 0) (by omega) (by omega)).mpr b18
        refine lv_iconst (v := nI 0) hx hb d_NRunner_lacksInput_40 (by decide) ?_
        exact pe_zret hx hb hr hlocks hK hP hD hS d_NRunner_lacksInput_41 rfl ⟨(Or.inl rfl), (fun _ => by first | omega | assumption), (fun z9 => absurd z9 (by decide)), rfl⟩
      · skip
        replace b18 := (nI_eq (a := wa) (b := 0) (by omega) (by omega)).mp b18
        refine lv_iconst (v := nI 1) hx hb d_NRunner_lacksInput_36 (by decide) ?_
        refine lv_goto (tgt := 41) hx hb d_NRunner_lacksInput_37 (by decide) ?_
        exact pe_zret hx hb hr hlocks hK hP hD hS d_NRunner_lacksInput_41 rfl ⟨(Or.inr rfl), (fun z9 => absurd z9 (by decide)), (fun _ => by first | omega | assumption), rfl⟩
set_option maxHeartbeats 4000000 in
set_option maxRecDepth 100000 in
theorem v_goesOn (l : Launch) (g : Lay) (sz : Nat) (f : Nat → va_E) (X : Nat) (pr : Nat) (ix : Nat) (os : Nat) (st : Nat) (mo : Int32) (lo : Int32) (tr : Nat) (sn : Nat) (nn : Nat) (fi : Nat) (wa : Nat) (T : TT) (hL : LO g) (t_X : g.tg X = 9) (t_pr : g.tg pr = 7) (hI : OC g f) (eX : f X = .inr (8, [.ref pr, .ref (g.lk X 1), .int (nI ix), .ref (g.lk X 3), .ref (g.lk X 4), .ref (g.lk X 5), .ref (g.lk X 6), .ref (g.lk X 7), .int (nI os), .int (nI st), .int mo, .int lo, .int (nI tr)])) (hix : ix ≤ 36) (hos : os ≤ st) (hst : st ≤ 3000) (htr : tr ≤ 3) (eP : f pr = .inr (6, [.ref (g.lk pr 0), .int (nI sn), .ref (g.lk pr 2), .int (nI nn), .ref (g.lk pr 4), .ref (g.lk pr 5)])) (hsn : sn ≤ 36) (hnn : nn ≤ 72) (eI : f (g.lk X 1) = .inr (1, [.ref (g.lk (g.lk X 1) 0), .int (nI fi), .int (nI wa)])) (hwa : wa ≤ 20) (hTS : TPS g f pr T) (hTB : TB2 T) : Met l ⟨"BigRunner$Runner", "goesOn", "()Z"⟩ [Cond.code ⟨"BigRunner$Runner", "goesOn", "()Z"⟩ prog_9_method_7_code 1 (some .boolean)] ({ frames := 2, cells := 0, slots := 0, locals := 40 }) (va_Pc [.ref X] (pc_in g sz f)) (va_Qi (fun r f1 => (r = nI 0 ∨ r = nI 1) ∧ (r = nI 0 → tr ≠ 0 ∨ sn ≤ ix ∨ (st < 3000 ∧ T 5 ix = 1 ∧ wa = 0)) ∧ (r = nI 1 → tr = 0 ∧ ix < sn ∧ (st < 3000 → T 5 ix = 1 → wa ≠ 0)) ∧ (f = f1)) (pc_out g sz) (pc_A g sz)) 0 0 (pc_A g sz) := by
  refine pe_ofW (cc := prog_9_method_7_code) (maxL := 1) (ret := (some .boolean)) (lv := [(0, .ref X)]) (by decide) (Nat.le_of_ble_eq_true rfl) rfl ?_
  intro p e s m args below meth c ls hx hb hr hml hlocks hown hB hP hK hD hsz hS hl
  subst hsz
  refine lv_aload_n hx hb d_NRunner_goesOn_0 rfl (lv_at hl 0 rfl) ?_
  refine pf_get (v := .int (nI tr)) (C := "BigRunner$Runner") (T := FT8) (N := 13) hx hb (hw8 hB _) (fun _ h9 => h9) hown hK hP (lo_in hL t_X (by decide)) eX rfl 12 (by decide) (wd_349 hB _) rfl d_NRunner_goesOn_1 ?_
  refine lv_if_ne (tgt := 35) hx hb d_NRunner_goesOn_4 (by decide) (fun b1 => ?_) (fun b1 => ?_)
  · skip
    replace b1 := mt (nI_eq (a := tr) (b := 0) (by omega) (by omega)).mpr b1
    refine lv_iconst (v := nI 0) hx hb d_NRunner_goesOn_35 (by decide) ?_
    exact pe_zret hx hb hr hlocks hK hP hD hS d_NRunner_goesOn_36 rfl ⟨(Or.inl rfl), (fun _ => by first | omega | assumption), (fun z9 => absurd z9 (by decide)), rfl⟩
  · skip
    replace b1 := (nI_eq (a := tr) (b := 0) (by omega) (by omega)).mp b1
    refine lv_aload_n hx hb d_NRunner_goesOn_7 rfl (lv_at hl 0 rfl) ?_
    refine pcc_i (va_runV (C := "BigRunner$Runner") (As := []) (rest := []) ⟨hx, hb, hml, hown, tb_nil⟩ (c_ended l g s.heap.size f X pr ix os st mo lo tr sn nn hL t_X t_pr hI eX (by omega) (by omega) (by omega) (by omega) eP (by omega) (by omega)) ⟨(callB_of 0 (tb_one (wd_423 hB _)) tb_good1 rfl rfl rfl (wd_79 hB _) (wd_428 hB _) (by decide +kernel) ⟨Nat.le_of_ble_eq_true rfl, Nat.le_of_ble_eq_true rfl⟩), (wd_421 hB _), (wd_422 hB _)⟩ ⟨pe_bl, pg_recv (ci := 8) hK hP (lo_in hL t_X (by decide)) eX rfl, pe_pre hB hK hP hD⟩ rfl rfl hl.1 rfl (lv_room (Nat.le_of_ble_eq_true rfl)) d_NRunner_goesOn_8 ⟨Nat.le_of_ble_eq_true rfl, Nat.le_of_ble_eq_true rfl⟩) hS (fun r2 f3 H locs hq4 hP hD hS => ?_)
    obtain ⟨bo_5, i0_6, i1_7, rfl⟩ := hq4
    refine lv_if_ne (tgt := 35) hx hb d_NRunner_goesOn_11 (by decide) (fun b8 => ?_) (fun b8 => ?_)
    · skip
      have hr9 : r2 = nI 1 := (bl_1 bo_5 b8)
      have hi10 := i1_7 hr9
      refine lv_iconst (v := nI 0) hx hb d_NRunner_goesOn_35 (by decide) ?_
      exact pe_zret hx hb hr hlocks hK hP hD hS d_NRunner_goesOn_36 rfl ⟨(Or.inl rfl), (fun _ => by first | omega | assumption), (fun z9 => absurd z9 (by decide)), rfl⟩
    · skip
      have hr11 : r2 = nI 0 := b8
      have hi12 := i0_6 hr11
      refine lv_aload_n hx hb d_NRunner_goesOn_14 rfl (lv_at hl 0 rfl) ?_
      refine pf_get (v := .int (nI st)) (C := "BigRunner$Runner") (T := FT8) (N := 13) hx hb (hw8 hB _) (fun _ h9 => h9) hown hK hP (lo_in hL t_X (by decide)) eX rfl 9 (by decide) (wd_343 hB _) rfl d_NRunner_goesOn_15 ?_
      refine lv_sipush (v := nI 3000) hx hb d_NRunner_goesOn_18 (by decide) ?_
      refine lv_icmp_ge (tgt := 31) hx hb d_NRunner_goesOn_21 (by decide) (fun b13 => ?_) (fun b13 => ?_)
      · skip
        replace b13 := (nI_leI (a := 3000) (b := st) (by omega) (by omega)).mp b13
        refine lv_iconst (v := nI 1) hx hb d_NRunner_goesOn_31 (by decide) ?_
        refine lv_goto (tgt := 36) hx hb d_NRunner_goesOn_32 (by decide) ?_
        exact pe_zret hx hb hr hlocks hK hP hD hS d_NRunner_goesOn_36 rfl ⟨(Or.inr rfl), (fun z9 => absurd z9 (by decide)), (fun _ => by first | omega | assumption), rfl⟩
      · skip
        replace b13 := mt (nI_leI (a := 3000) (b := st) (by omega) (by omega)).mpr b13
        refine lv_aload_n hx hb d_NRunner_goesOn_24 rfl (lv_at hl 0 rfl) ?_
        refine pcc_i (va_runV (C := "BigRunner$Runner") (As := []) (rest := []) ⟨hx, hb, hml, hown, tb_nil⟩ (v_lacks l g H.size f X pr ix os st mo lo tr sn nn fi wa T hL t_X t_pr hI eX (by omega) (by omega) (by omega) (by omega) eP (by omega) (by omega) eI (by omega) hTS hTB) ⟨(callB_of 0 (tb_one (wd_427 hB _)) tb_good1 rfl rfl rfl (wd_79 hB _) (wd_717 hB _) (by decide +kernel) ⟨Nat.le_of_ble_eq_true rfl, Nat.le_of_ble_eq_true rfl⟩), (wd_425 hB _), (wd_426 hB _)⟩ ⟨pe_bl, pg_recv (ci := 8) hK hP (lo_in hL t_X (by decide)) eX rfl, pe_pre hB hK hP hD⟩ rfl rfl hl.1 rfl (lv_room (Nat.le_of_ble_eq_true rfl)) d_NRunner_goesOn_25 ⟨Nat.le_of_ble_eq_true rfl, Nat.le_of_ble_eq_true rfl⟩) hS (fun r14 f15 H locs hq16 hP hD hS => ?_)
        obtain ⟨bo_17, i0_18, i1_19, rfl⟩ := hq16
        refine lv_if_ne (tgt := 35) hx hb d_NRunner_goesOn_28 (by decide) (fun b20 => ?_) (fun b20 => ?_)
        · skip
          have hr21 : r14 = nI 1 := (bl_1 bo_17 b20)
          have hi22 := i1_19 hr21
          refine lv_iconst (v := nI 0) hx hb d_NRunner_goesOn_35 (by decide) ?_
          exact pe_zret hx hb hr hlocks hK hP hD hS d_NRunner_goesOn_36 rfl ⟨(Or.inl rfl), (fun _ => by first | omega | assumption), (fun z9 => absurd z9 (by decide)), rfl⟩
        · skip
          have hr23 : r14 = nI 0 := b20
          have hi24 := i0_18 hr23
          refine lv_iconst (v := nI 1) hx hb d_NRunner_goesOn_31 (by decide) ?_
          refine lv_goto (tgt := 36) hx hb d_NRunner_goesOn_32 (by decide) ?_
          exact pe_zret hx hb hr hlocks hK hP hD hS d_NRunner_goesOn_36 rfl ⟨(Or.inr rfl), (fun z9 => absurd z9 (by decide)), (fun _ => by first | omega | assumption), rfl⟩
def CV (g : Lay) (B : Nat) (f : Nat → va_E) (n : Nat) (hT : Nat → Int32) (o : Option (List (Nat × Nat))) (s9 : PS) : Prop := ∃ (ld : Int32) (tx : Value) (ln0 : Nat) (ax0 : Nat) (PR : Nat) (pr : Nat) (ix : Nat) (os : Nat) (st : Nat) (mo : Int32) (lo : Int32) (tr : Nat) (sn : Nat) (nn : Nat), g.tg PR = 7 ∧ g.tg pr = 7 ∧ (f B = .inr (0, [.ref (g.lk B 0), .int (nI n), .ref (g.lk B 2), .ref (g.lk B 3), .int ld])) ∧ (n ≤ 72) ∧ (ld = nI 0 ∨ ld = nI 1) ∧ (f (g.lk B 0) = .inl (g.ac (g.lk B 0), 72, .inl hT)) ∧ (∀ i, i < 72 → vp_nar .char (hT i) = hT i) ∧ (f (g.lk B 2) = .inr (7, [tx, .int (nI ln0), .int (nI ax0), .ref PR])) ∧ (ln0 ≤ 72) ∧ (ax0 ≤ 72) ∧ (f (g.lk B 3) = .inr (8, [.ref pr, .ref (g.lk (g.lk B 3) 1), .int (nI ix), .ref (g.lk (g.lk B 3) 3), .ref (g.lk (g.lk B 3) 4), .ref (g.lk (g.lk B 3) 5), .ref (g.lk (g.lk B 3) 6), .ref (g.lk (g.lk B 3) 7), .int (nI os), .int (nI st), .int mo, .int lo, .int (nI tr)])) ∧ (ix ≤ 36) ∧ (os ≤ st) ∧ (st ≤ 3000) ∧ (tr ≤ 3) ∧ (PR ≠ pr) ∧ (f pr = .inr (6, [.ref (g.lk pr 0), .int (nI sn), .ref (g.lk pr 2), .int (nI nn), .ref (g.lk pr 4), .ref (g.lk pr 5)])) ∧ (sn ≤ 36) ∧ (nn ≤ 72) ∧ (SG g f pr 0 sn) ∧ (sn ≤ ix ∨ nj g f pr ix) ∧ (OIN g f PR) ∧ (OIN g f pr) ∧ (CVS g f (g.lk B 3) pr sn nn ix os st tr ld o s9)
set_option maxHeartbeats 4000000 in
set_option maxRecDepth 100000 in
theorem v_run (l : Launch) (g : Lay) (sz : Nat) (f : Nat → va_E) (B : Nat) (n : Nat) (hT : Nat → Int32) (ld : Int32) (tx : Value) (ln0 : Nat) (ax0 : Nat) (PR : Nat) (pr : Nat) (ix : Nat) (os : Nat) (st : Nat) (mo : Int32) (lo : Int32) (tr : Nat) (sn : Nat) (nn : Nat) (T : TT) (nb : Nat → Nat) (en : Nat → IVL) (L : List (Nat × Nat)) (s9 : PS) (k9 : Int32) (hL : LO g) (t_B : g.tg B = 1) (t_PR : g.tg PR = 7) (t_pr : g.tg pr = 7) (hI : IV g f) (eB : f B = .inr (0, [.ref (g.lk B 0), .int (nI n), .ref (g.lk B 2), .ref (g.lk B 3), .int ld])) (hn : n ≤ 72) (hld : ld = nI 0 ∨ ld = nI 1) (eT : f (g.lk B 0) = .inl (g.ac (g.lk B 0), 72, .inl hT)) (cT : ∀ i, i < 72 → vp_nar .char (hT i) = hT i) (eR : f (g.lk B 2) = .inr (7, [tx, .int (nI ln0), .int (nI ax0), .ref PR])) (hl0 : ln0 ≤ 72) (ha0 : ax0 ≤ 72) (eX : f (g.lk B 3) = .inr (8, [.ref pr, .ref (g.lk (g.lk B 3) 1), .int (nI ix), .ref (g.lk (g.lk B 3) 3), .ref (g.lk (g.lk B 3) 4), .ref (g.lk (g.lk B 3) 5), .ref (g.lk (g.lk B 3) 6), .ref (g.lk (g.lk B 3) 7), .int (nI os), .int (nI st), .int mo, .int lo, .int (nI tr)])) (hix : ix ≤ 36) (hos : os ≤ st) (hst : st ≤ 3000) (htr : tr ≤ 3) (hPR : PR ≠ pr) (eP : f pr = .inr (6, [.ref (g.lk pr 0), .int (nI sn), .ref (g.lk pr 2), .int (nI nn), .ref (g.lk pr 4), .ref (g.lk pr 5)])) (hsn : sn ≤ 36) (hnn : nn ≤ 72) (hSG : SG g f pr 0 sn) (hnj : sn ≤ ix ∨ nj g f pr ix) (hi1 : OIN g f PR) (hi2 : OIN g f pr) (hld1 : ld = nI 1) (hPT : PT T nb sn nn en L) (hRS : RNS g f (g.lk B 3) pr T nb sn en ix os st tr s9) (hLt : l.stackTraces = false) : tw_Met l ⟨"BigRunner", "run", "(I)I"⟩ [Cond.code ⟨"BigRunner", "run", "(I)I"⟩ prog_1_method_6_code 3 (some .int)] ({ frames := 7, cells := 1, slots := 6, locals := 182 }) (va_Pc [.ref B, .int k9] (pt_in g sz f)) (tq (fun v9 f1 => ∃ r, v9 = some (.int r) ∧ ((prunA L k9.toInt s9).1 = 0 ∧ (prunA L k9.toInt s9).2.1 ≤ 200 ∧ r = nI ((prunA L k9.toInt s9).2.1)) ∧ (CV g B f1 n hT (some L) (prunA L k9.toInt s9).2.2) ∧ (IV g f1) ∧ (un [2, 4, 5, 6, 9, 22, 23, 27] g f f1)) (fun C9 f1 => ((prunA L k9.toInt s9).1 ≠ 0 ∧ C9 = excn (prunA L k9.toInt s9).1) ∧ (CV g B f1 n hT (some L) (prunA L k9.toInt s9).2.2) ∧ (IV g f1) ∧ (un [2, 4, 5, 6, 9, 22, 23, 27] g f f1)) g sz) 1 6 (pc_A g sz) := by
  refine pt_ofW (cc := prog_1_method_6_code) (maxL := 3) (ret := (some .int)) (lv := [(0, .ref B), (1, .int k9)]) (by decide) (Nat.le_of_ble_eq_true rfl) rfl ?_
  intro p e s m args below meth c ls hx hb hr hml hlocks hown hB hP hK hD hsz hS hl hno hTZ
  subst hsz
  have hu : un [2, 4, 5, 6, 9, 22, 23, 27] g f f := un.rf
  subst hld1
  refine lv_aload_n hx hb d_B_run_0 rfl (lv_at hl 0 rfl) ?_
  refine pf_get (v := .int (nI 1)) (C := "BigRunner") (T := FT0) (N := 5) hx hb (hw0 hB _) (fun _ h9 => h9) hown hK hP (lo_in hL t_B (by decide)) eB rfl 4 (by decide) (wd_382 hB _) rfl d_B_run_1 ?_
  refine lv_if_eq (tgt := 27) hx hb d_B_run_4 (by decide) (fun b1 => ?_) (fun b1 => ?_)
  · skip
    replace b1 := (nI_eq (a := 1) (b := 0) (by omega) (by omega)).mp b1
    exfalso; omega
  · skip
    replace b1 := mt (nI_eq (a := 1) (b := 0) (by omega) (by omega)).mpr b1
    refine lv_aload_n hx hb d_B_run_7 rfl (lv_at hl 0 rfl) ?_
    refine pf_get (v := .ref (g.lk B 3)) (C := "BigRunner") (T := FT0) (N := 5) hx hb (hw0 hB _) (fun _ h9 => h9) hown hK hP (lo_in hL t_B (by decide)) eB rfl 3 (by decide) (wd_381 hB _) rfl d_B_run_8 ?_
    refine pcc_i (va_runV (C := "BigRunner$Runner") (As := []) (rest := []) ⟨hx, hb, hml, hown, tb_nil⟩ (c_ended l g s.heap.size f ((g.lk B 3)) pr ix os st mo lo tr sn nn hL (lo_k1_3 hL _ t_B) t_pr hI.1 eX (by omega) (by omega) (by omega) (by omega) eP (by omega) (by omega)) ⟨(callB_of 0 (tb_one (wd_423 hB _)) tb_good1 rfl rfl rfl (wd_79 hB _) (wd_420 hB _) (by decide +kernel) ⟨Nat.le_of_ble_eq_true rfl, Nat.le_of_ble_eq_true rfl⟩), (wd_421 hB _), (wd_422 hB _)⟩ ⟨pe_bl, pg_recv (ci := 8) hK hP (lo_in hL (lo_k1_3 hL _ t_B) (by decide)) eX rfl, pe_pre hB hK hP hD⟩ rfl rfl hl.1 rfl (lv_room (Nat.le_of_ble_eq_true rfl)) d_B_run_11 ⟨Nat.le_of_ble_eq_true rfl, Nat.le_of_ble_eq_true rfl⟩) hS (fun r2 f3 H locs hq4 hP hD hS => ?_)
    obtain ⟨bo_5, i0_6, i1_7, rfl⟩ := hq4
    refine lv_if_ne (tgt := 27) hx hb d_B_run_14 (by decide) (fun b8 => ?_) (fun b8 => ?_)
    · skip
      have hr9 : r2 = nI 1 := (bl_1 bo_5 b8)
      have hi10 := i1_7 hr9
      have hA9 : prunA L k9.toInt s9 = (1, 0, s9) := prA_1 ((RNS_end hPT hRS).mpr (by omega))
      exact pt_throw (own := "BigRunner") (cls := "java/lang/IllegalStateException") (text := "no program is under way") (names := ["java/lang/RuntimeException", "java/lang/Exception"]) hx hb (hl.1.trans hml.symm) hlocks hno hLt hown (by decide +kernel) (by decide +kernel) hB hTZ (fun U hB hH => ⟨(wd_696 hB _), (wd_697 hB _), (wd_89 hB _), (wd_705 hB _), oa_3 hB hH _⟩) hK hP hD hS d_B_run_27 d_B_run_30 d_B_run_31 d_B_run_33 d_B_run_36 (Nat.le_of_ble_eq_true rfl) (Nat.le_of_ble_eq_true rfl) (Nat.le_of_ble_eq_true rfl) (Nat.le_of_ble_eq_true rfl) ⟨(by rw [hA9]; exact ⟨(show (1 : Nat) ≠ 0 by decide), rfl⟩), (by rw [hA9]; exact ⟨(nI 1), (tx), ln0, ax0, PR, pr, ix, os, st, mo, lo, tr, sn, nn, t_PR, t_pr, eB, by omega, (Or.inr rfl), eT, cT, eR, by omega, by omega, eX, by omega, by omega, by omega, by omega, hPR, eP, by omega, by omega, SG_un hSG hL t_pr hsn hu (by decide), hnj, hi1.un hL t_PR hu (by decide), hi2.un hL t_pr hu (by decide), ⟨rfl, T, nb, en, hPT, hRS⟩⟩), hI, hu⟩
    · skip
      have hr11 : r2 = nI 0 := b8
      have hi12 := i0_6 hr11
      refine lv_aload_n hx hb d_B_run_17 rfl (lv_at hl 0 rfl) ?_
      refine pf_get (v := .ref (g.lk B 3)) (C := "BigRunner") (T := FT0) (N := 5) hx hb (hw0 hB _) (fun _ h9 => h9) hown hK hP (lo_in hL t_B (by decide)) eB rfl 3 (by decide) (wd_381 hB _) rfl d_B_run_18 ?_
      refine pf_get (v := .int (nI tr)) (C := "BigRunner$Runner") (T := FT8) (N := 13) hx hb (hw8 hB _) (fun _ h9 => h9) hown hK hP (lo_in hL (lo_k1_3 hL _ t_B) (by decide)) eX rfl 12 (by decide) (wd_350 hB _) rfl d_B_run_21 ?_
      refine lv_if_eq (tgt := 37) hx hb d_B_run_24 (by decide) (fun b13 => ?_) (fun b13 => ?_)
      · skip
        replace b13 := (nI_eq (a := tr) (b := 0) (by omega) (by omega)).mp b13
        have hne9 : ¬ (s9.tr ≠ 0 ∨ s9.pc = L.length) := fun z9 => by have := (RNS_end hPT hRS).mp z9; omega
        refine lv_iload_n hx hb d_B_run_37 rfl (lv_at hl 1 rfl) ?_
        refine lv_iconst (v := nI 1) hx hb d_B_run_38 (by decide) ?_
        refine lv_icmp_lt (tgt := 49) hx hb d_B_run_39 (by decide) (fun b14 => ?_) (fun b14 => ?_)
        · skip
          have hA9 : prunA L k9.toInt s9 = (2, 0, s9) := prA_2 hne9 (Or.inl (by have z9 := Int32.lt_iff_toInt_lt.mp b14; rw [ti_1] at z9; exact z9))
          exact pt_throw (own := "BigRunner") (cls := "java/lang/IllegalArgumentException") (text := "not 1 .. 200 steps") (names := ["java/lang/RuntimeException", "java/lang/Exception"]) hx hb (hl.1.trans hml.symm) hlocks hno hLt hown (by decide +kernel) (by decide +kernel) hB hTZ (fun U hB hH => ⟨(wd_521 hB _), (wd_522 hB _), (wd_87 hB _), (wd_712 hB _), oa_2 hB hH _⟩) hK hP hD hS d_B_run_49 d_B_run_52 d_B_run_53 d_B_run_55 d_B_run_58 (Nat.le_of_ble_eq_true rfl) (Nat.le_of_ble_eq_true rfl) (Nat.le_of_ble_eq_true rfl) (Nat.le_of_ble_eq_true rfl) ⟨(by rw [hA9]; exact ⟨(show (2 : Nat) ≠ 0 by decide), rfl⟩), (by rw [hA9]; exact ⟨(nI 1), (tx), ln0, ax0, PR, pr, ix, os, st, mo, lo, tr, sn, nn, t_PR, t_pr, eB, by omega, (Or.inr rfl), eT, cT, eR, by omega, by omega, eX, by omega, by omega, by omega, by omega, hPR, eP, by omega, by omega, SG_un hSG hL t_pr hsn hu (by decide), hnj, hi1.un hL t_PR hu (by decide), hi2.un hL t_pr hu (by decide), ⟨rfl, T, nb, en, hPT, hRS⟩⟩), hI, hu⟩
        · skip
          have hk1 := b14
          refine lv_iload_n hx hb d_B_run_42 rfl (lv_at hl 1 rfl) ?_
          refine lv_sipush (v := nI 200) hx hb d_B_run_43 (by decide) ?_
          refine lv_icmp_le (tgt := 59) hx hb d_B_run_46 (by decide) (fun b15 => ?_) (fun b15 => ?_)
          · skip
            obtain ⟨j9, hj9, hke⟩ := nI_of (x := k9) (fun z => hk1 (Int32.lt_trans z (by decide)))
            have hl : lv_has ls 3 [(0, .ref B), (1, .int (nI j9))] := by rw [← hke]; exact hl
            have hj2 := (nI_leI (a := j9) (b := 200) (by omega) (by decide)).mp (by rw [← hke]; exact b15)
            have hj1 : 1 ≤ j9 := Nat.le_of_not_lt (fun z9 => hk1 (by rw [hke]; exact (nI_ltI (a := j9) (b := 1) (by omega) (by decide)).mpr z9))
            have hkn9 : k9.toInt.toNat = j9 := by rw [hke, nI_toInt (by omega)]; rfl
            have hkj9 : ¬ (k9.toInt < 1 ∨ 200 < k9.toInt) := by rw [hke, nI_toInt (by omega)]; omega
            refine lv_iconst (v := nI 0) hx hb d_B_run_59 (by decide) ?_
            refine lv_istore_n (lv' := [(2, .int (nI 0)), (0, .ref B), (1, .int (nI j9))]) hx hb d_B_run_60 rfl hl (by decide) rfl (fun ls hl => ?_)
            have lp16 : ∀ (k18 : Nat) (i : Nat) (ix2 : Nat) (os2 : Nat) (st2 : Nat) (mo2 : Int32) (lo2 : Int32) (tr2 : Nat) (s8 : PS) (f17 : Nat → va_E) (H : Heap) (locs : List Loc) (ls : Array Slot), (j9 < i + k18) → (i ≤ j9) → (ix2 ≤ 36) → (os2 ≤ st2) → (st2 ≤ 3000) → (tr2 ≤ 3) → (RNS g f17 (g.lk B 3) pr T nb sn en ix2 os2 st2 tr2 s8) → ((prun L j9 s9).2 = (prun L (j9 - i) s8).2) → (s8.tr = 0 → (prun L j9 s9).1 = i + (prun L (j9 - i) s8).1) → f17 (g.lk B 3) = .inr (8, [.ref pr, .ref (g.lk (g.lk B 3) 1), .int (nI ix2), .ref (g.lk (g.lk B 3) 3), .ref (g.lk (g.lk B 3) 4), .ref (g.lk (g.lk B 3) 5), .ref (g.lk (g.lk B 3) 6), .ref (g.lk (g.lk B 3) 7), .int (nI os2), .int (nI st2), .int mo2, .int lo2, .int (nI tr2)]) → IV g f17 → un [2, 4, 5, 6, 9, 22, 23, 27] g f f17 → lv_has ls 3 [(2, .int (nI i)), (0, .ref B), (1, .int (nI j9))] → va_P g.D vcl (va_pl g.LP f17) H → va_D (pc_A g s.heap.size) (va_pl g.LP f17) → va_S (pc_A g s.heap.size) s.heap H locs → W p l e ({ frames := 7, cells := 1, slots := 6, locals := 182 }) s m args below meth c H locs 0 0 (tw_MQ below (tq (fun v9 f1 => ∃ r, v9 = some (.int r) ∧ ((prunA L k9.toInt s9).1 = 0 ∧ (prunA L k9.toInt s9).2.1 ≤ 200 ∧ r = nI ((prunA L k9.toInt s9).2.1)) ∧ (CV g B f1 n hT (some L) (prunA L k9.toInt s9).2.2) ∧ (IV g f1) ∧ (un [2, 4, 5, 6, 9, 22, 23, 27] g f f1)) (fun C9 f1 => ((prunA L k9.toInt s9).1 ≠ 0 ∧ C9 = excn (prunA L k9.toInt s9).1) ∧ (CV g B f1 n hT (some L) (prunA L k9.toInt s9).2.2) ∧ (IV g f1) ∧ (un [2, 4, 5, 6, 9, 22, 23, 27] g f f1)) g s.heap.size) args s 1 6 (pc_A g s.heap.size)) (F0 m 61 ls []) := by
              intro k18
              induction k18 with
              | zero => intros; exfalso; omega
              | succ k18 ih19 =>
                intro i ix2 os2 st2 mo2 lo2 tr2 s8 f17 H locs ls hfu20 hi hix2 hos2 hst2 htr2 hRS2 hp1 hp2 e21 hI22 hv23 hl hP hD hS
                have eB := hv23.at t_B (by decide) eB
                have eT := hv23.at (lo_k1_0 hL _ t_B) (by decide) eT
                have eR := hv23.at (lo_k1_2 hL _ t_B) (by decide) eR
                have eP := hv23.at t_pr (by decide) eP
                have hu := hu.tr hv23 (by decide)
                obtain ⟨fi9, wa9, hR9, eI9, eR9, hfi9, hwl9, hwa9, hk99⟩ := hRS2.2.2.2.2.2.1
                have hs8 : s8.tr = tr2 := hRS2.2.2.2.2.2.2.2.2.2.1
                have hsp8 : s8.sp = st2 := hRS2.2.2.2.2.2.2.2.2.1
                have hpc8 : s8.pc = ix2 + nb ix2 := hRS2.2.2.2.2.2.2.2.2.2.2.2.1
                have hixn8 : ix2 ≤ sn := hRS2.2.2.2.2.2.2.2.2.2.2.1
                refine lv_iload_n hx hb d_B_run_61 rfl (lv_at hl 0 rfl) ?_
                refine lv_iload_n hx hb d_B_run_62 rfl (lv_at hl 2 rfl) ?_
                refine lv_icmp_ge (tgt := 89) hx hb d_B_run_63 (by decide) (fun b24 => ?_) (fun b24 => ?_)
                · skip
                  replace b24 := (nI_leI (a := j9) (b := i) (by omega) (by omega)).mp b24
                  have hz9 : prun L (j9 - i) s8 = (0, s8) := by rw [show j9 - i = 0 by omega]; rfl
                  have hf9 : (prun L j9 s9).2 = s8 := hp1.trans (by rw [hz9])
                  have hf8 : tr2 = 0 → (prun L j9 s9).1 = i := fun z9 => (hp2 (hs8.trans z9)).trans (by rw [hz9]; rfl)
                  have hnj9 : sn ≤ ix2 ∨ nj g f17 pr ix2 := by
                    rcases Nat.lt_or_ge ix2 sn with z8 | z8
                    · obtain ⟨la7, e7, -⟩ := hRS2.2.1 ix2 (by omega)
                      exact Or.inr ⟨_, _, _, la7, _, e7, hRS2.2.2.2.2.2.2.2.2.2.2.2.2 z8⟩
                    · exact Or.inl z8
                  refine lv_aload_n hx hb d_B_run_89 rfl (lv_at hl 1 rfl) ?_
                  refine pf_get (v := .ref (g.lk B 3)) (C := "BigRunner") (T := FT0) (N := 5) hx hb (hw0 hB _) (fun _ h9 => h9) hown hK hP (lo_in hL t_B (by decide)) eB rfl 3 (by decide) (wd_381 hB _) rfl d_B_run_90 ?_
                  refine pf_get (v := .int (nI tr2)) (C := "BigRunner$Runner") (T := FT8) (N := 13) hx hb (hw8 hB _) (fun _ h9 => h9) hown hK hP (lo_in hL (lo_k1_3 hL _ t_B) (by decide)) e21 rfl 12 (by decide) (wd_350 hB _) rfl d_B_run_93 ?_
                  refine lv_iconst (v := nI 1) hx hb d_B_run_96 (by decide) ?_
                  refine lv_icmp_ne (tgt := 110) hx hb d_B_run_97 (by decide) (fun b25 => ?_) (fun b25 => ?_)
                  · skip
                    replace b25 := mt (nI_eq (a := tr2) (b := 1) (by omega) (by omega)).mpr b25
                    refine lv_aload_n hx hb d_B_run_110 rfl (lv_at hl 1 rfl) ?_
                    refine pf_get (v := .ref (g.lk B 3)) (C := "BigRunner") (T := FT0) (N := 5) hx hb (hw0 hB _) (fun _ h9 => h9) hown hK hP (lo_in hL t_B (by decide)) eB rfl 3 (by decide) (wd_381 hB _) rfl d_B_run_111 ?_
                    refine pf_get (v := .int (nI tr2)) (C := "BigRunner$Runner") (T := FT8) (N := 13) hx hb (hw8 hB _) (fun _ h9 => h9) hown hK hP (lo_in hL (lo_k1_3 hL _ t_B) (by decide)) e21 rfl 12 (by decide) (wd_350 hB _) rfl d_B_run_114 ?_
                    refine lv_if_eq (tgt := 130) hx hb d_B_run_117 (by decide) (fun b26 => ?_) (fun b26 => ?_)
                    · skip
                      replace b26 := (nI_eq (a := tr2) (b := 0) (by omega) (by omega)).mp b26
                      refine lv_iload_n hx hb d_B_run_130 rfl (lv_at hl 0 rfl) ?_
                      have hA9 : prunA L k9.toInt s9 = (0, i, s8) := (prA_0 hne9 hkj9 (by rw [hkn9, hf9, hs8]; omega)).trans (by rw [hkn9, hf9, hf8 (by omega)])
                      exact pt_iret hx hb hr hlocks hK hP hD hS d_B_run_131 ⟨_, rfl, ⟨(by rw [hA9]; exact ⟨rfl, (by omega : i ≤ 200), rfl⟩), (by rw [hA9]; exact ⟨(nI 1), (tx), ln0, ax0, PR, pr, ix2, os2, st2, mo2, lo2, tr2, sn, nn, t_PR, t_pr, eB, by omega, (Or.inr rfl), eT, cT, eR, by omega, by omega, e21, by omega, by omega, by omega, by omega, hPR, eP, by omega, by omega, SG_un hSG hL t_pr hsn hu (by decide), hnj9, hi1.un hL t_PR hu (by decide), hi2.un hL t_pr hu (by decide), ⟨rfl, T, nb, en, hPT, hRS2⟩⟩), hI22, hu⟩⟩
                    · skip
                      replace b26 := mt (nI_eq (a := tr2) (b := 0) (by omega) (by omega)).mpr b26
                      have hA9 : prunA L k9.toInt s9 = (4, 0, s8) := (prA_t hne9 hkj9 (by rw [hkn9, hf9]; rw [hs8]; omega)).trans (by rw [hkn9, hf9, if_neg (by rw [hs8]; omega)])
                      exact pt_throw (own := "BigRunner") (cls := "java/lang/UnsupportedOperationException") (text := "too many digits or steps") (names := ["java/lang/RuntimeException", "java/lang/Exception"]) hx hb (hl.1.trans hml.symm) hlocks hno hLt hown (by decide +kernel) (by decide +kernel) hB hTZ (fun U hB hH => ⟨(wd_864 hB _), (wd_865 hB _), (wd_93 hB _), (wd_873 hB _), oa_0 hB hH _⟩) hK hP hD hS d_B_run_120 d_B_run_123 d_B_run_124 d_B_run_126 d_B_run_129 (Nat.le_of_ble_eq_true rfl) (Nat.le_of_ble_eq_true rfl) (Nat.le_of_ble_eq_true rfl) (Nat.le_of_ble_eq_true rfl) ⟨(by rw [hA9]; exact ⟨(show (4 : Nat) ≠ 0 by decide), rfl⟩), (by rw [hA9]; exact ⟨(nI 1), (tx), ln0, ax0, PR, pr, ix2, os2, st2, mo2, lo2, tr2, sn, nn, t_PR, t_pr, eB, by omega, (Or.inr rfl), eT, cT, eR, by omega, by omega, e21, by omega, by omega, by omega, by omega, hPR, eP, by omega, by omega, SG_un hSG hL t_pr hsn hu (by decide), hnj9, hi1.un hL t_PR hu (by decide), hi2.un hL t_pr hu (by decide), ⟨rfl, T, nb, en, hPT, hRS2⟩⟩), hI22, hu⟩
                  · skip
                    replace b25 := (nI_eq (a := tr2) (b := 1) (by omega) (by omega)).mp b25
                    have hA9 : prunA L k9.toInt s9 = (3, 0, s8) := (prA_t hne9 hkj9 (by rw [hkn9, hf9]; rw [hs8]; omega)).trans (by rw [hkn9, hf9, if_pos (by rw [hs8]; omega)])
                    exact pt_throw (own := "BigRunner") (cls := "java/lang/ArithmeticException") (text := "a division by 0") (names := ["java/lang/RuntimeException", "java/lang/Exception"]) hx hb (hl.1.trans hml.symm) hlocks hno hLt hown (by decide +kernel) (by decide +kernel) hB hTZ (fun U hB hH => ⟨(wd_848 hB _), (wd_849 hB _), (wd_92 hB _), (wd_857 hB _), oa_4 hB hH _⟩) hK hP hD hS d_B_run_100 d_B_run_103 d_B_run_104 d_B_run_106 d_B_run_109 (Nat.le_of_ble_eq_true rfl) (Nat.le_of_ble_eq_true rfl) (Nat.le_of_ble_eq_true rfl) (Nat.le_of_ble_eq_true rfl) ⟨(by rw [hA9]; exact ⟨(show (3 : Nat) ≠ 0 by decide), rfl⟩), (by rw [hA9]; exact ⟨(nI 1), (tx), ln0, ax0, PR, pr, ix2, os2, st2, mo2, lo2, tr2, sn, nn, t_PR, t_pr, eB, by omega, (Or.inr rfl), eT, cT, eR, by omega, by omega, e21, by omega, by omega, by omega, by omega, hPR, eP, by omega, by omega, SG_un hSG hL t_pr hsn hu (by decide), hnj9, hi1.un hL t_PR hu (by decide), hi2.un hL t_pr hu (by decide), ⟨rfl, T, nb, en, hPT, hRS2⟩⟩), hI22, hu⟩
                · skip
                  replace b24 := mt (nI_leI (a := j9) (b := i) (by omega) (by omega)).mpr b24
                  refine lv_aload_n hx hb d_B_run_66 rfl (lv_at hl 1 rfl) ?_
                  refine pf_get (v := .ref (g.lk B 3)) (C := "BigRunner") (T := FT0) (N := 5) hx hb (hw0 hB _) (fun _ h9 => h9) hown hK hP (lo_in hL t_B (by decide)) eB rfl 3 (by decide) (wd_381 hB _) rfl d_B_run_67 ?_
                  refine pcc_i (va_runV (C := "BigRunner$Runner") (As := []) (rest := []) ⟨hx, hb, hml, hown, tb_nil⟩ (v_goesOn l g H.size f17 ((g.lk B 3)) pr ix2 os2 st2 mo2 lo2 tr2 sn nn fi9 wa9 T hL (lo_k1_3 hL _ t_B) t_pr hI22.1 e21 (by omega) (by omega) (by omega) (by omega) eP (by omega) (by omega) eI9 (by omega) hRS2.2.1 hPT.2.2.2.2.2.2.2.2.2) ⟨(callB_of 0 (tb_one (wd_716 hB _)) tb_good1 rfl rfl rfl (wd_79 hB _) (wd_713 hB _) (by decide +kernel) ⟨Nat.le_of_ble_eq_true rfl, Nat.le_of_ble_eq_true rfl⟩), (wd_714 hB _), (wd_715 hB _)⟩ ⟨pe_bl, pg_recv (ci := 8) hK hP (lo_in hL (lo_k1_3 hL _ t_B) (by decide)) e21 rfl, pe_pre hB hK hP hD⟩ rfl rfl hl.1 rfl (lv_room (Nat.le_of_ble_eq_true rfl)) d_B_run_70 ⟨Nat.le_of_ble_eq_true rfl, Nat.le_of_ble_eq_true rfl⟩) hS (fun r27 f28 H locs hq29 hP hD hS => ?_)
                  obtain ⟨bo_30, i0_31, i1_32, rfl⟩ := hq29
                  refine lv_if_eq (tgt := 89) hx hb d_B_run_73 (by decide) (fun b33 => ?_) (fun b33 => ?_)
                  · skip
                    have hr34 : r27 = nI 0 := b33
                    have hi35 := i0_31 hr34
                    have hz9 : prun L (j9 - i) s8 = (0, s8) := by
                      rcases (show tr2 ≠ 0 ∨ sn ≤ ix2 ∨ (st2 < 3000 ∧ T 5 ix2 = 1 ∧ wa9 = 0) by assumption) with z9 | z9 | z9
                      · exact pr_stop ((RNS_end hPT hRS2).mpr (Or.inl z9))
                      · exact pr_stop ((RNS_end hPT hRS2).mpr (Or.inr z9))
                      · rcases Nat.lt_or_ge ix2 sn with z8 | z8
                        · exact pr_wait (by omega) ⟨by rw [hpc8]; exact (PT_9 hPT z8).mp z9.2.1, List.eq_nil_of_length_eq_zero (by omega)⟩
                        · exact pr_stop ((RNS_end hPT hRS2).mpr (Or.inr z8))
                    have hf9 : (prun L j9 s9).2 = s8 := hp1.trans (by rw [hz9])
                    have hf8 : tr2 = 0 → (prun L j9 s9).1 = i := fun z9 => (hp2 (hs8.trans z9)).trans (by rw [hz9]; rfl)
                    have hnj9 : sn ≤ ix2 ∨ nj g f17 pr ix2 := by
                      rcases Nat.lt_or_ge ix2 sn with z8 | z8
                      · obtain ⟨la7, e7, -⟩ := hRS2.2.1 ix2 (by omega)
                        exact Or.inr ⟨_, _, _, la7, _, e7, hRS2.2.2.2.2.2.2.2.2.2.2.2.2 z8⟩
                      · exact Or.inl z8
                    refine lv_aload_n hx hb d_B_run_89 rfl (lv_at hl 1 rfl) ?_
                    refine pf_get (v := .ref (g.lk B 3)) (C := "BigRunner") (T := FT0) (N := 5) hx hb (hw0 hB _) (fun _ h9 => h9) hown hK hP (lo_in hL t_B (by decide)) eB rfl 3 (by decide) (wd_381 hB _) rfl d_B_run_90 ?_
                    refine pf_get (v := .int (nI tr2)) (C := "BigRunner$Runner") (T := FT8) (N := 13) hx hb (hw8 hB _) (fun _ h9 => h9) hown hK hP (lo_in hL (lo_k1_3 hL _ t_B) (by decide)) e21 rfl 12 (by decide) (wd_350 hB _) rfl d_B_run_93 ?_
                    refine lv_iconst (v := nI 1) hx hb d_B_run_96 (by decide) ?_
                    refine lv_icmp_ne (tgt := 110) hx hb d_B_run_97 (by decide) (fun b36 => ?_) (fun b36 => ?_)
                    · skip
                      replace b36 := mt (nI_eq (a := tr2) (b := 1) (by omega) (by omega)).mpr b36
                      refine lv_aload_n hx hb d_B_run_110 rfl (lv_at hl 1 rfl) ?_
                      refine pf_get (v := .ref (g.lk B 3)) (C := "BigRunner") (T := FT0) (N := 5) hx hb (hw0 hB _) (fun _ h9 => h9) hown hK hP (lo_in hL t_B (by decide)) eB rfl 3 (by decide) (wd_381 hB _) rfl d_B_run_111 ?_
                      refine pf_get (v := .int (nI tr2)) (C := "BigRunner$Runner") (T := FT8) (N := 13) hx hb (hw8 hB _) (fun _ h9 => h9) hown hK hP (lo_in hL (lo_k1_3 hL _ t_B) (by decide)) e21 rfl 12 (by decide) (wd_350 hB _) rfl d_B_run_114 ?_
                      refine lv_if_eq (tgt := 130) hx hb d_B_run_117 (by decide) (fun b37 => ?_) (fun b37 => ?_)
                      · skip
                        replace b37 := (nI_eq (a := tr2) (b := 0) (by omega) (by omega)).mp b37
                        refine lv_iload_n hx hb d_B_run_130 rfl (lv_at hl 0 rfl) ?_
                        have hA9 : prunA L k9.toInt s9 = (0, i, s8) := (prA_0 hne9 hkj9 (by rw [hkn9, hf9, hs8]; omega)).trans (by rw [hkn9, hf9, hf8 (by omega)])
                        exact pt_iret hx hb hr hlocks hK hP hD hS d_B_run_131 ⟨_, rfl, ⟨(by rw [hA9]; exact ⟨rfl, (by omega : i ≤ 200), rfl⟩), (by rw [hA9]; exact ⟨(nI 1), (tx), ln0, ax0, PR, pr, ix2, os2, st2, mo2, lo2, tr2, sn, nn, t_PR, t_pr, eB, by omega, (Or.inr rfl), eT, cT, eR, by omega, by omega, e21, by omega, by omega, by omega, by omega, hPR, eP, by omega, by omega, SG_un hSG hL t_pr hsn hu (by decide), hnj9, hi1.un hL t_PR hu (by decide), hi2.un hL t_pr hu (by decide), ⟨rfl, T, nb, en, hPT, hRS2⟩⟩), hI22, hu⟩⟩
                      · skip
                        replace b37 := mt (nI_eq (a := tr2) (b := 0) (by omega) (by omega)).mpr b37
                        have hA9 : prunA L k9.toInt s9 = (4, 0, s8) := (prA_t hne9 hkj9 (by rw [hkn9, hf9]; rw [hs8]; omega)).trans (by rw [hkn9, hf9, if_neg (by rw [hs8]; omega)])
                        exact pt_throw (own := "BigRunner") (cls := "java/lang/UnsupportedOperationException") (text := "too many digits or steps") (names := ["java/lang/RuntimeException", "java/lang/Exception"]) hx hb (hl.1.trans hml.symm) hlocks hno hLt hown (by decide +kernel) (by decide +kernel) hB hTZ (fun U hB hH => ⟨(wd_864 hB _), (wd_865 hB _), (wd_93 hB _), (wd_873 hB _), oa_0 hB hH _⟩) hK hP hD hS d_B_run_120 d_B_run_123 d_B_run_124 d_B_run_126 d_B_run_129 (Nat.le_of_ble_eq_true rfl) (Nat.le_of_ble_eq_true rfl) (Nat.le_of_ble_eq_true rfl) (Nat.le_of_ble_eq_true rfl) ⟨(by rw [hA9]; exact ⟨(show (4 : Nat) ≠ 0 by decide), rfl⟩), (by rw [hA9]; exact ⟨(nI 1), (tx), ln0, ax0, PR, pr, ix2, os2, st2, mo2, lo2, tr2, sn, nn, t_PR, t_pr, eB, by omega, (Or.inr rfl), eT, cT, eR, by omega, by omega, e21, by omega, by omega, by omega, by omega, hPR, eP, by omega, by omega, SG_un hSG hL t_pr hsn hu (by decide), hnj9, hi1.un hL t_PR hu (by decide), hi2.un hL t_pr hu (by decide), ⟨rfl, T, nb, en, hPT, hRS2⟩⟩), hI22, hu⟩
                    · skip
                      replace b36 := (nI_eq (a := tr2) (b := 1) (by omega) (by omega)).mp b36
                      have hA9 : prunA L k9.toInt s9 = (3, 0, s8) := (prA_t hne9 hkj9 (by rw [hkn9, hf9]; rw [hs8]; omega)).trans (by rw [hkn9, hf9, if_pos (by rw [hs8]; omega)])
                      exact pt_throw (own := "BigRunner") (cls := "java/lang/ArithmeticException") (text := "a division by 0") (names := ["java/lang/RuntimeException", "java/lang/Exception"]) hx hb (hl.1.trans hml.symm) hlocks hno hLt hown (by decide +kernel) (by decide +kernel) hB hTZ (fun U hB hH => ⟨(wd_848 hB _), (wd_849 hB _), (wd_92 hB _), (wd_857 hB _), oa_4 hB hH _⟩) hK hP hD hS d_B_run_100 d_B_run_103 d_B_run_104 d_B_run_106 d_B_run_109 (Nat.le_of_ble_eq_true rfl) (Nat.le_of_ble_eq_true rfl) (Nat.le_of_ble_eq_true rfl) (Nat.le_of_ble_eq_true rfl) ⟨(by rw [hA9]; exact ⟨(show (3 : Nat) ≠ 0 by decide), rfl⟩), (by rw [hA9]; exact ⟨(nI 1), (tx), ln0, ax0, PR, pr, ix2, os2, st2, mo2, lo2, tr2, sn, nn, t_PR, t_pr, eB, by omega, (Or.inr rfl), eT, cT, eR, by omega, by omega, e21, by omega, by omega, by omega, by omega, hPR, eP, by omega, by omega, SG_un hSG hL t_pr hsn hu (by decide), hnj9, hi1.un hL t_PR hu (by decide), hi2.un hL t_pr hu (by decide), ⟨rfl, T, nb, en, hPT, hRS2⟩⟩), hI22, hu⟩
                  · skip
                    have hr38 : r27 = nI 1 := (bl_1 bo_30 b33)
                    have hi39 := i1_32 hr38
                    have htr8 : s8.tr = 0 := by rw [hs8]; omega
                    have hin8 : ix2 < sn := by omega
                    have hww8 : st2 < 3000 → T 5 ix2 = 1 → s8.ins ≠ [] := fun z1 z2 z3 => by rw [z3] at hwl9; have : wa9 = 0 := hwl9; omega
                    have hgo9 := pr_go (L := L) (s := s8) (n := j9 - (i + 1)) (fun z9 => by have := (RNS_end hPT hRS2).mp z9; omega) (fun z1 z2 => hww8 (by omega) ((PT_9 hPT hin8).mpr (by rw [← hpc8]; exact z2.1)) z2.2)
                    refine lv_aload_n hx hb d_B_run_76 rfl (lv_at hl 1 rfl) ?_
                    refine pf_get (v := .ref (g.lk B 3)) (C := "BigRunner") (T := FT0) (N := 5) hx hb (hw0 hB _) (fun _ h9 => h9) hown hK hP (lo_in hL t_B (by decide)) eB rfl 3 (by decide) (wd_381 hB _) rfl d_B_run_77 ?_
                    refine pcc_v (va_runV (C := "BigRunner$Runner") (As := []) (rest := []) ⟨hx, hb, hml, hown, tb_nil⟩ (v_makeStep l g H.size f17 ((g.lk B 3)) pr ix2 os2 st2 mo2 lo2 tr2 sn nn T nb en L s8 hL (lo_k1_3 hL _ t_B) t_pr hI22 e21 (by omega) (by omega) (by omega) (by omega) eP (by omega) (by omega) hPT hRS2 hin8 (by omega) hww8) ⟨(callB_of 0 (tb_one (wd_721 hB _)) tb_good1 rfl rfl rfl (wd_79 hB _) (wd_718 hB _) (by decide +kernel) ⟨Nat.le_of_ble_eq_true rfl, Nat.le_of_ble_eq_true rfl⟩), (wd_719 hB _), (wd_720 hB _)⟩ ⟨pe_bl, pg_recv (ci := 8) hK hP (lo_in hL (lo_k1_3 hL _ t_B) (by decide)) e21 rfl, pe_pre hB hK hP hD⟩ rfl rfl hl.1 rfl (lv_room (Nat.le_of_ble_eq_true rfl)) d_B_run_80 ⟨Nat.le_of_ble_eq_true rfl, Nat.le_of_ble_eq_true rfl⟩) hS (fun f41 H locs hq42 hP hD hS => ?_)
                    obtain ⟨x1_43, hI1_44, hu1_45⟩ := hq42
                    have hu := hu.tr hu1_45 (by decide)
                    have hv23 := hv23.tr hu1_45 (by decide)
                    have eB := hu1_45.at t_B (by decide) eB
                    have eT := hu1_45.at (lo_k1_0 hL _ t_B) (by decide) eT
                    have eR := hu1_45.at (lo_k1_2 hL _ t_B) (by decide) eR
                    have eP := hu1_45.at t_pr (by decide) eP
                    obtain ⟨ix1_46, os1_47, st1_48, mo1_49, lo1_50, tr1_51, c52, c53, c54, c55, c56, e57⟩ := x1_43
                    refine lv_iinc (k := 0) (v := nI (i + 1)) (lv' := [(2, .int (nI (i + 1))), (0, .ref B), (1, .int (nI j9))]) hx hb d_B_run_83 hl rfl (by rw [nI_succ]; rfl) (by decide) rfl (fun ls hl => ?_)
                    refine lv_goto (tgt := 61) hx hb d_B_run_86 (by decide) ?_
                    exact ih19 (i + 1) ix1_46 os1_47 st1_48 mo1_49 lo1_50 tr1_51 ((stp3 L s8)) f41 H locs ls (by omega) (by omega) (by omega) (by omega) (by omega) (by omega) c56 (hp1.trans (by rw [show j9 - i = (j9 - (i + 1)) + 1 by omega]; exact hgo9.1)) (fun z9 => (hp2 htr8).trans (by rw [show j9 - i = (j9 - (i + 1)) + 1 by omega, hgo9.2 z9]; omega)) e57 hI1_44 hv23 hl hP hD hS
            exact lp16 (j9 + 1) 0 ix os st mo lo tr s9 f H locs ls (by omega) (by omega) (by omega) (by omega) (by omega) (by omega) hRS (by rw [Nat.sub_zero]) (fun _ => by rw [Nat.sub_zero, Nat.zero_add]) eX hI un.rf hl hP hD hS
          · skip
            have hA9 : prunA L k9.toInt s9 = (2, 0, s9) := prA_2 hne9 (Or.inr (by have z9 := Int32.not_le.mp b15; rw [Int32.lt_iff_toInt_lt, nI_toInt (by decide)] at z9; exact z9))
            exact pt_throw (own := "BigRunner") (cls := "java/lang/IllegalArgumentException") (text := "not 1 .. 200 steps") (names := ["java/lang/RuntimeException", "java/lang/Exception"]) hx hb (hl.1.trans hml.symm) hlocks hno hLt hown (by decide +kernel) (by decide +kernel) hB hTZ (fun U hB hH => ⟨(wd_521 hB _), (wd_522 hB _), (wd_87 hB _), (wd_712 hB _), oa_2 hB hH _⟩) hK hP hD hS d_B_run_49 d_B_run_52 d_B_run_53 d_B_run_55 d_B_run_58 (Nat.le_of_ble_eq_true rfl) (Nat.le_of_ble_eq_true rfl) (Nat.le_of_ble_eq_true rfl) (Nat.le_of_ble_eq_true rfl) ⟨(by rw [hA9]; exact ⟨(show (2 : Nat) ≠ 0 by decide), rfl⟩), (by rw [hA9]; exact ⟨(nI 1), (tx), ln0, ax0, PR, pr, ix, os, st, mo, lo, tr, sn, nn, t_PR, t_pr, eB, by omega, (Or.inr rfl), eT, cT, eR, by omega, by omega, eX, by omega, by omega, by omega, by omega, hPR, eP, by omega, by omega, SG_un hSG hL t_pr hsn hu (by decide), hnj, hi1.un hL t_PR hu (by decide), hi2.un hL t_pr hu (by decide), ⟨rfl, T, nb, en, hPT, hRS⟩⟩), hI, hu⟩
      · skip
        replace b13 := mt (nI_eq (a := tr) (b := 0) (by omega) (by omega)).mpr b13
        have hA9 : prunA L k9.toInt s9 = (1, 0, s9) := prA_1 ((RNS_end hPT hRS).mpr (by omega))
        exact pt_throw (own := "BigRunner") (cls := "java/lang/IllegalStateException") (text := "no program is under way") (names := ["java/lang/RuntimeException", "java/lang/Exception"]) hx hb (hl.1.trans hml.symm) hlocks hno hLt hown (by decide +kernel) (by decide +kernel) hB hTZ (fun U hB hH => ⟨(wd_696 hB _), (wd_697 hB _), (wd_89 hB _), (wd_705 hB _), oa_3 hB hH _⟩) hK hP hD hS d_B_run_27 d_B_run_30 d_B_run_31 d_B_run_33 d_B_run_36 (Nat.le_of_ble_eq_true rfl) (Nat.le_of_ble_eq_true rfl) (Nat.le_of_ble_eq_true rfl) (Nat.le_of_ble_eq_true rfl) ⟨(by rw [hA9]; exact ⟨(show (1 : Nat) ≠ 0 by decide), rfl⟩), (by rw [hA9]; exact ⟨(nI 1), (tx), ln0, ax0, PR, pr, ix, os, st, mo, lo, tr, sn, nn, t_PR, t_pr, eB, by omega, (Or.inr rfl), eT, cT, eR, by omega, by omega, eX, by omega, by omega, by omega, by omega, hPR, eP, by omega, by omega, SG_un hSG hL t_pr hsn hu (by decide), hnj, hi1.un hL t_PR hu (by decide), hi2.un hL t_pr hu (by decide), ⟨rfl, T, nb, en, hPT, hRS⟩⟩), hI, hu⟩

