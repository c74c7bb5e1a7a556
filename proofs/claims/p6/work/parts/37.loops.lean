set_option maxHeartbeats 4000000 in
set_option maxRecDepth 100000 in
theorem c_readExpr (l : Launch) (g : Lay) (sz : Nat) (f : Nat → va_E) (Rd : Nat) (tl : Nat) (ln : Nat) (ax : Nat) (P : Nat) (hT : Nat → Int32) (sn : Nat) (nn : Nat) (d : Nat) (hL : LO g) (t_Rd : g.tg Rd = 8) (t_tl : g.tg tl = 20) (t_P : g.tg P = 7) (hI : IV g f) (eR : f Rd = .inr (7, [.ref tl, .int (nI ln), .int (nI ax), .ref P])) (eT : f tl = .inl (g.ac tl, 72, .inl hT)) (cT : ∀ i, i < 72 → vp_nar .char (hT i) = hT i) (hln : ln ≤ 72) (hax : ax ≤ ln) (eP : f P = .inr (6, [.ref (g.lk P 0), .int (nI sn), .ref (g.lk P 2), .int (nI nn), .ref (g.lk P 4), .ref (g.lk P 5)])) (hsn : sn ≤ 36) (hnn : nn ≤ 72) (hna : nn ≤ ax) (hd : d ≤ 11) : Met l ⟨"BigRunner$Reader", "readExpr", "(I)I"⟩ [Cond.code ⟨"BigRunner$Reader", "readExpr", "(I)I"⟩ prog_8_method_11_code 4 (some .int)] ({ frames := 403, cells := 0, slots := 0, locals := 12200 }) (va_Pc [.ref Rd, .int (nI d)] (pc_in g sz f)) (va_Qi (fun r f1 => ((∃ (a n1 j : Nat), a ≤ ln ∧ n1 ≤ 72 ∧ j < n1 ∧ n1 + ax ≤ nn + a ∧ ax < a ∧ nn ≤ n1 ∧ px_e (tk hT ln) 400 1 d ax = some a ∧ f1 Rd = .inr (7, [.ref tl, .int (nI ln), .int (nI a), .ref P]) ∧ f1 P = .inr (6, [.ref (g.lk P 0), .int (nI sn), .ref (g.lk P 2), .int (nI n1), .ref (g.lk P 4), .ref (g.lk P 5)]) ∧ r = nI j) ∨ (∃ (a n1 : Nat), a ≤ ln ∧ n1 ≤ 72 ∧ px_e (tk hT ln) 400 1 d ax = none ∧ f1 Rd = .inr (7, [.ref tl, .int (nI ln), .int (nI a), .ref P]) ∧ f1 P = .inr (6, [.ref (g.lk P 0), .int (nI sn), .ref (g.lk P 2), .int (nI n1), .ref (g.lk P 4), .ref (g.lk P 5)]) ∧ r = (-1))) ∧ (IV g f1) ∧ (un [6, 7, 8] g f f1)) (pc_out g sz) (pc_A g sz)) 0 0 (pc_A g sz) := (rd_all l 400 400 (Nat.le_refl 400)).2.1 g sz f Rd tl ln ax P hT sn nn d hL t_Rd t_tl t_P hI eR eT cT hln hax eP hsn hnn hna hd (by omega)
set_option maxHeartbeats 4000000 in
set_option maxRecDepth 100000 in
theorem c_readExprOf (l : Launch) (g : Lay) (sz : Nat) (f : Nat → va_E) (Rd : Nat) (tl : Nat) (ln : Nat) (ax : Nat) (P : Nat) (hT : Nat → Int32) (sn : Nat) (nn : Nat) (si : Nat) (kd : Nat) (nm : Nat) (fn : Nat) (la : Int32) (ta : Nat) (d : Nat) (hL : LO g) (t_Rd : g.tg Rd = 8) (t_tl : g.tg tl = 20) (t_P : g.tg P = 7) (hI : IV g f) (eR : f Rd = .inr (7, [.ref tl, .int (nI ln), .int (nI ax), .ref P])) (eT : f tl = .inl (g.ac tl, 72, .inl hT)) (cT : ∀ i, i < 72 → vp_nar .char (hT i) = hT i) (hln : ln ≤ 72) (hax : ax ≤ ln) (eP : f P = .inr (6, [.ref (g.lk P 0), .int (nI sn), .ref (g.lk P 2), .int (nI nn), .ref (g.lk P 4), .ref (g.lk P 5)])) (hsn : sn ≤ 36) (hnn : nn ≤ 72) (hsi : si < 36) (eS : f (g.lk (g.lk P 0) si) = .inr (9, [.int (nI kd), .int (nI nm), .int (nI fn), .int la, .int (nI ta)])) (hkd : kd ≤ 5) (hnm : nm < 10) (hfn : fn ≤ 72) (hla : la = -1 ∨ ∃ j, j < 72 ∧ la = nI j) (hta : ta ≤ 36) (hna : nn ≤ ax) (hd : d ≤ 11) : Met l ⟨"BigRunner$Reader", "readExprOf", "(II)Z"⟩ [Cond.code ⟨"BigRunner$Reader", "readExprOf", "(II)Z"⟩ prog_8_method_10_code 5 (some .boolean)] ({ frames := 404, cells := 0, slots := 0, locals := 12223 }) (va_Pc [.ref Rd, .int (nI si), .int (nI d)] (pc_in g sz f)) (va_Qi (fun r f1 => ((∃ (a n1 j : Nat), a ≤ ln ∧ n1 ≤ 72 ∧ j < 72 ∧ n1 + ax ≤ nn + a ∧ ax < a ∧ nn ≤ n1 ∧ px_e (tk hT ln) 400 1 d ax = some a ∧ f1 Rd = .inr (7, [.ref tl, .int (nI ln), .int (nI a), .ref P]) ∧ f1 P = .inr (6, [.ref (g.lk P 0), .int (nI sn), .ref (g.lk P 2), .int (nI n1), .ref (g.lk P 4), .ref (g.lk P 5)]) ∧ f1 (g.lk (g.lk P 0) si) = .inr (9, [.int (nI kd), .int (nI nm), .int (nI nn), .int (nI j), .int (nI ta)]) ∧ r = nI 1) ∨ (∃ (a n1 : Nat), a ≤ ln ∧ n1 ≤ 72 ∧ px_e (tk hT ln) 400 1 d ax = none ∧ f1 Rd = .inr (7, [.ref tl, .int (nI ln), .int (nI a), .ref P]) ∧ f1 P = .inr (6, [.ref (g.lk P 0), .int (nI sn), .ref (g.lk P 2), .int (nI n1), .ref (g.lk P 4), .ref (g.lk P 5)]) ∧ r = nI 0)) ∧ (∀ i, i < 36 → i ≠ si → f1 (g.lk (g.lk P 0) i) = f (g.lk (g.lk P 0) i)) ∧ (IV g f1) ∧ (un [6, 7, 8, 10] g f f1)) (pc_out g sz) (pc_A g sz)) 0 0 (pc_A g sz) := by
  refine pe_ofW (cc := prog_8_method_10_code) (maxL := 5) (ret := (some .boolean)) (lv := [(0, .ref Rd), (1, .int (nI si)), (2, .int (nI d))]) (by decide) (Nat.le_of_ble_eq_true rfl) rfl ?_
  intro p e s m args below meth c ls hx hb hr hml hlocks hown hB hP hK hD hsz hS hl
  subst hsz
  have hu : un [6, 7, 8, 10] g f f := un.rf
  have hfr : ∀ i, i < 36 → i ≠ si → f (g.lk (g.lk P 0) i) = f (g.lk (g.lk P 0) i) := fun _ _ _ => rfl
  refine lv_iload_n hx hb d_NReader_readExprOf_0 rfl (lv_at hl 1 rfl) ?_
  refine lv_iconst (v := (-1)) hx hb d_NReader_readExprOf_1 (by decide) ?_
  refine lv_icmp_ne (tgt := 7) hx hb d_NReader_readExprOf_2 (by decide) (fun b1 => ?_) (fun b1 => ?_)
  · skip
    refine lv_aload_n hx hb d_NReader_readExprOf_7 rfl (lv_at hl 0 rfl) ?_
    refine pf_get (v := .ref P) (C := "BigRunner$Reader") (T := FT7) (N := 4) hx hb (hw7 hB _) (fun _ h9 => h9) hown hK hP (lo_in hL t_Rd (by decide)) eR rfl 3 (by decide) (wd_273 hB _) rfl d_NReader_readExprOf_8 ?_
    refine pf_get (v := .int (nI nn)) (C := "BigRunner$Program") (T := FT6) (N := 6) hx hb (hw6 hB _) (fun _ h9 => h9) hown hK hP (lo_in hL t_P (by decide)) eP rfl 3 (by decide) (wd_252 hB _) rfl d_NReader_readExprOf_11 ?_
    refine lv_istore_n (lv' := [(3, .int (nI nn)), (0, .ref Rd), (1, .int (nI si)), (2, .int (nI d))]) hx hb d_NReader_readExprOf_14 rfl hl (by decide) rfl (fun ls hl => ?_)
    refine lv_aload_n hx hb d_NReader_readExprOf_15 rfl (lv_at hl 1 rfl) ?_
    refine lv_iload_n hx hb d_NReader_readExprOf_16 rfl (lv_at hl 3 rfl) ?_
    refine pcc_i (va_runV (C := "BigRunner$Reader") (As := [.int (nI d)]) (rest := []) ⟨hx, hb, hml, hown, tb_nil⟩ (c_readExpr l g s.heap.size f Rd tl ln ax P hT sn nn d hL t_Rd t_tl t_P hI eR eT cT (by omega) (by omega) eP (by omega) (by omega) (by omega) (by omega)) ⟨(callB_of 1 (tb_one (wd_492 hB _)) tb_good1 rfl rfl rfl (wd_73 hB _) (wd_489 hB _) (by decide +kernel) ⟨Nat.le_of_ble_eq_true rfl, Nat.le_of_ble_eq_true rfl⟩), (wd_491 hB _), (wd_9 hB _)⟩ ⟨pe_bl, pg_recv (ci := 7) hK hP (lo_in hL t_Rd (by decide)) eR rfl, pe_pre hB hK hP hD⟩ rfl rfl hl.1 rfl (lv_room (Nat.le_of_ble_eq_true rfl)) d_NReader_readExprOf_17 ⟨Nat.le_of_ble_eq_true rfl, Nat.le_of_ble_eq_true rfl⟩) hS (fun r2 f3 H locs hq4 hP hD hS => ?_)
    obtain ⟨rs_5, hI1_6, hu1_7⟩ := hq4
    have hu := hu.tr hu1_7 (by decide)
    have eT := hu1_7.at t_tl (by decide) eT
    have eS := hu1_7.at (lo_e24 hL _ (lo_k7_0 hL _ t_P) _ (by omega)) (by decide) eS
    have hfr : ∀ i, i < 36 → i ≠ si → f3 (g.lk (g.lk P 0) i) = f (g.lk (g.lk P 0) i) := fun i h1 h2 => (hu1_7 _ (by rw [lo_e24 hL _ (lo_k7_0 hL _ t_P) i h1]; decide)).trans (hfr i h1 h2)
    rcases rs_5 with ⟨a8, n9, j10, c14, c15, c16, c17, c18, c19, hp13, e11, e12, rfl⟩ | ⟨a8, n9, c14, c15, hp13, e11, e12, rfl⟩
    · skip
      refine lv_istore (lv' := [(4, .int (nI j10)), (3, .int (nI nn)), (0, .ref Rd), (1, .int (nI si)), (2, .int (nI d))]) hx hb d_NReader_readExprOf_20 hl (by decide) rfl (fun ls hl => ?_)
      refine lv_aload_n hx hb d_NReader_readExprOf_22 rfl (lv_at hl 2 rfl) ?_
      refine pf_get (v := .ref P) (C := "BigRunner$Reader") (T := FT7) (N := 4) hx hb (hw7 hB _) (fun _ h9 => h9) hown hK hP (lo_in hL t_Rd (by decide)) e11 rfl 3 (by decide) (wd_273 hB _) rfl d_NReader_readExprOf_23 ?_
      refine pf_get (v := .ref (g.lk P 0)) (C := "BigRunner$Program") (T := FT6) (N := 6) hx hb (hw6 hB _) (fun _ h9 => h9) hown hK hP (lo_in hL t_P (by decide)) e12 rfl 0 (by decide) (wd_244 hB _) rfl d_NReader_readExprOf_26 ?_
      refine lv_iload_n hx hb d_NReader_readExprOf_29 rfl (lv_at hl 3 rfl) ?_
      have e20 := oc_24.of (lo_k7_0 hL _ t_P) (hI1_6.1 (g.lk P 0))
      refine pf_aald (i := si) hx hb hK hP (lo_in hL (lo_k7_0 hL _ t_P) (by decide)) e20 (lo_t24 hL _ (lo_k7_0 hL _ t_P)) (by omega) (by decide) d_NReader_readExprOf_30 ?_
      refine lv_iload_n hx hb d_NReader_readExprOf_31 rfl (lv_at hl 1 rfl) ?_
      refine pf_put (v := .int (nI nn)) (ty := .int) (fs' := [.int (nI kd), .int (nI nm), .int (nI nn), .int la, .int (nI ta)]) (C := "BigRunner$Statement") (T := FT9) (N := 5) hx hb (hw9 hB _) (fun _ h9 => h9) TY9 ok9 nm9 hown hK hP hD hS (lo_in hL (lo_e24 hL _ (lo_k7_0 hL _ t_P) _ (by omega)) (by decide)) eS rfl 2 (by decide) (wd_153 hB _) rfl (by decide +kernel) rfl rfl (Nat.le_of_ble_eq_true rfl) rfl d_NReader_readExprOf_32 (fun f21 H locs e22 k23 hP hD hS => ?_)
      have eT := (k23 tl (tg_ne t_tl (lo_e24 hL _ (lo_k7_0 hL _ t_P) _ (by omega)) (by decide))).trans eT
      have e11 := (k23 Rd (tg_ne t_Rd (lo_e24 hL _ (lo_k7_0 hL _ t_P) _ (by omega)) (by decide))).trans e11
      have e12 := (k23 P (tg_ne t_P (lo_e24 hL _ (lo_k7_0 hL _ t_P) _ (by omega)) (by decide))).trans e12
      have e20 := (k23 (g.lk P 0) (tg_ne (lo_k7_0 hL _ t_P) (lo_e24 hL _ (lo_k7_0 hL _ t_P) _ (by omega)) (by decide))).trans e20
      have hu := hu.st k23 (lo_e24 hL _ (lo_k7_0 hL _ t_P) _ (by omega)) (by decide)
      have hfr : ∀ i, i < 36 → i ≠ si → f21 (g.lk (g.lk P 0) i) = f (g.lk (g.lk P 0) i) := fun i h1 h2 => (k23 _ (fun z => absurd (lo_inj24 hL _ _ _ _ (lo_k7_0 hL _ t_P) (lo_k7_0 hL _ t_P) h1 (by omega) z).2 (by omega))).trans (hfr i h1 h2)
      have hk24 : ∀ b, b ≠ (g.lk (g.lk P 0) si) → f21 b = f3 b := k23
      refine lv_aload_n hx hb d_NReader_readExprOf_35 rfl (lv_at hl 2 rfl) ?_
      refine pf_get (v := .ref P) (C := "BigRunner$Reader") (T := FT7) (N := 4) hx hb (hw7 hB _) (fun _ h9 => h9) hown hK hP (lo_in hL t_Rd (by decide)) e11 rfl 3 (by decide) (wd_273 hB _) rfl d_NReader_readExprOf_36 ?_
      refine pf_get (v := .ref (g.lk P 0)) (C := "BigRunner$Program") (T := FT6) (N := 6) hx hb (hw6 hB _) (fun _ h9 => h9) hown hK hP (lo_in hL t_P (by decide)) e12 rfl 0 (by decide) (wd_244 hB _) rfl d_NReader_readExprOf_39 ?_
      refine lv_iload_n hx hb d_NReader_readExprOf_42 rfl (lv_at hl 3 rfl) ?_
      refine pf_aald (i := si) hx hb hK hP (lo_in hL (lo_k7_0 hL _ t_P) (by decide)) e20 (lo_t24 hL _ (lo_k7_0 hL _ t_P)) (by omega) (by decide) d_NReader_readExprOf_43 ?_
      refine lv_iload hx hb d_NReader_readExprOf_44 (lv_at hl 0 rfl) ?_
      refine pf_put (v := .int (nI j10)) (ty := .int) (fs' := [.int (nI kd), .int (nI nm), .int (nI nn), .int (nI j10), .int (nI ta)]) (C := "BigRunner$Statement") (T := FT9) (N := 5) hx hb (hw9 hB _) (fun _ h9 => h9) TY9 ok9 nm9 hown hK hP hD hS (lo_in hL (lo_e24 hL _ (lo_k7_0 hL _ t_P) _ (by omega)) (by decide)) e22 rfl 3 (by decide) (wd_158 hB _) rfl (by decide +kernel) rfl rfl (Nat.le_of_ble_eq_true rfl) rfl d_NReader_readExprOf_46 (fun f25 H locs e26 k27 hP hD hS => ?_)
      have eT := (k27 tl (tg_ne t_tl (lo_e24 hL _ (lo_k7_0 hL _ t_P) _ (by omega)) (by decide))).trans eT
      have e11 := (k27 Rd (tg_ne t_Rd (lo_e24 hL _ (lo_k7_0 hL _ t_P) _ (by omega)) (by decide))).trans e11
      have e12 := (k27 P (tg_ne t_P (lo_e24 hL _ (lo_k7_0 hL _ t_P) _ (by omega)) (by decide))).trans e12
      have e20 := (k27 (g.lk P 0) (tg_ne (lo_k7_0 hL _ t_P) (lo_e24 hL _ (lo_k7_0 hL _ t_P) _ (by omega)) (by decide))).trans e20
      have hu := hu.st k27 (lo_e24 hL _ (lo_k7_0 hL _ t_P) _ (by omega)) (by decide)
      have hfr : ∀ i, i < 36 → i ≠ si → f25 (g.lk (g.lk P 0) i) = f (g.lk (g.lk P 0) i) := fun i h1 h2 => (k27 _ (fun z => absurd (lo_inj24 hL _ _ _ _ (lo_k7_0 hL _ t_P) (lo_k7_0 hL _ t_P) h1 (by omega) z).2 (by omega))).trans (hfr i h1 h2)
      have hk28 : ∀ b, b ≠ (g.lk (g.lk P 0) si) → f25 b = f3 b := fun b q0 => (k27 b q0).trans (hk24 b q0)
      refine lv_iload hx hb d_NReader_readExprOf_49 (lv_at hl 0 rfl) ?_
      refine lv_iconst (v := (-1)) hx hb d_NReader_readExprOf_51 (by decide) ?_
      refine lv_icmp_eq (tgt := 59) hx hb d_NReader_readExprOf_52 (by decide) (fun b29 => ?_) (fun b29 => ?_)
      · skip
        exact absurd b29 (nI_n1 (j := j10) (by omega))
      · skip
        refine lv_iconst (v := nI 1) hx hb d_NReader_readExprOf_55 (by decide) ?_
        refine lv_goto (tgt := 60) hx hb d_NReader_readExprOf_56 (by decide) ?_
        have hI30 := iv_1 hI1_6 hL (lo_e24 hL _ (lo_k7_0 hL _ t_P) _ (by omega)) (by decide) hk28 (oc_10.mk (lo_e24 hL _ (lo_k7_0 hL _ t_P) _ (by omega)) (⟨kd, nm, nn, ((nI j10)), ta, e26, (by omega), (by omega), (by omega), (by first | exact Or.inl rfl | exact Or.inr ⟨_, by omega, rfl⟩ | assumption), (by omega)⟩))
        exact pe_zret hx hb hr hlocks hK hP hD hS d_NReader_readExprOf_60 rfl ⟨(Or.inl ⟨a8, n9, j10, by omega, by omega, by omega, by omega, by omega, by omega, hp13, e11, e12, e26, rfl⟩), hfr, hI30, hu⟩
    · skip
      refine lv_istore (lv' := [(4, .int (-1)), (3, .int (nI nn)), (0, .ref Rd), (1, .int (nI si)), (2, .int (nI d))]) hx hb d_NReader_readExprOf_20 hl (by decide) rfl (fun ls hl => ?_)
      refine lv_aload_n hx hb d_NReader_readExprOf_22 rfl (lv_at hl 2 rfl) ?_
      refine pf_get (v := .ref P) (C := "BigRunner$Reader") (T := FT7) (N := 4) hx hb (hw7 hB _) (fun _ h9 => h9) hown hK hP (lo_in hL t_Rd (by decide)) e11 rfl 3 (by decide) (wd_273 hB _) rfl d_NReader_readExprOf_23 ?_
      refine pf_get (v := .ref (g.lk P 0)) (C := "BigRunner$Program") (T := FT6) (N := 6) hx hb (hw6 hB _) (fun _ h9 => h9) hown hK hP (lo_in hL t_P (by decide)) e12 rfl 0 (by decide) (wd_244 hB _) rfl d_NReader_readExprOf_26 ?_
      refine lv_iload_n hx hb d_NReader_readExprOf_29 rfl (lv_at hl 3 rfl) ?_
      have e31 := oc_24.of (lo_k7_0 hL _ t_P) (hI1_6.1 (g.lk P 0))
      refine pf_aald (i := si) hx hb hK hP (lo_in hL (lo_k7_0 hL _ t_P) (by decide)) e31 (lo_t24 hL _ (lo_k7_0 hL _ t_P)) (by omega) (by decide) d_NReader_readExprOf_30 ?_
      refine lv_iload_n hx hb d_NReader_readExprOf_31 rfl (lv_at hl 1 rfl) ?_
      refine pf_put (v := .int (nI nn)) (ty := .int) (fs' := [.int (nI kd), .int (nI nm), .int (nI nn), .int la, .int (nI ta)]) (C := "BigRunner$Statement") (T := FT9) (N := 5) hx hb (hw9 hB _) (fun _ h9 => h9) TY9 ok9 nm9 hown hK hP hD hS (lo_in hL (lo_e24 hL _ (lo_k7_0 hL _ t_P) _ (by omega)) (by decide)) eS rfl 2 (by decide) (wd_153 hB _) rfl (by decide +kernel) rfl rfl (Nat.le_of_ble_eq_true rfl) rfl d_NReader_readExprOf_32 (fun f32 H locs e33 k34 hP hD hS => ?_)
      have eT := (k34 tl (tg_ne t_tl (lo_e24 hL _ (lo_k7_0 hL _ t_P) _ (by omega)) (by decide))).trans eT
      have e11 := (k34 Rd (tg_ne t_Rd (lo_e24 hL _ (lo_k7_0 hL _ t_P) _ (by omega)) (by decide))).trans e11
      have e12 := (k34 P (tg_ne t_P (lo_e24 hL _ (lo_k7_0 hL _ t_P) _ (by omega)) (by decide))).trans e12
      have e31 := (k34 (g.lk P 0) (tg_ne (lo_k7_0 hL _ t_P) (lo_e24 hL _ (lo_k7_0 hL _ t_P) _ (by omega)) (by decide))).trans e31
      have hu := hu.st k34 (lo_e24 hL _ (lo_k7_0 hL _ t_P) _ (by omega)) (by decide)
      have hfr : ∀ i, i < 36 → i ≠ si → f32 (g.lk (g.lk P 0) i) = f (g.lk (g.lk P 0) i) := fun i h1 h2 => (k34 _ (fun z => absurd (lo_inj24 hL _ _ _ _ (lo_k7_0 hL _ t_P) (lo_k7_0 hL _ t_P) h1 (by omega) z).2 (by omega))).trans (hfr i h1 h2)
      have hk35 : ∀ b, b ≠ (g.lk (g.lk P 0) si) → f32 b = f3 b := k34
      refine lv_aload_n hx hb d_NReader_readExprOf_35 rfl (lv_at hl 2 rfl) ?_
      refine pf_get (v := .ref P) (C := "BigRunner$Reader") (T := FT7) (N := 4) hx hb (hw7 hB _) (fun _ h9 => h9) hown hK hP (lo_in hL t_Rd (by decide)) e11 rfl 3 (by decide) (wd_273 hB _) rfl d_NReader_readExprOf_36 ?_
      refine pf_get (v := .ref (g.lk P 0)) (C := "BigRunner$Program") (T := FT6) (N := 6) hx hb (hw6 hB _) (fun _ h9 => h9) hown hK hP (lo_in hL t_P (by decide)) e12 rfl 0 (by decide) (wd_244 hB _) rfl d_NReader_readExprOf_39 ?_
      refine lv_iload_n hx hb d_NReader_readExprOf_42 rfl (lv_at hl 3 rfl) ?_
      refine pf_aald (i := si) hx hb hK hP (lo_in hL (lo_k7_0 hL _ t_P) (by decide)) e31 (lo_t24 hL _ (lo_k7_0 hL _ t_P)) (by omega) (by decide) d_NReader_readExprOf_43 ?_
      refine lv_iload hx hb d_NReader_readExprOf_44 (lv_at hl 0 rfl) ?_
      refine pf_put (v := .int (-1)) (ty := .int) (fs' := [.int (nI kd), .int (nI nm), .int (nI nn), .int (-1), .int (nI ta)]) (C := "BigRunner$Statement") (T := FT9) (N := 5) hx hb (hw9 hB _) (fun _ h9 => h9) TY9 ok9 nm9 hown hK hP hD hS (lo_in hL (lo_e24 hL _ (lo_k7_0 hL _ t_P) _ (by omega)) (by decide)) e33 rfl 3 (by decide) (wd_158 hB _) rfl (by decide +kernel) rfl rfl (Nat.le_of_ble_eq_true rfl) rfl d_NReader_readExprOf_46 (fun f36 H locs e37 k38 hP hD hS => ?_)
      have eT := (k38 tl (tg_ne t_tl (lo_e24 hL _ (lo_k7_0 hL _ t_P) _ (by omega)) (by decide))).trans eT
      have e11 := (k38 Rd (tg_ne t_Rd (lo_e24 hL _ (lo_k7_0 hL _ t_P) _ (by omega)) (by decide))).trans e11
      have e12 := (k38 P (tg_ne t_P (lo_e24 hL _ (lo_k7_0 hL _ t_P) _ (by omega)) (by decide))).trans e12
      have e31 := (k38 (g.lk P 0) (tg_ne (lo_k7_0 hL _ t_P) (lo_e24 hL _ (lo_k7_0 hL _ t_P) _ (by omega)) (by decide))).trans e31
      have hu := hu.st k38 (lo_e24 hL _ (lo_k7_0 hL _ t_P) _ (by omega)) (by decide)
      have hfr : ∀ i, i < 36 → i ≠ si → f36 (g.lk (g.lk P 0) i) = f (g.lk (g.lk P 0) i) := fun i h1 h2 => (k38 _ (fun z => absurd (lo_inj24 hL _ _ _ _ (lo_k7_0 hL _ t_P) (lo_k7_0 hL _ t_P) h1 (by omega) z).2 (by omega))).trans (hfr i h1 h2)
      have hk39 : ∀ b, b ≠ (g.lk (g.lk P 0) si) → f36 b = f3 b := fun b q0 => (k38 b q0).trans (hk35 b q0)
      refine lv_iload hx hb d_NReader_readExprOf_49 (lv_at hl 0 rfl) ?_
      refine lv_iconst (v := (-1)) hx hb d_NReader_readExprOf_51 (by decide) ?_
      refine lv_icmp_eq (tgt := 59) hx hb d_NReader_readExprOf_52 (by decide) (fun b40 => ?_) (fun b40 => ?_)
      · skip
        refine lv_iconst (v := nI 0) hx hb d_NReader_readExprOf_59 (by decide) ?_
        have hI41 := iv_1 hI1_6 hL (lo_e24 hL _ (lo_k7_0 hL _ t_P) _ (by omega)) (by decide) hk39 (oc_10.mk (lo_e24 hL _ (lo_k7_0 hL _ t_P) _ (by omega)) (⟨kd, nm, nn, ((-1)), ta, e37, (by omega), (by omega), (by omega), (by first | exact Or.inl rfl | exact Or.inr ⟨_, by omega, rfl⟩ | assumption), (by omega)⟩))
        exact pe_zret hx hb hr hlocks hK hP hD hS d_NReader_readExprOf_60 rfl ⟨(Or.inr ⟨a8, n9, by omega, by omega, hp13, e11, e12, rfl⟩), hfr, hI41, hu⟩
      · skip
        exact absurd (by decide) b40
  · skip
    exact absurd b1 (nI_n1 (j := si) (by omega))
def RG (l : Launch) (F : Nat) : Prop := ∀ (g : Lay) (sz : Nat) (f : Nat → va_E) (Rd : Nat) (tl : Nat) (ln : Nat) (ax : Nat) (P : Nat) (hT : Nat → Int32) (sn : Nat) (nn : Nat) (d : Nat) (hL : LO g) (t_Rd : g.tg Rd = 8) (t_tl : g.tg tl = 20) (t_P : g.tg P = 7) (hI : IV g f) (eR : f Rd = .inr (7, [.ref tl, .int (nI ln), .int (nI ax), .ref P])) (eT : f tl = .inl (g.ac tl, 72, .inl hT)) (cT : ∀ i, i < 72 → vp_nar .char (hT i) = hT i) (hln : ln ≤ 72) (hax : ax ≤ ln) (eP : f P = .inr (6, [.ref (g.lk P 0), .int (nI sn), .ref (g.lk P 2), .int (nI nn), .ref (g.lk P 4), .ref (g.lk P 5)])) (hsn : sn ≤ 36) (hnn : nn ≤ 72) (hna : nn ≤ ax) (h2s : 2 * sn ≤ ax) (hd : d ≤ 11) (hF : 2 * (ln - ax) + 2 ≤ F), Met l ⟨"BigRunner$Reader", "readProgram", "(I)Z"⟩ [Cond.code ⟨"BigRunner$Reader", "readProgram", "(I)Z"⟩ prog_8_method_5_code 3 (some .boolean)] ({ frames := 2 * F + 410, cells := 0, slots := 0, locals := 60 * F + 13000 }) (va_Pc [.ref Rd, .int (nI d)] (pc_in g sz f)) (va_Qi (fun r f1 => ((∃ (a s1 n1 : Nat), a ≤ ln ∧ ax < a ∧ s1 ≤ 36 ∧ n1 ≤ 72 ∧ n1 + ax ≤ nn + a ∧ nn ≤ n1 ∧ sn < s1 ∧ 2 * s1 + ax ≤ 2 * sn + a ∧ px_s (tk hT ln) F 1 d ax = some a ∧ f1 Rd = .inr (7, [.ref tl, .int (nI ln), .int (nI a), .ref P]) ∧ f1 P = .inr (6, [.ref (g.lk P 0), .int (nI s1), .ref (g.lk P 2), .int (nI n1), .ref (g.lk P 4), .ref (g.lk P 5)]) ∧ SG g f1 P sn s1 ∧ nj g f1 P sn ∧ r = nI 1) ∨ (∃ (a s1 n1 : Nat), a ≤ ln ∧ s1 ≤ 36 ∧ n1 ≤ 72 ∧ px_s (tk hT ln) F 1 d ax = none ∧ f1 Rd = .inr (7, [.ref tl, .int (nI ln), .int (nI a), .ref P]) ∧ f1 P = .inr (6, [.ref (g.lk P 0), .int (nI s1), .ref (g.lk P 2), .int (nI n1), .ref (g.lk P 4), .ref (g.lk P 5)]) ∧ r = nI 0)) ∧ (∀ i, i < 36 → i < sn → f1 (g.lk (g.lk P 0) i) = f (g.lk (g.lk P 0) i)) ∧ (IV g f1) ∧ (un [6, 7, 8, 10] g f f1)) (pc_out g sz) (pc_A g sz)) 0 0 (pc_A g sz)
def RS (l : Launch) (F : Nat) : Prop := ∀ (g : Lay) (sz : Nat) (f : Nat → va_E) (Rd : Nat) (tl : Nat) (ln : Nat) (ax : Nat) (P : Nat) (hT : Nat → Int32) (sn : Nat) (nn : Nat) (d : Nat) (hL : LO g) (t_Rd : g.tg Rd = 8) (t_tl : g.tg tl = 20) (t_P : g.tg P = 7) (hI : IV g f) (eR : f Rd = .inr (7, [.ref tl, .int (nI ln), .int (nI ax), .ref P])) (eT : f tl = .inl (g.ac tl, 72, .inl hT)) (cT : ∀ i, i < 72 → vp_nar .char (hT i) = hT i) (hln : ln ≤ 72) (hax : ax ≤ ln) (eP : f P = .inr (6, [.ref (g.lk P 0), .int (nI sn), .ref (g.lk P 2), .int (nI nn), .ref (g.lk P 4), .ref (g.lk P 5)])) (hsn : sn ≤ 36) (hnn : nn ≤ 72) (hna : nn ≤ ax) (h2s : 2 * sn ≤ ax) (hd : d ≤ 10) (hF : 2 * (ln - ax) + 1 ≤ F), Met l ⟨"BigRunner$Reader", "readStatement", "(I)Z"⟩ [Cond.code ⟨"BigRunner$Reader", "readStatement", "(I)Z"⟩ prog_8_method_6_code 3 (some .boolean)] ({ frames := 2 * F + 410, cells := 0, slots := 0, locals := 60 * F + 13000 }) (va_Pc [.ref Rd, .int (nI d)] (pc_in g sz f)) (va_Qi (fun r f1 => ((∃ (a s1 n1 : Nat), a ≤ ln ∧ ax < a ∧ s1 ≤ 36 ∧ n1 ≤ 72 ∧ n1 + ax ≤ nn + a ∧ nn ≤ n1 ∧ sn < s1 ∧ 2 * s1 + ax ≤ 2 * sn + a ∧ px_s (tk hT ln) F 0 d ax = some a ∧ f1 Rd = .inr (7, [.ref tl, .int (nI ln), .int (nI a), .ref P]) ∧ f1 P = .inr (6, [.ref (g.lk P 0), .int (nI s1), .ref (g.lk P 2), .int (nI n1), .ref (g.lk P 4), .ref (g.lk P 5)]) ∧ SG g f1 P sn s1 ∧ nj g f1 P sn ∧ r = nI 1) ∨ (∃ (a s1 n1 : Nat), a ≤ ln ∧ s1 ≤ 36 ∧ n1 ≤ 72 ∧ px_s (tk hT ln) F 0 d ax = none ∧ f1 Rd = .inr (7, [.ref tl, .int (nI ln), .int (nI a), .ref P]) ∧ f1 P = .inr (6, [.ref (g.lk P 0), .int (nI s1), .ref (g.lk P 2), .int (nI n1), .ref (g.lk P 4), .ref (g.lk P 5)]) ∧ r = nI 0)) ∧ (∀ i, i < 36 → i < sn → f1 (g.lk (g.lk P 0) i) = f (g.lk (g.lk P 0) i)) ∧ (IV g f1) ∧ (un [6, 7, 8, 10] g f f1)) (pc_out g sz) (pc_A g sz)) 0 0 (pc_A g sz)
def RL (l : Launch) (F : Nat) : Prop := ∀ (g : Lay) (sz : Nat) (f : Nat → va_E) (Rd : Nat) (tl : Nat) (ln : Nat) (ax : Nat) (P : Nat) (hT : Nat → Int32) (sn : Nat) (nn : Nat) (d : Nat) (hL : LO g) (t_Rd : g.tg Rd = 8) (t_tl : g.tg tl = 20) (t_P : g.tg P = 7) (hI : IV g f) (eR : f Rd = .inr (7, [.ref tl, .int (nI ln), .int (nI ax), .ref P])) (eT : f tl = .inl (g.ac tl, 72, .inl hT)) (cT : ∀ i, i < 72 → vp_nar .char (hT i) = hT i) (hln : ln ≤ 72) (hax : ax ≤ ln) (eP : f P = .inr (6, [.ref (g.lk P 0), .int (nI sn), .ref (g.lk P 2), .int (nI nn), .ref (g.lk P 4), .ref (g.lk P 5)])) (hsn : sn ≤ 36) (hnn : nn ≤ 72) (hna : nn ≤ ax) (h2s : 2 * sn + 1 ≤ ax) (hd : d ≤ 10) (hF : 2 * (ln - ax) + 2 ≤ F), Met l ⟨"BigRunner$Reader", "readLoop", "(I)Z"⟩ [Cond.code ⟨"BigRunner$Reader", "readLoop", "(I)Z"⟩ prog_8_method_7_code 3 (some .boolean)] ({ frames := 2 * F + 411, cells := 0, slots := 0, locals := 60 * F + 13030 }) (va_Pc [.ref Rd, .int (nI d)] (pc_in g sz f)) (va_Qi (fun r f1 => ((∃ (a s1 n1 : Nat), a ≤ ln ∧ ax < a ∧ s1 ≤ 36 ∧ n1 ≤ 72 ∧ n1 + ax ≤ nn + a ∧ nn ≤ n1 ∧ sn < s1 ∧ 2 * s1 + ax ≤ 2 * sn + a + 1 ∧ px_l (tk hT ln) F d ax = some a ∧ f1 Rd = .inr (7, [.ref tl, .int (nI ln), .int (nI a), .ref P]) ∧ f1 P = .inr (6, [.ref (g.lk P 0), .int (nI s1), .ref (g.lk P 2), .int (nI n1), .ref (g.lk P 4), .ref (g.lk P 5)]) ∧ SG g f1 P sn s1 ∧ nj g f1 P sn ∧ r = nI 1) ∨ (∃ (a s1 n1 : Nat), a ≤ ln ∧ s1 ≤ 36 ∧ n1 ≤ 72 ∧ px_l (tk hT ln) F d ax = none ∧ f1 Rd = .inr (7, [.ref tl, .int (nI ln), .int (nI a), .ref P]) ∧ f1 P = .inr (6, [.ref (g.lk P 0), .int (nI s1), .ref (g.lk P 2), .int (nI n1), .ref (g.lk P 4), .ref (g.lk P 5)]) ∧ r = nI 0)) ∧ (∀ i, i < 36 → i < sn → f1 (g.lk (g.lk P 0) i) = f (g.lk (g.lk P 0) i)) ∧ (IV g f1) ∧ (un [6, 7, 8, 10] g f f1)) (pc_out g sz) (pc_A g sz)) 0 0 (pc_A g sz)
def RC (l : Launch) (F : Nat) : Prop := ∀ (g : Lay) (sz : Nat) (f : Nat → va_E) (Rd : Nat) (tl : Nat) (ln : Nat) (ax : Nat) (P : Nat) (hT : Nat → Int32) (sn : Nat) (nn : Nat) (d : Nat) (hL : LO g) (t_Rd : g.tg Rd = 8) (t_tl : g.tg tl = 20) (t_P : g.tg P = 7) (hI : IV g f) (eR : f Rd = .inr (7, [.ref tl, .int (nI ln), .int (nI ax), .ref P])) (eT : f tl = .inl (g.ac tl, 72, .inl hT)) (cT : ∀ i, i < 72 → vp_nar .char (hT i) = hT i) (hln : ln ≤ 72) (hax : ax ≤ ln) (eP : f P = .inr (6, [.ref (g.lk P 0), .int (nI sn), .ref (g.lk P 2), .int (nI nn), .ref (g.lk P 4), .ref (g.lk P 5)])) (hsn : sn ≤ 36) (hnn : nn ≤ 72) (hna : nn ≤ ax) (h2s : 2 * sn + 1 ≤ ax) (hd : d ≤ 10) (hF : 2 * (ln - ax) + 2 ≤ F), Met l ⟨"BigRunner$Reader", "readChoice", "(I)Z"⟩ [Cond.code ⟨"BigRunner$Reader", "readChoice", "(I)Z"⟩ prog_8_method_8_code 4 (some .boolean)] ({ frames := 2 * F + 411, cells := 0, slots := 0, locals := 60 * F + 13030 }) (va_Pc [.ref Rd, .int (nI d)] (pc_in g sz f)) (va_Qi (fun r f1 => ((∃ (a s1 n1 : Nat), a ≤ ln ∧ ax < a ∧ s1 ≤ 36 ∧ n1 ≤ 72 ∧ n1 + ax ≤ nn + a ∧ nn ≤ n1 ∧ sn < s1 ∧ 2 * s1 + ax ≤ 2 * sn + a + 1 ∧ px_c (tk hT ln) F d ax = some a ∧ f1 Rd = .inr (7, [.ref tl, .int (nI ln), .int (nI a), .ref P]) ∧ f1 P = .inr (6, [.ref (g.lk P 0), .int (nI s1), .ref (g.lk P 2), .int (nI n1), .ref (g.lk P 4), .ref (g.lk P 5)]) ∧ SG g f1 P sn s1 ∧ nj g f1 P sn ∧ r = nI 1) ∨ (∃ (a s1 n1 : Nat), a ≤ ln ∧ s1 ≤ 36 ∧ n1 ≤ 72 ∧ px_c (tk hT ln) F d ax = none ∧ f1 Rd = .inr (7, [.ref tl, .int (nI ln), .int (nI a), .ref P]) ∧ f1 P = .inr (6, [.ref (g.lk P 0), .int (nI s1), .ref (g.lk P 2), .int (nI n1), .ref (g.lk P 4), .ref (g.lk P 5)]) ∧ r = nI 0)) ∧ (∀ i, i < 36 → i < sn → f1 (g.lk (g.lk P 0) i) = f (g.lk (g.lk P 0) i)) ∧ (IV g f1) ∧ (un [6, 7, 8, 10] g f f1)) (pc_out g sz) (pc_A g sz)) 0 0 (pc_A g sz)
set_option maxHeartbeats 4000000 in
set_option maxRecDepth 100000 in
theorem rl_at (l : Launch) (F : Nat) (ih : ∀ F', F' ≤ F → RG l F' ∧ RS l F') : RL l F := by
  intro g sz f Rd tl ln ax P hT sn nn d hL t_Rd t_tl t_P hI eR eT cT hln hax eP hsn hnn hna h2s hd hF
  refine pe_ofW (cc := prog_8_method_7_code) (maxL := 3) (ret := (some .boolean)) (lv := [(0, .ref Rd), (1, .int (nI d))]) (by decide) (Nat.le_of_ble_eq_true rfl) rfl ?_
  intro p e s m args below meth c ls hx hb hr hml hlocks hown hB hP hK hD hsz hS hl
  subst hsz
  have hu : un [6, 7, 8, 10] g f f := un.rf
  have hfr : ∀ i, i < 36 → i < sn → f (g.lk (g.lk P 0) i) = f (g.lk (g.lk P 0) i) := fun _ _ _ => rfl
  refine lv_aload_n hx hb d_NReader_readLoop_0 rfl (lv_at hl 0 rfl) ?_
  refine lv_iconst (v := nI 3) hx hb d_NReader_readLoop_1 (by decide) ?_
  refine pcc_i (va_runV (C := "BigRunner$Reader") (As := [.int (nI 3)]) (rest := []) ⟨hx, hb, hml, hown, tb_nil⟩ (c_addSt l g s.heap.size f Rd tl ln ax P hT sn nn 3 hL t_Rd t_tl t_P hI eR eT cT (by omega) (by omega) eP (by omega) (by omega) (by omega) (by omega)) ⟨(callB_of 1 (tb_one (wd_480 hB _)) tb_good1 rfl rfl rfl (wd_73 hB _) (wd_477 hB _) (by decide +kernel) ⟨(show 1 ≤ 2 * F + 411 by omega), (show 21 ≤ 60 * F + 13030 by omega)⟩), (wd_479 hB _), (wd_6 hB _)⟩ ⟨pe_bl, pg_recv (ci := 7) hK hP (lo_in hL t_Rd (by decide)) eR rfl, pe_pre hB hK hP hD⟩ rfl rfl hl.1 rfl (lv_room (Nat.le_of_ble_eq_true rfl)) d_NReader_readLoop_2 ⟨Nat.le_of_ble_eq_true rfl, Nat.le_of_ble_eq_true rfl⟩) hS (fun r1 f2 H locs hq3 hP hD hS => ?_)
  obtain ⟨q_4, x1_5, xs_6, fr_7, hI1_8, hu1_9⟩ := hq3
  subst q_4
  have hu := hu.tr hu1_9 (by decide)
  have eR := hu1_9.at t_Rd (by decide) eR
  have eT := hu1_9.at t_tl (by decide) eT
  have hfr : ∀ i, i < 36 → i < sn → f2 (g.lk (g.lk P 0) i) = f (g.lk (g.lk P 0) i) := fun i h1 h2 => (fr_7 i h1 (by omega)).trans (hfr i h1 h2)
  obtain ⟨nm_10, fn_11, la_12, ta_13, c14, c15, c16, c17, e18⟩ := xs_6
  refine lv_istore_n (lv' := [(2, .int (nI sn)), (0, .ref Rd), (1, .int (nI d))]) hx hb d_NReader_readLoop_5 rfl hl (by decide) rfl (fun ls hl => ?_)
  refine lv_aload_n hx hb d_NReader_readLoop_6 rfl (lv_at hl 1 rfl) ?_
  refine lv_iload_n hx hb d_NReader_readLoop_7 rfl (lv_at hl 0 rfl) ?_
  refine lv_iload_n hx hb d_NReader_readLoop_8 rfl (lv_at hl 2 rfl) ?_
  refine pcc_i (va_runV (C := "BigRunner$Reader") (As := [.int (nI sn), .int (nI d)]) (rest := []) ⟨hx, hb, hml, hown, tb_nil⟩ (c_readExprOf l g H.size f2 Rd tl ln ax P hT ((sn + 1)) nn sn 3 nm_10 fn_11 la_12 ta_13 d hL t_Rd t_tl t_P hI1_8 eR eT cT (by omega) (by omega) x1_5 (by omega) (by omega) (by omega) e18 (by omega) (by omega) (by omega) c16 (by omega) (by omega) (by omega)) ⟨(callB_of 2 (tb_one (wd_488 hB _)) tb_good1 rfl rfl rfl (wd_73 hB _) (wd_485 hB _) (by decide +kernel) ⟨(show 405 ≤ 2 * F + 411 by omega), (show 12247 ≤ 60 * F + 13030 by omega)⟩), (wd_487 hB _), (wd_8 hB _)⟩ ⟨pe_bl, pg_recv (ci := 7) hK hP (lo_in hL t_Rd (by decide)) eR rfl, pe_pre hB hK hP hD⟩ rfl rfl hl.1 rfl (lv_room (Nat.le_of_ble_eq_true rfl)) d_NReader_readLoop_9 ⟨Nat.le_of_ble_eq_true rfl, Nat.le_of_ble_eq_true rfl⟩) hS (fun r19 f20 H locs hq21 hP hD hS => ?_)
  obtain ⟨rs_22, fr_23, hI1_24, hu1_25⟩ := hq21
  have hu := hu.tr hu1_25 (by decide)
  have eT := hu1_25.at t_tl (by decide) eT
  have hfr : ∀ i, i < 36 → i < sn → f20 (g.lk (g.lk P 0) i) = f (g.lk (g.lk P 0) i) := fun i h1 h2 => (fr_23 i h1 (by omega)).trans (hfr i h1 h2)
  rcases rs_22 with ⟨a26, n27, j28, c33, c34, c35, c36, c37, c38, hp32, e29, e30, e31, rfl⟩ | ⟨a26, n27, c33, c34, hp32, e29, e30, rfl⟩
  · skip
    refine lv_if_eq (tgt := 43) hx hb d_NReader_readLoop_12 (by decide) (fun b39 => ?_) (fun b39 => ?_)
    · skip
      replace b39 := (nI_eq (a := 1) (b := 0) (by omega) (by omega)).mp b39
      exfalso; omega
    · skip
      replace b39 := mt (nI_eq (a := 1) (b := 0) (by omega) (by omega)).mpr b39
      refine lv_aload_n hx hb d_NReader_readLoop_15 rfl (lv_at hl 1 rfl) ?_
      refine lv_bipush (v := nI 58) hx hb d_NReader_readLoop_16 (by decide) ?_
      refine pcc_i (va_runV (C := "BigRunner$Reader") (As := [.int (nI 58)]) (rest := []) ⟨hx, hb, hml, hown, tb_nil⟩ (c_accept l g H.size f20 Rd tl ln a26 P hT 58 hL t_Rd t_tl t_P hI1_24 e29 eT cT (by omega) (by omega) (by decide)) ⟨(callB_of 1 (tb_one (wd_472 hB _)) tb_good1 rfl rfl rfl (wd_73 hB _) (wd_469 hB _) (by decide +kernel) ⟨(show 2 ≤ 2 * F + 411 by omega), (show 41 ≤ 60 * F + 13030 by omega)⟩), (wd_471 hB _), (wd_4 hB _)⟩ ⟨pe_bl, pg_recv (ci := 7) hK hP (lo_in hL t_Rd (by decide)) e29 rfl, pe_pre hB hK hP hD⟩ rfl rfl hl.1 rfl (lv_room (Nat.le_of_ble_eq_true rfl)) d_NReader_readLoop_18 ⟨Nat.le_of_ble_eq_true rfl, Nat.le_of_ble_eq_true rfl⟩) hS (fun r40 f41 H locs hq42 hP hD hS => ?_)
      obtain ⟨bo_43, i0_44, i1_45, hI1_46, hu1_47⟩ := hq42
      have hu := hu.tr hu1_47 (by decide)
      have eT := hu1_47.at t_tl (by decide) eT
      have e30 := hu1_47.at t_P (by decide) e30
      have e31 := hu1_47.at (lo_e24 hL _ (lo_k7_0 hL _ t_P) _ (by omega)) (by decide) e31
      have hfr : ∀ i, i < 36 → i < sn → f41 (g.lk (g.lk P 0) i) = f (g.lk (g.lk P 0) i) := fun i h1 h2 => (hu1_47 _ (by rw [lo_e24 hL _ (lo_k7_0 hL _ t_P) i h1]; decide)).trans (hfr i h1 h2)
      refine lv_if_eq (tgt := 43) hx hb d_NReader_readLoop_21 (by decide) (fun b48 => ?_) (fun b48 => ?_)
      · skip
        have hr49 : r40 = nI 0 := b48
        have hi50 := i0_44 hr49
        obtain ⟨hc51, e52⟩ := hi50
        have hk53 : tk hT ln a26 ≠ 15 := fun z => hc51 (kc_15.mp z)
        refine lv_iconst (v := nI 0) hx hb d_NReader_readLoop_43 (by decide) ?_
        exact pe_zret hx hb hr hlocks hK hP hD hS d_NReader_readLoop_44 rfl ⟨(Or.inr ⟨a26, sn + 1, n27, by omega, by omega, by omega, (by unfold px_l; rw [hp32]; show (if _ then _ else _) = _; exact if_neg hk53), e52, e30, rfl⟩), hfr, hI1_46, hu⟩
      · skip
        have hr54 : r40 = nI 1 := (bl_1 bo_43 b48)
        have hi55 := i1_45 hr54
        obtain ⟨hc56, hl59, e57⟩ := hi55
        have hk58 : tk hT ln a26 = 15 := kc_15.mpr hc56
        refine lv_aload_n hx hb d_NReader_readLoop_24 rfl (lv_at hl 1 rfl) ?_
        refine lv_iload_n hx hb d_NReader_readLoop_25 rfl (lv_at hl 2 rfl) ?_
        refine lv_iconst (v := nI 1) hx hb d_NReader_readLoop_26 (by decide) ?_
        refine pf_iaddN (x := d) (y := 1) hx hb d_NReader_readLoop_27 ?_
        refine pcc_i (va_runV (C := "BigRunner$Reader") (As := [.int (nI (d + 1))]) (rest := []) ⟨hx, hb, hml, hown, tb_nil⟩ ((ih F (by omega)).1 g H.size f41 Rd tl ln ((a26 + 1)) P hT ((sn + 1)) n27 ((d + 1)) hL t_Rd t_tl t_P hI1_46 e57 eT cT (by omega) (by omega) e30 (by omega) (by omega) (by omega) (by omega) (by omega) (by omega)) ⟨(callB_of 1 (tb_one (wd_464 hB _)) tb_good1 rfl rfl rfl (wd_73 hB _) (wd_461 hB _) (by decide +kernel) ⟨(show 2 * F + 410 + 1 ≤ 2 * F + 411 by omega), (show 8 + (3 + 11) + (60 * F + 13000) ≤ 60 * F + 13030 by omega)⟩), (wd_463 hB _), (wd_2 hB _)⟩ ⟨pe_bl, pg_recv (ci := 7) hK hP (lo_in hL t_Rd (by decide)) e57 rfl, pe_pre hB hK hP hD⟩ rfl rfl hl.1 rfl (lv_room (Nat.le_of_ble_eq_true rfl)) d_NReader_readLoop_28 ⟨Nat.le_of_ble_eq_true rfl, Nat.le_of_ble_eq_true rfl⟩) hS (fun r60 f61 H locs hq62 hP hD hS => ?_)
        obtain ⟨rs_63, fr_64, hI1_65, hu1_66⟩ := hq62
        have hu := hu.tr hu1_66 (by decide)
        have eT := hu1_66.at t_tl (by decide) eT
        have hfr : ∀ i, i < 36 → i < sn → f61 (g.lk (g.lk P 0) i) = f (g.lk (g.lk P 0) i) := fun i h1 h2 => (fr_64 i h1 (by omega)).trans (hfr i h1 h2)
        have e67 := (fr_64 sn (by omega) (by omega)).trans e31
        rcases rs_63 with ⟨a68, s69, n70, c76, c77, c78, c79, c80, c81, c82, c83, hp73, e71, e72, hsg74, hnj75, rfl⟩ | ⟨a68, s69, n70, c76, c77, c78, hp73, e71, e72, rfl⟩
        · skip
          have hfi : ∀ i, i < 36 → sn + 1 ≤ i ∧ i < s69 → f61 (g.lk (g.lk P 0) i) = f61 (g.lk (g.lk P 0) i) := fun _ _ _ => rfl
          refine lv_if_eq (tgt := 43) hx hb d_NReader_readLoop_31 (by decide) (fun b84 => ?_) (fun b84 => ?_)
          · skip
            replace b84 := (nI_eq (a := 1) (b := 0) (by omega) (by omega)).mp b84
            exfalso; omega
          · skip
            replace b84 := mt (nI_eq (a := 1) (b := 0) (by omega) (by omega)).mpr b84
            refine lv_aload_n hx hb d_NReader_readLoop_34 rfl (lv_at hl 1 rfl) ?_
            refine lv_bipush (v := nI 93) hx hb d_NReader_readLoop_35 (by decide) ?_
            refine pcc_i (va_runV (C := "BigRunner$Reader") (As := [.int (nI 93)]) (rest := []) ⟨hx, hb, hml, hown, tb_nil⟩ (c_accept l g H.size f61 Rd tl ln a68 P hT 93 hL t_Rd t_tl t_P hI1_65 e71 eT cT (by omega) (by omega) (by decide)) ⟨(callB_of 1 (tb_one (wd_472 hB _)) tb_good1 rfl rfl rfl (wd_73 hB _) (wd_469 hB _) (by decide +kernel) ⟨(show 2 ≤ 2 * F + 411 by omega), (show 41 ≤ 60 * F + 13030 by omega)⟩), (wd_471 hB _), (wd_4 hB _)⟩ ⟨pe_bl, pg_recv (ci := 7) hK hP (lo_in hL t_Rd (by decide)) e71 rfl, pe_pre hB hK hP hD⟩ rfl rfl hl.1 rfl (lv_room (Nat.le_of_ble_eq_true rfl)) d_NReader_readLoop_37 ⟨Nat.le_of_ble_eq_true rfl, Nat.le_of_ble_eq_true rfl⟩) hS (fun r85 f86 H locs hq87 hP hD hS => ?_)
            obtain ⟨bo_88, i0_89, i1_90, hI1_91, hu1_92⟩ := hq87
            have hu := hu.tr hu1_92 (by decide)
            have eT := hu1_92.at t_tl (by decide) eT
            have e67 := hu1_92.at (lo_e24 hL _ (lo_k7_0 hL _ t_P) _ (by omega)) (by decide) e67
            have e72 := hu1_92.at t_P (by decide) e72
            have hfr : ∀ i, i < 36 → i < sn → f86 (g.lk (g.lk P 0) i) = f (g.lk (g.lk P 0) i) := fun i h1 h2 => (hu1_92 _ (by rw [lo_e24 hL _ (lo_k7_0 hL _ t_P) i h1]; decide)).trans (hfr i h1 h2)
            have hfi : ∀ i, i < 36 → sn + 1 ≤ i ∧ i < s69 → f86 (g.lk (g.lk P 0) i) = f61 (g.lk (g.lk P 0) i) := fun i h1 h2 => (hu1_92 _ (by rw [lo_e24 hL _ (lo_k7_0 hL _ t_P) i h1]; decide)).trans (hfi i h1 h2)
            refine lv_if_ne (tgt := 45) hx hb d_NReader_readLoop_40 (by decide) (fun b93 => ?_) (fun b93 => ?_)
            · skip
              have hr94 : r85 = nI 1 := (bl_1 bo_88 b93)
              have hi95 := i1_90 hr94
              obtain ⟨hc96, hl99, e97⟩ := hi95
              have hk98 : tk hT ln a68 = 11 := kc_11.mpr hc96
              refine lv_aload_n hx hb d_NReader_readLoop_45 rfl (lv_at hl 1 rfl) ?_
              refine lv_aload_n hx hb d_NReader_readLoop_46 rfl (lv_at hl 1 rfl) ?_
              refine lv_iconst (v := nI 5) hx hb d_NReader_readLoop_47 (by decide) ?_
              refine pcc_i (va_runV (C := "BigRunner$Reader") (As := [.int (nI 5)]) (rest := [.ref Rd]) ⟨hx, hb, hml, hown, tb_nil⟩ (c_addSt l g H.size f86 Rd tl ln ((a68 + 1)) P hT s69 n70 5 hL t_Rd t_tl t_P hI1_91 e97 eT cT (by omega) (by omega) e72 (by omega) (by omega) (by omega) (by omega)) ⟨(callB_of 1 (tb_one (wd_480 hB _)) tb_good1 rfl rfl rfl (wd_73 hB _) (wd_477 hB _) (by decide +kernel) ⟨(show 1 ≤ 2 * F + 411 by omega), (show 21 ≤ 60 * F + 13030 by omega)⟩), (wd_479 hB _), (wd_6 hB _)⟩ ⟨pe_bl, pg_recv (ci := 7) hK hP (lo_in hL t_Rd (by decide)) e97 rfl, pe_pre hB hK hP hD⟩ rfl rfl hl.1 rfl (lv_room (Nat.le_of_ble_eq_true rfl)) d_NReader_readLoop_48 ⟨Nat.le_of_ble_eq_true rfl, Nat.le_of_ble_eq_true rfl⟩) hS (fun r100 f101 H locs hq102 hP hD hS => ?_)
              obtain ⟨q_103, x1_104, xs_105, fr_106, hI1_107, hu1_108⟩ := hq102
              subst q_103
              have hu := hu.tr hu1_108 (by decide)
              have eT := hu1_108.at t_tl (by decide) eT
              have e97 := hu1_108.at t_Rd (by decide) e97
              have hfr : ∀ i, i < 36 → i < sn → f101 (g.lk (g.lk P 0) i) = f (g.lk (g.lk P 0) i) := fun i h1 h2 => (fr_106 i h1 (by omega)).trans (hfr i h1 h2)
              have hfi : ∀ i, i < 36 → sn + 1 ≤ i ∧ i < s69 → f101 (g.lk (g.lk P 0) i) = f61 (g.lk (g.lk P 0) i) := fun i h1 h2 => (fr_106 i h1 (by omega)).trans (hfi i h1 h2)
              obtain ⟨nm_109, fn_110, la_111, ta_112, c113, c114, c115, c116, e117⟩ := xs_105
              have e118 := (fr_106 sn (by omega) (by omega)).trans e67
              refine lv_iload_n hx hb d_NReader_readLoop_51 rfl (lv_at hl 0 rfl) ?_
              refine pcc_i (va_runV (C := "BigRunner$Reader") (As := [.int (nI s69), .int (nI sn)]) (rest := []) ⟨hx, hb, hml, hown, tb_nil⟩ (c_aim l g H.size f101 Rd tl ln ((a68 + 1)) P hT ((s69 + 1)) n70 s69 5 nm_109 fn_110 la_111 ta_112 sn hL t_Rd t_tl t_P hI1_107 e97 eT cT (by omega) (by omega) x1_104 (by omega) (by omega) (by omega) e117 (by omega) (by omega) (by omega) c115 (by omega) (by omega)) ⟨(callB_of 2 (tb_one (wd_516 hB _)) tb_good1 rfl rfl rfl (wd_73 hB _) (wd_513 hB _) (by decide +kernel) ⟨(show 1 ≤ 2 * F + 411 by omega), (show 22 ≤ 60 * F + 13030 by omega)⟩), (wd_515 hB _), (wd_15 hB _)⟩ ⟨pe_bl, pg_recv (ci := 7) hK hP (lo_in hL t_Rd (by decide)) e97 rfl, pe_pre hB hK hP hD⟩ rfl rfl hl.1 rfl (lv_room (Nat.le_of_ble_eq_true rfl)) d_NReader_readLoop_52 ⟨Nat.le_of_ble_eq_true rfl, Nat.le_of_ble_eq_true rfl⟩) hS (fun r119 f120 H locs hq121 hP hD hS => ?_)
              obtain ⟨q_122, x1_123, fr_124, hI1_125, hu1_126⟩ := hq121
              subst q_122
              have hu := hu.tr hu1_126 (by decide)
              have eT := hu1_126.at t_tl (by decide) eT
              have e97 := hu1_126.at t_Rd (by decide) e97
              have x1_104 := hu1_126.at t_P (by decide) x1_104
              have hfr : ∀ i, i < 36 → i < sn → f120 (g.lk (g.lk P 0) i) = f (g.lk (g.lk P 0) i) := fun i h1 h2 => (fr_124 i h1 (by omega)).trans (hfr i h1 h2)
              have hfi : ∀ i, i < 36 → sn + 1 ≤ i ∧ i < s69 → f120 (g.lk (g.lk P 0) i) = f61 (g.lk (g.lk P 0) i) := fun i h1 h2 => (fr_124 i h1 (by omega)).trans (hfi i h1 h2)
              have e127 := (fr_124 sn (by omega) (by omega)).trans e118
              refine lv_if_eq (tgt := 77) hx hb d_NReader_readLoop_55 (by decide) (fun b128 => ?_) (fun b128 => ?_)
              · skip
                replace b128 := (nI_eq (a := 1) (b := 0) (by omega) (by omega)).mp b128
                exfalso; omega
              · skip
                replace b128 := mt (nI_eq (a := 1) (b := 0) (by omega) (by omega)).mpr b128
                refine lv_aload_n hx hb d_NReader_readLoop_58 rfl (lv_at hl 1 rfl) ?_
                refine lv_iload_n hx hb d_NReader_readLoop_59 rfl (lv_at hl 0 rfl) ?_
                refine lv_aload_n hx hb d_NReader_readLoop_60 rfl (lv_at hl 1 rfl) ?_
                refine pf_get (v := .ref P) (C := "BigRunner$Reader") (T := FT7) (N := 4) hx hb (hw7 hB _) (fun _ h9 => h9) hown hK hP (lo_in hL t_Rd (by decide)) e97 rfl 3 (by decide) (wd_273 hB _) rfl d_NReader_readLoop_61 ?_
                refine pf_get (v := .int (nI (s69 + 1))) (C := "BigRunner$Program") (T := FT6) (N := 6) hx hb (hw6 hB _) (fun _ h9 => h9) hown hK hP (lo_in hL t_P (by decide)) x1_104 rfl 1 (by decide) (wd_246 hB _) rfl d_NReader_readLoop_64 ?_
                refine pcc_i (va_runV (C := "BigRunner$Reader") (As := [.int (nI sn), .int (nI (s69 + 1))]) (rest := []) ⟨hx, hb, hml, hown, tb_nil⟩ (c_aim l g H.size f120 Rd tl ln ((a68 + 1)) P hT ((s69 + 1)) n70 sn 3 nm_10 nn ((nI j28)) ta_13 ((s69 + 1)) hL t_Rd t_tl t_P hI1_125 e97 eT cT (by omega) (by omega) x1_104 (by omega) (by omega) (by omega) e127 (by omega) (by omega) (by omega) (Or.inr ⟨_, by omega, rfl⟩) (by omega) (by omega)) ⟨(callB_of 2 (tb_one (wd_516 hB _)) tb_good1 rfl rfl rfl (wd_73 hB _) (wd_513 hB _) (by decide +kernel) ⟨(show 1 ≤ 2 * F + 411 by omega), (show 22 ≤ 60 * F + 13030 by omega)⟩), (wd_515 hB _), (wd_15 hB _)⟩ ⟨pe_bl, pg_recv (ci := 7) hK hP (lo_in hL t_Rd (by decide)) e97 rfl, pe_pre hB hK hP hD⟩ rfl rfl hl.1 rfl (lv_room (Nat.le_of_ble_eq_true rfl)) d_NReader_readLoop_67 ⟨Nat.le_of_ble_eq_true rfl, Nat.le_of_ble_eq_true rfl⟩) hS (fun r129 f130 H locs hq131 hP hD hS => ?_)
                obtain ⟨q_132, x1_133, fr_134, hI1_135, hu1_136⟩ := hq131
                subst q_132
                have hu := hu.tr hu1_136 (by decide)
                have eT := hu1_136.at t_tl (by decide) eT
                have e97 := hu1_136.at t_Rd (by decide) e97
                have x1_104 := hu1_136.at t_P (by decide) x1_104
                have hfr : ∀ i, i < 36 → i < sn → f130 (g.lk (g.lk P 0) i) = f (g.lk (g.lk P 0) i) := fun i h1 h2 => (fr_134 i h1 (by omega)).trans (hfr i h1 h2)
                have hfi : ∀ i, i < 36 → sn + 1 ≤ i ∧ i < s69 → f130 (g.lk (g.lk P 0) i) = f61 (g.lk (g.lk P 0) i) := fun i h1 h2 => (fr_134 i h1 (by omega)).trans (hfi i h1 h2)
                have e137 := (fr_134 s69 (by omega) (by omega)).trans x1_123
                refine lv_if_eq (tgt := 77) hx hb d_NReader_readLoop_70 (by decide) (fun b138 => ?_) (fun b138 => ?_)
                · skip
                  replace b138 := (nI_eq (a := 1) (b := 0) (by omega) (by omega)).mp b138
                  exfalso; omega
                · skip
                  replace b138 := mt (nI_eq (a := 1) (b := 0) (by omega) (by omega)).mpr b138
                  refine lv_iconst (v := nI 1) hx hb d_NReader_readLoop_73 (by decide) ?_
                  refine lv_goto (tgt := 78) hx hb d_NReader_readLoop_74 (by decide) ?_
                  exact pe_zret hx hb hr hlocks hK hP hD hS d_NReader_readLoop_78 rfl ⟨(Or.inl ⟨a68 + 1, s69 + 1, n70, by omega, by omega, by omega, by omega, by omega, by omega, by omega, by omega, (by unfold px_l; rw [hp32]; show (if _ then _ else _) = _; rw [if_pos hk58, hp73]; exact if_pos hk98), e97, x1_104, (SG_back (SG_app (b := sn + 1) (by omega) (by omega) (SG_one x1_133 (by omega) (by omega) (by omega) (by omega) (fun _ => ⟨_, by omega, rfl⟩)) (SG_eq hsg74 (fun i q1 q2 => hfi i (by omega) (by omega)))) e137 (by omega) (by omega) (by omega) (by omega) (by omega) (nj_of x1_133 (by omega))), (nj_of x1_133 (by omega)), rfl⟩), hfr, hI1_135, hu⟩
            · skip
              have hr139 : r85 = nI 0 := b93
              have hi140 := i0_89 hr139
              obtain ⟨hc141, e142⟩ := hi140
              have hk143 : tk hT ln a68 ≠ 11 := fun z => hc141 (kc_11.mp z)
              refine lv_iconst (v := nI 0) hx hb d_NReader_readLoop_43 (by decide) ?_
              exact pe_zret hx hb hr hlocks hK hP hD hS d_NReader_readLoop_44 rfl ⟨(Or.inr ⟨a68, s69, n70, by omega, by omega, by omega, (by unfold px_l; rw [hp32]; show (if _ then _ else _) = _; rw [if_pos hk58, hp73]; exact if_neg hk143), e142, e72, rfl⟩), hfr, hI1_91, hu⟩
        · skip
          refine lv_if_eq (tgt := 43) hx hb d_NReader_readLoop_31 (by decide) (fun b144 => ?_) (fun b144 => ?_)
          · skip
            replace b144 := (nI_eq (a := 0) (b := 0) (by omega) (by omega)).mp b144
            refine lv_iconst (v := nI 0) hx hb d_NReader_readLoop_43 (by decide) ?_
            exact pe_zret hx hb hr hlocks hK hP hD hS d_NReader_readLoop_44 rfl ⟨(Or.inr ⟨a68, s69, n70, by omega, by omega, by omega, (by unfold px_l; rw [hp32]; show (if _ then _ else _) = _; rw [if_pos hk58, hp73]; rfl), e71, e72, rfl⟩), hfr, hI1_65, hu⟩
          · skip
            replace b144 := mt (nI_eq (a := 0) (b := 0) (by omega) (by omega)).mpr b144
            exfalso; omega
  · skip
    refine lv_if_eq (tgt := 43) hx hb d_NReader_readLoop_12 (by decide) (fun b145 => ?_) (fun b145 => ?_)
    · skip
      replace b145 := (nI_eq (a := 0) (b := 0) (by omega) (by omega)).mp b145
      refine lv_iconst (v := nI 0) hx hb d_NReader_readLoop_43 (by decide) ?_
      exact pe_zret hx hb hr hlocks hK hP hD hS d_NReader_readLoop_44 rfl ⟨(Or.inr ⟨a26, sn + 1, n27, by omega, by omega, by omega, (by unfold px_l; rw [hp32]; rfl), e29, e30, rfl⟩), hfr, hI1_24, hu⟩
    · skip
      replace b145 := mt (nI_eq (a := 0) (b := 0) (by omega) (by omega)).mpr b145
      exfalso; omega
set_option maxHeartbeats 4000000 in
set_option maxRecDepth 100000 in
theorem rc_at (l : Launch) (F : Nat) (ih : ∀ F', F' ≤ F → RG l F' ∧ RS l F') : RC l F := by
  intro g sz f Rd tl ln ax P hT sn nn d hL t_Rd t_tl t_P hI eR eT cT hln hax eP hsn hnn hna h2s hd hF
  refine pe_ofW (cc := prog_8_method_8_code) (maxL := 4) (ret := (some .boolean)) (lv := [(0, .ref Rd), (1, .int (nI d))]) (by decide) (Nat.le_of_ble_eq_true rfl) rfl ?_
  intro p e s m args below meth c ls hx hb hr hml hlocks hown hB hP hK hD hsz hS hl
  subst hsz
  have hu : un [6, 7, 8, 10] g f f := un.rf
  have hfr : ∀ i, i < 36 → i < sn → f (g.lk (g.lk P 0) i) = f (g.lk (g.lk P 0) i) := fun _ _ _ => rfl
  refine lv_aload_n hx hb d_NReader_readChoice_0 rfl (lv_at hl 0 rfl) ?_
  refine lv_iconst (v := nI 4) hx hb d_NReader_readChoice_1 (by decide) ?_
  refine pcc_i (va_runV (C := "BigRunner$Reader") (As := [.int (nI 4)]) (rest := []) ⟨hx, hb, hml, hown, tb_nil⟩ (c_addSt l g s.heap.size f Rd tl ln ax P hT sn nn 4 hL t_Rd t_tl t_P hI eR eT cT (by omega) (by omega) eP (by omega) (by omega) (by omega) (by omega)) ⟨(callB_of 1 (tb_one (wd_480 hB _)) tb_good1 rfl rfl rfl (wd_73 hB _) (wd_477 hB _) (by decide +kernel) ⟨(show 1 ≤ 2 * F + 411 by omega), (show 21 ≤ 60 * F + 13030 by omega)⟩), (wd_479 hB _), (wd_6 hB _)⟩ ⟨pe_bl, pg_recv (ci := 7) hK hP (lo_in hL t_Rd (by decide)) eR rfl, pe_pre hB hK hP hD⟩ rfl rfl hl.1 rfl (lv_room (Nat.le_of_ble_eq_true rfl)) d_NReader_readChoice_2 ⟨Nat.le_of_ble_eq_true rfl, Nat.le_of_ble_eq_true rfl⟩) hS (fun r1 f2 H locs hq3 hP hD hS => ?_)
  obtain ⟨q_4, x1_5, xs_6, fr_7, hI1_8, hu1_9⟩ := hq3
  subst q_4
  have hu := hu.tr hu1_9 (by decide)
  have eR := hu1_9.at t_Rd (by decide) eR
  have eT := hu1_9.at t_tl (by decide) eT
  have hfr : ∀ i, i < 36 → i < sn → f2 (g.lk (g.lk P 0) i) = f (g.lk (g.lk P 0) i) := fun i h1 h2 => (fr_7 i h1 (by omega)).trans (hfr i h1 h2)
  obtain ⟨nm_10, fn_11, la_12, ta_13, c14, c15, c16, c17, e18⟩ := xs_6
  refine lv_istore_n (lv' := [(2, .int (nI sn)), (0, .ref Rd), (1, .int (nI d))]) hx hb d_NReader_readChoice_5 rfl hl (by decide) rfl (fun ls hl => ?_)
  refine lv_aload_n hx hb d_NReader_readChoice_6 rfl (lv_at hl 1 rfl) ?_
  refine lv_iload_n hx hb d_NReader_readChoice_7 rfl (lv_at hl 0 rfl) ?_
  refine lv_iload_n hx hb d_NReader_readChoice_8 rfl (lv_at hl 2 rfl) ?_
  refine pcc_i (va_runV (C := "BigRunner$Reader") (As := [.int (nI sn), .int (nI d)]) (rest := []) ⟨hx, hb, hml, hown, tb_nil⟩ (c_readExprOf l g H.size f2 Rd tl ln ax P hT ((sn + 1)) nn sn 4 nm_10 fn_11 la_12 ta_13 d hL t_Rd t_tl t_P hI1_8 eR eT cT (by omega) (by omega) x1_5 (by omega) (by omega) (by omega) e18 (by omega) (by omega) (by omega) c16 (by omega) (by omega) (by omega)) ⟨(callB_of 2 (tb_one (wd_488 hB _)) tb_good1 rfl rfl rfl (wd_73 hB _) (wd_485 hB _) (by decide +kernel) ⟨(show 405 ≤ 2 * F + 411 by omega), (show 12247 ≤ 60 * F + 13030 by omega)⟩), (wd_487 hB _), (wd_8 hB _)⟩ ⟨pe_bl, pg_recv (ci := 7) hK hP (lo_in hL t_Rd (by decide)) eR rfl, pe_pre hB hK hP hD⟩ rfl rfl hl.1 rfl (lv_room (Nat.le_of_ble_eq_true rfl)) d_NReader_readChoice_9 ⟨Nat.le_of_ble_eq_true rfl, Nat.le_of_ble_eq_true rfl⟩) hS (fun r19 f20 H locs hq21 hP hD hS => ?_)
  obtain ⟨rs_22, fr_23, hI1_24, hu1_25⟩ := hq21
  have hu := hu.tr hu1_25 (by decide)
  have eT := hu1_25.at t_tl (by decide) eT
  have hfr : ∀ i, i < 36 → i < sn → f20 (g.lk (g.lk P 0) i) = f (g.lk (g.lk P 0) i) := fun i h1 h2 => (fr_23 i h1 (by omega)).trans (hfr i h1 h2)
  rcases rs_22 with ⟨a26, n27, j28, c33, c34, c35, c36, c37, c38, hp32, e29, e30, e31, rfl⟩ | ⟨a26, n27, c33, c34, hp32, e29, e30, rfl⟩
  · skip
    refine lv_if_eq (tgt := 43) hx hb d_NReader_readChoice_12 (by decide) (fun b39 => ?_) (fun b39 => ?_)
    · skip
      replace b39 := (nI_eq (a := 1) (b := 0) (by omega) (by omega)).mp b39
      exfalso; omega
    · skip
      replace b39 := mt (nI_eq (a := 1) (b := 0) (by omega) (by omega)).mpr b39
      refine lv_aload_n hx hb d_NReader_readChoice_15 rfl (lv_at hl 1 rfl) ?_
      refine lv_bipush (v := nI 58) hx hb d_NReader_readChoice_16 (by decide) ?_
      refine pcc_i (va_runV (C := "BigRunner$Reader") (As := [.int (nI 58)]) (rest := []) ⟨hx, hb, hml, hown, tb_nil⟩ (c_accept l g H.size f20 Rd tl ln a26 P hT 58 hL t_Rd t_tl t_P hI1_24 e29 eT cT (by omega) (by omega) (by decide)) ⟨(callB_of 1 (tb_one (wd_472 hB _)) tb_good1 rfl rfl rfl (wd_73 hB _) (wd_469 hB _) (by decide +kernel) ⟨(show 2 ≤ 2 * F + 411 by omega), (show 41 ≤ 60 * F + 13030 by omega)⟩), (wd_471 hB _), (wd_4 hB _)⟩ ⟨pe_bl, pg_recv (ci := 7) hK hP (lo_in hL t_Rd (by decide)) e29 rfl, pe_pre hB hK hP hD⟩ rfl rfl hl.1 rfl (lv_room (Nat.le_of_ble_eq_true rfl)) d_NReader_readChoice_18 ⟨Nat.le_of_ble_eq_true rfl, Nat.le_of_ble_eq_true rfl⟩) hS (fun r40 f41 H locs hq42 hP hD hS => ?_)
      obtain ⟨bo_43, i0_44, i1_45, hI1_46, hu1_47⟩ := hq42
      have hu := hu.tr hu1_47 (by decide)
      have eT := hu1_47.at t_tl (by decide) eT
      have e30 := hu1_47.at t_P (by decide) e30
      have e31 := hu1_47.at (lo_e24 hL _ (lo_k7_0 hL _ t_P) _ (by omega)) (by decide) e31
      have hfr : ∀ i, i < 36 → i < sn → f41 (g.lk (g.lk P 0) i) = f (g.lk (g.lk P 0) i) := fun i h1 h2 => (hu1_47 _ (by rw [lo_e24 hL _ (lo_k7_0 hL _ t_P) i h1]; decide)).trans (hfr i h1 h2)
      refine lv_if_eq (tgt := 43) hx hb d_NReader_readChoice_21 (by decide) (fun b48 => ?_) (fun b48 => ?_)
      · skip
        have hr49 : r40 = nI 0 := b48
        have hi50 := i0_44 hr49
        obtain ⟨hc51, e52⟩ := hi50
        have hk53 : tk hT ln a26 ≠ 15 := fun z => hc51 (kc_15.mp z)
        refine lv_iconst (v := nI 0) hx hb d_NReader_readChoice_43 (by decide) ?_
        exact pe_zret hx hb hr hlocks hK hP hD hS d_NReader_readChoice_44 rfl ⟨(Or.inr ⟨a26, sn + 1, n27, by omega, by omega, by omega, (by unfold px_c; rw [hp32]; show (if _ then _ else _) = _; exact if_neg hk53), e52, e30, rfl⟩), hfr, hI1_46, hu⟩
      · skip
        have hr54 : r40 = nI 1 := (bl_1 bo_43 b48)
        have hi55 := i1_45 hr54
        obtain ⟨hc56, hl59, e57⟩ := hi55
        have hk58 : tk hT ln a26 = 15 := kc_15.mpr hc56
        refine lv_aload_n hx hb d_NReader_readChoice_24 rfl (lv_at hl 1 rfl) ?_
        refine lv_iload_n hx hb d_NReader_readChoice_25 rfl (lv_at hl 2 rfl) ?_
        refine lv_iconst (v := nI 1) hx hb d_NReader_readChoice_26 (by decide) ?_
        refine pf_iaddN (x := d) (y := 1) hx hb d_NReader_readChoice_27 ?_
        refine pcc_i (va_runV (C := "BigRunner$Reader") (As := [.int (nI (d + 1))]) (rest := []) ⟨hx, hb, hml, hown, tb_nil⟩ ((ih F (by omega)).1 g H.size f41 Rd tl ln ((a26 + 1)) P hT ((sn + 1)) n27 ((d + 1)) hL t_Rd t_tl t_P hI1_46 e57 eT cT (by omega) (by omega) e30 (by omega) (by omega) (by omega) (by omega) (by omega) (by omega)) ⟨(callB_of 1 (tb_one (wd_464 hB _)) tb_good1 rfl rfl rfl (wd_73 hB _) (wd_461 hB _) (by decide +kernel) ⟨(show 2 * F + 410 + 1 ≤ 2 * F + 411 by omega), (show 8 + (3 + 11) + (60 * F + 13000) ≤ 60 * F + 13030 by omega)⟩), (wd_463 hB _), (wd_2 hB _)⟩ ⟨pe_bl, pg_recv (ci := 7) hK hP (lo_in hL t_Rd (by decide)) e57 rfl, pe_pre hB hK hP hD⟩ rfl rfl hl.1 rfl (lv_room (Nat.le_of_ble_eq_true rfl)) d_NReader_readChoice_28 ⟨Nat.le_of_ble_eq_true rfl, Nat.le_of_ble_eq_true rfl⟩) hS (fun r60 f61 H locs hq62 hP hD hS => ?_)
        obtain ⟨rs_63, fr_64, hI1_65, hu1_66⟩ := hq62
        have hu := hu.tr hu1_66 (by decide)
        have eT := hu1_66.at t_tl (by decide) eT
        have hfr : ∀ i, i < 36 → i < sn → f61 (g.lk (g.lk P 0) i) = f (g.lk (g.lk P 0) i) := fun i h1 h2 => (fr_64 i h1 (by omega)).trans (hfr i h1 h2)
        have e67 := (fr_64 sn (by omega) (by omega)).trans e31
        rcases rs_63 with ⟨a68, s69, n70, c76, c77, c78, c79, c80, c81, c82, c83, hp73, e71, e72, hsg74, hnj75, rfl⟩ | ⟨a68, s69, n70, c76, c77, c78, hp73, e71, e72, rfl⟩
        · skip
          have hfi : ∀ i, i < 36 → sn + 1 ≤ i ∧ i < s69 → f61 (g.lk (g.lk P 0) i) = f61 (g.lk (g.lk P 0) i) := fun _ _ _ => rfl
          refine lv_if_eq (tgt := 43) hx hb d_NReader_readChoice_31 (by decide) (fun b84 => ?_) (fun b84 => ?_)
          · skip
            replace b84 := (nI_eq (a := 1) (b := 0) (by omega) (by omega)).mp b84
            exfalso; omega
          · skip
            replace b84 := mt (nI_eq (a := 1) (b := 0) (by omega) (by omega)).mpr b84
            refine lv_aload_n hx hb d_NReader_readChoice_34 rfl (lv_at hl 1 rfl) ?_
            refine lv_bipush (v := nI 124) hx hb d_NReader_readChoice_35 (by decide) ?_
            refine pcc_i (va_runV (C := "BigRunner$Reader") (As := [.int (nI 124)]) (rest := []) ⟨hx, hb, hml, hown, tb_nil⟩ (c_accept l g H.size f61 Rd tl ln a68 P hT 124 hL t_Rd t_tl t_P hI1_65 e71 eT cT (by omega) (by omega) (by decide)) ⟨(callB_of 1 (tb_one (wd_472 hB _)) tb_good1 rfl rfl rfl (wd_73 hB _) (wd_469 hB _) (by decide +kernel) ⟨(show 2 ≤ 2 * F + 411 by omega), (show 41 ≤ 60 * F + 13030 by omega)⟩), (wd_471 hB _), (wd_4 hB _)⟩ ⟨pe_bl, pg_recv (ci := 7) hK hP (lo_in hL t_Rd (by decide)) e71 rfl, pe_pre hB hK hP hD⟩ rfl rfl hl.1 rfl (lv_room (Nat.le_of_ble_eq_true rfl)) d_NReader_readChoice_37 ⟨Nat.le_of_ble_eq_true rfl, Nat.le_of_ble_eq_true rfl⟩) hS (fun r85 f86 H locs hq87 hP hD hS => ?_)
            obtain ⟨bo_88, i0_89, i1_90, hI1_91, hu1_92⟩ := hq87
            have hu := hu.tr hu1_92 (by decide)
            have eT := hu1_92.at t_tl (by decide) eT
            have e67 := hu1_92.at (lo_e24 hL _ (lo_k7_0 hL _ t_P) _ (by omega)) (by decide) e67
            have e72 := hu1_92.at t_P (by decide) e72
            have hfr : ∀ i, i < 36 → i < sn → f86 (g.lk (g.lk P 0) i) = f (g.lk (g.lk P 0) i) := fun i h1 h2 => (hu1_92 _ (by rw [lo_e24 hL _ (lo_k7_0 hL _ t_P) i h1]; decide)).trans (hfr i h1 h2)
            have hfi : ∀ i, i < 36 → sn + 1 ≤ i ∧ i < s69 → f86 (g.lk (g.lk P 0) i) = f61 (g.lk (g.lk P 0) i) := fun i h1 h2 => (hu1_92 _ (by rw [lo_e24 hL _ (lo_k7_0 hL _ t_P) i h1]; decide)).trans (hfi i h1 h2)
            refine lv_if_ne (tgt := 45) hx hb d_NReader_readChoice_40 (by decide) (fun b93 => ?_) (fun b93 => ?_)
            · skip
              have hr94 : r85 = nI 1 := (bl_1 bo_88 b93)
              have hi95 := i1_90 hr94
              obtain ⟨hc96, hl99, e97⟩ := hi95
              have hk98 : tk hT ln a68 = 14 := kc_14.mpr hc96
              refine lv_aload_n hx hb d_NReader_readChoice_45 rfl (lv_at hl 1 rfl) ?_
              refine lv_iconst (v := nI 5) hx hb d_NReader_readChoice_46 (by decide) ?_
              refine pcc_i (va_runV (C := "BigRunner$Reader") (As := [.int (nI 5)]) (rest := []) ⟨hx, hb, hml, hown, tb_nil⟩ (c_addSt l g H.size f86 Rd tl ln ((a68 + 1)) P hT s69 n70 5 hL t_Rd t_tl t_P hI1_91 e97 eT cT (by omega) (by omega) e72 (by omega) (by omega) (by omega) (by omega)) ⟨(callB_of 1 (tb_one (wd_480 hB _)) tb_good1 rfl rfl rfl (wd_73 hB _) (wd_477 hB _) (by decide +kernel) ⟨(show 1 ≤ 2 * F + 411 by omega), (show 21 ≤ 60 * F + 13030 by omega)⟩), (wd_479 hB _), (wd_6 hB _)⟩ ⟨pe_bl, pg_recv (ci := 7) hK hP (lo_in hL t_Rd (by decide)) e97 rfl, pe_pre hB hK hP hD⟩ rfl rfl hl.1 rfl (lv_room (Nat.le_of_ble_eq_true rfl)) d_NReader_readChoice_47 ⟨Nat.le_of_ble_eq_true rfl, Nat.le_of_ble_eq_true rfl⟩) hS (fun r100 f101 H locs hq102 hP hD hS => ?_)
              obtain ⟨q_103, x1_104, xs_105, fr_106, hI1_107, hu1_108⟩ := hq102
              subst q_103
              have hu := hu.tr hu1_108 (by decide)
              have eT := hu1_108.at t_tl (by decide) eT
              have e97 := hu1_108.at t_Rd (by decide) e97
              have hfr : ∀ i, i < 36 → i < sn → f101 (g.lk (g.lk P 0) i) = f (g.lk (g.lk P 0) i) := fun i h1 h2 => (fr_106 i h1 (by omega)).trans (hfr i h1 h2)
              have hfi : ∀ i, i < 36 → sn + 1 ≤ i ∧ i < s69 → f101 (g.lk (g.lk P 0) i) = f61 (g.lk (g.lk P 0) i) := fun i h1 h2 => (fr_106 i h1 (by omega)).trans (hfi i h1 h2)
              obtain ⟨nm_109, fn_110, la_111, ta_112, c113, c114, c115, c116, e117⟩ := xs_105
              have e118 := (fr_106 sn (by omega) (by omega)).trans e67
              refine lv_istore_n (lv' := [(3, .int (nI s69)), (2, .int (nI sn)), (0, .ref Rd), (1, .int (nI d))]) hx hb d_NReader_readChoice_50 rfl hl (by decide) rfl (fun ls hl => ?_)
              refine lv_aload_n hx hb d_NReader_readChoice_51 rfl (lv_at hl 2 rfl) ?_
              refine lv_iload_n hx hb d_NReader_readChoice_52 rfl (lv_at hl 1 rfl) ?_
              refine lv_aload_n hx hb d_NReader_readChoice_53 rfl (lv_at hl 2 rfl) ?_
              refine pf_get (v := .ref P) (C := "BigRunner$Reader") (T := FT7) (N := 4) hx hb (hw7 hB _) (fun _ h9 => h9) hown hK hP (lo_in hL t_Rd (by decide)) e97 rfl 3 (by decide) (wd_273 hB _) rfl d_NReader_readChoice_54 ?_
              refine pf_get (v := .int (nI (s69 + 1))) (C := "BigRunner$Program") (T := FT6) (N := 6) hx hb (hw6 hB _) (fun _ h9 => h9) hown hK hP (lo_in hL t_P (by decide)) x1_104 rfl 1 (by decide) (wd_246 hB _) rfl d_NReader_readChoice_57 ?_
              refine pcc_i (va_runV (C := "BigRunner$Reader") (As := [.int (nI sn), .int (nI (s69 + 1))]) (rest := []) ⟨hx, hb, hml, hown, tb_nil⟩ (c_aim l g H.size f101 Rd tl ln ((a68 + 1)) P hT ((s69 + 1)) n70 sn 4 nm_10 nn ((nI j28)) ta_13 ((s69 + 1)) hL t_Rd t_tl t_P hI1_107 e97 eT cT (by omega) (by omega) x1_104 (by omega) (by omega) (by omega) e118 (by omega) (by omega) (by omega) (Or.inr ⟨_, by omega, rfl⟩) (by omega) (by omega)) ⟨(callB_of 2 (tb_one (wd_516 hB _)) tb_good1 rfl rfl rfl (wd_73 hB _) (wd_513 hB _) (by decide +kernel) ⟨(show 1 ≤ 2 * F + 411 by omega), (show 22 ≤ 60 * F + 13030 by omega)⟩), (wd_515 hB _), (wd_15 hB _)⟩ ⟨pe_bl, pg_recv (ci := 7) hK hP (lo_in hL t_Rd (by decide)) e97 rfl, pe_pre hB hK hP hD⟩ rfl rfl hl.1 rfl (lv_room (Nat.le_of_ble_eq_true rfl)) d_NReader_readChoice_60 ⟨Nat.le_of_ble_eq_true rfl, Nat.le_of_ble_eq_true rfl⟩) hS (fun r119 f120 H locs hq121 hP hD hS => ?_)
              obtain ⟨q_122, x1_123, fr_124, hI1_125, hu1_126⟩ := hq121
              subst q_122
              have hu := hu.tr hu1_126 (by decide)
              have eT := hu1_126.at t_tl (by decide) eT
              have e97 := hu1_126.at t_Rd (by decide) e97
              have x1_104 := hu1_126.at t_P (by decide) x1_104
              have hfr : ∀ i, i < 36 → i < sn → f120 (g.lk (g.lk P 0) i) = f (g.lk (g.lk P 0) i) := fun i h1 h2 => (fr_124 i h1 (by omega)).trans (hfr i h1 h2)
              have hfi : ∀ i, i < 36 → sn + 1 ≤ i ∧ i < s69 → f120 (g.lk (g.lk P 0) i) = f61 (g.lk (g.lk P 0) i) := fun i h1 h2 => (fr_124 i h1 (by omega)).trans (hfi i h1 h2)
              have e127 := (fr_124 s69 (by omega) (by omega)).trans e117
              refine lv_if_eq (tgt := 104) hx hb d_NReader_readChoice_63 (by decide) (fun b128 => ?_) (fun b128 => ?_)
              · skip
                replace b128 := (nI_eq (a := 1) (b := 0) (by omega) (by omega)).mp b128
                exfalso; omega
              · skip
                replace b128 := mt (nI_eq (a := 1) (b := 0) (by omega) (by omega)).mpr b128
                refine lv_aload_n hx hb d_NReader_readChoice_66 rfl (lv_at hl 2 rfl) ?_
                refine lv_iload_n hx hb d_NReader_readChoice_67 rfl (lv_at hl 3 rfl) ?_
                refine lv_iconst (v := nI 1) hx hb d_NReader_readChoice_68 (by decide) ?_
                refine pf_iaddN (x := d) (y := 1) hx hb d_NReader_readChoice_69 ?_
                refine pcc_i (va_runV (C := "BigRunner$Reader") (As := [.int (nI (d + 1))]) (rest := []) ⟨hx, hb, hml, hown, tb_nil⟩ ((ih F (by omega)).1 g H.size f120 Rd tl ln ((a68 + 1)) P hT ((s69 + 1)) n70 ((d + 1)) hL t_Rd t_tl t_P hI1_125 e97 eT cT (by omega) (by omega) x1_104 (by omega) (by omega) (by omega) (by omega) (by omega) (by omega)) ⟨(callB_of 1 (tb_one (wd_464 hB _)) tb_good1 rfl rfl rfl (wd_73 hB _) (wd_461 hB _) (by decide +kernel) ⟨(show 2 * F + 410 + 1 ≤ 2 * F + 411 by omega), (show 8 + (3 + 11) + (60 * F + 13000) ≤ 60 * F + 13030 by omega)⟩), (wd_463 hB _), (wd_2 hB _)⟩ ⟨pe_bl, pg_recv (ci := 7) hK hP (lo_in hL t_Rd (by decide)) e97 rfl, pe_pre hB hK hP hD⟩ rfl rfl hl.1 rfl (lv_room (Nat.le_of_ble_eq_true rfl)) d_NReader_readChoice_70 ⟨Nat.le_of_ble_eq_true rfl, Nat.le_of_ble_eq_true rfl⟩) hS (fun r129 f130 H locs hq131 hP hD hS => ?_)
                obtain ⟨rs_132, fr_133, hI1_134, hu1_135⟩ := hq131
                have hu := hu.tr hu1_135 (by decide)
                have eT := hu1_135.at t_tl (by decide) eT
                have hfr : ∀ i, i < 36 → i < sn → f130 (g.lk (g.lk P 0) i) = f (g.lk (g.lk P 0) i) := fun i h1 h2 => (fr_133 i h1 (by omega)).trans (hfr i h1 h2)
                have hfi : ∀ i, i < 36 → sn + 1 ≤ i ∧ i < s69 → f130 (g.lk (g.lk P 0) i) = f61 (g.lk (g.lk P 0) i) := fun i h1 h2 => (fr_133 i h1 (by omega)).trans (hfi i h1 h2)
                have e136 := (fr_133 s69 (by omega) (by omega)).trans e127
                have e137 := (fr_133 sn (by omega) (by omega)).trans x1_123
                rcases rs_132 with ⟨a138, s139, n140, c146, c147, c148, c149, c150, c151, c152, c153, hp143, e141, e142, hsg144, hnj145, rfl⟩ | ⟨a138, s139, n140, c146, c147, c148, hp143, e141, e142, rfl⟩
                · skip
                  have hfj : ∀ i, i < 36 → s69 + 1 ≤ i ∧ i < s139 → f130 (g.lk (g.lk P 0) i) = f130 (g.lk (g.lk P 0) i) := fun _ _ _ => rfl
                  refine lv_if_eq (tgt := 104) hx hb d_NReader_readChoice_73 (by decide) (fun b154 => ?_) (fun b154 => ?_)
                  · skip
                    replace b154 := (nI_eq (a := 1) (b := 0) (by omega) (by omega)).mp b154
                    exfalso; omega
                  · skip
                    replace b154 := mt (nI_eq (a := 1) (b := 0) (by omega) (by omega)).mpr b154
                    refine lv_aload_n hx hb d_NReader_readChoice_76 rfl (lv_at hl 2 rfl) ?_
                    refine lv_bipush (v := nI 125) hx hb d_NReader_readChoice_77 (by decide) ?_
                    refine pcc_i (va_runV (C := "BigRunner$Reader") (As := [.int (nI 125)]) (rest := []) ⟨hx, hb, hml, hown, tb_nil⟩ (c_accept l g H.size f130 Rd tl ln a138 P hT 125 hL t_Rd t_tl t_P hI1_134 e141 eT cT (by omega) (by omega) (by decide)) ⟨(callB_of 1 (tb_one (wd_472 hB _)) tb_good1 rfl rfl rfl (wd_73 hB _) (wd_469 hB _) (by decide +kernel) ⟨(show 2 ≤ 2 * F + 411 by omega), (show 41 ≤ 60 * F + 13030 by omega)⟩), (wd_471 hB _), (wd_4 hB _)⟩ ⟨pe_bl, pg_recv (ci := 7) hK hP (lo_in hL t_Rd (by decide)) e141 rfl, pe_pre hB hK hP hD⟩ rfl rfl hl.1 rfl (lv_room (Nat.le_of_ble_eq_true rfl)) d_NReader_readChoice_79 ⟨Nat.le_of_ble_eq_true rfl, Nat.le_of_ble_eq_true rfl⟩) hS (fun r155 f156 H locs hq157 hP hD hS => ?_)
                    obtain ⟨bo_158, i0_159, i1_160, hI1_161, hu1_162⟩ := hq157
                    have hu := hu.tr hu1_162 (by decide)
                    have eT := hu1_162.at t_tl (by decide) eT
                    have e136 := hu1_162.at (lo_e24 hL _ (lo_k7_0 hL _ t_P) _ (by omega)) (by decide) e136
                    have e137 := hu1_162.at (lo_e24 hL _ (lo_k7_0 hL _ t_P) _ (by omega)) (by decide) e137
                    have e142 := hu1_162.at t_P (by decide) e142
                    have hfr : ∀ i, i < 36 → i < sn → f156 (g.lk (g.lk P 0) i) = f (g.lk (g.lk P 0) i) := fun i h1 h2 => (hu1_162 _ (by rw [lo_e24 hL _ (lo_k7_0 hL _ t_P) i h1]; decide)).trans (hfr i h1 h2)
                    have hfi : ∀ i, i < 36 → sn + 1 ≤ i ∧ i < s69 → f156 (g.lk (g.lk P 0) i) = f61 (g.lk (g.lk P 0) i) := fun i h1 h2 => (hu1_162 _ (by rw [lo_e24 hL _ (lo_k7_0 hL _ t_P) i h1]; decide)).trans (hfi i h1 h2)
                    have hfj : ∀ i, i < 36 → s69 + 1 ≤ i ∧ i < s139 → f156 (g.lk (g.lk P 0) i) = f130 (g.lk (g.lk P 0) i) := fun i h1 h2 => (hu1_162 _ (by rw [lo_e24 hL _ (lo_k7_0 hL _ t_P) i h1]; decide)).trans (hfj i h1 h2)
                    refine lv_if_eq (tgt := 104) hx hb d_NReader_readChoice_82 (by decide) (fun b163 => ?_) (fun b163 => ?_)
                    · skip
                      have hr164 : r155 = nI 0 := b163
                      have hi165 := i0_159 hr164
                      obtain ⟨hc166, e167⟩ := hi165
                      have hk168 : tk hT ln a138 ≠ 13 := fun z => hc166 (kc_13.mp z)
                      refine lv_iconst (v := nI 0) hx hb d_NReader_readChoice_104 (by decide) ?_
                      exact pe_zret hx hb hr hlocks hK hP hD hS d_NReader_readChoice_105 rfl ⟨(Or.inr ⟨a138, s139, n140, by omega, by omega, by omega, (by unfold px_c; rw [hp32]; show (if _ then _ else _) = _; rw [if_pos hk58, hp73]; show (if _ then _ else _) = _; rw [if_pos hk98, hp143]; exact if_neg hk168), e167, e142, rfl⟩), hfr, hI1_161, hu⟩
                    · skip
                      have hr169 : r155 = nI 1 := (bl_1 bo_158 b163)
                      have hi170 := i1_160 hr169
                      obtain ⟨hc171, hl174, e172⟩ := hi170
                      have hk173 : tk hT ln a138 = 13 := kc_13.mpr hc171
                      refine lv_aload_n hx hb d_NReader_readChoice_85 rfl (lv_at hl 2 rfl) ?_
                      refine lv_iload_n hx hb d_NReader_readChoice_86 rfl (lv_at hl 0 rfl) ?_
                      refine lv_aload_n hx hb d_NReader_readChoice_87 rfl (lv_at hl 2 rfl) ?_
                      refine pf_get (v := .ref P) (C := "BigRunner$Reader") (T := FT7) (N := 4) hx hb (hw7 hB _) (fun _ h9 => h9) hown hK hP (lo_in hL t_Rd (by decide)) e172 rfl 3 (by decide) (wd_273 hB _) rfl d_NReader_readChoice_88 ?_
                      refine pf_get (v := .int (nI s139)) (C := "BigRunner$Program") (T := FT6) (N := 6) hx hb (hw6 hB _) (fun _ h9 => h9) hown hK hP (lo_in hL t_P (by decide)) e142 rfl 1 (by decide) (wd_246 hB _) rfl d_NReader_readChoice_91 ?_
                      refine pcc_i (va_runV (C := "BigRunner$Reader") (As := [.int (nI s69), .int (nI s139)]) (rest := []) ⟨hx, hb, hml, hown, tb_nil⟩ (c_aim l g H.size f156 Rd tl ln ((a138 + 1)) P hT s139 n140 s69 5 nm_109 fn_110 la_111 ta_112 s139 hL t_Rd t_tl t_P hI1_161 e172 eT cT (by omega) (by omega) e142 (by omega) (by omega) (by omega) e136 (by omega) (by omega) (by omega) c115 (by omega) (by omega)) ⟨(callB_of 2 (tb_one (wd_516 hB _)) tb_good1 rfl rfl rfl (wd_73 hB _) (wd_513 hB _) (by decide +kernel) ⟨(show 1 ≤ 2 * F + 411 by omega), (show 22 ≤ 60 * F + 13030 by omega)⟩), (wd_515 hB _), (wd_15 hB _)⟩ ⟨pe_bl, pg_recv (ci := 7) hK hP (lo_in hL t_Rd (by decide)) e172 rfl, pe_pre hB hK hP hD⟩ rfl rfl hl.1 rfl (lv_room (Nat.le_of_ble_eq_true rfl)) d_NReader_readChoice_94 ⟨Nat.le_of_ble_eq_true rfl, Nat.le_of_ble_eq_true rfl⟩) hS (fun r175 f176 H locs hq177 hP hD hS => ?_)
                      obtain ⟨q_178, x1_179, fr_180, hI1_181, hu1_182⟩ := hq177
                      subst q_178
                      have hu := hu.tr hu1_182 (by decide)
                      have eT := hu1_182.at t_tl (by decide) eT
                      have e142 := hu1_182.at t_P (by decide) e142
                      have e172 := hu1_182.at t_Rd (by decide) e172
                      have hfr : ∀ i, i < 36 → i < sn → f176 (g.lk (g.lk P 0) i) = f (g.lk (g.lk P 0) i) := fun i h1 h2 => (fr_180 i h1 (by omega)).trans (hfr i h1 h2)
                      have hfi : ∀ i, i < 36 → sn + 1 ≤ i ∧ i < s69 → f176 (g.lk (g.lk P 0) i) = f61 (g.lk (g.lk P 0) i) := fun i h1 h2 => (fr_180 i h1 (by omega)).trans (hfi i h1 h2)
                      have hfj : ∀ i, i < 36 → s69 + 1 ≤ i ∧ i < s139 → f176 (g.lk (g.lk P 0) i) = f130 (g.lk (g.lk P 0) i) := fun i h1 h2 => (fr_180 i h1 (by omega)).trans (hfj i h1 h2)
                      have e183 := (fr_180 sn (by omega) (by omega)).trans e137
                      refine lv_if_eq (tgt := 104) hx hb d_NReader_readChoice_97 (by decide) (fun b184 => ?_) (fun b184 => ?_)
                      · skip
                        replace b184 := (nI_eq (a := 1) (b := 0) (by omega) (by omega)).mp b184
                        exfalso; omega
                      · skip
                        replace b184 := mt (nI_eq (a := 1) (b := 0) (by omega) (by omega)).mpr b184
                        refine lv_iconst (v := nI 1) hx hb d_NReader_readChoice_100 (by decide) ?_
                        refine lv_goto (tgt := 105) hx hb d_NReader_readChoice_101 (by decide) ?_
                        exact pe_zret hx hb hr hlocks hK hP hD hS d_NReader_readChoice_105 rfl ⟨(Or.inl ⟨a138 + 1, s139, n140, by omega, by omega, by omega, by omega, by omega, by omega, by omega, by omega, (by unfold px_c; rw [hp32]; show (if _ then _ else _) = _; rw [if_pos hk58, hp73]; show (if _ then _ else _) = _; rw [if_pos hk98, hp143]; exact if_pos hk173), e172, e142, (SG_mid (SG_app (b := sn + 1) (by omega) (by omega) (SG_one e183 (by omega) (by omega) (by omega) (by omega) (fun _ => ⟨_, by omega, rfl⟩)) (SG_eq hsg74 (fun i q1 q2 => hfi i (by omega) (by omega)))) (SG_eq hsg144 (fun i q1 q2 => hfj i (by omega) (by omega))) (by omega) x1_179 (by omega) (by omega) (by omega) (by omega) (by omega) (by omega)), (nj_of e183 (by omega)), rfl⟩), hfr, hI1_181, hu⟩
                · skip
                  refine lv_if_eq (tgt := 104) hx hb d_NReader_readChoice_73 (by decide) (fun b185 => ?_) (fun b185 => ?_)
                  · skip
                    replace b185 := (nI_eq (a := 0) (b := 0) (by omega) (by omega)).mp b185
                    refine lv_iconst (v := nI 0) hx hb d_NReader_readChoice_104 (by decide) ?_
                    exact pe_zret hx hb hr hlocks hK hP hD hS d_NReader_readChoice_105 rfl ⟨(Or.inr ⟨a138, s139, n140, by omega, by omega, by omega, (by unfold px_c; rw [hp32]; show (if _ then _ else _) = _; rw [if_pos hk58, hp73]; show (if _ then _ else _) = _; rw [if_pos hk98, hp143]; rfl), e141, e142, rfl⟩), hfr, hI1_134, hu⟩
                  · skip
                    replace b185 := mt (nI_eq (a := 0) (b := 0) (by omega) (by omega)).mpr b185
                    exfalso; omega
            · skip
              have hr186 : r85 = nI 0 := b93
              have hi187 := i0_89 hr186
              obtain ⟨hc188, e189⟩ := hi187
              have hk190 : tk hT ln a68 ≠ 14 := fun z => hc188 (kc_14.mp z)
              refine lv_iconst (v := nI 0) hx hb d_NReader_readChoice_43 (by decide) ?_
              exact pe_zret hx hb hr hlocks hK hP hD hS d_NReader_readChoice_44 rfl ⟨(Or.inr ⟨a68, s69, n70, by omega, by omega, by omega, (by unfold px_c; rw [hp32]; show (if _ then _ else _) = _; rw [if_pos hk58, hp73]; exact if_neg hk190), e189, e72, rfl⟩), hfr, hI1_91, hu⟩
        · skip
          refine lv_if_eq (tgt := 43) hx hb d_NReader_readChoice_31 (by decide) (fun b191 => ?_) (fun b191 => ?_)
          · skip
            replace b191 := (nI_eq (a := 0) (b := 0) (by omega) (by omega)).mp b191
            refine lv_iconst (v := nI 0) hx hb d_NReader_readChoice_43 (by decide) ?_
            exact pe_zret hx hb hr hlocks hK hP hD hS d_NReader_readChoice_44 rfl ⟨(Or.inr ⟨a68, s69, n70, by omega, by omega, by omega, (by unfold px_c; rw [hp32]; show (if _ then _ else _) = _; rw [if_pos hk58, hp73]; rfl), e71, e72, rfl⟩), hfr, hI1_65, hu⟩
          · skip
            replace b191 := mt (nI_eq (a := 0) (b := 0) (by omega) (by omega)).mpr b191
            exfalso; omega
  · skip
    refine lv_if_eq (tgt := 43) hx hb d_NReader_readChoice_12 (by decide) (fun b192 => ?_) (fun b192 => ?_)
    · skip
      replace b192 := (nI_eq (a := 0) (b := 0) (by omega) (by omega)).mp b192
      refine lv_iconst (v := nI 0) hx hb d_NReader_readChoice_43 (by decide) ?_
      exact pe_zret hx hb hr hlocks hK hP hD hS d_NReader_readChoice_44 rfl ⟨(Or.inr ⟨a26, sn + 1, n27, by omega, by omega, by omega, (by unfold px_c; rw [hp32]; rfl), e29, e30, rfl⟩), hfr, hI1_24, hu⟩
    · skip
      replace b192 := mt (nI_eq (a := 0) (b := 0) (by omega) (by omega)).mpr b192
      exfalso; omega
