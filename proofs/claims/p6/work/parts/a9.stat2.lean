set_option maxHeartbeats 4000000 in
set_option maxRecDepth 100000 in
theorem c2_readExpr (l : Launch) (g : Lay) (sz : Nat) (f : Nat → va_E) (Rd : Nat) (tl : Nat) (ln : Nat) (ax : Nat) (P : Nat) (hT : Nat → Int32) (sn : Nat) (nn : Nat) (d : Nat) (hL : LO g) (t_Rd : g.tg Rd = 8) (t_tl : g.tg tl = 20) (t_P : g.tg P = 7) (hI : IV g f) (eR : f Rd = .inr (7, [.ref tl, .int (nI ln), .int (nI ax), .ref P])) (eT : f tl = .inl (g.ac tl, 72, .inl hT)) (cT : ∀ i, i < 72 → vp_nar .char (hT i) = hT i) (hln : ln ≤ 72) (hax : ax ≤ ln) (eP : f P = .inr (6, [.ref (g.lk P 0), .int (nI sn), .ref (g.lk P 2), .int (nI nn), .ref (g.lk P 4), .ref (g.lk P 5)])) (hsn : sn ≤ 36) (hnn : nn ≤ 72) (hna : nn ≤ ax) (hd : d ≤ 11) : Met l ⟨"BigRunner$Reader", "readExpr", "(I)I"⟩ [Cond.code ⟨"BigRunner$Reader", "readExpr", "(I)I"⟩ prog_8_method_11_code 4 (some .int)] ({ frames := 403, cells := 0, slots := 0, locals := 12200 }) (va_Pc [.ref Rd, .int (nI d)] (pc_in g sz f)) (va_Qi (fun r f1 => ((∃ (a n1 j : Nat), a ≤ ln ∧ n1 ≤ 72 ∧ j + 1 = n1 ∧ n1 + ax ≤ nn + a ∧ ax < a ∧ n1 = nn + (ox_e (tk hT ln) (vc hT ln) 400 1 d ax).length ∧ px_e (tk hT ln) 400 1 d ax = some a ∧ f1 Rd = .inr (7, [.ref tl, .int (nI ln), .int (nI a), .ref P]) ∧ f1 P = .inr (6, [.ref (g.lk P 0), .int (nI sn), .ref (g.lk P 2), .int (nI n1), .ref (g.lk P 4), .ref (g.lk P 5)]) ∧ XR g f1 P nn (ox_e (tk hT ln) (vc hT ln) 400 1 d ax) ∧ r = nI j) ∨ (∃ (a n1 : Nat), a ≤ ln ∧ n1 ≤ 72 ∧ px_e (tk hT ln) 400 1 d ax = none ∧ f1 Rd = .inr (7, [.ref tl, .int (nI ln), .int (nI a), .ref P]) ∧ f1 P = .inr (6, [.ref (g.lk P 0), .int (nI sn), .ref (g.lk P 2), .int (nI n1), .ref (g.lk P 4), .ref (g.lk P 5)]) ∧ r = (-1))) ∧ (∀ i, i < 72 → i < nn → f1 (g.lk (g.lk P 2) i) = f (g.lk (g.lk P 2) i)) ∧ (IV g f1) ∧ (un [6, 7, 8] g f f1)) (pc_out g sz) (pc_A g sz)) 0 0 (pc_A g sz) := (rd2_all l 400 400 (Nat.le_refl 400)).2.1 g sz f Rd tl ln ax P hT sn nn d hL t_Rd t_tl t_P hI eR eT cT hln hax eP hsn hnn hna hd (by omega)
set_option maxHeartbeats 4000000 in
set_option maxRecDepth 100000 in
theorem c2_readExprOf (l : Launch) (g : Lay) (sz : Nat) (f : Nat → va_E) (Rd : Nat) (tl : Nat) (ln : Nat) (ax : Nat) (P : Nat) (hT : Nat → Int32) (sn : Nat) (nn : Nat) (si : Nat) (kd : Nat) (nm : Nat) (fn : Nat) (la : Int32) (ta : Nat) (d : Nat) (hL : LO g) (t_Rd : g.tg Rd = 8) (t_tl : g.tg tl = 20) (t_P : g.tg P = 7) (hI : IV g f) (eR : f Rd = .inr (7, [.ref tl, .int (nI ln), .int (nI ax), .ref P])) (eT : f tl = .inl (g.ac tl, 72, .inl hT)) (cT : ∀ i, i < 72 → vp_nar .char (hT i) = hT i) (hln : ln ≤ 72) (hax : ax ≤ ln) (eP : f P = .inr (6, [.ref (g.lk P 0), .int (nI sn), .ref (g.lk P 2), .int (nI nn), .ref (g.lk P 4), .ref (g.lk P 5)])) (hsn : sn ≤ 36) (hnn : nn ≤ 72) (hsi : si < 36) (eS : f (g.lk (g.lk P 0) si) = .inr (9, [.int (nI kd), .int (nI nm), .int (nI fn), .int la, .int (nI ta)])) (hkd : kd ≤ 5) (hnm : nm < 10) (hfn : fn ≤ 72) (hla : la = -1 ∨ ∃ j, j < 72 ∧ la = nI j) (hta : ta ≤ 36) (hna : nn ≤ ax) (hd : d ≤ 11) : Met l ⟨"BigRunner$Reader", "readExprOf", "(II)Z"⟩ [Cond.code ⟨"BigRunner$Reader", "readExprOf", "(II)Z"⟩ prog_8_method_10_code 5 (some .boolean)] ({ frames := 404, cells := 0, slots := 0, locals := 12223 }) (va_Pc [.ref Rd, .int (nI si), .int (nI d)] (pc_in g sz f)) (va_Qi (fun r f1 => ((∃ (a n1 j : Nat), a ≤ ln ∧ n1 ≤ 72 ∧ j + 1 = n1 ∧ n1 + ax ≤ nn + a ∧ ax < a ∧ n1 = nn + (ox_e (tk hT ln) (vc hT ln) 400 1 d ax).length ∧ px_e (tk hT ln) 400 1 d ax = some a ∧ f1 Rd = .inr (7, [.ref tl, .int (nI ln), .int (nI a), .ref P]) ∧ f1 P = .inr (6, [.ref (g.lk P 0), .int (nI sn), .ref (g.lk P 2), .int (nI n1), .ref (g.lk P 4), .ref (g.lk P 5)]) ∧ XR g f1 P nn (ox_e (tk hT ln) (vc hT ln) 400 1 d ax) ∧ f1 (g.lk (g.lk P 0) si) = .inr (9, [.int (nI kd), .int (nI nm), .int (nI nn), .int (nI j), .int (nI ta)]) ∧ r = nI 1) ∨ (∃ (a n1 : Nat), a ≤ ln ∧ n1 ≤ 72 ∧ px_e (tk hT ln) 400 1 d ax = none ∧ f1 Rd = .inr (7, [.ref tl, .int (nI ln), .int (nI a), .ref P]) ∧ f1 P = .inr (6, [.ref (g.lk P 0), .int (nI sn), .ref (g.lk P 2), .int (nI n1), .ref (g.lk P 4), .ref (g.lk P 5)]) ∧ r = nI 0)) ∧ (∀ i, i < 36 → i ≠ si → f1 (g.lk (g.lk P 0) i) = f (g.lk (g.lk P 0) i)) ∧ (∀ i, i < 72 → i < nn → f1 (g.lk (g.lk P 2) i) = f (g.lk (g.lk P 2) i)) ∧ (IV g f1) ∧ (un [6, 7, 8, 10] g f f1)) (pc_out g sz) (pc_A g sz)) 0 0 (pc_A g sz) := by
  refine pe_ofW (cc := prog_8_method_10_code) (maxL := 5) (ret := (some .boolean)) (lv := [(0, .ref Rd), (1, .int (nI si)), (2, .int (nI d))]) (by decide) (Nat.le_of_ble_eq_true rfl) rfl ?_
  intro p e s m args below meth c ls hx hb hr hml hlocks hown hB hP hK hD hsz hS hl
  subst hsz
  have hu : un [6, 7, 8, 10] g f f := un.rf
  have hfr : ∀ i, i < 36 → i ≠ si → f (g.lk (g.lk P 0) i) = f (g.lk (g.lk P 0) i) := fun _ _ _ => rfl
  have hfn : ∀ i, i < 72 → i < nn → f (g.lk (g.lk P 2) i) = f (g.lk (g.lk P 2) i) := fun _ _ _ => rfl
  refine lv_iload_n hx hb d_NReader_readExprOf_0 rfl (lv_at hl 1 rfl) ?_
  refine lv_iconst (v := (-1)) hx hb d_NReader_readExprOf_1 (by decide) ?_
  refine lv_icmp_ne (tgt := 7) hx hb d_NReader_readExprOf_2 (by decide) (fun b1 => ?_) (fun b1 => ?_)
  · skip
    refine lv_aload_n hx hb d_NReader_readExprOf_7 rfl (lv_at hl 0 rfl) ?_
    refine pf_get (v := .ref P) (C := "BigRunner$Reader") (T := FT7) (N := 4) hx hb (hw7 hB _) (fun _ h9 => h9) hown hK hP (lo_in hL t_Rd (by decide)) eR rfl 3 (by decide) (wd_273 hB _) rfl d_NReader_readExprOf_8 ?_
    refine pf_get (v := .int (nI nn)) (C := "BigRunner$Program") (T := FT6) (N := 6) hx hb (hw6 hB _) (fun _ h9 => h9) hown hK hP (lo_in hL t_P (by decide)) eP rfl 3 (by decide) (wd_252 hB _) rfl d_NReader_readExprOf_11 ?_
    refine lv_istore_n (lv' := [(3, .int (nI nn)), (0, .ref Rd), (1, .int (nI si)), (2, .int (nI d))]) hx hb d_NReader_readExprOf_14 rfl hl (by decide) rfl (fun ls hl => ?_)
    refine lv_aload_n hx hb d_NReader_readExprOf_15 rfl (lv_at hl 1 rfl) ?_
    refine lv_iload_n hx hb d_NReader_readExprOf_16 rfl (lv_at hl 3 rfl) ?_
    refine pcc_i (va_runV (C := "BigRunner$Reader") (As := [.int (nI d)]) (rest := []) ⟨hx, hb, hml, hown, tb_nil⟩ (c2_readExpr l g s.heap.size f Rd tl ln ax P hT sn nn d hL t_Rd t_tl t_P hI eR eT cT (by omega) (by omega) eP (by omega) (by omega) (by omega) (by omega)) ⟨(callB_of 1 (tb_one (wd_492 hB _)) tb_good1 rfl rfl rfl (wd_73 hB _) (wd_489 hB _) (by decide +kernel) ⟨Nat.le_of_ble_eq_true rfl, Nat.le_of_ble_eq_true rfl⟩), (wd_491 hB _), (wd_9 hB _)⟩ ⟨pe_bl, pg_recv (ci := 7) hK hP (lo_in hL t_Rd (by decide)) eR rfl, pe_pre hB hK hP hD⟩ rfl rfl hl.1 rfl (lv_room (Nat.le_of_ble_eq_true rfl)) d_NReader_readExprOf_17 ⟨Nat.le_of_ble_eq_true rfl, Nat.le_of_ble_eq_true rfl⟩) hS (fun r2 f3 H locs hq4 hP hD hS => ?_)
    obtain ⟨rs_5, frn_6, hI1_7, hu1_8⟩ := hq4
    have hu := hu.tr hu1_8 (by decide)
    have eT := hu1_8.at t_tl (by decide) eT
    have eS := hu1_8.at (lo_e24 hL _ (lo_k7_0 hL _ t_P) _ (by omega)) (by decide) eS
    have hfr : ∀ i, i < 36 → i ≠ si → f3 (g.lk (g.lk P 0) i) = f (g.lk (g.lk P 0) i) := fun i h1 h2 => (hu1_8 _ (by rw [lo_e24 hL _ (lo_k7_0 hL _ t_P) i h1]; decide)).trans (hfr i h1 h2)
    have hfn : ∀ i, i < 72 → i < nn → f3 (g.lk (g.lk P 2) i) = f (g.lk (g.lk P 2) i) := fun i h1 h2 => (frn_6 i h1 (by omega)).trans (hfn i h1 h2)
    rcases rs_5 with ⟨a9, n10, j11, c16, c17, c18, c19, c20, c21, hp14, e12, e13, hx_15, rfl⟩ | ⟨a9, n10, c16, c17, hp14, e12, e13, rfl⟩
    · skip
      have hfb22 : ∀ i, i < 72 → i < n10 → f3 (g.lk (g.lk P 2) i) = f3 (g.lk (g.lk P 2) i) := fun _ _ _ => rfl
      refine lv_istore (lv' := [(4, .int (nI j11)), (3, .int (nI nn)), (0, .ref Rd), (1, .int (nI si)), (2, .int (nI d))]) hx hb d_NReader_readExprOf_20 hl (by decide) rfl (fun ls hl => ?_)
      refine lv_aload_n hx hb d_NReader_readExprOf_22 rfl (lv_at hl 2 rfl) ?_
      refine pf_get (v := .ref P) (C := "BigRunner$Reader") (T := FT7) (N := 4) hx hb (hw7 hB _) (fun _ h9 => h9) hown hK hP (lo_in hL t_Rd (by decide)) e12 rfl 3 (by decide) (wd_273 hB _) rfl d_NReader_readExprOf_23 ?_
      refine pf_get (v := .ref (g.lk P 0)) (C := "BigRunner$Program") (T := FT6) (N := 6) hx hb (hw6 hB _) (fun _ h9 => h9) hown hK hP (lo_in hL t_P (by decide)) e13 rfl 0 (by decide) (wd_244 hB _) rfl d_NReader_readExprOf_26 ?_
      refine lv_iload_n hx hb d_NReader_readExprOf_29 rfl (lv_at hl 3 rfl) ?_
      have e23 := oc_24.of (lo_k7_0 hL _ t_P) (hI1_7.1 (g.lk P 0))
      refine pf_aald (i := si) hx hb hK hP (lo_in hL (lo_k7_0 hL _ t_P) (by decide)) e23 (lo_t24 hL _ (lo_k7_0 hL _ t_P)) (by omega) (by decide) d_NReader_readExprOf_30 ?_
      refine lv_iload_n hx hb d_NReader_readExprOf_31 rfl (lv_at hl 1 rfl) ?_
      refine pf_put (v := .int (nI nn)) (ty := .int) (fs' := [.int (nI kd), .int (nI nm), .int (nI nn), .int la, .int (nI ta)]) (C := "BigRunner$Statement") (T := FT9) (N := 5) hx hb (hw9 hB _) (fun _ h9 => h9) TY9 ok9 nm9 hown hK hP hD hS (lo_in hL (lo_e24 hL _ (lo_k7_0 hL _ t_P) _ (by omega)) (by decide)) eS rfl 2 (by decide) (wd_153 hB _) rfl (by decide +kernel) rfl rfl (Nat.le_of_ble_eq_true rfl) rfl d_NReader_readExprOf_32 (fun f24 H locs e25 k26 hP hD hS => ?_)
      have eT := (k26 tl (tg_ne t_tl (lo_e24 hL _ (lo_k7_0 hL _ t_P) _ (by omega)) (by decide))).trans eT
      have e12 := (k26 Rd (tg_ne t_Rd (lo_e24 hL _ (lo_k7_0 hL _ t_P) _ (by omega)) (by decide))).trans e12
      have e13 := (k26 P (tg_ne t_P (lo_e24 hL _ (lo_k7_0 hL _ t_P) _ (by omega)) (by decide))).trans e13
      have e23 := (k26 (g.lk P 0) (tg_ne (lo_k7_0 hL _ t_P) (lo_e24 hL _ (lo_k7_0 hL _ t_P) _ (by omega)) (by decide))).trans e23
      have hu := hu.st k26 (lo_e24 hL _ (lo_k7_0 hL _ t_P) _ (by omega)) (by decide)
      have hfr : ∀ i, i < 36 → i ≠ si → f24 (g.lk (g.lk P 0) i) = f (g.lk (g.lk P 0) i) := fun i h1 h2 => (k26 _ (fun z => absurd (lo_inj24 hL _ _ _ _ (lo_k7_0 hL _ t_P) (lo_k7_0 hL _ t_P) h1 (by omega) z).2 (by omega))).trans (hfr i h1 h2)
      have hk27 : ∀ b, b ≠ (g.lk (g.lk P 0) si) → f24 b = f3 b := k26
      have hfn : ∀ i, i < 72 → i < nn → f24 (g.lk (g.lk P 2) i) = f (g.lk (g.lk P 2) i) := fun i h1 h2 => (k26 _ (tg_ne (lo_e25 hL _ (lo_k7_2 hL _ t_P) _ h1) (lo_e24 hL _ (lo_k7_0 hL _ t_P) _ (by omega)) (by decide))).trans (hfn i h1 h2)
      have hfb22 : ∀ i, i < 72 → i < n10 → f24 (g.lk (g.lk P 2) i) = f3 (g.lk (g.lk P 2) i) := fun i h1 h2 => (k26 _ (tg_ne (lo_e25 hL _ (lo_k7_2 hL _ t_P) _ h1) (lo_e24 hL _ (lo_k7_0 hL _ t_P) _ (by omega)) (by decide))).trans (hfb22 i h1 h2)
      refine lv_aload_n hx hb d_NReader_readExprOf_35 rfl (lv_at hl 2 rfl) ?_
      refine pf_get (v := .ref P) (C := "BigRunner$Reader") (T := FT7) (N := 4) hx hb (hw7 hB _) (fun _ h9 => h9) hown hK hP (lo_in hL t_Rd (by decide)) e12 rfl 3 (by decide) (wd_273 hB _) rfl d_NReader_readExprOf_36 ?_
      refine pf_get (v := .ref (g.lk P 0)) (C := "BigRunner$Program") (T := FT6) (N := 6) hx hb (hw6 hB _) (fun _ h9 => h9) hown hK hP (lo_in hL t_P (by decide)) e13 rfl 0 (by decide) (wd_244 hB _) rfl d_NReader_readExprOf_39 ?_
      refine lv_iload_n hx hb d_NReader_readExprOf_42 rfl (lv_at hl 3 rfl) ?_
      refine pf_aald (i := si) hx hb hK hP (lo_in hL (lo_k7_0 hL _ t_P) (by decide)) e23 (lo_t24 hL _ (lo_k7_0 hL _ t_P)) (by omega) (by decide) d_NReader_readExprOf_43 ?_
      refine lv_iload hx hb d_NReader_readExprOf_44 (lv_at hl 0 rfl) ?_
      refine pf_put (v := .int (nI j11)) (ty := .int) (fs' := [.int (nI kd), .int (nI nm), .int (nI nn), .int (nI j11), .int (nI ta)]) (C := "BigRunner$Statement") (T := FT9) (N := 5) hx hb (hw9 hB _) (fun _ h9 => h9) TY9 ok9 nm9 hown hK hP hD hS (lo_in hL (lo_e24 hL _ (lo_k7_0 hL _ t_P) _ (by omega)) (by decide)) e25 rfl 3 (by decide) (wd_158 hB _) rfl (by decide +kernel) rfl rfl (Nat.le_of_ble_eq_true rfl) rfl d_NReader_readExprOf_46 (fun f28 H locs e29 k30 hP hD hS => ?_)
      have eT := (k30 tl (tg_ne t_tl (lo_e24 hL _ (lo_k7_0 hL _ t_P) _ (by omega)) (by decide))).trans eT
      have e12 := (k30 Rd (tg_ne t_Rd (lo_e24 hL _ (lo_k7_0 hL _ t_P) _ (by omega)) (by decide))).trans e12
      have e13 := (k30 P (tg_ne t_P (lo_e24 hL _ (lo_k7_0 hL _ t_P) _ (by omega)) (by decide))).trans e13
      have e23 := (k30 (g.lk P 0) (tg_ne (lo_k7_0 hL _ t_P) (lo_e24 hL _ (lo_k7_0 hL _ t_P) _ (by omega)) (by decide))).trans e23
      have hu := hu.st k30 (lo_e24 hL _ (lo_k7_0 hL _ t_P) _ (by omega)) (by decide)
      have hfr : ∀ i, i < 36 → i ≠ si → f28 (g.lk (g.lk P 0) i) = f (g.lk (g.lk P 0) i) := fun i h1 h2 => (k30 _ (fun z => absurd (lo_inj24 hL _ _ _ _ (lo_k7_0 hL _ t_P) (lo_k7_0 hL _ t_P) h1 (by omega) z).2 (by omega))).trans (hfr i h1 h2)
      have hk31 : ∀ b, b ≠ (g.lk (g.lk P 0) si) → f28 b = f3 b := fun b q0 => (k30 b q0).trans (hk27 b q0)
      have hfn : ∀ i, i < 72 → i < nn → f28 (g.lk (g.lk P 2) i) = f (g.lk (g.lk P 2) i) := fun i h1 h2 => (k30 _ (tg_ne (lo_e25 hL _ (lo_k7_2 hL _ t_P) _ h1) (lo_e24 hL _ (lo_k7_0 hL _ t_P) _ (by omega)) (by decide))).trans (hfn i h1 h2)
      have hfb22 : ∀ i, i < 72 → i < n10 → f28 (g.lk (g.lk P 2) i) = f3 (g.lk (g.lk P 2) i) := fun i h1 h2 => (k30 _ (tg_ne (lo_e25 hL _ (lo_k7_2 hL _ t_P) _ h1) (lo_e24 hL _ (lo_k7_0 hL _ t_P) _ (by omega)) (by decide))).trans (hfb22 i h1 h2)
      refine lv_iload hx hb d_NReader_readExprOf_49 (lv_at hl 0 rfl) ?_
      refine lv_iconst (v := (-1)) hx hb d_NReader_readExprOf_51 (by decide) ?_
      refine lv_icmp_eq (tgt := 59) hx hb d_NReader_readExprOf_52 (by decide) (fun b32 => ?_) (fun b32 => ?_)
      · skip
        exact absurd b32 (nI_n1 (j := j11) (by omega))
      · skip
        refine lv_iconst (v := nI 1) hx hb d_NReader_readExprOf_55 (by decide) ?_
        refine lv_goto (tgt := 60) hx hb d_NReader_readExprOf_56 (by decide) ?_
        have hI33 := iv_1 hI1_7 hL (lo_e24 hL _ (lo_k7_0 hL _ t_P) _ (by omega)) (by decide) hk31 (oc_10.mk (lo_e24 hL _ (lo_k7_0 hL _ t_P) _ (by omega)) (⟨kd, nm, nn, ((nI j11)), ta, e29, (by omega), (by omega), (by omega), (by first | exact Or.inl rfl | exact Or.inr ⟨_, by omega, rfl⟩ | assumption), (by omega)⟩))
        exact pe_zret hx hb hr hlocks hK hP hD hS d_NReader_readExprOf_60 rfl ⟨(Or.inl ⟨a9, n10, j11, by omega, by omega, by omega, by omega, by omega, c21, hp14, e12, e13, (XR_eq hx_15 (fun i q1 q2 => hfb22 i (by omega) (by omega))), e29, rfl⟩), hfr, hfn, hI33, hu⟩
    · skip
      refine lv_istore (lv' := [(4, .int (-1)), (3, .int (nI nn)), (0, .ref Rd), (1, .int (nI si)), (2, .int (nI d))]) hx hb d_NReader_readExprOf_20 hl (by decide) rfl (fun ls hl => ?_)
      refine lv_aload_n hx hb d_NReader_readExprOf_22 rfl (lv_at hl 2 rfl) ?_
      refine pf_get (v := .ref P) (C := "BigRunner$Reader") (T := FT7) (N := 4) hx hb (hw7 hB _) (fun _ h9 => h9) hown hK hP (lo_in hL t_Rd (by decide)) e12 rfl 3 (by decide) (wd_273 hB _) rfl d_NReader_readExprOf_23 ?_
      refine pf_get (v := .ref (g.lk P 0)) (C := "BigRunner$Program") (T := FT6) (N := 6) hx hb (hw6 hB _) (fun _ h9 => h9) hown hK hP (lo_in hL t_P (by decide)) e13 rfl 0 (by decide) (wd_244 hB _) rfl d_NReader_readExprOf_26 ?_
      refine lv_iload_n hx hb d_NReader_readExprOf_29 rfl (lv_at hl 3 rfl) ?_
      have e34 := oc_24.of (lo_k7_0 hL _ t_P) (hI1_7.1 (g.lk P 0))
      refine pf_aald (i := si) hx hb hK hP (lo_in hL (lo_k7_0 hL _ t_P) (by decide)) e34 (lo_t24 hL _ (lo_k7_0 hL _ t_P)) (by omega) (by decide) d_NReader_readExprOf_30 ?_
      refine lv_iload_n hx hb d_NReader_readExprOf_31 rfl (lv_at hl 1 rfl) ?_
      refine pf_put (v := .int (nI nn)) (ty := .int) (fs' := [.int (nI kd), .int (nI nm), .int (nI nn), .int la, .int (nI ta)]) (C := "BigRunner$Statement") (T := FT9) (N := 5) hx hb (hw9 hB _) (fun _ h9 => h9) TY9 ok9 nm9 hown hK hP hD hS (lo_in hL (lo_e24 hL _ (lo_k7_0 hL _ t_P) _ (by omega)) (by decide)) eS rfl 2 (by decide) (wd_153 hB _) rfl (by decide +kernel) rfl rfl (Nat.le_of_ble_eq_true rfl) rfl d_NReader_readExprOf_32 (fun f35 H locs e36 k37 hP hD hS => ?_)
      have eT := (k37 tl (tg_ne t_tl (lo_e24 hL _ (lo_k7_0 hL _ t_P) _ (by omega)) (by decide))).trans eT
      have e12 := (k37 Rd (tg_ne t_Rd (lo_e24 hL _ (lo_k7_0 hL _ t_P) _ (by omega)) (by decide))).trans e12
      have e13 := (k37 P (tg_ne t_P (lo_e24 hL _ (lo_k7_0 hL _ t_P) _ (by omega)) (by decide))).trans e13
      have e34 := (k37 (g.lk P 0) (tg_ne (lo_k7_0 hL _ t_P) (lo_e24 hL _ (lo_k7_0 hL _ t_P) _ (by omega)) (by decide))).trans e34
      have hu := hu.st k37 (lo_e24 hL _ (lo_k7_0 hL _ t_P) _ (by omega)) (by decide)
      have hfr : ∀ i, i < 36 → i ≠ si → f35 (g.lk (g.lk P 0) i) = f (g.lk (g.lk P 0) i) := fun i h1 h2 => (k37 _ (fun z => absurd (lo_inj24 hL _ _ _ _ (lo_k7_0 hL _ t_P) (lo_k7_0 hL _ t_P) h1 (by omega) z).2 (by omega))).trans (hfr i h1 h2)
      have hk38 : ∀ b, b ≠ (g.lk (g.lk P 0) si) → f35 b = f3 b := k37
      have hfn : ∀ i, i < 72 → i < nn → f35 (g.lk (g.lk P 2) i) = f (g.lk (g.lk P 2) i) := fun i h1 h2 => (k37 _ (tg_ne (lo_e25 hL _ (lo_k7_2 hL _ t_P) _ h1) (lo_e24 hL _ (lo_k7_0 hL _ t_P) _ (by omega)) (by decide))).trans (hfn i h1 h2)
      refine lv_aload_n hx hb d_NReader_readExprOf_35 rfl (lv_at hl 2 rfl) ?_
      refine pf_get (v := .ref P) (C := "BigRunner$Reader") (T := FT7) (N := 4) hx hb (hw7 hB _) (fun _ h9 => h9) hown hK hP (lo_in hL t_Rd (by decide)) e12 rfl 3 (by decide) (wd_273 hB _) rfl d_NReader_readExprOf_36 ?_
      refine pf_get (v := .ref (g.lk P 0)) (C := "BigRunner$Program") (T := FT6) (N := 6) hx hb (hw6 hB _) (fun _ h9 => h9) hown hK hP (lo_in hL t_P (by decide)) e13 rfl 0 (by decide) (wd_244 hB _) rfl d_NReader_readExprOf_39 ?_
      refine lv_iload_n hx hb d_NReader_readExprOf_42 rfl (lv_at hl 3 rfl) ?_
      refine pf_aald (i := si) hx hb hK hP (lo_in hL (lo_k7_0 hL _ t_P) (by decide)) e34 (lo_t24 hL _ (lo_k7_0 hL _ t_P)) (by omega) (by decide) d_NReader_readExprOf_43 ?_
      refine lv_iload hx hb d_NReader_readExprOf_44 (lv_at hl 0 rfl) ?_
      refine pf_put (v := .int (-1)) (ty := .int) (fs' := [.int (nI kd), .int (nI nm), .int (nI nn), .int (-1), .int (nI ta)]) (C := "BigRunner$Statement") (T := FT9) (N := 5) hx hb (hw9 hB _) (fun _ h9 => h9) TY9 ok9 nm9 hown hK hP hD hS (lo_in hL (lo_e24 hL _ (lo_k7_0 hL _ t_P) _ (by omega)) (by decide)) e36 rfl 3 (by decide) (wd_158 hB _) rfl (by decide +kernel) rfl rfl (Nat.le_of_ble_eq_true rfl) rfl d_NReader_readExprOf_46 (fun f39 H locs e40 k41 hP hD hS => ?_)
      have eT := (k41 tl (tg_ne t_tl (lo_e24 hL _ (lo_k7_0 hL _ t_P) _ (by omega)) (by decide))).trans eT
      have e12 := (k41 Rd (tg_ne t_Rd (lo_e24 hL _ (lo_k7_0 hL _ t_P) _ (by omega)) (by decide))).trans e12
      have e13 := (k41 P (tg_ne t_P (lo_e24 hL _ (lo_k7_0 hL _ t_P) _ (by omega)) (by decide))).trans e13
      have e34 := (k41 (g.lk P 0) (tg_ne (lo_k7_0 hL _ t_P) (lo_e24 hL _ (lo_k7_0 hL _ t_P) _ (by omega)) (by decide))).trans e34
      have hu := hu.st k41 (lo_e24 hL _ (lo_k7_0 hL _ t_P) _ (by omega)) (by decide)
      have hfr : ∀ i, i < 36 → i ≠ si → f39 (g.lk (g.lk P 0) i) = f (g.lk (g.lk P 0) i) := fun i h1 h2 => (k41 _ (fun z => absurd (lo_inj24 hL _ _ _ _ (lo_k7_0 hL _ t_P) (lo_k7_0 hL _ t_P) h1 (by omega) z).2 (by omega))).trans (hfr i h1 h2)
      have hk42 : ∀ b, b ≠ (g.lk (g.lk P 0) si) → f39 b = f3 b := fun b q0 => (k41 b q0).trans (hk38 b q0)
      have hfn : ∀ i, i < 72 → i < nn → f39 (g.lk (g.lk P 2) i) = f (g.lk (g.lk P 2) i) := fun i h1 h2 => (k41 _ (tg_ne (lo_e25 hL _ (lo_k7_2 hL _ t_P) _ h1) (lo_e24 hL _ (lo_k7_0 hL _ t_P) _ (by omega)) (by decide))).trans (hfn i h1 h2)
      refine lv_iload hx hb d_NReader_readExprOf_49 (lv_at hl 0 rfl) ?_
      refine lv_iconst (v := (-1)) hx hb d_NReader_readExprOf_51 (by decide) ?_
      refine lv_icmp_eq (tgt := 59) hx hb d_NReader_readExprOf_52 (by decide) (fun b43 => ?_) (fun b43 => ?_)
      · skip
        refine lv_iconst (v := nI 0) hx hb d_NReader_readExprOf_59 (by decide) ?_
        have hI44 := iv_1 hI1_7 hL (lo_e24 hL _ (lo_k7_0 hL _ t_P) _ (by omega)) (by decide) hk42 (oc_10.mk (lo_e24 hL _ (lo_k7_0 hL _ t_P) _ (by omega)) (⟨kd, nm, nn, ((-1)), ta, e40, (by omega), (by omega), (by omega), (by first | exact Or.inl rfl | exact Or.inr ⟨_, by omega, rfl⟩ | assumption), (by omega)⟩))
        exact pe_zret hx hb hr hlocks hK hP hD hS d_NReader_readExprOf_60 rfl ⟨(Or.inr ⟨a9, n10, by omega, by omega, hp14, e12, e13, rfl⟩), hfr, hfn, hI44, hu⟩
      · skip
        exact absurd (by decide) b43
  · skip
    exact absurd b1 (nI_n1 (j := si) (by omega))
set_option maxHeartbeats 4000000 in
set_option maxRecDepth 100000 in
theorem c2_readName (l : Launch) (g : Lay) (sz : Nat) (f : Nat → va_E) (Rd : Nat) (tl : Nat) (ln : Nat) (ax : Nat) (P : Nat) (hT : Nat → Int32) (sn : Nat) (nn : Nat) (si : Nat) (kd : Nat) (nm : Nat) (fn : Nat) (la : Int32) (ta : Nat) (hL : LO g) (t_Rd : g.tg Rd = 8) (t_tl : g.tg tl = 20) (t_P : g.tg P = 7) (hI : IV g f) (eR : f Rd = .inr (7, [.ref tl, .int (nI ln), .int (nI ax), .ref P])) (eT : f tl = .inl (g.ac tl, 72, .inl hT)) (cT : ∀ i, i < 72 → vp_nar .char (hT i) = hT i) (hln : ln ≤ 72) (hax : ax ≤ ln) (eP : f P = .inr (6, [.ref (g.lk P 0), .int (nI sn), .ref (g.lk P 2), .int (nI nn), .ref (g.lk P 4), .ref (g.lk P 5)])) (hsn : sn ≤ 36) (hnn : nn ≤ 72) (hsi : si < 36) (eS : f (g.lk (g.lk P 0) si) = .inr (9, [.int (nI kd), .int (nI nm), .int (nI fn), .int la, .int (nI ta)])) (hkd : kd ≤ 5) (hnm : nm < 10) (hfn : fn ≤ 72) (hla : la = -1 ∨ ∃ j, j < 72 ∧ la = nI j) (hta : ta ≤ 36) : Met l ⟨"BigRunner$Reader", "readName", "(I)Z"⟩ [Cond.code ⟨"BigRunner$Reader", "readName", "(I)Z"⟩ prog_8_method_9_code 3 (some .boolean)] ({ frames := 1, cells := 0, slots := 0, locals := 20 }) (va_Pc [.ref Rd, .int (nI si)] (pc_in g sz f)) (va_Qi (fun r f1 => (r = nI 0 ∨ r = nI 1) ∧ (r = nI 0 → tk hT ln ax ≠ 6 ∧ f1 Rd = .inr (7, [.ref tl, .int (nI ln), .int (nI ax), .ref P]) ∧ f1 (g.lk (g.lk P 0) si) = .inr (9, [.int (nI kd), .int (nI nm), .int (nI fn), .int la, .int (nI ta)])) ∧ (r = nI 1 → tk hT ln ax = 6 ∧ ax < ln ∧ f1 Rd = .inr (7, [.ref tl, .int (nI ln), .int (nI (ax + 1)), .ref P]) ∧ ∃ v, v < 10 ∧ vc hT ln ax - 97 = v ∧ f1 (g.lk (g.lk P 0) si) = .inr (9, [.int (nI kd), .int (nI v), .int (nI fn), .int la, .int (nI ta)])) ∧ (∀ i, i < 36 → i ≠ si → f1 (g.lk (g.lk P 0) i) = f (g.lk (g.lk P 0) i)) ∧ (IV g f1) ∧ (un [8, 10] g f f1)) (pc_out g sz) (pc_A g sz)) 0 0 (pc_A g sz) := by
  refine pe_ofW (cc := prog_8_method_9_code) (maxL := 3) (ret := (some .boolean)) (lv := [(0, .ref Rd), (1, .int (nI si))]) (by decide) (Nat.le_of_ble_eq_true rfl) rfl ?_
  intro p e s m args below meth c ls hx hb hr hml hlocks hown hB hP hK hD hsz hS hl
  subst hsz
  have hu : un [8, 10] g f f := un.rf
  refine lv_aload_n hx hb d_NReader_readName_0 rfl (lv_at hl 0 rfl) ?_
  refine pcc_i (va_runV (C := "BigRunner$Reader") (As := []) (rest := []) ⟨hx, hb, hml, hown, tb_nil⟩ (c_next l g s.heap.size f Rd tl ln ax P hT hL t_Rd t_tl t_P hI.1 eR eT cT (by omega) (by omega)) ⟨(callB_of 0 (tb_one (wd_476 hB _)) tb_good1 rfl rfl rfl (wd_73 hB _) (wd_473 hB _) (by decide +kernel) ⟨Nat.le_of_ble_eq_true rfl, Nat.le_of_ble_eq_true rfl⟩), (wd_475 hB _), (wd_5 hB _)⟩ ⟨pe_bl, pg_recv (ci := 7) hK hP (lo_in hL t_Rd (by decide)) eR rfl, pe_pre hB hK hP hD⟩ rfl rfl hl.1 rfl (lv_room (Nat.le_of_ble_eq_true rfl)) d_NReader_readName_1 ⟨Nat.le_of_ble_eq_true rfl, Nat.le_of_ble_eq_true rfl⟩) hS (fun r1 f2 H locs hq3 hP hD hS => ?_)
  obtain ⟨nx_4, rfl⟩ := hq3
  subst nx_4
  refine lv_istore_n (lv' := [(2, .int (nx hT ln ax)), (0, .ref Rd), (1, .int (nI si))]) hx hb d_NReader_readName_4 rfl hl (by decide) rfl (fun ls hl => ?_)
  refine lv_iload_n hx hb d_NReader_readName_5 rfl (lv_at hl 2 rfl) ?_
  refine lv_iconst (v := (-1)) hx hb d_NReader_readName_6 (by decide) ?_
  refine lv_icmp_eq (tgt := 22) hx hb d_NReader_readName_7 (by decide) (fun b5 => ?_) (fun b5 => ?_)
  · skip
    exact absurd b5 (nI_n1 (j := si) (by omega))
  · skip
    refine lv_iload_n hx hb d_NReader_readName_10 rfl (lv_at hl 0 rfl) ?_
    refine lv_bipush (v := nI 97) hx hb d_NReader_readName_11 (by decide) ?_
    refine lv_icmp_lt (tgt := 22) hx hb d_NReader_readName_13 (by decide) (fun b6 => ?_) (fun b6 => ?_)
    · skip
      have hk6 : tk hT ln ax ≠ 6 := fun z => absurd (kc_6.mp z).1 (Int32.not_le.mpr b6)
      refine lv_iconst (v := nI 0) hx hb d_NReader_readName_22 (by decide) ?_
      exact pe_zret hx hb hr hlocks hK hP hD hS d_NReader_readName_23 rfl ⟨(Or.inl rfl), (fun _ => ⟨hk6, eR, eS⟩), (fun z9 => absurd z9 (by decide)), (fun _ _ _ => rfl), hI, hu⟩
    · skip
      refine lv_iload_n hx hb d_NReader_readName_16 rfl (lv_at hl 0 rfl) ?_
      refine lv_bipush (v := nI 107) hx hb d_NReader_readName_17 (by decide) ?_
      refine lv_icmp_lt (tgt := 24) hx hb d_NReader_readName_19 (by decide) (fun b7 => ?_) (fun b7 => ?_)
      · skip
        have h97 : nI 97 ≤ nx hT ln ax := Int32.not_lt.mp b6
        have h107 : nx hT ln ax < nI 107 := b7
        have hl9 : ax < ln := nx_lt h97
        have hk6 : tk hT ln ax = 6 := kc_6.mpr ⟨h97, h107⟩
        obtain ⟨vn, hvn, qvn⟩ := nm_of h97 h107
        refine lv_aload_n hx hb d_NReader_readName_24 rfl (lv_at hl 1 rfl) ?_
        refine lv_dup hx hb d_NReader_readName_25 rfl ?_
        refine pf_get (v := .int (nI ax)) (C := "BigRunner$Reader") (T := FT7) (N := 4) hx hb (hw7 hB _) (fun _ h9 => h9) hown hK hP (lo_in hL t_Rd (by decide)) eR rfl 2 (by decide) (wd_272 hB _) rfl d_NReader_readName_26 ?_
        refine lv_iconst (v := nI 1) hx hb d_NReader_readName_29 (by decide) ?_
        refine pf_iaddN (x := ax) (y := 1) hx hb d_NReader_readName_30 ?_
        refine pf_put (v := .int (nI (ax + 1))) (ty := .int) (fs' := [.ref tl, .int (nI ln), .int (nI (ax + 1)), .ref P]) (C := "BigRunner$Reader") (T := FT7) (N := 4) hx hb (hw7 hB _) (fun _ h9 => h9) TY7 ok7 nm7 hown hK hP hD hS (lo_in hL t_Rd (by decide)) eR rfl 2 (by decide) (wd_272 hB _) rfl (by decide +kernel) rfl rfl (Nat.le_of_ble_eq_true rfl) rfl d_NReader_readName_31 (fun f8 H locs e9 k10 hP hD hS => ?_)
        have eT := (k10 tl (tg_ne t_tl t_Rd (by decide))).trans eT
        have eP := (k10 P (tg_ne t_P t_Rd (by decide))).trans eP
        have eS := (k10 (g.lk (g.lk P 0) si) (tg_ne (lo_e24 hL _ (lo_k7_0 hL _ t_P) _ (by omega)) t_Rd (by decide))).trans eS
        have hu := hu.st k10 t_Rd (by decide)
        have hk11 : ∀ b, b ≠ Rd → f8 b = f b := k10
        refine lv_aload_n hx hb d_NReader_readName_34 rfl (lv_at hl 1 rfl) ?_
        refine pf_get (v := .ref P) (C := "BigRunner$Reader") (T := FT7) (N := 4) hx hb (hw7 hB _) (fun _ h9 => h9) hown hK hP (lo_in hL t_Rd (by decide)) e9 rfl 3 (by decide) (wd_273 hB _) rfl d_NReader_readName_35 ?_
        refine pf_get (v := .ref (g.lk P 0)) (C := "BigRunner$Program") (T := FT6) (N := 6) hx hb (hw6 hB _) (fun _ h9 => h9) hown hK hP (lo_in hL t_P (by decide)) eP rfl 0 (by decide) (wd_244 hB _) rfl d_NReader_readName_38 ?_
        refine lv_iload_n hx hb d_NReader_readName_41 rfl (lv_at hl 2 rfl) ?_
        have e12 := oc_24.of (lo_k7_0 hL _ t_P) (hI.1 (g.lk P 0))
        replace e12 := (hk11 (g.lk P 0) (tg_ne (lo_k7_0 hL _ t_P) t_Rd (by decide))).trans e12
        refine pf_aald (i := si) hx hb hK hP (lo_in hL (lo_k7_0 hL _ t_P) (by decide)) e12 (lo_t24 hL _ (lo_k7_0 hL _ t_P)) (by omega) (by decide) d_NReader_readName_42 ?_
        refine lv_iload_n hx hb d_NReader_readName_43 rfl (lv_at hl 0 rfl) ?_
        refine lv_bipush (v := nI 97) hx hb d_NReader_readName_44 (by decide) ?_
        refine lv_isub hx hb d_NReader_readName_46 ?_
        refine lv_topi (fun z_ hz_ => ?_)
        obtain rfl : z_ = nI vn := hz_.trans qvn
        have hI13 := iv_1 hI hL t_Rd (by decide) hk11 (oc_8.mk t_Rd (⟨(.ref tl), ln, (ax + 1), P, e9, (by omega), (by omega), t_P⟩))
        refine pf_put (v := .int (nI vn)) (ty := .int) (fs' := [.int (nI kd), .int (nI vn), .int (nI fn), .int la, .int (nI ta)]) (C := "BigRunner$Statement") (T := FT9) (N := 5) hx hb (hw9 hB _) (fun _ h9 => h9) TY9 ok9 nm9 hown hK hP hD hS (lo_in hL (lo_e24 hL _ (lo_k7_0 hL _ t_P) _ (by omega)) (by decide)) eS rfl 1 (by decide) (wd_150 hB _) rfl (by decide +kernel) rfl rfl (Nat.le_of_ble_eq_true rfl) rfl d_NReader_readName_47 (fun f14 H locs e15 k16 hP hD hS => ?_)
        have eT := (k16 tl (tg_ne t_tl (lo_e24 hL _ (lo_k7_0 hL _ t_P) _ (by omega)) (by decide))).trans eT
        have eP := (k16 P (tg_ne t_P (lo_e24 hL _ (lo_k7_0 hL _ t_P) _ (by omega)) (by decide))).trans eP
        have e9 := (k16 Rd (tg_ne t_Rd (lo_e24 hL _ (lo_k7_0 hL _ t_P) _ (by omega)) (by decide))).trans e9
        have e12 := (k16 (g.lk P 0) (tg_ne (lo_k7_0 hL _ t_P) (lo_e24 hL _ (lo_k7_0 hL _ t_P) _ (by omega)) (by decide))).trans e12
        have hu := hu.st k16 (lo_e24 hL _ (lo_k7_0 hL _ t_P) _ (by omega)) (by decide)
        have hk17 : ∀ b, b ≠ (g.lk (g.lk P 0) si) → f14 b = f8 b := k16
        refine lv_iconst (v := nI 1) hx hb d_NReader_readName_50 (by decide) ?_
        have hI18 := iv_1 hI13 hL (lo_e24 hL _ (lo_k7_0 hL _ t_P) _ (by omega)) (by decide) hk17 (oc_10.mk (lo_e24 hL _ (lo_k7_0 hL _ t_P) _ (by omega)) (⟨kd, vn, fn, la, ta, e15, (by omega), (by omega), (by omega), hla, (by omega)⟩))
        exact pe_zret hx hb hr hlocks hK hP hD hS d_NReader_readName_51 rfl ⟨(Or.inr rfl), (fun z9 => absurd z9 (by decide)), (fun _ => ⟨hk6, hl9, e9, vn, hvn, vc_nm h97 h107 hvn qvn, e15⟩), (fun i hi hn => (k16 _ (fun z => hn (lo_inj24 hL _ _ _ _ (lo_k7_0 hL _ t_P) (lo_k7_0 hL _ t_P) hi (by omega) z).2)).trans (k10 _ (tg_ne (lo_e24 hL _ (lo_k7_0 hL _ t_P) _ hi) t_Rd (by decide)))), hI18, hu⟩
      · skip
        have hk6 : tk hT ln ax ≠ 6 := fun z => absurd (kc_6.mp z).2 b7
        refine lv_iconst (v := nI 0) hx hb d_NReader_readName_22 (by decide) ?_
        exact pe_zret hx hb hr hlocks hK hP hD hS d_NReader_readName_23 rfl ⟨(Or.inl rfl), (fun _ => ⟨hk6, eR, eS⟩), (fun z9 => absurd z9 (by decide)), (fun _ _ _ => rfl), hI, hu⟩

