set_option maxHeartbeats 4000000 in
set_option maxRecDepth 100000 in
theorem c2_addOp (l : Launch) (g : Lay) (sz : Nat) (f : Nat → va_E) (Rd : Nat) (tl : Nat) (ln : Nat) (ax : Nat) (P : Nat) (hT : Nat → Int32) (sn : Nat) (nn : Nat) (kd : Nat) (le : Nat) (ri : Nat) (hL : LO g) (t_Rd : g.tg Rd = 8) (t_tl : g.tg tl = 20) (t_P : g.tg P = 7) (hI : IV g f) (eR : f Rd = .inr (7, [.ref tl, .int (nI ln), .int (nI ax), .ref P])) (eT : f tl = .inl (g.ac tl, 72, .inl hT)) (cT : ∀ i, i < 72 → vp_nar .char (hT i) = hT i) (hln : ln ≤ 72) (hax : ax ≤ ln) (eP : f P = .inr (6, [.ref (g.lk P 0), .int (nI sn), .ref (g.lk P 2), .int (nI nn), .ref (g.lk P 4), .ref (g.lk P 5)])) (hsn : sn ≤ 36) (hnn : nn ≤ 72) (hn7 : nn < 72) (hk7 : kd ≤ 7) (hle : le < 72) (hri : ri < 72) (hk1 : kd = 1 → le < 10) (hk2 : 2 ≤ kd → le < nn ∧ ri < nn) : Met l ⟨"BigRunner$Reader", "addOperation", "(III)I"⟩ [Cond.code ⟨"BigRunner$Reader", "addOperation", "(III)I"⟩ prog_8_method_15_code 5 (some .int)] ({ frames := 0, cells := 0, slots := 0, locals := 0 }) (va_Pc [.ref Rd, .int (nI kd), .int (nI le), .int (nI ri)] (pc_in g sz f)) (va_Qi (fun r f1 => (r = nI nn) ∧ (f1 P = .inr (6, [.ref (g.lk P 0), .int (nI sn), .ref (g.lk P 2), .int (nI (nn + 1)), .ref (g.lk P 4), .ref (g.lk P 5)])) ∧ (∃ (sm : Int32) (mv : Int64), (sm = 0 ∨ sm = 1) ∧ f1 (g.lk (g.lk P 2) nn) = .inr (5, [.int (nI kd), .int (nI le), .int (nI ri), .ref (g.lk (g.lk (g.lk P 2) nn) 3), .int sm, .long mv, .ref (g.lk (g.lk (g.lk P 2) nn) 6)])) ∧ (∀ i, i < 72 → i ≠ nn → f1 (g.lk (g.lk P 2) i) = f (g.lk (g.lk P 2) i)) ∧ (IV g f1) ∧ (un [6, 7] g f f1)) (pc_out g sz) (pc_A g sz)) 0 0 (pc_A g sz) := by
  refine pe_ofW (cc := prog_8_method_15_code) (maxL := 5) (ret := (some .int)) (lv := [(0, .ref Rd), (1, .int (nI kd)), (2, .int (nI le)), (3, .int (nI ri))]) (by decide) (Nat.le_of_ble_eq_true rfl) rfl ?_
  intro p e s m args below meth c ls hx hb hr hml hlocks hown hB hP hK hD hsz hS hl
  subst hsz
  have hu : un [6, 7] g f f := un.rf
  have hfn : ∀ i, i < 72 → i ≠ nn → f (g.lk (g.lk P 2) i) = f (g.lk (g.lk P 2) i) := fun _ _ _ => rfl
  refine lv_iload_n hx hb d_NReader_addOperation_0 rfl (lv_at hl 2 rfl) ?_
  refine lv_iconst (v := (-1)) hx hb d_NReader_addOperation_1 (by decide) ?_
  refine lv_icmp_eq (tgt := 28) hx hb d_NReader_addOperation_2 (by decide) (fun b1 => ?_) (fun b1 => ?_)
  · skip
    exact absurd b1 (nI_n1 (j := le) (by omega))
  · skip
    refine lv_iload_n hx hb d_NReader_addOperation_5 rfl (lv_at hl 3 rfl) ?_
    refine lv_iconst (v := (-1)) hx hb d_NReader_addOperation_6 (by decide) ?_
    refine lv_icmp_eq (tgt := 28) hx hb d_NReader_addOperation_7 (by decide) (fun b2 => ?_) (fun b2 => ?_)
    · skip
      exact absurd b2 (nI_n1 (j := ri) (by omega))
    · skip
      refine lv_aload_n hx hb d_NReader_addOperation_10 rfl (lv_at hl 0 rfl) ?_
      refine pf_get (v := .ref P) (C := "BigRunner$Reader") (T := FT7) (N := 4) hx hb (hw7 hB _) (fun _ h9 => h9) hown hK hP (lo_in hL t_Rd (by decide)) eR rfl 3 (by decide) (wd_273 hB _) rfl d_NReader_addOperation_11 ?_
      refine pf_get (v := .int (nI nn)) (C := "BigRunner$Program") (T := FT6) (N := 6) hx hb (hw6 hB _) (fun _ h9 => h9) hown hK hP (lo_in hL t_P (by decide)) eP rfl 3 (by decide) (wd_252 hB _) rfl d_NReader_addOperation_14 ?_
      refine lv_aload_n hx hb d_NReader_addOperation_17 rfl (lv_at hl 0 rfl) ?_
      refine pf_get (v := .ref P) (C := "BigRunner$Reader") (T := FT7) (N := 4) hx hb (hw7 hB _) (fun _ h9 => h9) hown hK hP (lo_in hL t_Rd (by decide)) eR rfl 3 (by decide) (wd_273 hB _) rfl d_NReader_addOperation_18 ?_
      refine pf_get (v := .ref (g.lk P 2)) (C := "BigRunner$Program") (T := FT6) (N := 6) hx hb (hw6 hB _) (fun _ h9 => h9) hown hK hP (lo_in hL t_P (by decide)) eP rfl 2 (by decide) (wd_250 hB _) rfl d_NReader_addOperation_21 ?_
      have e3 := oc_25.of (lo_k7_2 hL _ t_P) (hI.1 (g.lk P 2))
      refine pf_alen (n := 72) hx hb hK hP (lo_in hL (lo_k7_2 hL _ t_P) (by decide)) e3 rfl (lo_t25 hL _ (lo_k7_2 hL _ t_P)) d_NReader_addOperation_24 ?_
      refine lv_icmp_lt (tgt := 30) hx hb d_NReader_addOperation_25 (by decide) (fun b4 => ?_) (fun b4 => ?_)
      · skip
        replace b4 := (nI_ltI (a := nn) (b := 72) (by omega) (by omega)).mp b4
        refine lv_aload_n hx hb d_NReader_addOperation_30 rfl (lv_at hl 0 rfl) ?_
        refine pf_get (v := .ref P) (C := "BigRunner$Reader") (T := FT7) (N := 4) hx hb (hw7 hB _) (fun _ h9 => h9) hown hK hP (lo_in hL t_Rd (by decide)) eR rfl 3 (by decide) (wd_273 hB _) rfl d_NReader_addOperation_31 ?_
        refine pf_get (v := .ref (g.lk P 2)) (C := "BigRunner$Program") (T := FT6) (N := 6) hx hb (hw6 hB _) (fun _ h9 => h9) hown hK hP (lo_in hL t_P (by decide)) eP rfl 2 (by decide) (wd_250 hB _) rfl d_NReader_addOperation_34 ?_
        refine lv_aload_n hx hb d_NReader_addOperation_37 rfl (lv_at hl 0 rfl) ?_
        refine pf_get (v := .ref P) (C := "BigRunner$Reader") (T := FT7) (N := 4) hx hb (hw7 hB _) (fun _ h9 => h9) hown hK hP (lo_in hL t_Rd (by decide)) eR rfl 3 (by decide) (wd_273 hB _) rfl d_NReader_addOperation_38 ?_
        refine pf_get (v := .int (nI nn)) (C := "BigRunner$Program") (T := FT6) (N := 6) hx hb (hw6 hB _) (fun _ h9 => h9) hown hK hP (lo_in hL t_P (by decide)) eP rfl 3 (by decide) (wd_252 hB _) rfl d_NReader_addOperation_41 ?_
        refine pf_aald (i := nn) hx hb hK hP (lo_in hL (lo_k7_2 hL _ t_P) (by decide)) e3 (lo_t25 hL _ (lo_k7_2 hL _ t_P)) (by omega) (by decide) d_NReader_addOperation_44 ?_
        have t5 := lo_e25 hL _ (lo_k7_2 hL _ t_P) nn (by omega)
        have htn9 : g.tn (g.lk (g.lk P 2) nn) = nn := lo_n25 hL _ (lo_k7_2 hL _ t_P) nn (by omega)
        refine lv_astore (lv' := [(4, .ref (g.lk (g.lk P 2) nn)), (0, .ref Rd), (1, .int (nI kd)), (2, .int (nI le)), (3, .int (nI ri))]) hx hb d_NReader_addOperation_45 hl (by decide) rfl (fun ls hl => ?_)
        refine lv_aload hx hb d_NReader_addOperation_47 (lv_at hl 0 rfl) ?_
        refine lv_iload_n hx hb d_NReader_addOperation_49 rfl (lv_at hl 2 rfl) ?_
        obtain ⟨kd_7, le_8, ri_9, sm_10, mv_11, e6, c12, c13, c14, c15, c16, c17⟩ := oc_6.of t5 (hI.1 (g.lk (g.lk P 2) nn))
        refine pf_put (v := .int (nI kd)) (ty := .int) (fs' := [.int (nI kd), .int (nI le_8), .int (nI ri_9), .ref (g.lk (g.lk (g.lk P 2) nn) 3), .int sm_10, .long mv_11, .ref (g.lk (g.lk (g.lk P 2) nn) 6)]) (C := "BigRunner$Node") (T := FT5) (N := 7) hx hb (hw5 hB _) (fun _ h9 => h9) TY5 ok5 nm5 hown hK hP hD hS (lo_in hL t5 (by decide)) e6 rfl 0 (by decide) (wd_205 hB _) rfl (by decide +kernel) rfl rfl (Nat.le_of_ble_eq_true rfl) rfl d_NReader_addOperation_50 (fun f18 H locs e19 k20 hP hD hS => ?_)
        have eR := (k20 Rd (tg_ne t_Rd t5 (by decide))).trans eR
        have eT := (k20 tl (tg_ne t_tl t5 (by decide))).trans eT
        have eP := (k20 P (tg_ne t_P t5 (by decide))).trans eP
        have e3 := (k20 (g.lk P 2) (tg_ne (lo_k7_2 hL _ t_P) t5 (by decide))).trans e3
        have hu := hu.st k20 t5 (by decide)
        have hk21 : ∀ b, b ≠ (g.lk (g.lk P 2) nn) → f18 b = f b := k20
        have hfn : ∀ i, i < 72 → i ≠ nn → f18 (g.lk (g.lk P 2) i) = f (g.lk (g.lk P 2) i) := fun i h1 h2 => (k20 _ (fun z => absurd (lo_inj25 hL _ _ _ _ (lo_k7_2 hL _ t_P) (lo_k7_2 hL _ t_P) h1 (by omega) z).2 (by omega))).trans (hfn i h1 h2)
        refine lv_aload hx hb d_NReader_addOperation_53 (lv_at hl 0 rfl) ?_
        refine lv_iload_n hx hb d_NReader_addOperation_55 rfl (lv_at hl 3 rfl) ?_
        refine pf_put (v := .int (nI le)) (ty := .int) (fs' := [.int (nI kd), .int (nI le), .int (nI ri_9), .ref (g.lk (g.lk (g.lk P 2) nn) 3), .int sm_10, .long mv_11, .ref (g.lk (g.lk (g.lk P 2) nn) 6)]) (C := "BigRunner$Node") (T := FT5) (N := 7) hx hb (hw5 hB _) (fun _ h9 => h9) TY5 ok5 nm5 hown hK hP hD hS (lo_in hL t5 (by decide)) e19 rfl 1 (by decide) (wd_209 hB _) rfl (by decide +kernel) rfl rfl (Nat.le_of_ble_eq_true rfl) rfl d_NReader_addOperation_56 (fun f22 H locs e23 k24 hP hD hS => ?_)
        have eR := (k24 Rd (tg_ne t_Rd t5 (by decide))).trans eR
        have eT := (k24 tl (tg_ne t_tl t5 (by decide))).trans eT
        have eP := (k24 P (tg_ne t_P t5 (by decide))).trans eP
        have e3 := (k24 (g.lk P 2) (tg_ne (lo_k7_2 hL _ t_P) t5 (by decide))).trans e3
        have hu := hu.st k24 t5 (by decide)
        have hk25 : ∀ b, b ≠ (g.lk (g.lk P 2) nn) → f22 b = f b := fun b q0 => (k24 b q0).trans (hk21 b q0)
        have hfn : ∀ i, i < 72 → i ≠ nn → f22 (g.lk (g.lk P 2) i) = f (g.lk (g.lk P 2) i) := fun i h1 h2 => (k24 _ (fun z => absurd (lo_inj25 hL _ _ _ _ (lo_k7_2 hL _ t_P) (lo_k7_2 hL _ t_P) h1 (by omega) z).2 (by omega))).trans (hfn i h1 h2)
        refine lv_aload hx hb d_NReader_addOperation_59 (lv_at hl 0 rfl) ?_
        refine lv_iload_n hx hb d_NReader_addOperation_61 rfl (lv_at hl 4 rfl) ?_
        refine pf_put (v := .int (nI ri)) (ty := .int) (fs' := [.int (nI kd), .int (nI le), .int (nI ri), .ref (g.lk (g.lk (g.lk P 2) nn) 3), .int sm_10, .long mv_11, .ref (g.lk (g.lk (g.lk P 2) nn) 6)]) (C := "BigRunner$Node") (T := FT5) (N := 7) hx hb (hw5 hB _) (fun _ h9 => h9) TY5 ok5 nm5 hown hK hP hD hS (lo_in hL t5 (by decide)) e23 rfl 2 (by decide) (wd_213 hB _) rfl (by decide +kernel) rfl rfl (Nat.le_of_ble_eq_true rfl) rfl d_NReader_addOperation_62 (fun f26 H locs e27 k28 hP hD hS => ?_)
        have eR := (k28 Rd (tg_ne t_Rd t5 (by decide))).trans eR
        have eT := (k28 tl (tg_ne t_tl t5 (by decide))).trans eT
        have eP := (k28 P (tg_ne t_P t5 (by decide))).trans eP
        have e3 := (k28 (g.lk P 2) (tg_ne (lo_k7_2 hL _ t_P) t5 (by decide))).trans e3
        have hu := hu.st k28 t5 (by decide)
        have hk29 : ∀ b, b ≠ (g.lk (g.lk P 2) nn) → f26 b = f b := fun b q0 => (k28 b q0).trans (hk25 b q0)
        have hfn : ∀ i, i < 72 → i ≠ nn → f26 (g.lk (g.lk P 2) i) = f (g.lk (g.lk P 2) i) := fun i h1 h2 => (k28 _ (fun z => absurd (lo_inj25 hL _ _ _ _ (lo_k7_2 hL _ t_P) (lo_k7_2 hL _ t_P) h1 (by omega) z).2 (by omega))).trans (hfn i h1 h2)
        refine lv_aload_n hx hb d_NReader_addOperation_65 rfl (lv_at hl 1 rfl) ?_
        refine pf_get (v := .ref P) (C := "BigRunner$Reader") (T := FT7) (N := 4) hx hb (hw7 hB _) (fun _ h9 => h9) hown hK hP (lo_in hL t_Rd (by decide)) eR rfl 3 (by decide) (wd_273 hB _) rfl d_NReader_addOperation_66 ?_
        refine lv_dup hx hb d_NReader_addOperation_69 rfl ?_
        refine pf_get (v := .int (nI nn)) (C := "BigRunner$Program") (T := FT6) (N := 6) hx hb (hw6 hB _) (fun _ h9 => h9) hown hK hP (lo_in hL t_P (by decide)) eP rfl 3 (by decide) (wd_252 hB _) rfl d_NReader_addOperation_70 ?_
        refine lv_iconst (v := nI 1) hx hb d_NReader_addOperation_73 (by decide) ?_
        refine pf_iaddN (x := nn) (y := 1) hx hb d_NReader_addOperation_74 ?_
        have hI30 := iv_1 hI hL t5 (by decide) hk29 (oc_6.mk t5 (⟨kd, le, ri, sm_10, mv_11, e27, (by omega), (by omega), (by omega), (by omega), c16, (by omega)⟩))
        refine pf_put (v := .int (nI (nn + 1))) (ty := .int) (fs' := [.ref (g.lk P 0), .int (nI sn), .ref (g.lk P 2), .int (nI (nn + 1)), .ref (g.lk P 4), .ref (g.lk P 5)]) (C := "BigRunner$Program") (T := FT6) (N := 6) hx hb (hw6 hB _) (fun _ h9 => h9) TY6 ok6 nm6 hown hK hP hD hS (lo_in hL t_P (by decide)) eP rfl 3 (by decide) (wd_252 hB _) rfl (by decide +kernel) rfl rfl (Nat.le_of_ble_eq_true rfl) rfl d_NReader_addOperation_75 (fun f31 H locs e32 k33 hP hD hS => ?_)
        have eR := (k33 Rd (tg_ne t_Rd t_P (by decide))).trans eR
        have eT := (k33 tl (tg_ne t_tl t_P (by decide))).trans eT
        have e3 := (k33 (g.lk P 2) (tg_ne (lo_k7_2 hL _ t_P) t_P (by decide))).trans e3
        have e27 := (k33 (g.lk (g.lk P 2) nn) (tg_ne t5 t_P (by decide))).trans e27
        have hu := hu.st k33 t_P (by decide)
        have hk34 : ∀ b, b ≠ P → f31 b = f26 b := k33
        have hfn : ∀ i, i < 72 → i ≠ nn → f31 (g.lk (g.lk P 2) i) = f (g.lk (g.lk P 2) i) := fun i h1 h2 => (k33 _ (tg_ne (lo_e25 hL _ (lo_k7_2 hL _ t_P) _ h1) t_P (by decide))).trans (hfn i h1 h2)
        refine lv_aload_n hx hb d_NReader_addOperation_78 rfl (lv_at hl 1 rfl) ?_
        refine pf_get (v := .ref P) (C := "BigRunner$Reader") (T := FT7) (N := 4) hx hb (hw7 hB _) (fun _ h9 => h9) hown hK hP (lo_in hL t_Rd (by decide)) eR rfl 3 (by decide) (wd_273 hB _) rfl d_NReader_addOperation_79 ?_
        refine pf_get (v := .int (nI (nn + 1))) (C := "BigRunner$Program") (T := FT6) (N := 6) hx hb (hw6 hB _) (fun _ h9 => h9) hown hK hP (lo_in hL t_P (by decide)) e32 rfl 3 (by decide) (wd_252 hB _) rfl d_NReader_addOperation_82 ?_
        refine lv_iconst (v := nI 1) hx hb d_NReader_addOperation_85 (by decide) ?_
        refine pf_isubN (x := nn + 1) (y := 1) hx hb (by omega) d_NReader_addOperation_86 ?_
        refine lv_topi (fun z_ hz_ => ?_)
        obtain rfl : z_ = nI (nn) := hz_.trans (congrArg nI (show (nn + 1) - 1 = nn by omega))
        have hI35 := iv_1 hI30 hL t_P (by decide) hk34 (oc_7.mk t_P (⟨sn, (nn + 1), e32, (by omega), (by omega)⟩))
        exact pe_iret hx hb hr hlocks hK hP hD hS d_NReader_addOperation_87 ⟨rfl, e32, ⟨sm_10, mv_11, c16, e27⟩, hfn, hI35, hu⟩
      · skip
        replace b4 := mt (nI_ltI (a := nn) (b := 72) (by omega) (by omega)).mpr b4
        exfalso; omega
set_option maxHeartbeats 4000000 in
set_option maxRecDepth 100000 in
theorem c2_readNumber (l : Launch) (g : Lay) (sz : Nat) (f : Nat → va_E) (Rd : Nat) (tl : Nat) (ln : Nat) (ax : Nat) (P : Nat) (hT : Nat → Int32) (sn : Nat) (nn : Nat) (hL : LO g) (t_Rd : g.tg Rd = 8) (t_tl : g.tg tl = 20) (t_P : g.tg P = 7) (hI : IV g f) (eR : f Rd = .inr (7, [.ref tl, .int (nI ln), .int (nI ax), .ref P])) (eT : f tl = .inl (g.ac tl, 72, .inl hT)) (cT : ∀ i, i < 72 → vp_nar .char (hT i) = hT i) (hln : ln ≤ 72) (hax : ax ≤ ln) (eP : f P = .inr (6, [.ref (g.lk P 0), .int (nI sn), .ref (g.lk P 2), .int (nI nn), .ref (g.lk P 4), .ref (g.lk P 5)])) (hsn : sn ≤ 36) (hnn : nn ≤ 72) (hna : nn ≤ ax) : Met l ⟨"BigRunner$Reader", "readNumber", "()I"⟩ [Cond.code ⟨"BigRunner$Reader", "readNumber", "()I"⟩ prog_8_method_14_code 4 (some .int)] ({ frames := 1, cells := 0, slots := 0, locals := 24 }) (va_Pc [.ref Rd] (pc_in g sz f)) (va_Qi (fun r f1 => ((∃ (a n1 j : Nat), a ≤ ln ∧ n1 ≤ 72 ∧ j + 1 = n1 ∧ n1 + ax ≤ nn + a ∧ ax < a ∧ n1 = nn + ([(0, nv (vc hT ln) (px_dg (tk hT ln) 9 ax) ax)]).length ∧ px_n (tk hT ln) ax = some a ∧ f1 Rd = .inr (7, [.ref tl, .int (nI ln), .int (nI a), .ref P]) ∧ f1 P = .inr (6, [.ref (g.lk P 0), .int (nI sn), .ref (g.lk P 2), .int (nI n1), .ref (g.lk P 4), .ref (g.lk P 5)]) ∧ XR g f1 P nn ([(0, nv (vc hT ln) (px_dg (tk hT ln) 9 ax) ax)]) ∧ r = nI j) ∨ (∃ (a n1 : Nat), a ≤ ln ∧ n1 ≤ 72 ∧ px_n (tk hT ln) ax = none ∧ f1 Rd = .inr (7, [.ref tl, .int (nI ln), .int (nI a), .ref P]) ∧ f1 P = .inr (6, [.ref (g.lk P 0), .int (nI sn), .ref (g.lk P 2), .int (nI n1), .ref (g.lk P 4), .ref (g.lk P 5)]) ∧ r = (-1))) ∧ (∀ i, i < 72 → i < nn → f1 (g.lk (g.lk P 2) i) = f (g.lk (g.lk P 2) i)) ∧ (IV g f1) ∧ (un [6, 7, 8] g f f1)) (pc_out g sz) (pc_A g sz)) 0 0 (pc_A g sz) := by
  refine pe_ofW (cc := prog_8_method_14_code) (maxL := 4) (ret := (some .int)) (lv := [(0, .ref Rd)]) (by decide) (Nat.le_of_ble_eq_true rfl) rfl ?_
  intro p e s m args below meth c ls hx hb hr hml hlocks hown hB hP hK hD hsz hS hl
  subst hsz
  have hu : un [6, 7, 8] g f f := un.rf
  have hfn : ∀ i, i < 72 → i < nn → f (g.lk (g.lk P 2) i) = f (g.lk (g.lk P 2) i) := fun _ _ _ => rfl
  refine lv_iconst (v := nI 0) hx hb d_NReader_readNumber_0 (by decide) ?_
  refine lv_istore_n (lv' := [(1, .int (nI 0)), (0, .ref Rd)]) hx hb d_NReader_readNumber_1 rfl hl (by decide) rfl (fun ls hl => ?_)
  refine lv_iconst (v := nI 0) hx hb d_NReader_readNumber_2 (by decide) ?_
  refine lv_istore_n (lv' := [(2, .int (nI 0)), (1, .int (nI 0)), (0, .ref Rd)]) hx hb d_NReader_readNumber_3 rfl hl (by decide) rfl (fun ls hl => ?_)
  have lp1 : ∀ (k3 : Nat) (vv : Nat) (dd : Nat) (f2 : Nat → va_E) (H : Heap) (locs : List Loc) (ls : Array Slot), (9 < dd + k3) → (dd ≤ 9) → (ax + dd ≤ ln) → (px_dg (tk hT ln) 9 ax = dd + px_dg (tk hT ln) (9 - dd) (ax + dd)) → (vv = nv (vc hT ln) dd ax) → (vv < 10 ^ dd) → (∀ i, i < 72 → i < nn → f2 (g.lk (g.lk P 2) i) = f (g.lk (g.lk P 2) i)) → f2 Rd = .inr (7, [.ref tl, .int (nI ln), .int (nI (ax + dd)), .ref P]) → IV g f2 → un [8] g f f2 → lv_has ls 4 [(2, .int (nI dd)), (1, .int (nI vv)), (0, .ref Rd)] → va_P g.D vcl (va_pl g.LP f2) H → va_D (pc_A g s.heap.size) (va_pl g.LP f2) → va_S (pc_A g s.heap.size) s.heap H locs → W p l e ({ frames := 1, cells := 0, slots := 0, locals := 24 }) s m args below meth c H locs 0 0 (MQ below (va_Qi (fun r f1 => ((∃ (a n1 j : Nat), a ≤ ln ∧ n1 ≤ 72 ∧ j + 1 = n1 ∧ n1 + ax ≤ nn + a ∧ ax < a ∧ n1 = nn + ([(0, nv (vc hT ln) (px_dg (tk hT ln) 9 ax) ax)]).length ∧ px_n (tk hT ln) ax = some a ∧ f1 Rd = .inr (7, [.ref tl, .int (nI ln), .int (nI a), .ref P]) ∧ f1 P = .inr (6, [.ref (g.lk P 0), .int (nI sn), .ref (g.lk P 2), .int (nI n1), .ref (g.lk P 4), .ref (g.lk P 5)]) ∧ XR g f1 P nn ([(0, nv (vc hT ln) (px_dg (tk hT ln) 9 ax) ax)]) ∧ r = nI j) ∨ (∃ (a n1 : Nat), a ≤ ln ∧ n1 ≤ 72 ∧ px_n (tk hT ln) ax = none ∧ f1 Rd = .inr (7, [.ref tl, .int (nI ln), .int (nI a), .ref P]) ∧ f1 P = .inr (6, [.ref (g.lk P 0), .int (nI sn), .ref (g.lk P 2), .int (nI n1), .ref (g.lk P 4), .ref (g.lk P 5)]) ∧ r = (-1))) ∧ (∀ i, i < 72 → i < nn → f1 (g.lk (g.lk P 2) i) = f (g.lk (g.lk P 2) i)) ∧ (IV g f1) ∧ (un [6, 7, 8] g f f1)) (pc_out g s.heap.size) (pc_A g s.heap.size)) args s 0 0 (pc_A g s.heap.size)) (F0 m 4 ls []) := by
    intro k3
    induction k3 with
    | zero => intros; exfalso; omega
    | succ k3 ih4 =>
      intro vv dd f2 H locs ls hfu5 hdd hal hdg hvv hvl hfn e6 hI7 hv8 hl hP hD hS
      have eT := hv8.at t_tl (by decide) eT
      have eP := hv8.at t_P (by decide) eP
      have hu := hu.tr hv8 (by decide)
      refine lv_iload_n hx hb d_NReader_readNumber_4 rfl (lv_at hl 0 rfl) ?_
      refine lv_bipush (v := nI 9) hx hb d_NReader_readNumber_5 (by decide) ?_
      refine lv_icmp_ge (tgt := 57) hx hb d_NReader_readNumber_7 (by decide) (fun b9 => ?_) (fun b9 => ?_)
      · skip
        replace b9 := (nI_leI (a := 9) (b := dd) (by omega) (by omega)).mp b9
        have hv9 := nv_9 hvl hdd
        have hdn := dg_done hdg (Or.inl (by omega))
        refine lv_iload_n hx hb d_NReader_readNumber_57 rfl (lv_at hl 0 rfl) ?_
        refine lv_if_ne (tgt := 65) hx hb d_NReader_readNumber_58 (by decide) (fun b10 => ?_) (fun b10 => ?_)
        · skip
          replace b10 := mt (nI_eq (a := dd) (b := 0) (by omega) (by omega)).mpr b10
          refine lv_aload_n hx hb d_NReader_readNumber_65 rfl (lv_at hl 2 rfl) ?_
          refine lv_iconst (v := nI 0) hx hb d_NReader_readNumber_66 (by decide) ?_
          refine lv_iconst (v := nI 0) hx hb d_NReader_readNumber_67 (by decide) ?_
          refine lv_iconst (v := nI 0) hx hb d_NReader_readNumber_68 (by decide) ?_
          refine pcc_i (va_runV (C := "BigRunner$Reader") (As := [.int (nI 0), .int (nI 0), .int (nI 0)]) (rest := []) ⟨hx, hb, hml, hown, tb_nil⟩ (c2_addOp l g H.size f2 Rd tl ln ((ax + dd)) P hT sn nn 0 0 0 hL t_Rd t_tl t_P hI7 e6 eT cT (by omega) (by omega) eP (by omega) (by omega) (by omega) (by omega) (by omega) (by omega) (by omega) (by omega)) ⟨(callB_of 3 (tb_one (wd_504 hB _)) tb_good1 rfl rfl rfl (wd_73 hB _) (wd_501 hB _) (by decide +kernel) ⟨Nat.le_of_ble_eq_true rfl, Nat.le_of_ble_eq_true rfl⟩), (wd_503 hB _), (wd_12 hB _)⟩ ⟨pe_bl, pg_recv (ci := 7) hK hP (lo_in hL t_Rd (by decide)) e6 rfl, pe_pre hB hK hP hD⟩ rfl rfl hl.1 rfl (lv_room (Nat.le_of_ble_eq_true rfl)) d_NReader_readNumber_69 ⟨Nat.le_of_ble_eq_true rfl, Nat.le_of_ble_eq_true rfl⟩) hS (fun r11 f12 H locs hq13 hP hD hS => ?_)
          obtain ⟨q_14, x1_15, xn_16, frn_17, hI1_18, hu1_19⟩ := hq13
          subst q_14
          have hu := hu.tr hu1_19 (by decide)
          have eT := hu1_19.at t_tl (by decide) eT
          have e6 := hu1_19.at t_Rd (by decide) e6
          have hfn : ∀ i, i < 72 → i < nn → f12 (g.lk (g.lk P 2) i) = f (g.lk (g.lk P 2) i) := fun i h1 h2 => (frn_17 i h1 (by omega)).trans (hfn i h1 h2)
          obtain ⟨sm_20, mv_21, hb22, e23⟩ := xn_16
          refine lv_istore_n (lv' := [(3, .int (nI nn)), (2, .int (nI dd)), (1, .int (nI vv)), (0, .ref Rd)]) hx hb d_NReader_readNumber_72 rfl hl (by decide) rfl (fun ls hl => ?_)
          refine lv_iload_n hx hb d_NReader_readNumber_73 rfl (lv_at hl 0 rfl) ?_
          refine lv_iconst (v := (-1)) hx hb d_NReader_readNumber_74 (by decide) ?_
          refine lv_icmp_eq (tgt := 92) hx hb d_NReader_readNumber_75 (by decide) (fun b24 => ?_) (fun b24 => ?_)
          · skip
            exact absurd b24 (nI_n1 (j := nn) (by omega))
          · skip
            refine lv_aload_n hx hb d_NReader_readNumber_78 rfl (lv_at hl 3 rfl) ?_
            refine pf_get (v := .ref P) (C := "BigRunner$Reader") (T := FT7) (N := 4) hx hb (hw7 hB _) (fun _ h9 => h9) hown hK hP (lo_in hL t_Rd (by decide)) e6 rfl 3 (by decide) (wd_273 hB _) rfl d_NReader_readNumber_79 ?_
            refine pf_get (v := .ref (g.lk P 2)) (C := "BigRunner$Program") (T := FT6) (N := 6) hx hb (hw6 hB _) (fun _ h9 => h9) hown hK hP (lo_in hL t_P (by decide)) x1_15 rfl 2 (by decide) (wd_250 hB _) rfl d_NReader_readNumber_82 ?_
            refine lv_iload_n hx hb d_NReader_readNumber_85 rfl (lv_at hl 0 rfl) ?_
            have e25 := oc_25.of (lo_k7_2 hL _ t_P) (hI1_18.1 (g.lk P 2))
            refine pf_aald (i := nn) hx hb hK hP (lo_in hL (lo_k7_2 hL _ t_P) (by decide)) e25 (lo_t25 hL _ (lo_k7_2 hL _ t_P)) (by omega) (by decide) d_NReader_readNumber_86 ?_
            have t26 := lo_e25 hL _ (lo_k7_2 hL _ t_P) nn (by omega)
            refine lv_iload_n hx hb d_NReader_readNumber_87 rfl (lv_at hl 2 rfl) ?_
            refine pf_i2lN hx hb (by omega) d_NReader_readNumber_88 ?_
            refine pf_put (v := .long (nL vv)) (ty := .long) (fs' := [.int (nI 0), .int (nI 0), .int (nI 0), .ref (g.lk (g.lk (g.lk P 2) nn) 3), .int sm_20, .long (nL vv), .ref (g.lk (g.lk (g.lk P 2) nn) 6)]) (C := "BigRunner$Node") (T := FT5) (N := 7) hx hb (hw5 hB _) (fun _ h9 => h9) TY5 ok5 nm5 hown hK hP hD hS (lo_in hL t26 (by decide)) e23 rfl 5 (by decide) (wd_222 hB _) rfl (by decide +kernel) rfl rfl (Nat.le_of_ble_eq_true rfl) rfl d_NReader_readNumber_89 (fun f27 H locs e28 k29 hP hD hS => ?_)
            have eT := (k29 tl (tg_ne t_tl t26 (by decide))).trans eT
            have e6 := (k29 Rd (tg_ne t_Rd t26 (by decide))).trans e6
            have x1_15 := (k29 P (tg_ne t_P t26 (by decide))).trans x1_15
            have e25 := (k29 (g.lk P 2) (tg_ne (lo_k7_2 hL _ t_P) t26 (by decide))).trans e25
            have hu := hu.st k29 t26 (by decide)
            have hk30 : ∀ b, b ≠ (g.lk (g.lk P 2) nn) → f27 b = f12 b := k29
            have hfn : ∀ i, i < 72 → i < nn → f27 (g.lk (g.lk P 2) i) = f (g.lk (g.lk P 2) i) := fun i h1 h2 => (k29 _ (fun z => absurd (lo_inj25 hL _ _ _ _ (lo_k7_2 hL _ t_P) (lo_k7_2 hL _ t_P) h1 (by omega) z).2 (by omega))).trans (hfn i h1 h2)
            refine lv_iload_n hx hb d_NReader_readNumber_92 rfl (lv_at hl 0 rfl) ?_
            have hI31 := iv_1 hI1_18 hL t26 (by decide) hk30 (oc_6.mk t26 (⟨0, 0, 0, sm_20, ((nL vv)), e28, (by omega), (by omega), (by omega), (by omega), hb22, (by omega)⟩))
            exact pe_iret hx hb hr hlocks hK hP hD hS d_NReader_readNumber_93 ⟨(Or.inl ⟨ax + dd, nn + 1, nn, by omega, by omega, by omega, by omega, by omega, rfl, (by unfold px_n; rw [hdn, if_neg (by omega)]), e6, x1_15, (XR_one (by decide) (fun st => ⟨0, 0, sm_20, nL vv, e28, by decide, fun _ => ⟨by rw [hdn, hvv], by rw [hdn, ← hvv]; exact nv_9 hvl (by omega)⟩, fun q => absurd q (by decide), fun q => absurd q (by decide), fun q => absurd q (by decide)⟩)), rfl⟩), hfn, hI31, hu⟩
        · skip
          replace b10 := (nI_eq (a := dd) (b := 0) (by omega) (by omega)).mp b10
          refine lv_iconst (v := (-1)) hx hb d_NReader_readNumber_61 (by decide) ?_
          refine lv_goto (tgt := 72) hx hb d_NReader_readNumber_62 (by decide) ?_
          refine lv_istore_n (lv' := [(3, .int (-1)), (2, .int (nI dd)), (1, .int (nI vv)), (0, .ref Rd)]) hx hb d_NReader_readNumber_72 rfl hl (by decide) rfl (fun ls hl => ?_)
          refine lv_iload_n hx hb d_NReader_readNumber_73 rfl (lv_at hl 0 rfl) ?_
          refine lv_iconst (v := (-1)) hx hb d_NReader_readNumber_74 (by decide) ?_
          refine lv_icmp_eq (tgt := 92) hx hb d_NReader_readNumber_75 (by decide) (fun b32 => ?_) (fun b32 => ?_)
          · skip
            refine lv_iload_n hx hb d_NReader_readNumber_92 rfl (lv_at hl 0 rfl) ?_
            exact pe_iret hx hb hr hlocks hK hP hD hS d_NReader_readNumber_93 ⟨(Or.inr ⟨ax + dd, nn, by omega, by omega, (by unfold px_n; rw [hdn, if_pos (by omega)]), e6, eP, rfl⟩), hfn, hI7, hu⟩
          · skip
            exact absurd (by decide) b32
      · skip
        replace b9 := mt (nI_leI (a := 9) (b := dd) (by omega) (by omega)).mpr b9
        refine lv_aload_n hx hb d_NReader_readNumber_10 rfl (lv_at hl 2 rfl) ?_
        refine pcc_i (va_runV (C := "BigRunner$Reader") (As := []) (rest := []) ⟨hx, hb, hml, hown, tb_nil⟩ (c_next l g H.size f2 Rd tl ln ((ax + dd)) P hT hL t_Rd t_tl t_P hI7.1 e6 eT cT (by omega) (by omega)) ⟨(callB_of 0 (tb_one (wd_476 hB _)) tb_good1 rfl rfl rfl (wd_73 hB _) (wd_473 hB _) (by decide +kernel) ⟨Nat.le_of_ble_eq_true rfl, Nat.le_of_ble_eq_true rfl⟩), (wd_475 hB _), (wd_5 hB _)⟩ ⟨pe_bl, pg_recv (ci := 7) hK hP (lo_in hL t_Rd (by decide)) e6 rfl, pe_pre hB hK hP hD⟩ rfl rfl hl.1 rfl (lv_room (Nat.le_of_ble_eq_true rfl)) d_NReader_readNumber_11 ⟨Nat.le_of_ble_eq_true rfl, Nat.le_of_ble_eq_true rfl⟩) hS (fun r33 f34 H locs hq35 hP hD hS => ?_)
        obtain ⟨nx_36, rfl⟩ := hq35
        subst nx_36
        refine lv_bipush (v := nI 48) hx hb d_NReader_readNumber_14 (by decide) ?_
        refine lv_icmp_lt (tgt := 57) hx hb d_NReader_readNumber_16 (by decide) (fun b37 => ?_) (fun b37 => ?_)
        · skip
          have hv9 := nv_9 hvl hdd
          have hdn := dg_done hdg (Or.inr (fun z => absurd (kc_7.mp z).1 (Int32.not_le.mpr b37)))
          refine lv_iload_n hx hb d_NReader_readNumber_57 rfl (lv_at hl 0 rfl) ?_
          refine lv_if_ne (tgt := 65) hx hb d_NReader_readNumber_58 (by decide) (fun b38 => ?_) (fun b38 => ?_)
          · skip
            replace b38 := mt (nI_eq (a := dd) (b := 0) (by omega) (by omega)).mpr b38
            refine lv_aload_n hx hb d_NReader_readNumber_65 rfl (lv_at hl 2 rfl) ?_
            refine lv_iconst (v := nI 0) hx hb d_NReader_readNumber_66 (by decide) ?_
            refine lv_iconst (v := nI 0) hx hb d_NReader_readNumber_67 (by decide) ?_
            refine lv_iconst (v := nI 0) hx hb d_NReader_readNumber_68 (by decide) ?_
            refine pcc_i (va_runV (C := "BigRunner$Reader") (As := [.int (nI 0), .int (nI 0), .int (nI 0)]) (rest := []) ⟨hx, hb, hml, hown, tb_nil⟩ (c2_addOp l g H.size f2 Rd tl ln ((ax + dd)) P hT sn nn 0 0 0 hL t_Rd t_tl t_P hI7 e6 eT cT (by omega) (by omega) eP (by omega) (by omega) (by omega) (by omega) (by omega) (by omega) (by omega) (by omega)) ⟨(callB_of 3 (tb_one (wd_504 hB _)) tb_good1 rfl rfl rfl (wd_73 hB _) (wd_501 hB _) (by decide +kernel) ⟨Nat.le_of_ble_eq_true rfl, Nat.le_of_ble_eq_true rfl⟩), (wd_503 hB _), (wd_12 hB _)⟩ ⟨pe_bl, pg_recv (ci := 7) hK hP (lo_in hL t_Rd (by decide)) e6 rfl, pe_pre hB hK hP hD⟩ rfl rfl hl.1 rfl (lv_room (Nat.le_of_ble_eq_true rfl)) d_NReader_readNumber_69 ⟨Nat.le_of_ble_eq_true rfl, Nat.le_of_ble_eq_true rfl⟩) hS (fun r39 f40 H locs hq41 hP hD hS => ?_)
            obtain ⟨q_42, x1_43, xn_44, frn_45, hI1_46, hu1_47⟩ := hq41
            subst q_42
            have hu := hu.tr hu1_47 (by decide)
            have eT := hu1_47.at t_tl (by decide) eT
            have e6 := hu1_47.at t_Rd (by decide) e6
            have hfn : ∀ i, i < 72 → i < nn → f40 (g.lk (g.lk P 2) i) = f (g.lk (g.lk P 2) i) := fun i h1 h2 => (frn_45 i h1 (by omega)).trans (hfn i h1 h2)
            obtain ⟨sm_48, mv_49, hb50, e51⟩ := xn_44
            refine lv_istore_n (lv' := [(3, .int (nI nn)), (2, .int (nI dd)), (1, .int (nI vv)), (0, .ref Rd)]) hx hb d_NReader_readNumber_72 rfl hl (by decide) rfl (fun ls hl => ?_)
            refine lv_iload_n hx hb d_NReader_readNumber_73 rfl (lv_at hl 0 rfl) ?_
            refine lv_iconst (v := (-1)) hx hb d_NReader_readNumber_74 (by decide) ?_
            refine lv_icmp_eq (tgt := 92) hx hb d_NReader_readNumber_75 (by decide) (fun b52 => ?_) (fun b52 => ?_)
            · skip
              exact absurd b52 (nI_n1 (j := nn) (by omega))
            · skip
              refine lv_aload_n hx hb d_NReader_readNumber_78 rfl (lv_at hl 3 rfl) ?_
              refine pf_get (v := .ref P) (C := "BigRunner$Reader") (T := FT7) (N := 4) hx hb (hw7 hB _) (fun _ h9 => h9) hown hK hP (lo_in hL t_Rd (by decide)) e6 rfl 3 (by decide) (wd_273 hB _) rfl d_NReader_readNumber_79 ?_
              refine pf_get (v := .ref (g.lk P 2)) (C := "BigRunner$Program") (T := FT6) (N := 6) hx hb (hw6 hB _) (fun _ h9 => h9) hown hK hP (lo_in hL t_P (by decide)) x1_43 rfl 2 (by decide) (wd_250 hB _) rfl d_NReader_readNumber_82 ?_
              refine lv_iload_n hx hb d_NReader_readNumber_85 rfl (lv_at hl 0 rfl) ?_
              have e53 := oc_25.of (lo_k7_2 hL _ t_P) (hI1_46.1 (g.lk P 2))
              refine pf_aald (i := nn) hx hb hK hP (lo_in hL (lo_k7_2 hL _ t_P) (by decide)) e53 (lo_t25 hL _ (lo_k7_2 hL _ t_P)) (by omega) (by decide) d_NReader_readNumber_86 ?_
              have t54 := lo_e25 hL _ (lo_k7_2 hL _ t_P) nn (by omega)
              refine lv_iload_n hx hb d_NReader_readNumber_87 rfl (lv_at hl 2 rfl) ?_
              refine pf_i2lN hx hb (by omega) d_NReader_readNumber_88 ?_
              refine pf_put (v := .long (nL vv)) (ty := .long) (fs' := [.int (nI 0), .int (nI 0), .int (nI 0), .ref (g.lk (g.lk (g.lk P 2) nn) 3), .int sm_48, .long (nL vv), .ref (g.lk (g.lk (g.lk P 2) nn) 6)]) (C := "BigRunner$Node") (T := FT5) (N := 7) hx hb (hw5 hB _) (fun _ h9 => h9) TY5 ok5 nm5 hown hK hP hD hS (lo_in hL t54 (by decide)) e51 rfl 5 (by decide) (wd_222 hB _) rfl (by decide +kernel) rfl rfl (Nat.le_of_ble_eq_true rfl) rfl d_NReader_readNumber_89 (fun f55 H locs e56 k57 hP hD hS => ?_)
              have eT := (k57 tl (tg_ne t_tl t54 (by decide))).trans eT
              have e6 := (k57 Rd (tg_ne t_Rd t54 (by decide))).trans e6
              have x1_43 := (k57 P (tg_ne t_P t54 (by decide))).trans x1_43
              have e53 := (k57 (g.lk P 2) (tg_ne (lo_k7_2 hL _ t_P) t54 (by decide))).trans e53
              have hu := hu.st k57 t54 (by decide)
              have hk58 : ∀ b, b ≠ (g.lk (g.lk P 2) nn) → f55 b = f40 b := k57
              have hfn : ∀ i, i < 72 → i < nn → f55 (g.lk (g.lk P 2) i) = f (g.lk (g.lk P 2) i) := fun i h1 h2 => (k57 _ (fun z => absurd (lo_inj25 hL _ _ _ _ (lo_k7_2 hL _ t_P) (lo_k7_2 hL _ t_P) h1 (by omega) z).2 (by omega))).trans (hfn i h1 h2)
              refine lv_iload_n hx hb d_NReader_readNumber_92 rfl (lv_at hl 0 rfl) ?_
              have hI59 := iv_1 hI1_46 hL t54 (by decide) hk58 (oc_6.mk t54 (⟨0, 0, 0, sm_48, ((nL vv)), e56, (by omega), (by omega), (by omega), (by omega), hb50, (by omega)⟩))
              exact pe_iret hx hb hr hlocks hK hP hD hS d_NReader_readNumber_93 ⟨(Or.inl ⟨ax + dd, nn + 1, nn, by omega, by omega, by omega, by omega, by omega, rfl, (by unfold px_n; rw [hdn, if_neg (by omega)]), e6, x1_43, (XR_one (by decide) (fun st => ⟨0, 0, sm_48, nL vv, e56, by decide, fun _ => ⟨by rw [hdn, hvv], by rw [hdn, ← hvv]; exact nv_9 hvl (by omega)⟩, fun q => absurd q (by decide), fun q => absurd q (by decide), fun q => absurd q (by decide)⟩)), rfl⟩), hfn, hI59, hu⟩
          · skip
            replace b38 := (nI_eq (a := dd) (b := 0) (by omega) (by omega)).mp b38
            refine lv_iconst (v := (-1)) hx hb d_NReader_readNumber_61 (by decide) ?_
            refine lv_goto (tgt := 72) hx hb d_NReader_readNumber_62 (by decide) ?_
            refine lv_istore_n (lv' := [(3, .int (-1)), (2, .int (nI dd)), (1, .int (nI vv)), (0, .ref Rd)]) hx hb d_NReader_readNumber_72 rfl hl (by decide) rfl (fun ls hl => ?_)
            refine lv_iload_n hx hb d_NReader_readNumber_73 rfl (lv_at hl 0 rfl) ?_
            refine lv_iconst (v := (-1)) hx hb d_NReader_readNumber_74 (by decide) ?_
            refine lv_icmp_eq (tgt := 92) hx hb d_NReader_readNumber_75 (by decide) (fun b60 => ?_) (fun b60 => ?_)
            · skip
              refine lv_iload_n hx hb d_NReader_readNumber_92 rfl (lv_at hl 0 rfl) ?_
              exact pe_iret hx hb hr hlocks hK hP hD hS d_NReader_readNumber_93 ⟨(Or.inr ⟨ax + dd, nn, by omega, by omega, (by unfold px_n; rw [hdn, if_pos (by omega)]), e6, eP, rfl⟩), hfn, hI7, hu⟩
            · skip
              exact absurd (by decide) b60
        · skip
          refine lv_aload_n hx hb d_NReader_readNumber_19 rfl (lv_at hl 2 rfl) ?_
          refine pcc_i (va_runV (C := "BigRunner$Reader") (As := []) (rest := []) ⟨hx, hb, hml, hown, tb_nil⟩ (c_next l g H.size f2 Rd tl ln ((ax + dd)) P hT hL t_Rd t_tl t_P hI7.1 e6 eT cT (by omega) (by omega)) ⟨(callB_of 0 (tb_one (wd_476 hB _)) tb_good1 rfl rfl rfl (wd_73 hB _) (wd_473 hB _) (by decide +kernel) ⟨Nat.le_of_ble_eq_true rfl, Nat.le_of_ble_eq_true rfl⟩), (wd_475 hB _), (wd_5 hB _)⟩ ⟨pe_bl, pg_recv (ci := 7) hK hP (lo_in hL t_Rd (by decide)) e6 rfl, pe_pre hB hK hP hD⟩ rfl rfl hl.1 rfl (lv_room (Nat.le_of_ble_eq_true rfl)) d_NReader_readNumber_20 ⟨Nat.le_of_ble_eq_true rfl, Nat.le_of_ble_eq_true rfl⟩) hS (fun r61 f62 H locs hq63 hP hD hS => ?_)
          obtain ⟨nx_64, rfl⟩ := hq63
          subst nx_64
          refine lv_bipush (v := nI 57) hx hb d_NReader_readNumber_23 (by decide) ?_
          refine lv_icmp_gt (tgt := 57) hx hb d_NReader_readNumber_25 (by decide) (fun b65 => ?_) (fun b65 => ?_)
          · skip
            have hv9 := nv_9 hvl hdd
            have hdn := dg_done hdg (Or.inr (fun z => absurd (kc_7.mp z).2 (Int32.not_le.mpr b65)))
            refine lv_iload_n hx hb d_NReader_readNumber_57 rfl (lv_at hl 0 rfl) ?_
            refine lv_if_ne (tgt := 65) hx hb d_NReader_readNumber_58 (by decide) (fun b66 => ?_) (fun b66 => ?_)
            · skip
              replace b66 := mt (nI_eq (a := dd) (b := 0) (by omega) (by omega)).mpr b66
              refine lv_aload_n hx hb d_NReader_readNumber_65 rfl (lv_at hl 2 rfl) ?_
              refine lv_iconst (v := nI 0) hx hb d_NReader_readNumber_66 (by decide) ?_
              refine lv_iconst (v := nI 0) hx hb d_NReader_readNumber_67 (by decide) ?_
              refine lv_iconst (v := nI 0) hx hb d_NReader_readNumber_68 (by decide) ?_
              refine pcc_i (va_runV (C := "BigRunner$Reader") (As := [.int (nI 0), .int (nI 0), .int (nI 0)]) (rest := []) ⟨hx, hb, hml, hown, tb_nil⟩ (c2_addOp l g H.size f2 Rd tl ln ((ax + dd)) P hT sn nn 0 0 0 hL t_Rd t_tl t_P hI7 e6 eT cT (by omega) (by omega) eP (by omega) (by omega) (by omega) (by omega) (by omega) (by omega) (by omega) (by omega)) ⟨(callB_of 3 (tb_one (wd_504 hB _)) tb_good1 rfl rfl rfl (wd_73 hB _) (wd_501 hB _) (by decide +kernel) ⟨Nat.le_of_ble_eq_true rfl, Nat.le_of_ble_eq_true rfl⟩), (wd_503 hB _), (wd_12 hB _)⟩ ⟨pe_bl, pg_recv (ci := 7) hK hP (lo_in hL t_Rd (by decide)) e6 rfl, pe_pre hB hK hP hD⟩ rfl rfl hl.1 rfl (lv_room (Nat.le_of_ble_eq_true rfl)) d_NReader_readNumber_69 ⟨Nat.le_of_ble_eq_true rfl, Nat.le_of_ble_eq_true rfl⟩) hS (fun r67 f68 H locs hq69 hP hD hS => ?_)
              obtain ⟨q_70, x1_71, xn_72, frn_73, hI1_74, hu1_75⟩ := hq69
              subst q_70
              have hu := hu.tr hu1_75 (by decide)
              have eT := hu1_75.at t_tl (by decide) eT
              have e6 := hu1_75.at t_Rd (by decide) e6
              have hfn : ∀ i, i < 72 → i < nn → f68 (g.lk (g.lk P 2) i) = f (g.lk (g.lk P 2) i) := fun i h1 h2 => (frn_73 i h1 (by omega)).trans (hfn i h1 h2)
              obtain ⟨sm_76, mv_77, hb78, e79⟩ := xn_72
              refine lv_istore_n (lv' := [(3, .int (nI nn)), (2, .int (nI dd)), (1, .int (nI vv)), (0, .ref Rd)]) hx hb d_NReader_readNumber_72 rfl hl (by decide) rfl (fun ls hl => ?_)
              refine lv_iload_n hx hb d_NReader_readNumber_73 rfl (lv_at hl 0 rfl) ?_
              refine lv_iconst (v := (-1)) hx hb d_NReader_readNumber_74 (by decide) ?_
              refine lv_icmp_eq (tgt := 92) hx hb d_NReader_readNumber_75 (by decide) (fun b80 => ?_) (fun b80 => ?_)
              · skip
                exact absurd b80 (nI_n1 (j := nn) (by omega))
              · skip
                refine lv_aload_n hx hb d_NReader_readNumber_78 rfl (lv_at hl 3 rfl) ?_
                refine pf_get (v := .ref P) (C := "BigRunner$Reader") (T := FT7) (N := 4) hx hb (hw7 hB _) (fun _ h9 => h9) hown hK hP (lo_in hL t_Rd (by decide)) e6 rfl 3 (by decide) (wd_273 hB _) rfl d_NReader_readNumber_79 ?_
                refine pf_get (v := .ref (g.lk P 2)) (C := "BigRunner$Program") (T := FT6) (N := 6) hx hb (hw6 hB _) (fun _ h9 => h9) hown hK hP (lo_in hL t_P (by decide)) x1_71 rfl 2 (by decide) (wd_250 hB _) rfl d_NReader_readNumber_82 ?_
                refine lv_iload_n hx hb d_NReader_readNumber_85 rfl (lv_at hl 0 rfl) ?_
                have e81 := oc_25.of (lo_k7_2 hL _ t_P) (hI1_74.1 (g.lk P 2))
                refine pf_aald (i := nn) hx hb hK hP (lo_in hL (lo_k7_2 hL _ t_P) (by decide)) e81 (lo_t25 hL _ (lo_k7_2 hL _ t_P)) (by omega) (by decide) d_NReader_readNumber_86 ?_
                have t82 := lo_e25 hL _ (lo_k7_2 hL _ t_P) nn (by omega)
                refine lv_iload_n hx hb d_NReader_readNumber_87 rfl (lv_at hl 2 rfl) ?_
                refine pf_i2lN hx hb (by omega) d_NReader_readNumber_88 ?_
                refine pf_put (v := .long (nL vv)) (ty := .long) (fs' := [.int (nI 0), .int (nI 0), .int (nI 0), .ref (g.lk (g.lk (g.lk P 2) nn) 3), .int sm_76, .long (nL vv), .ref (g.lk (g.lk (g.lk P 2) nn) 6)]) (C := "BigRunner$Node") (T := FT5) (N := 7) hx hb (hw5 hB _) (fun _ h9 => h9) TY5 ok5 nm5 hown hK hP hD hS (lo_in hL t82 (by decide)) e79 rfl 5 (by decide) (wd_222 hB _) rfl (by decide +kernel) rfl rfl (Nat.le_of_ble_eq_true rfl) rfl d_NReader_readNumber_89 (fun f83 H locs e84 k85 hP hD hS => ?_)
                have eT := (k85 tl (tg_ne t_tl t82 (by decide))).trans eT
                have e6 := (k85 Rd (tg_ne t_Rd t82 (by decide))).trans e6
                have x1_71 := (k85 P (tg_ne t_P t82 (by decide))).trans x1_71
                have e81 := (k85 (g.lk P 2) (tg_ne (lo_k7_2 hL _ t_P) t82 (by decide))).trans e81
                have hu := hu.st k85 t82 (by decide)
                have hk86 : ∀ b, b ≠ (g.lk (g.lk P 2) nn) → f83 b = f68 b := k85
                have hfn : ∀ i, i < 72 → i < nn → f83 (g.lk (g.lk P 2) i) = f (g.lk (g.lk P 2) i) := fun i h1 h2 => (k85 _ (fun z => absurd (lo_inj25 hL _ _ _ _ (lo_k7_2 hL _ t_P) (lo_k7_2 hL _ t_P) h1 (by omega) z).2 (by omega))).trans (hfn i h1 h2)
                refine lv_iload_n hx hb d_NReader_readNumber_92 rfl (lv_at hl 0 rfl) ?_
                have hI87 := iv_1 hI1_74 hL t82 (by decide) hk86 (oc_6.mk t82 (⟨0, 0, 0, sm_76, ((nL vv)), e84, (by omega), (by omega), (by omega), (by omega), hb78, (by omega)⟩))
                exact pe_iret hx hb hr hlocks hK hP hD hS d_NReader_readNumber_93 ⟨(Or.inl ⟨ax + dd, nn + 1, nn, by omega, by omega, by omega, by omega, by omega, rfl, (by unfold px_n; rw [hdn, if_neg (by omega)]), e6, x1_71, (XR_one (by decide) (fun st => ⟨0, 0, sm_76, nL vv, e84, by decide, fun _ => ⟨by rw [hdn, hvv], by rw [hdn, ← hvv]; exact nv_9 hvl (by omega)⟩, fun q => absurd q (by decide), fun q => absurd q (by decide), fun q => absurd q (by decide)⟩)), rfl⟩), hfn, hI87, hu⟩
            · skip
              replace b66 := (nI_eq (a := dd) (b := 0) (by omega) (by omega)).mp b66
              refine lv_iconst (v := (-1)) hx hb d_NReader_readNumber_61 (by decide) ?_
              refine lv_goto (tgt := 72) hx hb d_NReader_readNumber_62 (by decide) ?_
              refine lv_istore_n (lv' := [(3, .int (-1)), (2, .int (nI dd)), (1, .int (nI vv)), (0, .ref Rd)]) hx hb d_NReader_readNumber_72 rfl hl (by decide) rfl (fun ls hl => ?_)
              refine lv_iload_n hx hb d_NReader_readNumber_73 rfl (lv_at hl 0 rfl) ?_
              refine lv_iconst (v := (-1)) hx hb d_NReader_readNumber_74 (by decide) ?_
              refine lv_icmp_eq (tgt := 92) hx hb d_NReader_readNumber_75 (by decide) (fun b88 => ?_) (fun b88 => ?_)
              · skip
                refine lv_iload_n hx hb d_NReader_readNumber_92 rfl (lv_at hl 0 rfl) ?_
                exact pe_iret hx hb hr hlocks hK hP hD hS d_NReader_readNumber_93 ⟨(Or.inr ⟨ax + dd, nn, by omega, by omega, (by unfold px_n; rw [hdn, if_pos (by omega)]), e6, eP, rfl⟩), hfn, hI7, hu⟩
              · skip
                exact absurd (by decide) b88
          · skip
            have hd48 : nI 48 ≤ nx hT ln (ax + dd) := Int32.not_lt.mp b37
            have hd57 : nx hT ln (ax + dd) ≤ nI 57 := Int32.not_lt.mp b65
            have hk79 : tk hT ln (ax + dd) = 7 := kc_7.mpr ⟨hd48, hd57⟩
            have hl9 : ax + dd < ln := nx_d hd48
            obtain ⟨q9, hq9⟩ : ∃ q9, vc hT ln (ax + dd) - 48 = q9 := ⟨_, rfl⟩
            have hq8 : nx hT ln (ax + dd) - nI 48 = nI q9 := by rw [← hq9]; exact (vc_dg hd48 hd57).1
            have hq10 : q9 < 10 := by rw [← hq9]; exact (vc_dg hd48 hd57).2
            have hv9 := nv_9 hvl (by omega)
            refine lv_bipush (v := nI 10) hx hb d_NReader_readNumber_28 (by decide) ?_
            refine lv_iload_n hx hb d_NReader_readNumber_30 rfl (lv_at hl 1 rfl) ?_
            refine pf_imulN (x := 10) (y := vv) hx hb d_NReader_readNumber_31 ?_
            refine lv_aload_n hx hb d_NReader_readNumber_32 rfl (lv_at hl 2 rfl) ?_
            refine pcc_i (va_runV (C := "BigRunner$Reader") (As := []) (rest := [.int (nI (10 * vv))]) ⟨hx, hb, hml, hown, tb_nil⟩ (c_next l g H.size f2 Rd tl ln ((ax + dd)) P hT hL t_Rd t_tl t_P hI7.1 e6 eT cT (by omega) (by omega)) ⟨(callB_of 0 (tb_one (wd_476 hB _)) tb_good1 rfl rfl rfl (wd_73 hB _) (wd_473 hB _) (by decide +kernel) ⟨Nat.le_of_ble_eq_true rfl, Nat.le_of_ble_eq_true rfl⟩), (wd_475 hB _), (wd_5 hB _)⟩ ⟨pe_bl, pg_recv (ci := 7) hK hP (lo_in hL t_Rd (by decide)) e6 rfl, pe_pre hB hK hP hD⟩ rfl rfl hl.1 rfl (lv_room (Nat.le_of_ble_eq_true rfl)) d_NReader_readNumber_33 ⟨Nat.le_of_ble_eq_true rfl, Nat.le_of_ble_eq_true rfl⟩) hS (fun r89 f90 H locs hq91 hP hD hS => ?_)
            obtain ⟨nx_92, rfl⟩ := hq91
            subst nx_92
            refine lv_bipush (v := nI 48) hx hb d_NReader_readNumber_36 (by decide) ?_
            refine lv_isub hx hb d_NReader_readNumber_38 ?_
            refine lv_topi (fun z_ hz_ => ?_)
            obtain rfl : z_ = nI q9 := hz_.trans hq8
            refine pf_iaddN (x := 10 * vv) (y := q9) hx hb d_NReader_readNumber_39 ?_
            refine lv_istore_n (lv' := [(1, .int (nI ((10 * vv) + q9))), (2, .int (nI dd)), (0, .ref Rd)]) hx hb d_NReader_readNumber_40 rfl hl (by decide) rfl (fun ls hl => ?_)
            refine lv_aload_n hx hb d_NReader_readNumber_41 rfl (lv_at hl 2 rfl) ?_
            refine lv_dup hx hb d_NReader_readNumber_42 rfl ?_
            refine pf_get (v := .int (nI (ax + dd))) (C := "BigRunner$Reader") (T := FT7) (N := 4) hx hb (hw7 hB _) (fun _ h9 => h9) hown hK hP (lo_in hL t_Rd (by decide)) e6 rfl 2 (by decide) (wd_272 hB _) rfl d_NReader_readNumber_43 ?_
            refine lv_iconst (v := nI 1) hx hb d_NReader_readNumber_46 (by decide) ?_
            refine pf_iaddN (x := ax + dd) (y := 1) hx hb d_NReader_readNumber_47 ?_
            refine pf_put (v := .int (nI ((ax + dd) + 1))) (ty := .int) (fs' := [.ref tl, .int (nI ln), .int (nI ((ax + dd) + 1)), .ref P]) (C := "BigRunner$Reader") (T := FT7) (N := 4) hx hb (hw7 hB _) (fun _ h9 => h9) TY7 ok7 nm7 hown hK hP hD hS (lo_in hL t_Rd (by decide)) e6 rfl 2 (by decide) (wd_272 hB _) rfl (by decide +kernel) rfl rfl (Nat.le_of_ble_eq_true rfl) rfl d_NReader_readNumber_48 (fun f93 H locs e94 k95 hP hD hS => ?_)
            have eT := (k95 tl (tg_ne t_tl t_Rd (by decide))).trans eT
            have eP := (k95 P (tg_ne t_P t_Rd (by decide))).trans eP
            have hu := hu.st k95 t_Rd (by decide)
            have hv8 := hv8.st k95 t_Rd (by decide)
            have hk96 : ∀ b, b ≠ Rd → f93 b = f2 b := k95
            have hfn : ∀ i, i < 72 → i < nn → f93 (g.lk (g.lk P 2) i) = f (g.lk (g.lk P 2) i) := fun i h1 h2 => (k95 _ (tg_ne (lo_e25 hL _ (lo_k7_2 hL _ t_P) _ h1) t_Rd (by decide))).trans (hfn i h1 h2)
            refine lv_iinc (k := 1) (v := nI (dd + 1)) (lv' := [(2, .int (nI (dd + 1))), (1, .int (nI ((10 * vv) + q9))), (0, .ref Rd)]) hx hb d_NReader_readNumber_51 hl rfl (by rw [nI_succ]; rfl) (by decide) rfl (fun ls hl => ?_)
            refine lv_goto (tgt := 4) hx hb d_NReader_readNumber_54 (by decide) ?_
            have hI97 := iv_1 hI7 hL t_Rd (by decide) hk96 (oc_8.mk t_Rd (⟨(.ref tl), ln, ((ax + dd) + 1), P, e94, (by omega), (by omega), t_P⟩))
            exact ih4 ((10 * vv) + q9) (dd + 1) f93 H locs ls (by omega) (by omega) (by omega) (dg_more hdg (by omega) hk79) (by rw [nv_s hq9, ← hvv]) (nv_lt hvv hvl hq10) hfn e94 hI97 hv8 hl hP hD hS
  exact lp1 10 0 0 f s.heap [] ls (by omega) (by omega) (by omega) (by simp) rfl (by decide) hfn eR hI un.rf hl hP hD hS

