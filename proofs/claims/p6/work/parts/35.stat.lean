set_option maxHeartbeats 4000000 in
set_option maxRecDepth 100000 in
theorem c_addSt (l : Launch) (g : Lay) (sz : Nat) (f : Nat → va_E) (Rd : Nat) (tl : Nat) (ln : Nat) (ax : Nat) (P : Nat) (hT : Nat → Int32) (sn : Nat) (nn : Nat) (k9 : Nat) (hL : LO g) (t_Rd : g.tg Rd = 8) (t_tl : g.tg tl = 20) (t_P : g.tg P = 7) (hI : IV g f) (eR : f Rd = .inr (7, [.ref tl, .int (nI ln), .int (nI ax), .ref P])) (eT : f tl = .inl (g.ac tl, 72, .inl hT)) (cT : ∀ i, i < 72 → vp_nar .char (hT i) = hT i) (hln : ln ≤ 72) (hax : ax ≤ ln) (eP : f P = .inr (6, [.ref (g.lk P 0), .int (nI sn), .ref (g.lk P 2), .int (nI nn), .ref (g.lk P 4), .ref (g.lk P 5)])) (hsn : sn ≤ 36) (hnn : nn ≤ 72) (hs3 : sn < 36) (hk9 : k9 ≤ 5) : Met l ⟨"BigRunner$Reader", "addStatement", "(I)I"⟩ [Cond.code ⟨"BigRunner$Reader", "addStatement", "(I)I"⟩ prog_8_method_16_code 2 (some .int)] ({ frames := 0, cells := 0, slots := 0, locals := 0 }) (va_Pc [.ref Rd, .int (nI k9)] (pc_in g sz f)) (va_Qi (fun r f1 => (r = nI sn) ∧ (f1 P = .inr (6, [.ref (g.lk P 0), .int (nI (sn + 1)), .ref (g.lk P 2), .int (nI nn), .ref (g.lk P 4), .ref (g.lk P 5)])) ∧ (∃ (nm fn : Nat) (la : Int32) (ta : Nat), nm < 10 ∧ fn ≤ 72 ∧ (la = -1 ∨ ∃ j, j < 72 ∧ la = nI j) ∧ ta ≤ 36 ∧ f1 (g.lk (g.lk P 0) sn) = .inr (9, [.int (nI k9), .int (nI nm), .int (nI fn), .int la, .int (nI ta)])) ∧ (∀ i, i < 36 → i ≠ sn → f1 (g.lk (g.lk P 0) i) = f (g.lk (g.lk P 0) i)) ∧ (IV g f1) ∧ (un [7, 10] g f f1)) (pc_out g sz) (pc_A g sz)) 0 0 (pc_A g sz) := by
  refine pe_ofW (cc := prog_8_method_16_code) (maxL := 2) (ret := (some .int)) (lv := [(0, .ref Rd), (1, .int (nI k9))]) (by decide) (Nat.le_of_ble_eq_true rfl) rfl ?_
  intro p e s m args below meth c ls hx hb hr hml hlocks hown hB hP hK hD hsz hS hl
  subst hsz
  have hu : un [7, 10] g f f := un.rf
  obtain ⟨kd_2, nm_3, fn_4, la_5, ta_6, e1, c7, c8, c9, c10, c11⟩ := oc_10.of (lo_e24 hL _ (lo_k7_0 hL _ t_P) _ (by omega)) (hI.1 (g.lk (g.lk P 0) sn))
  have hfr0 : ∀ i, i < 36 → i ≠ sn → f (g.lk (g.lk P 0) i) = f (g.lk (g.lk P 0) i) := fun _ _ _ => rfl
  refine lv_aload_n hx hb d_NReader_addStatement_0 rfl (lv_at hl 0 rfl) ?_
  refine pf_get (v := .ref P) (C := "BigRunner$Reader") (T := FT7) (N := 4) hx hb (hw7 hB _) (fun _ h9 => h9) hown hK hP (lo_in hL t_Rd (by decide)) eR rfl 3 (by decide) (wd_273 hB _) rfl d_NReader_addStatement_1 ?_
  refine pf_get (v := .int (nI sn)) (C := "BigRunner$Program") (T := FT6) (N := 6) hx hb (hw6 hB _) (fun _ h9 => h9) hown hK hP (lo_in hL t_P (by decide)) eP rfl 1 (by decide) (wd_246 hB _) rfl d_NReader_addStatement_4 ?_
  refine lv_aload_n hx hb d_NReader_addStatement_7 rfl (lv_at hl 0 rfl) ?_
  refine pf_get (v := .ref P) (C := "BigRunner$Reader") (T := FT7) (N := 4) hx hb (hw7 hB _) (fun _ h9 => h9) hown hK hP (lo_in hL t_Rd (by decide)) eR rfl 3 (by decide) (wd_273 hB _) rfl d_NReader_addStatement_8 ?_
  refine pf_get (v := .ref (g.lk P 0)) (C := "BigRunner$Program") (T := FT6) (N := 6) hx hb (hw6 hB _) (fun _ h9 => h9) hown hK hP (lo_in hL t_P (by decide)) eP rfl 0 (by decide) (wd_244 hB _) rfl d_NReader_addStatement_11 ?_
  have e12 := oc_24.of (lo_k7_0 hL _ t_P) (hI.1 (g.lk P 0))
  refine pf_alen (n := 36) hx hb hK hP (lo_in hL (lo_k7_0 hL _ t_P) (by decide)) e12 rfl (lo_t24 hL _ (lo_k7_0 hL _ t_P)) d_NReader_addStatement_14 ?_
  refine lv_icmp_lt (tgt := 20) hx hb d_NReader_addStatement_15 (by decide) (fun b13 => ?_) (fun b13 => ?_)
  · skip
    replace b13 := (nI_ltI (a := sn) (b := 36) (by omega) (by omega)).mp b13
    refine lv_aload_n hx hb d_NReader_addStatement_20 rfl (lv_at hl 0 rfl) ?_
    refine pf_get (v := .ref P) (C := "BigRunner$Reader") (T := FT7) (N := 4) hx hb (hw7 hB _) (fun _ h9 => h9) hown hK hP (lo_in hL t_Rd (by decide)) eR rfl 3 (by decide) (wd_273 hB _) rfl d_NReader_addStatement_21 ?_
    refine pf_get (v := .ref (g.lk P 0)) (C := "BigRunner$Program") (T := FT6) (N := 6) hx hb (hw6 hB _) (fun _ h9 => h9) hown hK hP (lo_in hL t_P (by decide)) eP rfl 0 (by decide) (wd_244 hB _) rfl d_NReader_addStatement_24 ?_
    refine lv_aload_n hx hb d_NReader_addStatement_27 rfl (lv_at hl 0 rfl) ?_
    refine pf_get (v := .ref P) (C := "BigRunner$Reader") (T := FT7) (N := 4) hx hb (hw7 hB _) (fun _ h9 => h9) hown hK hP (lo_in hL t_Rd (by decide)) eR rfl 3 (by decide) (wd_273 hB _) rfl d_NReader_addStatement_28 ?_
    refine pf_get (v := .int (nI sn)) (C := "BigRunner$Program") (T := FT6) (N := 6) hx hb (hw6 hB _) (fun _ h9 => h9) hown hK hP (lo_in hL t_P (by decide)) eP rfl 1 (by decide) (wd_246 hB _) rfl d_NReader_addStatement_31 ?_
    refine pf_aald (i := sn) hx hb hK hP (lo_in hL (lo_k7_0 hL _ t_P) (by decide)) e12 (lo_t24 hL _ (lo_k7_0 hL _ t_P)) (by omega) (by decide) d_NReader_addStatement_34 ?_
    refine lv_iload_n hx hb d_NReader_addStatement_35 rfl (lv_at hl 1 rfl) ?_
    refine pf_put (v := .int (nI k9)) (ty := .int) (fs' := [.int (nI k9), .int (nI nm_3), .int (nI fn_4), .int la_5, .int (nI ta_6)]) (C := "BigRunner$Statement") (T := FT9) (N := 5) hx hb (hw9 hB _) (fun _ h9 => h9) TY9 ok9 nm9 hown hK hP hD hS (lo_in hL (lo_e24 hL _ (lo_k7_0 hL _ t_P) _ (by omega)) (by decide)) e1 rfl 0 (by decide) (wd_146 hB _) rfl (by decide +kernel) rfl rfl (Nat.le_of_ble_eq_true rfl) rfl d_NReader_addStatement_36 (fun f14 H locs e15 k16 hP hD hS => ?_)
    have eR := (k16 Rd (tg_ne t_Rd (lo_e24 hL _ (lo_k7_0 hL _ t_P) _ (by omega)) (by decide))).trans eR
    have eT := (k16 tl (tg_ne t_tl (lo_e24 hL _ (lo_k7_0 hL _ t_P) _ (by omega)) (by decide))).trans eT
    have eP := (k16 P (tg_ne t_P (lo_e24 hL _ (lo_k7_0 hL _ t_P) _ (by omega)) (by decide))).trans eP
    have e12 := (k16 (g.lk P 0) (tg_ne (lo_k7_0 hL _ t_P) (lo_e24 hL _ (lo_k7_0 hL _ t_P) _ (by omega)) (by decide))).trans e12
    have hu := hu.st k16 (lo_e24 hL _ (lo_k7_0 hL _ t_P) _ (by omega)) (by decide)
    have hk17 : ∀ b, b ≠ (g.lk (g.lk P 0) sn) → f14 b = f b := k16
    refine lv_aload_n hx hb d_NReader_addStatement_39 rfl (lv_at hl 0 rfl) ?_
    refine pf_get (v := .ref P) (C := "BigRunner$Reader") (T := FT7) (N := 4) hx hb (hw7 hB _) (fun _ h9 => h9) hown hK hP (lo_in hL t_Rd (by decide)) eR rfl 3 (by decide) (wd_273 hB _) rfl d_NReader_addStatement_40 ?_
    refine lv_dup hx hb d_NReader_addStatement_43 rfl ?_
    refine pf_get (v := .int (nI sn)) (C := "BigRunner$Program") (T := FT6) (N := 6) hx hb (hw6 hB _) (fun _ h9 => h9) hown hK hP (lo_in hL t_P (by decide)) eP rfl 1 (by decide) (wd_246 hB _) rfl d_NReader_addStatement_44 ?_
    refine lv_iconst (v := nI 1) hx hb d_NReader_addStatement_47 (by decide) ?_
    refine pf_iaddN (x := sn) (y := 1) hx hb d_NReader_addStatement_48 ?_
    have hI18 := iv_1 hI hL (lo_e24 hL _ (lo_k7_0 hL _ t_P) _ (by omega)) (by decide) hk17 (oc_10.mk (lo_e24 hL _ (lo_k7_0 hL _ t_P) _ (by omega)) (⟨k9, nm_3, fn_4, la_5, ta_6, e15, (by omega), (by omega), (by omega), (by first | exact Or.inl rfl | exact Or.inr ⟨_, by omega, rfl⟩ | assumption), (by omega)⟩))
    refine pf_put (v := .int (nI (sn + 1))) (ty := .int) (fs' := [.ref (g.lk P 0), .int (nI (sn + 1)), .ref (g.lk P 2), .int (nI nn), .ref (g.lk P 4), .ref (g.lk P 5)]) (C := "BigRunner$Program") (T := FT6) (N := 6) hx hb (hw6 hB _) (fun _ h9 => h9) TY6 ok6 nm6 hown hK hP hD hS (lo_in hL t_P (by decide)) eP rfl 1 (by decide) (wd_246 hB _) rfl (by decide +kernel) rfl rfl (Nat.le_of_ble_eq_true rfl) rfl d_NReader_addStatement_49 (fun f19 H locs e20 k21 hP hD hS => ?_)
    have eR := (k21 Rd (tg_ne t_Rd t_P (by decide))).trans eR
    have eT := (k21 tl (tg_ne t_tl t_P (by decide))).trans eT
    have e12 := (k21 (g.lk P 0) (tg_ne (lo_k7_0 hL _ t_P) t_P (by decide))).trans e12
    have e15 := (k21 (g.lk (g.lk P 0) sn) (tg_ne (lo_e24 hL _ (lo_k7_0 hL _ t_P) _ (by omega)) t_P (by decide))).trans e15
    have hu := hu.st k21 t_P (by decide)
    have hk22 : ∀ b, b ≠ P → f19 b = f14 b := k21
    refine lv_aload_n hx hb d_NReader_addStatement_52 rfl (lv_at hl 0 rfl) ?_
    refine pf_get (v := .ref P) (C := "BigRunner$Reader") (T := FT7) (N := 4) hx hb (hw7 hB _) (fun _ h9 => h9) hown hK hP (lo_in hL t_Rd (by decide)) eR rfl 3 (by decide) (wd_273 hB _) rfl d_NReader_addStatement_53 ?_
    refine pf_get (v := .int (nI (sn + 1))) (C := "BigRunner$Program") (T := FT6) (N := 6) hx hb (hw6 hB _) (fun _ h9 => h9) hown hK hP (lo_in hL t_P (by decide)) e20 rfl 1 (by decide) (wd_246 hB _) rfl d_NReader_addStatement_56 ?_
    refine lv_iconst (v := nI 1) hx hb d_NReader_addStatement_59 (by decide) ?_
    refine pf_isubN (x := sn + 1) (y := 1) hx hb (by omega) d_NReader_addStatement_60 ?_
    refine lv_topi (fun z_ hz_ => ?_)
    obtain rfl : z_ = nI (sn) := hz_.trans (congrArg nI (show (sn + 1) - 1 = sn by omega))
    have hI23 := iv_1 hI18 hL t_P (by decide) hk22 (oc_7.mk t_P (⟨(sn + 1), nn, e20, (by omega), (by omega)⟩))
    exact pe_iret hx hb hr hlocks hK hP hD hS d_NReader_addStatement_61 ⟨rfl, e20, ⟨nm_3, fn_4, la_5, ta_6, by omega, by omega, c10, by omega, e15⟩, (fun i hi hn => (k21 _ (tg_ne (lo_e24 hL _ (lo_k7_0 hL _ t_P) _ hi) t_P (by decide))).trans (k16 _ (fun z => hn (lo_inj24 hL _ _ _ _ (lo_k7_0 hL _ t_P) (lo_k7_0 hL _ t_P) hi (by omega) z).2))), hI23, hu⟩
  · skip
    replace b13 := mt (nI_ltI (a := sn) (b := 36) (by omega) (by omega)).mpr b13
    exfalso; omega
set_option maxHeartbeats 4000000 in
set_option maxRecDepth 100000 in
theorem c_addStN (l : Launch) (g : Lay) (sz : Nat) (f : Nat → va_E) (Rd : Nat) (tl : Nat) (ln : Nat) (ax : Nat) (P : Nat) (hT : Nat → Int32) (sn : Nat) (nn : Nat) (k9 : Int32) (hL : LO g) (t_Rd : g.tg Rd = 8) (t_tl : g.tg tl = 20) (t_P : g.tg P = 7) (hI : OC g f) (eR : f Rd = .inr (7, [.ref tl, .int (nI ln), .int (nI ax), .ref P])) (eT : f tl = .inl (g.ac tl, 72, .inl hT)) (cT : ∀ i, i < 72 → vp_nar .char (hT i) = hT i) (hln : ln ≤ 72) (hax : ax ≤ ln) (eP : f P = .inr (6, [.ref (g.lk P 0), .int (nI sn), .ref (g.lk P 2), .int (nI nn), .ref (g.lk P 4), .ref (g.lk P 5)])) (hsn : sn ≤ 36) (hnn : nn ≤ 72) (hs3 : sn = 36) : Met l ⟨"BigRunner$Reader", "addStatement", "(I)I"⟩ [Cond.code ⟨"BigRunner$Reader", "addStatement", "(I)I"⟩ prog_8_method_16_code 2 (some .int)] ({ frames := 0, cells := 0, slots := 0, locals := 0 }) (va_Pc [.ref Rd, .int k9] (pc_in g sz f)) (va_Qi (fun r f1 => (r = (-1)) ∧ (f = f1)) (pc_out g sz) (pc_A g sz)) 0 0 (pc_A g sz) := by
  refine pe_ofW (cc := prog_8_method_16_code) (maxL := 2) (ret := (some .int)) (lv := [(0, .ref Rd), (1, .int k9)]) (by decide) (Nat.le_of_ble_eq_true rfl) rfl ?_
  intro p e s m args below meth c ls hx hb hr hml hlocks hown hB hP hK hD hsz hS hl
  subst hsz
  refine lv_aload_n hx hb d_NReader_addStatement_0 rfl (lv_at hl 0 rfl) ?_
  refine pf_get (v := .ref P) (C := "BigRunner$Reader") (T := FT7) (N := 4) hx hb (hw7 hB _) (fun _ h9 => h9) hown hK hP (lo_in hL t_Rd (by decide)) eR rfl 3 (by decide) (wd_273 hB _) rfl d_NReader_addStatement_1 ?_
  refine pf_get (v := .int (nI sn)) (C := "BigRunner$Program") (T := FT6) (N := 6) hx hb (hw6 hB _) (fun _ h9 => h9) hown hK hP (lo_in hL t_P (by decide)) eP rfl 1 (by decide) (wd_246 hB _) rfl d_NReader_addStatement_4 ?_
  refine lv_aload_n hx hb d_NReader_addStatement_7 rfl (lv_at hl 0 rfl) ?_
  refine pf_get (v := .ref P) (C := "BigRunner$Reader") (T := FT7) (N := 4) hx hb (hw7 hB _) (fun _ h9 => h9) hown hK hP (lo_in hL t_Rd (by decide)) eR rfl 3 (by decide) (wd_273 hB _) rfl d_NReader_addStatement_8 ?_
  refine pf_get (v := .ref (g.lk P 0)) (C := "BigRunner$Program") (T := FT6) (N := 6) hx hb (hw6 hB _) (fun _ h9 => h9) hown hK hP (lo_in hL t_P (by decide)) eP rfl 0 (by decide) (wd_244 hB _) rfl d_NReader_addStatement_11 ?_
  have e1 := oc_24.of (lo_k7_0 hL _ t_P) (hI (g.lk P 0))
  refine pf_alen (n := 36) hx hb hK hP (lo_in hL (lo_k7_0 hL _ t_P) (by decide)) e1 rfl (lo_t24 hL _ (lo_k7_0 hL _ t_P)) d_NReader_addStatement_14 ?_
  refine lv_icmp_lt (tgt := 20) hx hb d_NReader_addStatement_15 (by decide) (fun b2 => ?_) (fun b2 => ?_)
  · skip
    replace b2 := (nI_ltI (a := sn) (b := 36) (by omega) (by omega)).mp b2
    exfalso; omega
  · skip
    replace b2 := mt (nI_ltI (a := sn) (b := 36) (by omega) (by omega)).mpr b2
    refine lv_iconst (v := (-1)) hx hb d_NReader_addStatement_18 (by decide) ?_
    exact pe_iret hx hb hr hlocks hK hP hD hS d_NReader_addStatement_19 ⟨rfl, rfl⟩
set_option maxHeartbeats 4000000 in
set_option maxRecDepth 100000 in
theorem c_aim (l : Launch) (g : Lay) (sz : Nat) (f : Nat → va_E) (Rd : Nat) (tl : Nat) (ln : Nat) (ax : Nat) (P : Nat) (hT : Nat → Int32) (sn : Nat) (nn : Nat) (si : Nat) (kd : Nat) (nm : Nat) (fn : Nat) (la : Int32) (ta : Nat) (t9 : Nat) (hL : LO g) (t_Rd : g.tg Rd = 8) (t_tl : g.tg tl = 20) (t_P : g.tg P = 7) (hI : IV g f) (eR : f Rd = .inr (7, [.ref tl, .int (nI ln), .int (nI ax), .ref P])) (eT : f tl = .inl (g.ac tl, 72, .inl hT)) (cT : ∀ i, i < 72 → vp_nar .char (hT i) = hT i) (hln : ln ≤ 72) (hax : ax ≤ ln) (eP : f P = .inr (6, [.ref (g.lk P 0), .int (nI sn), .ref (g.lk P 2), .int (nI nn), .ref (g.lk P 4), .ref (g.lk P 5)])) (hsn : sn ≤ 36) (hnn : nn ≤ 72) (hsi : si < 36) (eS : f (g.lk (g.lk P 0) si) = .inr (9, [.int (nI kd), .int (nI nm), .int (nI fn), .int la, .int (nI ta)])) (hkd : kd ≤ 5) (hnm : nm < 10) (hfn : fn ≤ 72) (hla : la = -1 ∨ ∃ j, j < 72 ∧ la = nI j) (hta : ta ≤ 36) (ht9 : t9 ≤ 36) : Met l ⟨"BigRunner$Reader", "aim", "(II)Z"⟩ [Cond.code ⟨"BigRunner$Reader", "aim", "(II)Z"⟩ prog_8_method_17_code 3 (some .boolean)] ({ frames := 0, cells := 0, slots := 0, locals := 0 }) (va_Pc [.ref Rd, .int (nI si), .int (nI t9)] (pc_in g sz f)) (va_Qi (fun r f1 => (r = nI 1) ∧ (f1 (g.lk (g.lk P 0) si) = .inr (9, [.int (nI kd), .int (nI nm), .int (nI fn), .int la, .int (nI t9)])) ∧ (∀ i, i < 36 → i ≠ si → f1 (g.lk (g.lk P 0) i) = f (g.lk (g.lk P 0) i)) ∧ (IV g f1) ∧ (un [10] g f f1)) (pc_out g sz) (pc_A g sz)) 0 0 (pc_A g sz) := by
  refine pe_ofW (cc := prog_8_method_17_code) (maxL := 3) (ret := (some .boolean)) (lv := [(0, .ref Rd), (1, .int (nI si)), (2, .int (nI t9))]) (by decide) (Nat.le_of_ble_eq_true rfl) rfl ?_
  intro p e s m args below meth c ls hx hb hr hml hlocks hown hB hP hK hD hsz hS hl
  subst hsz
  have hu : un [10] g f f := un.rf
  refine lv_iload_n hx hb d_NReader_aim_0 rfl (lv_at hl 1 rfl) ?_
  refine lv_iconst (v := (-1)) hx hb d_NReader_aim_1 (by decide) ?_
  refine lv_icmp_ne (tgt := 7) hx hb d_NReader_aim_2 (by decide) (fun b1 => ?_) (fun b1 => ?_)
  · skip
    refine lv_aload_n hx hb d_NReader_aim_7 rfl (lv_at hl 0 rfl) ?_
    refine pf_get (v := .ref P) (C := "BigRunner$Reader") (T := FT7) (N := 4) hx hb (hw7 hB _) (fun _ h9 => h9) hown hK hP (lo_in hL t_Rd (by decide)) eR rfl 3 (by decide) (wd_273 hB _) rfl d_NReader_aim_8 ?_
    refine pf_get (v := .ref (g.lk P 0)) (C := "BigRunner$Program") (T := FT6) (N := 6) hx hb (hw6 hB _) (fun _ h9 => h9) hown hK hP (lo_in hL t_P (by decide)) eP rfl 0 (by decide) (wd_244 hB _) rfl d_NReader_aim_11 ?_
    refine lv_iload_n hx hb d_NReader_aim_14 rfl (lv_at hl 1 rfl) ?_
    have e2 := oc_24.of (lo_k7_0 hL _ t_P) (hI.1 (g.lk P 0))
    refine pf_aald (i := si) hx hb hK hP (lo_in hL (lo_k7_0 hL _ t_P) (by decide)) e2 (lo_t24 hL _ (lo_k7_0 hL _ t_P)) (by omega) (by decide) d_NReader_aim_15 ?_
    refine lv_iload_n hx hb d_NReader_aim_16 rfl (lv_at hl 2 rfl) ?_
    refine pf_put (v := .int (nI t9)) (ty := .int) (fs' := [.int (nI kd), .int (nI nm), .int (nI fn), .int la, .int (nI t9)]) (C := "BigRunner$Statement") (T := FT9) (N := 5) hx hb (hw9 hB _) (fun _ h9 => h9) TY9 ok9 nm9 hown hK hP hD hS (lo_in hL (lo_e24 hL _ (lo_k7_0 hL _ t_P) _ (by omega)) (by decide)) eS rfl 4 (by decide) (wd_161 hB _) rfl (by decide +kernel) rfl rfl (Nat.le_of_ble_eq_true rfl) rfl d_NReader_aim_17 (fun f3 H locs e4 k5 hP hD hS => ?_)
    have eR := (k5 Rd (tg_ne t_Rd (lo_e24 hL _ (lo_k7_0 hL _ t_P) _ (by omega)) (by decide))).trans eR
    have eT := (k5 tl (tg_ne t_tl (lo_e24 hL _ (lo_k7_0 hL _ t_P) _ (by omega)) (by decide))).trans eT
    have eP := (k5 P (tg_ne t_P (lo_e24 hL _ (lo_k7_0 hL _ t_P) _ (by omega)) (by decide))).trans eP
    have e2 := (k5 (g.lk P 0) (tg_ne (lo_k7_0 hL _ t_P) (lo_e24 hL _ (lo_k7_0 hL _ t_P) _ (by omega)) (by decide))).trans e2
    have hu := hu.st k5 (lo_e24 hL _ (lo_k7_0 hL _ t_P) _ (by omega)) (by decide)
    have hk6 : ∀ b, b ≠ (g.lk (g.lk P 0) si) → f3 b = f b := k5
    refine lv_iconst (v := nI 1) hx hb d_NReader_aim_20 (by decide) ?_
    have hI7 := iv_1 hI hL (lo_e24 hL _ (lo_k7_0 hL _ t_P) _ (by omega)) (by decide) hk6 (oc_10.mk (lo_e24 hL _ (lo_k7_0 hL _ t_P) _ (by omega)) (⟨kd, nm, fn, la, t9, e4, (by omega), (by omega), (by omega), hla, (by omega)⟩))
    exact pe_zret hx hb hr hlocks hK hP hD hS d_NReader_aim_21 rfl ⟨rfl, e4, (fun i hi hn => k5 _ (fun z => hn (lo_inj24 hL _ _ _ _ (lo_k7_0 hL _ t_P) (lo_k7_0 hL _ t_P) hi (by omega) z).2)), hI7, hu⟩
  · skip
    exact absurd b1 (nI_n1 (j := si) (by omega))
set_option maxHeartbeats 4000000 in
set_option maxRecDepth 100000 in
theorem c_readNameN (l : Launch) (g : Lay) (sz : Nat) (f : Nat → va_E) (Rd : Nat) (tl : Nat) (ln : Nat) (ax : Nat) (P : Nat) (hT : Nat → Int32) (hL : LO g) (t_Rd : g.tg Rd = 8) (t_tl : g.tg tl = 20) (t_P : g.tg P = 7) (hI : OC g f) (eR : f Rd = .inr (7, [.ref tl, .int (nI ln), .int (nI ax), .ref P])) (eT : f tl = .inl (g.ac tl, 72, .inl hT)) (cT : ∀ i, i < 72 → vp_nar .char (hT i) = hT i) (hln : ln ≤ 72) (hax : ax ≤ ln) : Met l ⟨"BigRunner$Reader", "readName", "(I)Z"⟩ [Cond.code ⟨"BigRunner$Reader", "readName", "(I)Z"⟩ prog_8_method_9_code 3 (some .boolean)] ({ frames := 1, cells := 0, slots := 0, locals := 20 }) (va_Pc [.ref Rd, .int (-1)] (pc_in g sz f)) (va_Qi (fun r f1 => (r = nI 0) ∧ (f = f1)) (pc_out g sz) (pc_A g sz)) 0 0 (pc_A g sz) := by
  refine pe_ofW (cc := prog_8_method_9_code) (maxL := 3) (ret := (some .boolean)) (lv := [(0, .ref Rd), (1, .int (-1))]) (by decide) (Nat.le_of_ble_eq_true rfl) rfl ?_
  intro p e s m args below meth c ls hx hb hr hml hlocks hown hB hP hK hD hsz hS hl
  subst hsz
  refine lv_aload_n hx hb d_NReader_readName_0 rfl (lv_at hl 0 rfl) ?_
  refine pcc_i (va_runV (C := "BigRunner$Reader") (As := []) (rest := []) ⟨hx, hb, hml, hown, tb_nil⟩ (c_next l g s.heap.size f Rd tl ln ax P hT hL t_Rd t_tl t_P hI eR eT cT (by omega) (by omega)) ⟨(callB_of 0 (tb_one (wd_476 hB _)) tb_good1 rfl rfl rfl (wd_73 hB _) (wd_473 hB _) (by decide +kernel) ⟨Nat.le_of_ble_eq_true rfl, Nat.le_of_ble_eq_true rfl⟩), (wd_475 hB _), (wd_5 hB _)⟩ ⟨pe_bl, pg_recv (ci := 7) hK hP (lo_in hL t_Rd (by decide)) eR rfl, pe_pre hB hK hP hD⟩ rfl rfl hl.1 rfl (lv_room (Nat.le_of_ble_eq_true rfl)) d_NReader_readName_1 ⟨Nat.le_of_ble_eq_true rfl, Nat.le_of_ble_eq_true rfl⟩) hS (fun r1 f2 H locs hq3 hP hD hS => ?_)
  obtain ⟨nx_4, rfl⟩ := hq3
  subst nx_4
  refine lv_istore_n (lv' := [(2, .int (nx hT ln ax)), (0, .ref Rd), (1, .int (-1))]) hx hb d_NReader_readName_4 rfl hl (by decide) rfl (fun ls hl => ?_)
  refine lv_iload_n hx hb d_NReader_readName_5 rfl (lv_at hl 2 rfl) ?_
  refine lv_iconst (v := (-1)) hx hb d_NReader_readName_6 (by decide) ?_
  refine lv_icmp_eq (tgt := 22) hx hb d_NReader_readName_7 (by decide) (fun b5 => ?_) (fun b5 => ?_)
  · skip
    refine lv_iconst (v := nI 0) hx hb d_NReader_readName_22 (by decide) ?_
    exact pe_zret hx hb hr hlocks hK hP hD hS d_NReader_readName_23 rfl ⟨rfl, rfl⟩
  · skip
    exact absurd (by decide) b5

