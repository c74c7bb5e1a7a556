set_option maxHeartbeats 4000000 in
set_option maxRecDepth 100000 in
theorem c_next (l : Launch) (g : Lay) (sz : Nat) (f : Nat → va_E) (Rd : Nat) (tl : Nat) (ln : Nat) (ax : Nat) (P : Nat) (hT : Nat → Int32) (hL : LO g) (t_Rd : g.tg Rd = 8) (t_tl : g.tg tl = 20) (t_P : g.tg P = 7) (hI : OC g f) (eR : f Rd = .inr (7, [.ref tl, .int (nI ln), .int (nI ax), .ref P])) (eT : f tl = .inl (g.ac tl, 72, .inl hT)) (cT : ∀ i, i < 72 → vp_nar .char (hT i) = hT i) (hln : ln ≤ 72) (hax : ax ≤ ln) : Met l ⟨"BigRunner$Reader", "next", "()C"⟩ [Cond.code ⟨"BigRunner$Reader", "next", "()C"⟩ prog_8_method_3_code 1 (some .char)] ({ frames := 0, cells := 0, slots := 0, locals := 0 }) (va_Pc [.ref Rd] (pc_in g sz f)) (va_Qi (fun r f1 => (r = nx hT ln ax) ∧ (f = f1)) (pc_out g sz) (pc_A g sz)) 0 0 (pc_A g sz) := by
  refine pe_ofW (cc := prog_8_method_3_code) (maxL := 1) (ret := (some .char)) (lv := [(0, .ref Rd)]) (by decide) (Nat.le_of_ble_eq_true rfl) rfl ?_
  intro p e s m args below meth c ls hx hb hr hml hlocks hown hB hP hK hD hsz hS hl
  subst hsz
  refine lv_aload_n hx hb d_NReader_next_0 rfl (lv_at hl 0 rfl) ?_
  refine pf_get (v := .int (nI ax)) (C := "BigRunner$Reader") (T := FT7) (N := 4) hx hb (hw7 hB _) (fun _ h9 => h9) hown hK hP (lo_in hL t_Rd (by decide)) eR rfl 2 (by decide) (wd_272 hB _) rfl d_NReader_next_1 ?_
  refine lv_aload_n hx hb d_NReader_next_4 rfl (lv_at hl 0 rfl) ?_
  refine pf_get (v := .int (nI ln)) (C := "BigRunner$Reader") (T := FT7) (N := 4) hx hb (hw7 hB _) (fun _ h9 => h9) hown hK hP (lo_in hL t_Rd (by decide)) eR rfl 1 (by decide) (wd_271 hB _) rfl d_NReader_next_5 ?_
  refine lv_icmp_ge (tgt := 23) hx hb d_NReader_next_8 (by decide) (fun b1 => ?_) (fun b1 => ?_)
  · skip
    replace b1 := (nI_leI (a := ln) (b := ax) (by omega) (by omega)).mp b1
    refine lv_bipush (v := nI 32) hx hb d_NReader_next_23 (by decide) ?_
    exact pe_zret hx hb hr hlocks hK hP hD hS d_NReader_next_25 rfl ⟨(if_neg (by omega)).symm, rfl⟩
  · skip
    replace b1 := mt (nI_leI (a := ln) (b := ax) (by omega) (by omega)).mpr b1
    refine lv_aload_n hx hb d_NReader_next_11 rfl (lv_at hl 0 rfl) ?_
    refine pf_get (v := .ref tl) (C := "BigRunner$Reader") (T := FT7) (N := 4) hx hb (hw7 hB _) (fun _ h9 => h9) hown hK hP (lo_in hL t_Rd (by decide)) eR rfl 0 (by decide) (wd_270 hB _) rfl d_NReader_next_12 ?_
    refine lv_aload_n hx hb d_NReader_next_15 rfl (lv_at hl 0 rfl) ?_
    refine pf_get (v := .int (nI ax)) (C := "BigRunner$Reader") (T := FT7) (N := 4) hx hb (hw7 hB _) (fun _ h9 => h9) hown hK hP (lo_in hL t_Rd (by decide)) eR rfl 2 (by decide) (wd_272 hB _) rfl d_NReader_next_16 ?_
    refine pf_cald (i := ax) hx hb hK hP (lo_in hL t_tl (by decide)) eT (lo_t20 hL _ t_tl) (by omega) (by decide) d_NReader_next_19 ?_
    refine lv_goto (tgt := 25) hx hb d_NReader_next_20 (by decide) ?_
    exact pe_zret hx hb hr hlocks hK hP hD hS d_NReader_next_25 (nc_nar (cT ax (by omega))) ⟨(if_pos (by omega)).symm, rfl⟩
set_option maxHeartbeats 4000000 in
set_option maxRecDepth 100000 in
theorem c_accept (l : Launch) (g : Lay) (sz : Nat) (f : Nat → va_E) (Rd : Nat) (tl : Nat) (ln : Nat) (ax : Nat) (P : Nat) (hT : Nat → Int32) (ch : Nat) (hL : LO g) (t_Rd : g.tg Rd = 8) (t_tl : g.tg tl = 20) (t_P : g.tg P = 7) (hI : IV g f) (eR : f Rd = .inr (7, [.ref tl, .int (nI ln), .int (nI ax), .ref P])) (eT : f tl = .inl (g.ac tl, 72, .inl hT)) (cT : ∀ i, i < 72 → vp_nar .char (hT i) = hT i) (hln : ln ≤ 72) (hax : ax ≤ ln) (hch : nI ch ≠ nI 32) : Met l ⟨"BigRunner$Reader", "accept", "(C)Z"⟩ [Cond.code ⟨"BigRunner$Reader", "accept", "(C)Z"⟩ prog_8_method_4_code 2 (some .boolean)] ({ frames := 1, cells := 0, slots := 0, locals := 20 }) (va_Pc [.ref Rd, .int (nI ch)] (pc_in g sz f)) (va_Qi (fun r f1 => (r = nI 0 ∨ r = nI 1) ∧ (r = nI 0 → nx hT ln ax ≠ nI ch ∧ f1 Rd = .inr (7, [.ref tl, .int (nI ln), .int (nI ax), .ref P])) ∧ (r = nI 1 → nx hT ln ax = nI ch ∧ ax < ln ∧ f1 Rd = .inr (7, [.ref tl, .int (nI ln), .int (nI (ax + 1)), .ref P])) ∧ (IV g f1) ∧ (un [8] g f f1)) (pc_out g sz) (pc_A g sz)) 0 0 (pc_A g sz) := by
  refine pe_ofW (cc := prog_8_method_4_code) (maxL := 2) (ret := (some .boolean)) (lv := [(0, .ref Rd), (1, .int (nI ch))]) (by decide) (Nat.le_of_ble_eq_true rfl) rfl ?_
  intro p e s m args below meth c ls hx hb hr hml hlocks hown hB hP hK hD hsz hS hl
  subst hsz
  have hu : un [8] g f f := un.rf
  refine lv_aload_n hx hb d_NReader_accept_0 rfl (lv_at hl 0 rfl) ?_
  refine pcc_i (va_runV (C := "BigRunner$Reader") (As := []) (rest := []) ⟨hx, hb, hml, hown, tb_nil⟩ (c_next l g s.heap.size f Rd tl ln ax P hT hL t_Rd t_tl t_P hI.1 eR eT cT (by omega) (by omega)) ⟨(callB_of 0 (tb_one (wd_476 hB _)) tb_good1 rfl rfl rfl (wd_73 hB _) (wd_473 hB _) (by decide +kernel) ⟨Nat.le_of_ble_eq_true rfl, Nat.le_of_ble_eq_true rfl⟩), (wd_475 hB _), (wd_5 hB _)⟩ ⟨pe_bl, pg_recv (ci := 7) hK hP (lo_in hL t_Rd (by decide)) eR rfl, pe_pre hB hK hP hD⟩ rfl rfl hl.1 rfl (lv_room (Nat.le_of_ble_eq_true rfl)) d_NReader_accept_1 ⟨Nat.le_of_ble_eq_true rfl, Nat.le_of_ble_eq_true rfl⟩) hS (fun r1 f2 H locs hq3 hP hD hS => ?_)
  obtain ⟨nx_4, rfl⟩ := hq3
  subst nx_4
  refine lv_iload_n hx hb d_NReader_accept_4 rfl (lv_at hl 1 rfl) ?_
  refine lv_icmp_eq (tgt := 10) hx hb d_NReader_accept_5 (by decide) (fun b5 => ?_) (fun b5 => ?_)
  · skip
    have hlt9 : ax < ln := nx_in b5 hch
    refine lv_aload_n hx hb d_NReader_accept_10 rfl (lv_at hl 0 rfl) ?_
    refine lv_dup hx hb d_NReader_accept_11 rfl ?_
    refine pf_get (v := .int (nI ax)) (C := "BigRunner$Reader") (T := FT7) (N := 4) hx hb (hw7 hB _) (fun _ h9 => h9) hown hK hP (lo_in hL t_Rd (by decide)) eR rfl 2 (by decide) (wd_272 hB _) rfl d_NReader_accept_12 ?_
    refine lv_iconst (v := nI 1) hx hb d_NReader_accept_15 (by decide) ?_
    refine pf_iaddN (x := ax) (y := 1) hx hb d_NReader_accept_16 ?_
    refine pf_put (v := .int (nI (ax + 1))) (ty := .int) (fs' := [.ref tl, .int (nI ln), .int (nI (ax + 1)), .ref P]) (C := "BigRunner$Reader") (T := FT7) (N := 4) hx hb (hw7 hB _) (fun _ h9 => h9) TY7 ok7 nm7 hown hK hP hD hS (lo_in hL t_Rd (by decide)) eR rfl 2 (by decide) (wd_272 hB _) rfl (by decide +kernel) rfl rfl (Nat.le_of_ble_eq_true rfl) rfl d_NReader_accept_17 (fun f6 H locs e7 k8 hP hD hS => ?_)
    have eT := (k8 tl (tg_ne t_tl t_Rd (by decide))).trans eT
    have hu := hu.st k8 t_Rd (by decide)
    have hk9 : ∀ b, b ≠ Rd → f6 b = f b := k8
    refine lv_iconst (v := nI 1) hx hb d_NReader_accept_20 (by decide) ?_
    have hI10 := iv_1 hI hL t_Rd (by decide) hk9 (oc_8.mk t_Rd (⟨(.ref tl), ln, (ax + 1), P, e7, (by omega), (by omega), t_P⟩))
    exact pe_zret hx hb hr hlocks hK hP hD hS d_NReader_accept_21 rfl ⟨(Or.inr rfl), (fun z9 => absurd z9 (by decide)), (fun _ => ⟨b5, hlt9, e7⟩), hI10, hu⟩
  · skip
    refine lv_iconst (v := nI 0) hx hb d_NReader_accept_8 (by decide) ?_
    exact pe_zret hx hb hr hlocks hK hP hD hS d_NReader_accept_9 rfl ⟨(Or.inl rfl), (fun _ => ⟨b5, eR⟩), (fun z9 => absurd z9 (by decide)), hI, hu⟩
set_option maxHeartbeats 4000000 in
set_option maxRecDepth 100000 in
theorem c_addOp (l : Launch) (g : Lay) (sz : Nat) (f : Nat → va_E) (Rd : Nat) (tl : Nat) (ln : Nat) (ax : Nat) (P : Nat) (hT : Nat → Int32) (sn : Nat) (nn : Nat) (kd : Nat) (le : Nat) (ri : Nat) (hL : LO g) (t_Rd : g.tg Rd = 8) (t_tl : g.tg tl = 20) (t_P : g.tg P = 7) (hI : IV g f) (eR : f Rd = .inr (7, [.ref tl, .int (nI ln), .int (nI ax), .ref P])) (eT : f tl = .inl (g.ac tl, 72, .inl hT)) (cT : ∀ i, i < 72 → vp_nar .char (hT i) = hT i) (hln : ln ≤ 72) (hax : ax ≤ ln) (eP : f P = .inr (6, [.ref (g.lk P 0), .int (nI sn), .ref (g.lk P 2), .int (nI nn), .ref (g.lk P 4), .ref (g.lk P 5)])) (hsn : sn ≤ 36) (hnn : nn ≤ 72) (hn7 : nn < 72) (hk7 : kd ≤ 7) (hle : le < 72) (hri : ri < 72) (hk1 : kd = 1 → le < 10) (hk2 : 2 ≤ kd → le < nn ∧ ri < nn) : Met l ⟨"BigRunner$Reader", "addOperation", "(III)I"⟩ [Cond.code ⟨"BigRunner$Reader", "addOperation", "(III)I"⟩ prog_8_method_15_code 5 (some .int)] ({ frames := 0, cells := 0, slots := 0, locals := 0 }) (va_Pc [.ref Rd, .int (nI kd), .int (nI le), .int (nI ri)] (pc_in g sz f)) (va_Qi (fun r f1 => (r = nI nn) ∧ (f1 P = .inr (6, [.ref (g.lk P 0), .int (nI sn), .ref (g.lk P 2), .int (nI (nn + 1)), .ref (g.lk P 4), .ref (g.lk P 5)])) ∧ (IV g f1) ∧ (un [6, 7] g f f1)) (pc_out g sz) (pc_A g sz)) 0 0 (pc_A g sz) := by
  refine pe_ofW (cc := prog_8_method_15_code) (maxL := 5) (ret := (some .int)) (lv := [(0, .ref Rd), (1, .int (nI kd)), (2, .int (nI le)), (3, .int (nI ri))]) (by decide) (Nat.le_of_ble_eq_true rfl) rfl ?_
  intro p e s m args below meth c ls hx hb hr hml hlocks hown hB hP hK hD hsz hS hl
  subst hsz
  have hu : un [6, 7] g f f := un.rf
  refine lv_iload_n hx hb d_NReader_addOperation_0 rfl (lv_at hl 2 rfl) ?_
  refine lv_iconst (v := (-1)) hx hb d_NReader_addOperation_1 (by decide) ?_
  refine lv_icmp_eq (tgt := 28) hx hb d_NReader_addOperation_2 (by decide) (fun b1 => ?_) (fun b1 => ?_)
  · skip
    exact absurd b1 (nI_n1 (j := le) (by omega))
  · skip
    refine lv_iload_n hx hb d_NReader_addOperation_5 rfl (lv_at hl 3 rfl) ?_
    refine lv_iconst (v := (-1)) hx hb d_NReader_addOperation_6 (by decide) ?_
    refine lv_icmp_eq (tgt := 28) hx hb d_NReader_addOperation_7 (by decide) (fun b2 => ?_) (fun b2 => ?_)
    · skip
      exact absurd b2 (nI_n1 (j := ri) (by omega))
    · skip
      refine lv_aload_n hx hb d_NReader_addOperation_10 rfl (lv_at hl 0 rfl) ?_
      refine pf_get (v := .ref P) (C := "BigRunner$Reader") (T := FT7) (N := 4) hx hb (hw7 hB _) (fun _ h9 => h9) hown hK hP (lo_in hL t_Rd (by decide)) eR rfl 3 (by decide) (wd_273 hB _) rfl d_NReader_addOperation_11 ?_
      refine pf_get (v := .int (nI nn)) (C := "BigRunner$Program") (T := FT6) (N := 6) hx hb (hw6 hB _) (fun _ h9 => h9) hown hK hP (lo_in hL t_P (by decide)) eP rfl 3 (by decide) (wd_252 hB _) rfl d_NReader_addOperation_14 ?_
      refine lv_aload_n hx hb d_NReader_addOperation_17 rfl (lv_at hl 0 rfl) ?_
      refine pf_get (v := .ref P) (C := "BigRunner$Reader") (T := FT7) (N := 4) hx hb (hw7 hB _) (fun _ h9 => h9) hown hK hP (lo_in hL t_Rd (by decide)) eR rfl 3 (by decide) (wd_273 hB _) rfl d_NReader_addOperation_18 ?_
      refine pf_get (v := .ref (g.lk P 2)) (C := "BigRunner$Program") (T := FT6) (N := 6) hx hb (hw6 hB _) (fun _ h9 => h9) hown hK hP (lo_in hL t_P (by decide)) eP rfl 2 (by decide) (wd_250 hB _) rfl d_NReader_addOperation_21 ?_
      have e3 := oc_25.of (lo_k7_2 hL _ t_P) (hI.1 (g.lk P 2))
      refine pf_alen (n := 72) hx hb hK hP (lo_in hL (lo_k7_2 hL _ t_P) (by decide)) e3 rfl (lo_t25 hL _ (lo_k7_2 hL _ t_P)) d_NReader_addOperation_24 ?_
      refine lv_icmp_lt (tgt := 30) hx hb d_NReader_addOperation_25 (by decide) (fun b4 => ?_) (fun b4 => ?_)
      · skip
        replace b4 := (nI_ltI (a := nn) (b := 72) (by omega) (by omega)).mp b4
        refine lv_aload_n hx hb d_NReader_addOperation_30 rfl (lv_at hl 0 rfl) ?_
        refine pf_get (v := .ref P) (C := "BigRunner$Reader") (T := FT7) (N := 4) hx hb (hw7 hB _) (fun _ h9 => h9) hown hK hP (lo_in hL t_Rd (by decide)) eR rfl 3 (by decide) (wd_273 hB _) rfl d_NReader_addOperation_31 ?_
        refine pf_get (v := .ref (g.lk P 2)) (C := "BigRunner$Program") (T := FT6) (N := 6) hx hb (hw6 hB _) (fun _ h9 => h9) hown hK hP (lo_in hL t_P (by decide)) eP rfl 2 (by decide) (wd_250 hB _) rfl d_NReader_addOperation_34 ?_
        refine lv_aload_n hx hb d_NReader_addOperation_37 rfl (lv_at hl 0 rfl) ?_
        refine pf_get (v := .ref P) (C := "BigRunner$Reader") (T := FT7) (N := 4) hx hb (hw7 hB _) (fun _ h9 => h9) hown hK hP (lo_in hL t_Rd (by decide)) eR rfl 3 (by decide) (wd_273 hB _) rfl d_NReader_addOperation_38 ?_
        refine pf_get (v := .int (nI nn)) (C := "BigRunner$Program") (T := FT6) (N := 6) hx hb (hw6 hB _) (fun _ h9 => h9) hown hK hP (lo_in hL t_P (by decide)) eP rfl 3 (by decide) (wd_252 hB _) rfl d_NReader_addOperation_41 ?_
        refine pf_aald (i := nn) hx hb hK hP (lo_in hL (lo_k7_2 hL _ t_P) (by decide)) e3 (lo_t25 hL _ (lo_k7_2 hL _ t_P)) (by omega) (by decide) d_NReader_addOperation_44 ?_
        have t5 := lo_e25 hL _ (lo_k7_2 hL _ t_P) nn (by omega)
        have htn9 : g.tn (g.lk (g.lk P 2) nn) = nn := lo_n25 hL _ (lo_k7_2 hL _ t_P) nn (by omega)
        refine lv_astore (lv' := [(4, .ref (g.lk (g.lk P 2) nn)), (0, .ref Rd), (1, .int (nI kd)), (2, .int (nI le)), (3, .int (nI ri))]) hx hb d_NReader_addOperation_45 hl (by decide) rfl (fun ls hl => ?_)
        refine lv_aload hx hb d_NReader_addOperation_47 (lv_at hl 0 rfl) ?_
        refine lv_iload_n hx hb d_NReader_addOperation_49 rfl (lv_at hl 2 rfl) ?_
        obtain ⟨kd_7, le_8, ri_9, sm_10, mv_11, e6, c12, c13, c14, c15, c16, c17⟩ := oc_6.of t5 (hI.1 (g.lk (g.lk P 2) nn))
        refine pf_put (v := .int (nI kd)) (ty := .int) (fs' := [.int (nI kd), .int (nI le_8), .int (nI ri_9), .ref (g.lk (g.lk (g.lk P 2) nn) 3), .int sm_10, .long mv_11, .ref (g.lk (g.lk (g.lk P 2) nn) 6)]) (C := "BigRunner$Node") (T := FT5) (N := 7) hx hb (hw5 hB _) (fun _ h9 => h9) TY5 ok5 nm5 hown hK hP hD hS (lo_in hL t5 (by decide)) e6 rfl 0 (by decide) (wd_205 hB _) rfl (by decide +kernel) rfl rfl (Nat.le_of_ble_eq_true rfl) rfl d_NReader_addOperation_50 (fun f18 H locs e19 k20 hP hD hS => ?_)
        have eR := (k20 Rd (tg_ne t_Rd t5 (by decide))).trans eR
        have eT := (k20 tl (tg_ne t_tl t5 (by decide))).trans eT
        have eP := (k20 P (tg_ne t_P t5 (by decide))).trans eP
        have e3 := (k20 (g.lk P 2) (tg_ne (lo_k7_2 hL _ t_P) t5 (by decide))).trans e3
        have hu := hu.st k20 t5 (by decide)
        have hk21 : ∀ b, b ≠ (g.lk (g.lk P 2) nn) → f18 b = f b := k20
        refine lv_aload hx hb d_NReader_addOperation_53 (lv_at hl 0 rfl) ?_
        refine lv_iload_n hx hb d_NReader_addOperation_55 rfl (lv_at hl 3 rfl) ?_
        refine pf_put (v := .int (nI le)) (ty := .int) (fs' := [.int (nI kd), .int (nI le), .int (nI ri_9), .ref (g.lk (g.lk (g.lk P 2) nn) 3), .int sm_10, .long mv_11, .ref (g.lk (g.lk (g.lk P 2) nn) 6)]) (C := "BigRunner$Node") (T := FT5) (N := 7) hx hb (hw5 hB _) (fun _ h9 => h9) TY5 ok5 nm5 hown hK hP hD hS (lo_in hL t5 (by decide)) e19 rfl 1 (by decide) (wd_209 hB _) rfl (by decide +kernel) rfl rfl (Nat.le_of_ble_eq_true rfl) rfl d_NReader_addOperation_56 (fun f22 H locs e23 k24 hP hD hS => ?_)
        have eR := (k24 Rd (tg_ne t_Rd t5 (by decide))).trans eR
        have eT := (k24 tl (tg_ne t_tl t5 (by decide))).trans eT
        have eP := (k24 P (tg_ne t_P t5 (by decide))).trans eP
        have e3 := (k24 (g.lk P 2) (tg_ne (lo_k7_2 hL _ t_P) t5 (by decide))).trans e3
        have hu := hu.st k24 t5 (by decide)
        have hk25 : ∀ b, b ≠ (g.lk (g.lk P 2) nn) → f22 b = f b := fun b q0 => (k24 b q0).trans (hk21 b q0)
        refine lv_aload hx hb d_NReader_addOperation_59 (lv_at hl 0 rfl) ?_
        refine lv_iload_n hx hb d_NReader_addOperation_61 rfl (lv_at hl 4 rfl) ?_
        refine pf_put (v := .int (nI ri)) (ty := .int) (fs' := [.int (nI kd), .int (nI le), .int (nI ri), .ref (g.lk (g.lk (g.lk P 2) nn) 3), .int sm_10, .long mv_11, .ref (g.lk (g.lk (g.lk P 2) nn) 6)]) (C := "BigRunner$Node") (T := FT5) (N := 7) hx hb (hw5 hB _) (fun _ h9 => h9) TY5 ok5 nm5 hown hK hP hD hS (lo_in hL t5 (by decide)) e23 rfl 2 (by decide) (wd_213 hB _) rfl (by decide +kernel) rfl rfl (Nat.le_of_ble_eq_true rfl) rfl d_NReader_addOperation_62 (fun f26 H locs e27 k28 hP hD hS => ?_)
        have eR := (k28 Rd (tg_ne t_Rd t5 (by decide))).trans eR
        have eT := (k28 tl (tg_ne t_tl t5 (by decide))).trans eT
        have eP := (k28 P (tg_ne t_P t5 (by decide))).trans eP
        have e3 := (k28 (g.lk P 2) (tg_ne (lo_k7_2 hL _ t_P) t5 (by decide))).trans e3
        have hu := hu.st k28 t5 (by decide)
        have hk29 : ∀ b, b ≠ (g.lk (g.lk P 2) nn) → f26 b = f b := fun b q0 => (k28 b q0).trans (hk25 b q0)
        refine lv_aload_n hx hb d_NReader_addOperation_65 rfl (lv_at hl 1 rfl) ?_
        refine pf_get (v := .ref P) (C := "BigRunner$Reader") (T := FT7) (N := 4) hx hb (hw7 hB _) (fun _ h9 => h9) hown hK hP (lo_in hL t_Rd (by decide)) eR rfl 3 (by decide) (wd_273 hB _) rfl d_NReader_addOperation_66 ?_
        refine lv_dup hx hb d_NReader_addOperation_69 rfl ?_
        refine pf_get (v := .int (nI nn)) (C := "BigRunner$Program") (T := FT6) (N := 6) hx hb (hw6 hB _) (fun _ h9 => h9) hown hK hP (lo_in hL t_P (by decide)) eP rfl 3 (by decide) (wd_252 hB _) rfl d_NReader_addOperation_70 ?_
        refine lv_iconst (v := nI 1) hx hb d_NReader_addOperation_73 (by decide) ?_
        refine pf_iaddN (x := nn) (y := 1) hx hb d_NReader_addOperation_74 ?_
        have hI30 := iv_1 hI hL t5 (by decide) hk29 (oc_6.mk t5 (⟨kd, le, ri, sm_10, mv_11, e27, (by omega), (by omega), (by omega), (by omega), c16, (by omega)⟩))
        refine pf_put (v := .int (nI (nn + 1))) (ty := .int) (fs' := [.ref (g.lk P 0), .int (nI sn), .ref (g.lk P 2), .int (nI (nn + 1)), .ref (g.lk P 4), .ref (g.lk P 5)]) (C := "BigRunner$Program") (T := FT6) (N := 6) hx hb (hw6 hB _) (fun _ h9 => h9) TY6 ok6 nm6 hown hK hP hD hS (lo_in hL t_P (by decide)) eP rfl 3 (by decide) (wd_252 hB _) rfl (by decide +kernel) rfl rfl (Nat.le_of_ble_eq_true rfl) rfl d_NReader_addOperation_75 (fun f31 H locs e32 k33 hP hD hS => ?_)
        have eR := (k33 Rd (tg_ne t_Rd t_P (by decide))).trans eR
        have eT := (k33 tl (tg_ne t_tl t_P (by decide))).trans eT
        have e3 := (k33 (g.lk P 2) (tg_ne (lo_k7_2 hL _ t_P) t_P (by decide))).trans e3
        have e27 := (k33 (g.lk (g.lk P 2) nn) (tg_ne t5 t_P (by decide))).trans e27
        have hu := hu.st k33 t_P (by decide)
        have hk34 : ∀ b, b ≠ P → f31 b = f26 b := k33
        refine lv_aload_n hx hb d_NReader_addOperation_78 rfl (lv_at hl 1 rfl) ?_
        refine pf_get (v := .ref P) (C := "BigRunner$Reader") (T := FT7) (N := 4) hx hb (hw7 hB _) (fun _ h9 => h9) hown hK hP (lo_in hL t_Rd (by decide)) eR rfl 3 (by decide) (wd_273 hB _) rfl d_NReader_addOperation_79 ?_
        refine pf_get (v := .int (nI (nn + 1))) (C := "BigRunner$Program") (T := FT6) (N := 6) hx hb (hw6 hB _) (fun _ h9 => h9) hown hK hP (lo_in hL t_P (by decide)) e32 rfl 3 (by decide) (wd_252 hB _) rfl d_NReader_addOperation_82 ?_
        refine lv_iconst (v := nI 1) hx hb d_NReader_addOperation_85 (by decide) ?_
        refine pf_isubN (x := nn + 1) (y := 1) hx hb (by omega) d_NReader_addOperation_86 ?_
        refine lv_topi (fun z_ hz_ => ?_)
        obtain rfl : z_ = nI (nn) := hz_.trans (congrArg nI (show (nn + 1) - 1 = nn by omega))
        have hI35 := iv_1 hI30 hL t_P (by decide) hk34 (oc_7.mk t_P (⟨sn, (nn + 1), e32, (by omega), (by omega)⟩))
        exact pe_iret hx hb hr hlocks hK hP hD hS d_NReader_addOperation_87 ⟨rfl, e32, hI35, hu⟩
      · skip
        replace b4 := mt (nI_ltI (a := nn) (b := 72) (by omega) (by omega)).mpr b4
        exfalso; omega
set_option maxHeartbeats 4000000 in
set_option maxRecDepth 100000 in
theorem c_addOpN (l : Launch) (g : Lay) (sz : Nat) (f : Nat → va_E) (Rd : Nat) (kd : Int32) (le : Int32) (ri : Int32) (hL : LO g) (t_Rd : g.tg Rd = 8) (hI : OC g f) (hno : le = (-1) ∨ ri = (-1)) : Met l ⟨"BigRunner$Reader", "addOperation", "(III)I"⟩ [Cond.code ⟨"BigRunner$Reader", "addOperation", "(III)I"⟩ prog_8_method_15_code 5 (some .int)] ({ frames := 0, cells := 0, slots := 0, locals := 0 }) (va_Pc [.ref Rd, .int kd, .int le, .int ri] (pc_in g sz f)) (va_Qi (fun r f1 => (r = (-1)) ∧ (f = f1)) (pc_out g sz) (pc_A g sz)) 0 0 (pc_A g sz) := by
  refine pe_ofW (cc := prog_8_method_15_code) (maxL := 5) (ret := (some .int)) (lv := [(0, .ref Rd), (1, .int kd), (2, .int le), (3, .int ri)]) (by decide) (Nat.le_of_ble_eq_true rfl) rfl ?_
  intro p e s m args below meth c ls hx hb hr hml hlocks hown hB hP hK hD hsz hS hl
  subst hsz
  refine lv_iload_n hx hb d_NReader_addOperation_0 rfl (lv_at hl 2 rfl) ?_
  refine lv_iconst (v := (-1)) hx hb d_NReader_addOperation_1 (by decide) ?_
  refine lv_icmp_eq (tgt := 28) hx hb d_NReader_addOperation_2 (by decide) (fun b1 => ?_) (fun b1 => ?_)
  · skip
    refine lv_iconst (v := (-1)) hx hb d_NReader_addOperation_28 (by decide) ?_
    exact pe_iret hx hb hr hlocks hK hP hD hS d_NReader_addOperation_29 ⟨rfl, rfl⟩
  · skip
    refine lv_iload_n hx hb d_NReader_addOperation_5 rfl (lv_at hl 3 rfl) ?_
    refine lv_iconst (v := (-1)) hx hb d_NReader_addOperation_6 (by decide) ?_
    refine lv_icmp_eq (tgt := 28) hx hb d_NReader_addOperation_7 (by decide) (fun b2 => ?_) (fun b2 => ?_)
    · skip
      refine lv_iconst (v := (-1)) hx hb d_NReader_addOperation_28 (by decide) ?_
      exact pe_iret hx hb hr hlocks hK hP hD hS d_NReader_addOperation_29 ⟨rfl, rfl⟩
    · skip
      exact absurd hno (fun z => z.elim b1 b2)
set_option maxHeartbeats 4000000 in
set_option maxRecDepth 100000 in
theorem c_readNumber (l : Launch) (g : Lay) (sz : Nat) (f : Nat → va_E) (Rd : Nat) (tl : Nat) (ln : Nat) (ax : Nat) (P : Nat) (hT : Nat → Int32) (sn : Nat) (nn : Nat) (hL : LO g) (t_Rd : g.tg Rd = 8) (t_tl : g.tg tl = 20) (t_P : g.tg P = 7) (hI : IV g f) (eR : f Rd = .inr (7, [.ref tl, .int (nI ln), .int (nI ax), .ref P])) (eT : f tl = .inl (g.ac tl, 72, .inl hT)) (cT : ∀ i, i < 72 → vp_nar .char (hT i) = hT i) (hln : ln ≤ 72) (hax : ax ≤ ln) (eP : f P = .inr (6, [.ref (g.lk P 0), .int (nI sn), .ref (g.lk P 2), .int (nI nn), .ref (g.lk P 4), .ref (g.lk P 5)])) (hsn : sn ≤ 36) (hnn : nn ≤ 72) (hna : nn ≤ ax) : Met l ⟨"BigRunner$Reader", "readNumber", "()I"⟩ [Cond.code ⟨"BigRunner$Reader", "readNumber", "()I"⟩ prog_8_method_14_code 4 (some .int)] ({ frames := 1, cells := 0, slots := 0, locals := 24 }) (va_Pc [.ref Rd] (pc_in g sz f)) (va_Qi (fun r f1 => ((∃ (a n1 j : Nat), a ≤ ln ∧ n1 ≤ 72 ∧ j < n1 ∧ n1 + ax ≤ nn + a ∧ ax < a ∧ nn ≤ n1 ∧ px_n (tk hT ln) ax = some a ∧ f1 Rd = .inr (7, [.ref tl, .int (nI ln), .int (nI a), .ref P]) ∧ f1 P = .inr (6, [.ref (g.lk P 0), .int (nI sn), .ref (g.lk P 2), .int (nI n1), .ref (g.lk P 4), .ref (g.lk P 5)]) ∧ r = nI j) ∨ (∃ (a n1 : Nat), a ≤ ln ∧ n1 ≤ 72 ∧ px_n (tk hT ln) ax = none ∧ f1 Rd = .inr (7, [.ref tl, .int (nI ln), .int (nI a), .ref P]) ∧ f1 P = .inr (6, [.ref (g.lk P 0), .int (nI sn), .ref (g.lk P 2), .int (nI n1), .ref (g.lk P 4), .ref (g.lk P 5)]) ∧ r = (-1))) ∧ (IV g f1) ∧ (un [6, 7, 8] g f f1)) (pc_out g sz) (pc_A g sz)) 0 0 (pc_A g sz) := by
  refine pe_ofW (cc := prog_8_method_14_code) (maxL := 4) (ret := (some .int)) (lv := [(0, .ref Rd)]) (by decide) (Nat.le_of_ble_eq_true rfl) rfl ?_
  intro p e s m args below meth c ls hx hb hr hml hlocks hown hB hP hK hD hsz hS hl
  subst hsz
  have hu : un [6, 7, 8] g f f := un.rf
  refine lv_iconst (v := nI 0) hx hb d_NReader_readNumber_0 (by decide) ?_
  refine lv_istore_n (lv' := [(1, .int (nI 0)), (0, .ref Rd)]) hx hb d_NReader_readNumber_1 rfl hl (by decide) rfl (fun ls hl => ?_)
  refine lv_iconst (v := nI 0) hx hb d_NReader_readNumber_2 (by decide) ?_
  refine lv_istore_n (lv' := [(2, .int (nI 0)), (1, .int (nI 0)), (0, .ref Rd)]) hx hb d_NReader_readNumber_3 rfl hl (by decide) rfl (fun ls hl => ?_)
  have lp1 : ∀ (k3 : Nat) (vv : Int32) (dd : Nat) (f2 : Nat → va_E) (H : Heap) (locs : List Loc) (ls : Array Slot), (9 < dd + k3) → (dd ≤ 9) → (ax + dd ≤ ln) → (px_dg (tk hT ln) 9 ax = dd + px_dg (tk hT ln) (9 - dd) (ax + dd)) → f2 Rd = .inr (7, [.ref tl, .int (nI ln), .int (nI (ax + dd)), .ref P]) → IV g f2 → un [8] g f f2 → lv_has ls 4 [(2, .int (nI dd)), (1, .int vv), (0, .ref Rd)] → va_P g.D vcl (va_pl g.LP f2) H → va_D (pc_A g s.heap.size) (va_pl g.LP f2) → va_S (pc_A g s.heap.size) s.heap H locs → W p l e ({ frames := 1, cells := 0, slots := 0, locals := 24 }) s m args below meth c H locs 0 0 (MQ below (va_Qi (fun r f1 => ((∃ (a n1 j : Nat), a ≤ ln ∧ n1 ≤ 72 ∧ j < n1 ∧ n1 + ax ≤ nn + a ∧ ax < a ∧ nn ≤ n1 ∧ px_n (tk hT ln) ax = some a ∧ f1 Rd = .inr (7, [.ref tl, .int (nI ln), .int (nI a), .ref P]) ∧ f1 P = .inr (6, [.ref (g.lk P 0), .int (nI sn), .ref (g.lk P 2), .int (nI n1), .ref (g.lk P 4), .ref (g.lk P 5)]) ∧ r = nI j) ∨ (∃ (a n1 : Nat), a ≤ ln ∧ n1 ≤ 72 ∧ px_n (tk hT ln) ax = none ∧ f1 Rd = .inr (7, [.ref tl, .int (nI ln), .int (nI a), .ref P]) ∧ f1 P = .inr (6, [.ref (g.lk P 0), .int (nI sn), .ref (g.lk P 2), .int (nI n1), .ref (g.lk P 4), .ref (g.lk P 5)]) ∧ r = (-1))) ∧ (IV g f1) ∧ (un [6, 7, 8] g f f1)) (pc_out g s.heap.size) (pc_A g s.heap.size)) args s 0 0 (pc_A g s.heap.size)) (F0 m 4 ls []) := by
    intro k3
    induction k3 with
    | zero => intros; exfalso; omega
    | succ k3 ih4 =>
      intro vv dd f2 H locs ls hfu5 hdd hal hdg e6 hI7 hv8 hl hP hD hS
      have eT := hv8.at t_tl (by decide) eT
      have eP := hv8.at t_P (by decide) eP
      have hu := hu.tr hv8 (by decide)
      refine lv_iload_n hx hb d_NReader_readNumber_4 rfl (lv_at hl 0 rfl) ?_
      refine lv_bipush (v := nI 9) hx hb d_NReader_readNumber_5 (by decide) ?_
      refine lv_icmp_ge (tgt := 57) hx hb d_NReader_readNumber_7 (by decide) (fun b9 => ?_) (fun b9 => ?_)
      · skip
        replace b9 := (nI_leI (a := 9) (b := dd) (by omega) (by omega)).mp b9
        have hdn := dg_done hdg (Or.inl (by omega))
        refine lv_iload_n hx hb d_NReader_readNumber_57 rfl (lv_at hl 0 rfl) ?_
        refine lv_if_ne (tgt := 65) hx hb d_NReader_readNumber_58 (by decide) (fun b10 => ?_) (fun b10 => ?_)
        · skip
          replace b10 := mt (nI_eq (a := dd) (b := 0) (by omega) (by omega)).mpr b10
          refine lv_aload_n hx hb d_NReader_readNumber_65 rfl (lv_at hl 2 rfl) ?_
          refine lv_iconst (v := nI 0) hx hb d_NReader_readNumber_66 (by decide) ?_
          refine lv_iconst (v := nI 0) hx hb d_NReader_readNumber_67 (by decide) ?_
          refine lv_iconst (v := nI 0) hx hb d_NReader_readNumber_68 (by decide) ?_
          refine pcc_i (va_runV (C := "BigRunner$Reader") (As := [.int (nI 0), .int (nI 0), .int (nI 0)]) (rest := []) ⟨hx, hb, hml, hown, tb_nil⟩ (c_addOp l g H.size f2 Rd tl ln ((ax + dd)) P hT sn nn 0 0 0 hL t_Rd t_tl t_P hI7 e6 eT cT (by omega) (by omega) eP (by omega) (by omega) (by omega) (by omega) (by omega) (by omega) (by omega) (by omega)) ⟨(callB_of 3 (tb_one (wd_504 hB _)) tb_good1 rfl rfl rfl (wd_73 hB _) (wd_501 hB _) (by decide +kernel) ⟨Nat.le_of_ble_eq_true rfl, Nat.le_of_ble_eq_true rfl⟩), (wd_503 hB _), (wd_12 hB _)⟩ ⟨pe_bl, pg_recv (ci := 7) hK hP (lo_in hL t_Rd (by decide)) e6 rfl, pe_pre hB hK hP hD⟩ rfl rfl hl.1 rfl (lv_room (Nat.le_of_ble_eq_true rfl)) d_NReader_readNumber_69 ⟨Nat.le_of_ble_eq_true rfl, Nat.le_of_ble_eq_true rfl⟩) hS (fun r11 f12 H locs hq13 hP hD hS => ?_)
          obtain ⟨q_14, x1_15, hI1_16, hu1_17⟩ := hq13
          subst q_14
          have hu := hu.tr hu1_17 (by decide)
          have eT := hu1_17.at t_tl (by decide) eT
          have e6 := hu1_17.at t_Rd (by decide) e6
          refine lv_istore_n (lv' := [(3, .int (nI nn)), (2, .int (nI dd)), (1, .int vv), (0, .ref Rd)]) hx hb d_NReader_readNumber_72 rfl hl (by decide) rfl (fun ls hl => ?_)
          refine lv_iload_n hx hb d_NReader_readNumber_73 rfl (lv_at hl 0 rfl) ?_
          refine lv_iconst (v := (-1)) hx hb d_NReader_readNumber_74 (by decide) ?_
          refine lv_icmp_eq (tgt := 92) hx hb d_NReader_readNumber_75 (by decide) (fun b18 => ?_) (fun b18 => ?_)
          · skip
            exact absurd b18 (nI_n1 (j := nn) (by omega))
          · skip
            refine lv_aload_n hx hb d_NReader_readNumber_78 rfl (lv_at hl 3 rfl) ?_
            refine pf_get (v := .ref P) (C := "BigRunner$Reader") (T := FT7) (N := 4) hx hb (hw7 hB _) (fun _ h9 => h9) hown hK hP (lo_in hL t_Rd (by decide)) e6 rfl 3 (by decide) (wd_273 hB _) rfl d_NReader_readNumber_79 ?_
            refine pf_get (v := .ref (g.lk P 2)) (C := "BigRunner$Program") (T := FT6) (N := 6) hx hb (hw6 hB _) (fun _ h9 => h9) hown hK hP (lo_in hL t_P (by decide)) x1_15 rfl 2 (by decide) (wd_250 hB _) rfl d_NReader_readNumber_82 ?_
            refine lv_iload_n hx hb d_NReader_readNumber_85 rfl (lv_at hl 0 rfl) ?_
            have e19 := oc_25.of (lo_k7_2 hL _ t_P) (hI1_16.1 (g.lk P 2))
            refine pf_aald (i := nn) hx hb hK hP (lo_in hL (lo_k7_2 hL _ t_P) (by decide)) e19 (lo_t25 hL _ (lo_k7_2 hL _ t_P)) (by omega) (by decide) d_NReader_readNumber_86 ?_
            have t20 := lo_e25 hL _ (lo_k7_2 hL _ t_P) nn (by omega)
            refine lv_iload_n hx hb d_NReader_readNumber_87 rfl (lv_at hl 2 rfl) ?_
            refine lv_i2l hx hb d_NReader_readNumber_88 rfl ?_
            obtain ⟨kd_22, le_23, ri_24, sm_25, mv_26, e21, c27, c28, c29, c30, c31, c32⟩ := oc_6.of t20 (hI1_16.1 (g.lk (g.lk P 2) nn))
            refine pf_put (v := .long vv.toInt64) (ty := .long) (fs' := [.int (nI kd_22), .int (nI le_23), .int (nI ri_24), .ref (g.lk (g.lk (g.lk P 2) nn) 3), .int sm_25, .long vv.toInt64, .ref (g.lk (g.lk (g.lk P 2) nn) 6)]) (C := "BigRunner$Node") (T := FT5) (N := 7) hx hb (hw5 hB _) (fun _ h9 => h9) TY5 ok5 nm5 hown hK hP hD hS (lo_in hL t20 (by decide)) e21 rfl 5 (by decide) (wd_222 hB _) rfl (by decide +kernel) rfl rfl (Nat.le_of_ble_eq_true rfl) rfl d_NReader_readNumber_89 (fun f33 H locs e34 k35 hP hD hS => ?_)
            have eT := (k35 tl (tg_ne t_tl t20 (by decide))).trans eT
            have e6 := (k35 Rd (tg_ne t_Rd t20 (by decide))).trans e6
            have x1_15 := (k35 P (tg_ne t_P t20 (by decide))).trans x1_15
            have e19 := (k35 (g.lk P 2) (tg_ne (lo_k7_2 hL _ t_P) t20 (by decide))).trans e19
            have hu := hu.st k35 t20 (by decide)
            have hk36 : ∀ b, b ≠ (g.lk (g.lk P 2) nn) → f33 b = f12 b := k35
            refine lv_iload_n hx hb d_NReader_readNumber_92 rfl (lv_at hl 0 rfl) ?_
            have hI37 := iv_1 hI1_16 hL t20 (by decide) hk36 (oc_6.mk t20 (⟨kd_22, le_23, ri_24, sm_25, vv.toInt64, e34, (by omega), (by omega), (by omega), (by omega), c31, (by omega)⟩))
            exact pe_iret hx hb hr hlocks hK hP hD hS d_NReader_readNumber_93 ⟨(Or.inl ⟨ax + dd, nn + 1, nn, by omega, by omega, by omega, by omega, by omega, by omega, (by unfold px_n; rw [hdn, if_neg (by omega)]), e6, x1_15, rfl⟩), hI37, hu⟩
        · skip
          replace b10 := (nI_eq (a := dd) (b := 0) (by omega) (by omega)).mp b10
          refine lv_iconst (v := (-1)) hx hb d_NReader_readNumber_61 (by decide) ?_
          refine lv_goto (tgt := 72) hx hb d_NReader_readNumber_62 (by decide) ?_
          refine lv_istore_n (lv' := [(3, .int (-1)), (2, .int (nI dd)), (1, .int vv), (0, .ref Rd)]) hx hb d_NReader_readNumber_72 rfl hl (by decide) rfl (fun ls hl => ?_)
          refine lv_iload_n hx hb d_NReader_readNumber_73 rfl (lv_at hl 0 rfl) ?_
          refine lv_iconst (v := (-1)) hx hb d_NReader_readNumber_74 (by decide) ?_
          refine lv_icmp_eq (tgt := 92) hx hb d_NReader_readNumber_75 (by decide) (fun b38 => ?_) (fun b38 => ?_)
          · skip
            refine lv_iload_n hx hb d_NReader_readNumber_92 rfl (lv_at hl 0 rfl) ?_
            exact pe_iret hx hb hr hlocks hK hP hD hS d_NReader_readNumber_93 ⟨(Or.inr ⟨ax + dd, nn, by omega, by omega, (by unfold px_n; rw [hdn, if_pos (by omega)]), e6, eP, rfl⟩), hI7, hu⟩
          · skip
            exact absurd (by decide) b38
      · skip
        replace b9 := mt (nI_leI (a := 9) (b := dd) (by omega) (by omega)).mpr b9
        refine lv_aload_n hx hb d_NReader_readNumber_10 rfl (lv_at hl 2 rfl) ?_
        refine pcc_i (va_runV (C := "BigRunner$Reader") (As := []) (rest := []) ⟨hx, hb, hml, hown, tb_nil⟩ (c_next l g H.size f2 Rd tl ln ((ax + dd)) P hT hL t_Rd t_tl t_P hI7.1 e6 eT cT (by omega) (by omega)) ⟨(callB_of 0 (tb_one (wd_476 hB _)) tb_good1 rfl rfl rfl (wd_73 hB _) (wd_473 hB _) (by decide +kernel) ⟨Nat.le_of_ble_eq_true rfl, Nat.le_of_ble_eq_true rfl⟩), (wd_475 hB _), (wd_5 hB _)⟩ ⟨pe_bl, pg_recv (ci := 7) hK hP (lo_in hL t_Rd (by decide)) e6 rfl, pe_pre hB hK hP hD⟩ rfl rfl hl.1 rfl (lv_room (Nat.le_of_ble_eq_true rfl)) d_NReader_readNumber_11 ⟨Nat.le_of_ble_eq_true rfl, Nat.le_of_ble_eq_true rfl⟩) hS (fun r39 f40 H locs hq41 hP hD hS => ?_)
        obtain ⟨nx_42, rfl⟩ := hq41
        subst nx_42
        refine lv_bipush (v := nI 48) hx hb d_NReader_readNumber_14 (by decide) ?_
        refine lv_icmp_lt (tgt := 57) hx hb d_NReader_readNumber_16 (by decide) (fun b43 => ?_) (fun b43 => ?_)
        · skip
          have hdn := dg_done hdg (Or.inr (fun z => absurd (kc_7.mp z).1 (Int32.not_le.mpr b43)))
          refine lv_iload_n hx hb d_NReader_readNumber_57 rfl (lv_at hl 0 rfl) ?_
          refine lv_if_ne (tgt := 65) hx hb d_NReader_readNumber_58 (by decide) (fun b44 => ?_) (fun b44 => ?_)
          · skip
            replace b44 := mt (nI_eq (a := dd) (b := 0) (by omega) (by omega)).mpr b44
            refine lv_aload_n hx hb d_NReader_readNumber_65 rfl (lv_at hl 2 rfl) ?_
            refine lv_iconst (v := nI 0) hx hb d_NReader_readNumber_66 (by decide) ?_
            refine lv_iconst (v := nI 0) hx hb d_NReader_readNumber_67 (by decide) ?_
            refine lv_iconst (v := nI 0) hx hb d_NReader_readNumber_68 (by decide) ?_
            refine pcc_i (va_runV (C := "BigRunner$Reader") (As := [.int (nI 0), .int (nI 0), .int (nI 0)]) (rest := []) ⟨hx, hb, hml, hown, tb_nil⟩ (c_addOp l g H.size f2 Rd tl ln ((ax + dd)) P hT sn nn 0 0 0 hL t_Rd t_tl t_P hI7 e6 eT cT (by omega) (by omega) eP (by omega) (by omega) (by omega) (by omega) (by omega) (by omega) (by omega) (by omega)) ⟨(callB_of 3 (tb_one (wd_504 hB _)) tb_good1 rfl rfl rfl (wd_73 hB _) (wd_501 hB _) (by decide +kernel) ⟨Nat.le_of_ble_eq_true rfl, Nat.le_of_ble_eq_true rfl⟩), (wd_503 hB _), (wd_12 hB _)⟩ ⟨pe_bl, pg_recv (ci := 7) hK hP (lo_in hL t_Rd (by decide)) e6 rfl, pe_pre hB hK hP hD⟩ rfl rfl hl.1 rfl (lv_room (Nat.le_of_ble_eq_true rfl)) d_NReader_readNumber_69 ⟨Nat.le_of_ble_eq_true rfl, Nat.le_of_ble_eq_true rfl⟩) hS (fun r45 f46 H locs hq47 hP hD hS => ?_)
            obtain ⟨q_48, x1_49, hI1_50, hu1_51⟩ := hq47
            subst q_48
            have hu := hu.tr hu1_51 (by decide)
            have eT := hu1_51.at t_tl (by decide) eT
            have e6 := hu1_51.at t_Rd (by decide) e6
            refine lv_istore_n (lv' := [(3, .int (nI nn)), (2, .int (nI dd)), (1, .int vv), (0, .ref Rd)]) hx hb d_NReader_readNumber_72 rfl hl (by decide) rfl (fun ls hl => ?_)
            refine lv_iload_n hx hb d_NReader_readNumber_73 rfl (lv_at hl 0 rfl) ?_
            refine lv_iconst (v := (-1)) hx hb d_NReader_readNumber_74 (by decide) ?_
            refine lv_icmp_eq (tgt := 92) hx hb d_NReader_readNumber_75 (by decide) (fun b52 => ?_) (fun b52 => ?_)
            · skip
              exact absurd b52 (nI_n1 (j := nn) (by omega))
            · skip
              refine lv_aload_n hx hb d_NReader_readNumber_78 rfl (lv_at hl 3 rfl) ?_
              refine pf_get (v := .ref P) (C := "BigRunner$Reader") (T := FT7) (N := 4) hx hb (hw7 hB _) (fun _ h9 => h9) hown hK hP (lo_in hL t_Rd (by decide)) e6 rfl 3 (by decide) (wd_273 hB _) rfl d_NReader_readNumber_79 ?_
              refine pf_get (v := .ref (g.lk P 2)) (C := "BigRunner$Program") (T := FT6) (N := 6) hx hb (hw6 hB _) (fun _ h9 => h9) hown hK hP (lo_in hL t_P (by decide)) x1_49 rfl 2 (by decide) (wd_250 hB _) rfl d_NReader_readNumber_82 ?_
              refine lv_iload_n hx hb d_NReader_readNumber_85 rfl (lv_at hl 0 rfl) ?_
              have e53 := oc_25.of (lo_k7_2 hL _ t_P) (hI1_50.1 (g.lk P 2))
              refine pf_aald (i := nn) hx hb hK hP (lo_in hL (lo_k7_2 hL _ t_P) (by decide)) e53 (lo_t25 hL _ (lo_k7_2 hL _ t_P)) (by omega) (by decide) d_NReader_readNumber_86 ?_
              have t54 := lo_e25 hL _ (lo_k7_2 hL _ t_P) nn (by omega)
              refine lv_iload_n hx hb d_NReader_readNumber_87 rfl (lv_at hl 2 rfl) ?_
              refine lv_i2l hx hb d_NReader_readNumber_88 rfl ?_
              obtain ⟨kd_56, le_57, ri_58, sm_59, mv_60, e55, c61, c62, c63, c64, c65, c66⟩ := oc_6.of t54 (hI1_50.1 (g.lk (g.lk P 2) nn))
              refine pf_put (v := .long vv.toInt64) (ty := .long) (fs' := [.int (nI kd_56), .int (nI le_57), .int (nI ri_58), .ref (g.lk (g.lk (g.lk P 2) nn) 3), .int sm_59, .long vv.toInt64, .ref (g.lk (g.lk (g.lk P 2) nn) 6)]) (C := "BigRunner$Node") (T := FT5) (N := 7) hx hb (hw5 hB _) (fun _ h9 => h9) TY5 ok5 nm5 hown hK hP hD hS (lo_in hL t54 (by decide)) e55 rfl 5 (by decide) (wd_222 hB _) rfl (by decide +kernel) rfl rfl (Nat.le_of_ble_eq_true rfl) rfl d_NReader_readNumber_89 (fun f67 H locs e68 k69 hP hD hS => ?_)
              have eT := (k69 tl (tg_ne t_tl t54 (by decide))).trans eT
              have e6 := (k69 Rd (tg_ne t_Rd t54 (by decide))).trans e6
              have x1_49 := (k69 P (tg_ne t_P t54 (by decide))).trans x1_49
              have e53 := (k69 (g.lk P 2) (tg_ne (lo_k7_2 hL _ t_P) t54 (by decide))).trans e53
              have hu := hu.st k69 t54 (by decide)
              have hk70 : ∀ b, b ≠ (g.lk (g.lk P 2) nn) → f67 b = f46 b := k69
              refine lv_iload_n hx hb d_NReader_readNumber_92 rfl (lv_at hl 0 rfl) ?_
              have hI71 := iv_1 hI1_50 hL t54 (by decide) hk70 (oc_6.mk t54 (⟨kd_56, le_57, ri_58, sm_59, vv.toInt64, e68, (by omega), (by omega), (by omega), (by omega), c65, (by omega)⟩))
              exact pe_iret hx hb hr hlocks hK hP hD hS d_NReader_readNumber_93 ⟨(Or.inl ⟨ax + dd, nn + 1, nn, by omega, by omega, by omega, by omega, by omega, by omega, (by unfold px_n; rw [hdn, if_neg (by omega)]), e6, x1_49, rfl⟩), hI71, hu⟩
          · skip
            replace b44 := (nI_eq (a := dd) (b := 0) (by omega) (by omega)).mp b44
            refine lv_iconst (v := (-1)) hx hb d_NReader_readNumber_61 (by decide) ?_
            refine lv_goto (tgt := 72) hx hb d_NReader_readNumber_62 (by decide) ?_
            refine lv_istore_n (lv' := [(3, .int (-1)), (2, .int (nI dd)), (1, .int vv), (0, .ref Rd)]) hx hb d_NReader_readNumber_72 rfl hl (by decide) rfl (fun ls hl => ?_)
            refine lv_iload_n hx hb d_NReader_readNumber_73 rfl (lv_at hl 0 rfl) ?_
            refine lv_iconst (v := (-1)) hx hb d_NReader_readNumber_74 (by decide) ?_
            refine lv_icmp_eq (tgt := 92) hx hb d_NReader_readNumber_75 (by decide) (fun b72 => ?_) (fun b72 => ?_)
            · skip
              refine lv_iload_n hx hb d_NReader_readNumber_92 rfl (lv_at hl 0 rfl) ?_
              exact pe_iret hx hb hr hlocks hK hP hD hS d_NReader_readNumber_93 ⟨(Or.inr ⟨ax + dd, nn, by omega, by omega, (by unfold px_n; rw [hdn, if_pos (by omega)]), e6, eP, rfl⟩), hI7, hu⟩
            · skip
              exact absurd (by decide) b72
        · skip
          refine lv_aload_n hx hb d_NReader_readNumber_19 rfl (lv_at hl 2 rfl) ?_
          refine pcc_i (va_runV (C := "BigRunner$Reader") (As := []) (rest := []) ⟨hx, hb, hml, hown, tb_nil⟩ (c_next l g H.size f2 Rd tl ln ((ax + dd)) P hT hL t_Rd t_tl t_P hI7.1 e6 eT cT (by omega) (by omega)) ⟨(callB_of 0 (tb_one (wd_476 hB _)) tb_good1 rfl rfl rfl (wd_73 hB _) (wd_473 hB _) (by decide +kernel) ⟨Nat.le_of_ble_eq_true rfl, Nat.le_of_ble_eq_true rfl⟩), (wd_475 hB _), (wd_5 hB _)⟩ ⟨pe_bl, pg_recv (ci := 7) hK hP (lo_in hL t_Rd (by decide)) e6 rfl, pe_pre hB hK hP hD⟩ rfl rfl hl.1 rfl (lv_room (Nat.le_of_ble_eq_true rfl)) d_NReader_readNumber_20 ⟨Nat.le_of_ble_eq_true rfl, Nat.le_of_ble_eq_true rfl⟩) hS (fun r73 f74 H locs hq75 hP hD hS => ?_)
          obtain ⟨nx_76, rfl⟩ := hq75
          subst nx_76
          refine lv_bipush (v := nI 57) hx hb d_NReader_readNumber_23 (by decide) ?_
          refine lv_icmp_gt (tgt := 57) hx hb d_NReader_readNumber_25 (by decide) (fun b77 => ?_) (fun b77 => ?_)
          · skip
            have hdn := dg_done hdg (Or.inr (fun z => absurd (kc_7.mp z).2 (Int32.not_le.mpr b77)))
            refine lv_iload_n hx hb d_NReader_readNumber_57 rfl (lv_at hl 0 rfl) ?_
            refine lv_if_ne (tgt := 65) hx hb d_NReader_readNumber_58 (by decide) (fun b78 => ?_) (fun b78 => ?_)
            · skip
              replace b78 := mt (nI_eq (a := dd) (b := 0) (by omega) (by omega)).mpr b78
              refine lv_aload_n hx hb d_NReader_readNumber_65 rfl (lv_at hl 2 rfl) ?_
              refine lv_iconst (v := nI 0) hx hb d_NReader_readNumber_66 (by decide) ?_
              refine lv_iconst (v := nI 0) hx hb d_NReader_readNumber_67 (by decide) ?_
              refine lv_iconst (v := nI 0) hx hb d_NReader_readNumber_68 (by decide) ?_
              refine pcc_i (va_runV (C := "BigRunner$Reader") (As := [.int (nI 0), .int (nI 0), .int (nI 0)]) (rest := []) ⟨hx, hb, hml, hown, tb_nil⟩ (c_addOp l g H.size f2 Rd tl ln ((ax + dd)) P hT sn nn 0 0 0 hL t_Rd t_tl t_P hI7 e6 eT cT (by omega) (by omega) eP (by omega) (by omega) (by omega) (by omega) (by omega) (by omega) (by omega) (by omega)) ⟨(callB_of 3 (tb_one (wd_504 hB _)) tb_good1 rfl rfl rfl (wd_73 hB _) (wd_501 hB _) (by decide +kernel) ⟨Nat.le_of_ble_eq_true rfl, Nat.le_of_ble_eq_true rfl⟩), (wd_503 hB _), (wd_12 hB _)⟩ ⟨pe_bl, pg_recv (ci := 7) hK hP (lo_in hL t_Rd (by decide)) e6 rfl, pe_pre hB hK hP hD⟩ rfl rfl hl.1 rfl (lv_room (Nat.le_of_ble_eq_true rfl)) d_NReader_readNumber_69 ⟨Nat.le_of_ble_eq_true rfl, Nat.le_of_ble_eq_true rfl⟩) hS (fun r79 f80 H locs hq81 hP hD hS => ?_)
              obtain ⟨q_82, x1_83, hI1_84, hu1_85⟩ := hq81
              subst q_82
              have hu := hu.tr hu1_85 (by decide)
              have eT := hu1_85.at t_tl (by decide) eT
              have e6 := hu1_85.at t_Rd (by decide) e6
              refine lv_istore_n (lv' := [(3, .int (nI nn)), (2, .int (nI dd)), (1, .int vv), (0, .ref Rd)]) hx hb d_NReader_readNumber_72 rfl hl (by decide) rfl (fun ls hl => ?_)
              refine lv_iload_n hx hb d_NReader_readNumber_73 rfl (lv_at hl 0 rfl) ?_
              refine lv_iconst (v := (-1)) hx hb d_NReader_readNumber_74 (by decide) ?_
              refine lv_icmp_eq (tgt := 92) hx hb d_NReader_readNumber_75 (by decide) (fun b86 => ?_) (fun b86 => ?_)
              · skip
                exact absurd b86 (nI_n1 (j := nn) (by omega))
              · skip
                refine lv_aload_n hx hb d_NReader_readNumber_78 rfl (lv_at hl 3 rfl) ?_
                refine pf_get (v := .ref P) (C := "BigRunner$Reader") (T := FT7) (N := 4) hx hb (hw7 hB _) (fun _ h9 => h9) hown hK hP (lo_in hL t_Rd (by decide)) e6 rfl 3 (by decide) (wd_273 hB _) rfl d_NReader_readNumber_79 ?_
                refine pf_get (v := .ref (g.lk P 2)) (C := "BigRunner$Program") (T := FT6) (N := 6) hx hb (hw6 hB _) (fun _ h9 => h9) hown hK hP (lo_in hL t_P (by decide)) x1_83 rfl 2 (by decide) (wd_250 hB _) rfl d_NReader_readNumber_82 ?_
                refine lv_iload_n hx hb d_NReader_readNumber_85 rfl (lv_at hl 0 rfl) ?_
                have e87 := oc_25.of (lo_k7_2 hL _ t_P) (hI1_84.1 (g.lk P 2))
                refine pf_aald (i := nn) hx hb hK hP (lo_in hL (lo_k7_2 hL _ t_P) (by decide)) e87 (lo_t25 hL _ (lo_k7_2 hL _ t_P)) (by omega) (by decide) d_NReader_readNumber_86 ?_
                have t88 := lo_e25 hL _ (lo_k7_2 hL _ t_P) nn (by omega)
                refine lv_iload_n hx hb d_NReader_readNumber_87 rfl (lv_at hl 2 rfl) ?_
                refine lv_i2l hx hb d_NReader_readNumber_88 rfl ?_
                obtain ⟨kd_90, le_91, ri_92, sm_93, mv_94, e89, c95, c96, c97, c98, c99, c100⟩ := oc_6.of t88 (hI1_84.1 (g.lk (g.lk P 2) nn))
                refine pf_put (v := .long vv.toInt64) (ty := .long) (fs' := [.int (nI kd_90), .int (nI le_91), .int (nI ri_92), .ref (g.lk (g.lk (g.lk P 2) nn) 3), .int sm_93, .long vv.toInt64, .ref (g.lk (g.lk (g.lk P 2) nn) 6)]) (C := "BigRunner$Node") (T := FT5) (N := 7) hx hb (hw5 hB _) (fun _ h9 => h9) TY5 ok5 nm5 hown hK hP hD hS (lo_in hL t88 (by decide)) e89 rfl 5 (by decide) (wd_222 hB _) rfl (by decide +kernel) rfl rfl (Nat.le_of_ble_eq_true rfl) rfl d_NReader_readNumber_89 (fun f101 H locs e102 k103 hP hD hS => ?_)
                have eT := (k103 tl (tg_ne t_tl t88 (by decide))).trans eT
                have e6 := (k103 Rd (tg_ne t_Rd t88 (by decide))).trans e6
                have x1_83 := (k103 P (tg_ne t_P t88 (by decide))).trans x1_83
                have e87 := (k103 (g.lk P 2) (tg_ne (lo_k7_2 hL _ t_P) t88 (by decide))).trans e87
                have hu := hu.st k103 t88 (by decide)
                have hk104 : ∀ b, b ≠ (g.lk (g.lk P 2) nn) → f101 b = f80 b := k103
                refine lv_iload_n hx hb d_NReader_readNumber_92 rfl (lv_at hl 0 rfl) ?_
                have hI105 := iv_1 hI1_84 hL t88 (by decide) hk104 (oc_6.mk t88 (⟨kd_90, le_91, ri_92, sm_93, vv.toInt64, e102, (by omega), (by omega), (by omega), (by omega), c99, (by omega)⟩))
                exact pe_iret hx hb hr hlocks hK hP hD hS d_NReader_readNumber_93 ⟨(Or.inl ⟨ax + dd, nn + 1, nn, by omega, by omega, by omega, by omega, by omega, by omega, (by unfold px_n; rw [hdn, if_neg (by omega)]), e6, x1_83, rfl⟩), hI105, hu⟩
            · skip
              replace b78 := (nI_eq (a := dd) (b := 0) (by omega) (by omega)).mp b78
              refine lv_iconst (v := (-1)) hx hb d_NReader_readNumber_61 (by decide) ?_
              refine lv_goto (tgt := 72) hx hb d_NReader_readNumber_62 (by decide) ?_
              refine lv_istore_n (lv' := [(3, .int (-1)), (2, .int (nI dd)), (1, .int vv), (0, .ref Rd)]) hx hb d_NReader_readNumber_72 rfl hl (by decide) rfl (fun ls hl => ?_)
              refine lv_iload_n hx hb d_NReader_readNumber_73 rfl (lv_at hl 0 rfl) ?_
              refine lv_iconst (v := (-1)) hx hb d_NReader_readNumber_74 (by decide) ?_
              refine lv_icmp_eq (tgt := 92) hx hb d_NReader_readNumber_75 (by decide) (fun b106 => ?_) (fun b106 => ?_)
              · skip
                refine lv_iload_n hx hb d_NReader_readNumber_92 rfl (lv_at hl 0 rfl) ?_
                exact pe_iret hx hb hr hlocks hK hP hD hS d_NReader_readNumber_93 ⟨(Or.inr ⟨ax + dd, nn, by omega, by omega, (by unfold px_n; rw [hdn, if_pos (by omega)]), e6, eP, rfl⟩), hI7, hu⟩
              · skip
                exact absurd (by decide) b106
          · skip
            have hd48 : nI 48 ≤ nx hT ln (ax + dd) := Int32.not_lt.mp b43
            have hk79 : tk hT ln (ax + dd) = 7 := kc_7.mpr ⟨hd48, Int32.not_lt.mp b77⟩
            have hl9 : ax + dd < ln := nx_d hd48
            refine lv_bipush (v := nI 10) hx hb d_NReader_readNumber_28 (by decide) ?_
            refine lv_iload_n hx hb d_NReader_readNumber_30 rfl (lv_at hl 1 rfl) ?_
            refine lv_imul hx hb d_NReader_readNumber_31 ?_
            refine lv_aload_n hx hb d_NReader_readNumber_32 rfl (lv_at hl 2 rfl) ?_
            refine pcc_i (va_runV (C := "BigRunner$Reader") (As := []) (rest := [.int (((nI 10)) * vv)]) ⟨hx, hb, hml, hown, tb_nil⟩ (c_next l g H.size f2 Rd tl ln ((ax + dd)) P hT hL t_Rd t_tl t_P hI7.1 e6 eT cT (by omega) (by omega)) ⟨(callB_of 0 (tb_one (wd_476 hB _)) tb_good1 rfl rfl rfl (wd_73 hB _) (wd_473 hB _) (by decide +kernel) ⟨Nat.le_of_ble_eq_true rfl, Nat.le_of_ble_eq_true rfl⟩), (wd_475 hB _), (wd_5 hB _)⟩ ⟨pe_bl, pg_recv (ci := 7) hK hP (lo_in hL t_Rd (by decide)) e6 rfl, pe_pre hB hK hP hD⟩ rfl rfl hl.1 rfl (lv_room (Nat.le_of_ble_eq_true rfl)) d_NReader_readNumber_33 ⟨Nat.le_of_ble_eq_true rfl, Nat.le_of_ble_eq_true rfl⟩) hS (fun r107 f108 H locs hq109 hP hD hS => ?_)
            obtain ⟨nx_110, rfl⟩ := hq109
            subst nx_110
            refine lv_bipush (v := nI 48) hx hb d_NReader_readNumber_36 (by decide) ?_
            refine lv_isub hx hb d_NReader_readNumber_38 ?_
            refine lv_iadd hx hb d_NReader_readNumber_39 ?_
            refine lv_istore_n (lv' := [(1, .int (((((nI 10)) * vv)) + ((((nx hT ln (ax + dd))) - ((nI 48)))))), (2, .int (nI dd)), (0, .ref Rd)]) hx hb d_NReader_readNumber_40 rfl hl (by decide) rfl (fun ls hl => ?_)
            refine lv_aload_n hx hb d_NReader_readNumber_41 rfl (lv_at hl 2 rfl) ?_
            refine lv_dup hx hb d_NReader_readNumber_42 rfl ?_
            refine pf_get (v := .int (nI (ax + dd))) (C := "BigRunner$Reader") (T := FT7) (N := 4) hx hb (hw7 hB _) (fun _ h9 => h9) hown hK hP (lo_in hL t_Rd (by decide)) e6 rfl 2 (by decide) (wd_272 hB _) rfl d_NReader_readNumber_43 ?_
            refine lv_iconst (v := nI 1) hx hb d_NReader_readNumber_46 (by decide) ?_
            refine pf_iaddN (x := ax + dd) (y := 1) hx hb d_NReader_readNumber_47 ?_
            refine pf_put (v := .int (nI ((ax + dd) + 1))) (ty := .int) (fs' := [.ref tl, .int (nI ln), .int (nI ((ax + dd) + 1)), .ref P]) (C := "BigRunner$Reader") (T := FT7) (N := 4) hx hb (hw7 hB _) (fun _ h9 => h9) TY7 ok7 nm7 hown hK hP hD hS (lo_in hL t_Rd (by decide)) e6 rfl 2 (by decide) (wd_272 hB _) rfl (by decide +kernel) rfl rfl (Nat.le_of_ble_eq_true rfl) rfl d_NReader_readNumber_48 (fun f111 H locs e112 k113 hP hD hS => ?_)
            have eT := (k113 tl (tg_ne t_tl t_Rd (by decide))).trans eT
            have eP := (k113 P (tg_ne t_P t_Rd (by decide))).trans eP
            have hu := hu.st k113 t_Rd (by decide)
            have hv8 := hv8.st k113 t_Rd (by decide)
            have hk114 : ∀ b, b ≠ Rd → f111 b = f2 b := k113
            refine lv_iinc (k := 1) (v := nI (dd + 1)) (lv' := [(2, .int (nI (dd + 1))), (1, .int (((((nI 10)) * vv)) + ((((nx hT ln (ax + dd))) - ((nI 48)))))), (0, .ref Rd)]) hx hb d_NReader_readNumber_51 hl rfl (by rw [nI_succ]; rfl) (by decide) rfl (fun ls hl => ?_)
            refine lv_goto (tgt := 4) hx hb d_NReader_readNumber_54 (by decide) ?_
            have hI115 := iv_1 hI7 hL t_Rd (by decide) hk114 (oc_8.mk t_Rd (⟨(.ref tl), ln, ((ax + dd) + 1), P, e112, (by omega), (by omega), t_P⟩))
            exact ih4 (((((nI 10)) * vv)) + ((((nx hT ln (ax + dd))) - ((nI 48))))) (dd + 1) f111 H locs ls (by omega) (by omega) (by omega) (dg_more hdg (by omega) hk79) e112 hI115 hv8 hl hP hD hS
  exact lp1 10 (nI 0) 0 f s.heap [] ls (by omega) (by omega) (by omega) (by simp) eR hI un.rf hl hP hD hS
