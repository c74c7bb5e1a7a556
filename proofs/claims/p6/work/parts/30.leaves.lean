set_option maxHeartbeats 4000000 in
set_option maxRecDepth 100000 in
theorem c_next (l : Launch) (g : Lay) (sz : Nat) (f : Nat → va_E) (Rd : Nat) (tl : Nat) (ln : Nat) (ax : Nat) (P : Nat) (hT : Nat → Int32) (hL : LO g) (t_Rd : g.tg Rd = 8) (t_tl : g.tg tl = 20) (t_P : g.tg P = 7) (hI : OC g f) (eR : f Rd = .inr (7, [.ref tl, .int (nI ln), .int (nI ax), .ref P])) (eT : f tl = .inl (g.ac tl, 72, .inl hT)) (cT : ∀ i, i < 72 → vp_nar .char (hT i) = hT i) (hln : ln ≤ 72) (hax : ax ≤ ln) : Met l ⟨"BigRunner$Reader", "next", "()C"⟩ [Cond.code ⟨"BigRunner$Reader", "next", "()C"⟩ prog_8_method_3_code 1 (some .char)] ({ frames := 0, cells := 0, slots := 0, locals := 0 }) (va_Pc [.ref Rd] (pc_in g sz f)) (va_Qi (fun r f1 => (r = nx hT ln ax) ∧ (f = f1)) (pc_out g sz) (pc_A g sz)) 0 0 (pc_A g sz) := by
  refine pe_ofW (cc := prog_8_method_3_code) (maxL := 1) (ret := (some .char)) (lv := [(0, .ref Rd)]) (by decide) (Nat.le_of_ble_eq_true rfl) rfl ?_
  intro p e s m args below meth c ls hx hb hr hml hlocks hown hB hP hK hD hsz hS hl
  subst hsz
  refine lv_aload_n hx hb d_NReader_next_0 rfl (lv_at hl 0 rfl) ?_
  refine pf_get (v := .int (nI ax)) (C := "BigRunner$Reader") (T := FT7) (N := 4) hx hb (hw7 hB _) (fun _ h9 => h9) hown hK hP (lo_in hL t_Rd (by decide)) eR rfl 2 (by decide) (wd_272 hB _) rfl d_NReader_next_1 ?_
  refine lv_aload_n hx hb d_NReader_next_4 rfl (lv_at hl 0 rfl) ?_
  refine pf_get (v := .int (nI ln)) (C := "BigRunner$Reader") (T := FT7) (N := 4) hx hb (hw7 hB _) (fun _ h9 => h9) hown hK hP (lo_in hL t_Rd (by decide)) eR rfl 1 (by decide) (wd_271 hB _) rfl d_NReader_next_5 ?_
  refine lv_icmp_ge (tgt := 23) hx hb d_NReader_next_8 (by decide) (fun b1 => ?_) (fun b1 => ?_)
  · skip
    replace b1 := (nI_leI (a := ln) (b := ax) (by omega) (by omega)).mp b1
    refine lv_bipush (v := nI 32) hx hb d_NReader_next_23 (by decide) ?_
    exact pe_zret hx hb hr hlocks hK hP hD hS d_NReader_next_25 rfl ⟨(if_neg (by omega)).symm, rfl⟩
  · skip
    replace b1 := mt (nI_leI (a := ln) (b := ax) (by omega) (by omega)).mpr b1
    refine lv_aload_n hx hb d_NReader_next_11 rfl (lv_at hl 0 rfl) ?_
    refine pf_get (v := .ref tl) (C := "BigRunner$Reader") (T := FT7) (N := 4) hx hb (hw7 hB _) (fun _ h9 => h9) hown hK hP (lo_in hL t_Rd (by decide)) eR rfl 0 (by decide) (wd_270 hB _) rfl d_NReader_next_12 ?_
    refine lv_aload_n hx hb d_NReader_next_15 rfl (lv_at hl 0 rfl) ?_
    refine pf_get (v := .int (nI ax)) (C := "BigRunner$Reader") (T := FT7) (N := 4) hx hb (hw7 hB _) (fun _ h9 => h9) hown hK hP (lo_in hL t_Rd (by decide)) eR rfl 2 (by decide) (wd_272 hB _) rfl d_NReader_next_16 ?_
    refine pf_cald (i := ax) hx hb hK hP (lo_in hL t_tl (by decide)) eT (lo_t20 hL _ t_tl) (by omega) (by decide) d_NReader_next_19 ?_
    refine lv_goto (tgt := 25) hx hb d_NReader_next_20 (by decide) ?_
    exact pe_zret hx hb hr hlocks hK hP hD hS d_NReader_next_25 (nc_nar (cT ax (by omega))) ⟨(if_pos (by omega)).symm, rfl⟩
set_option maxHeartbeats 4000000 in
set_option maxRecDepth 100000 in
theorem c_accept (l : Launch) (g : Lay) (sz : Nat) (f : Nat → va_E) (Rd : Nat) (tl : Nat) (ln : Nat) (ax : Nat) (P : Nat) (hT : Nat → Int32) (ch : Nat) (hL : LO g) (t_Rd : g.tg Rd = 8) (t_tl : g.tg tl = 20) (t_P : g.tg P = 7) (hI : IV g f) (eR : f Rd = .inr (7, [.ref tl, .int (nI ln), .int (nI ax), .ref P])) (eT : f tl = .inl (g.ac tl, 72, .inl hT)) (cT : ∀ i, i < 72 → vp_nar .char (hT i) = hT i) (hln : ln ≤ 72) (hax : ax ≤ ln) (hch : nI ch ≠ nI 32) : Met l ⟨"BigRunner$Reader", "accept", "(C)Z"⟩ [Cond.code ⟨"BigRunner$Reader", "accept", "(C)Z"⟩ prog_8_method_4_code 2 (some .boolean)] ({ frames := 1, cells := 0, slots := 0, locals := 20 }) (va_Pc [.ref Rd, .int (nI ch)] (pc_in g sz f)) (va_Qi (fun r f1 => (r = nI 0 ∨ r = nI 1) ∧ (r = nI 0 → nx hT ln ax ≠ nI ch ∧ f1 Rd = .inr (7, [.ref tl, .int (nI ln), .int (nI ax), .ref P])) ∧ (r = nI 1 → nx hT ln ax = nI ch ∧ ax < ln ∧ f1 Rd = .inr (7, [.ref tl, .int (nI ln), .int (nI (ax + 1)), .ref P])) ∧ (IV g f1) ∧ (un [8] g f f1)) (pc_out g sz) (pc_A g sz)) 0 0 (pc_A g sz) := by
  refine pe_ofW (cc := prog_8_method_4_code) (maxL := 2) (ret := (some .boolean)) (lv := [(0, .ref Rd), (1, .int (nI ch))]) (by decide) (Nat.le_of_ble_eq_true rfl) rfl ?_
  intro p e s m args below meth c ls hx hb hr hml hlocks hown hB hP hK hD hsz hS hl
  subst hsz
  have hu : un [8] g f f := un.rf
  refine lv_aload_n hx hb d_NReader_accept_0 rfl (lv_at hl 0 rfl) ?_
  refine pcc_i (va_runV (C := "BigRunner$Reader") (As := []) (rest := []) ⟨hx, hb, hml, hown, tb_nil⟩ (c_next l g s.heap.size f Rd tl ln ax P hT hL t_Rd t_tl t_P hI.1 eR eT cT (by omega) (by omega)) ⟨(callB_of 0 (tb_one (wd_476 hB _)) tb_good1 rfl rfl rfl (wd_73 hB _) (wd_473 hB _) (by decide +kernel) ⟨Nat.le_of_ble_eq_true rfl, Nat.le_of_ble_eq_true rfl⟩), (wd_475 hB _), (wd_5 hB _)⟩ ⟨pe_bl, pg_recv (ci := 7) hK hP (lo_in hL t_Rd (by decide)) eR rfl, pe_pre hB hK hP hD⟩ rfl rfl hl.1 rfl (lv_room (Nat.le_of_ble_eq_true rfl)) d_NReader_accept_1 ⟨Nat.le_of_ble_eq_true rfl, Nat.le_of_ble_eq_true rfl⟩) hS (fun r1 f2 H locs hq3 hP hD hS => ?_)
  obtain ⟨nx_4, rfl⟩ := hq3
  subst nx_4
  refine lv_iload_n hx hb d_NReader_accept_4 rfl (lv_at hl 1 rfl) ?_
  refine lv_icmp_eq (tgt := 10) hx hb d_NReader_accept_5 (by decide) (fun b5 => ?_) (fun b5 => ?_)
  · skip
    have hlt9 : ax < ln := nx_in b5 hch
    refine lv_aload_n hx hb d_NReader_accept_10 rfl (lv_at hl 0 rfl) ?_
    refine lv_dup hx hb d_NReader_accept_11 rfl ?_
    refine pf_get (v := .int (nI ax)) (C := "BigRunner$Reader") (T := FT7) (N := 4) hx hb (hw7 hB _) (fun _ h9 => h9) hown hK hP (lo_in hL t_Rd (by decide)) eR rfl 2 (by decide) (wd_272 hB _) rfl d_NReader_accept_12 ?_
    refine lv_iconst (v := nI 1) hx hb d_NReader_accept_15 (by decide) ?_
    refine pf_iaddN (x := ax) (y := 1) hx hb d_NReader_accept_16 ?_
    refine pf_put (v := .int (nI (ax + 1))) (ty := .int) (fs' := [.ref tl, .int (nI ln), .int (nI (ax + 1)), .ref P]) (C := "BigRunner$Reader") (T := FT7) (N := 4) hx hb (hw7 hB _) (fun _ h9 => h9) TY7 ok7 nm7 hown hK hP hD hS (lo_in hL t_Rd (by decide)) eR rfl 2 (by decide) (wd_272 hB _) rfl (by decide +kernel) rfl rfl (Nat.le_of_ble_eq_true rfl) rfl d_NReader_accept_17 (fun f6 H locs e7 k8 hP hD hS => ?_)
    have eT := (k8 tl (tg_ne t_tl t_Rd (by decide))).trans eT
    have hu := hu.st k8 t_Rd (by decide)
    have hk9 : ∀ b, b ≠ Rd → f6 b = f b := k8
    refine lv_iconst (v := nI 1) hx hb d_NReader_accept_20 (by decide) ?_
    have hI10 := iv_1 hI hL t_Rd (by decide) hk9 (oc_8.mk t_Rd (⟨(.ref tl), ln, (ax + 1), P, e7, (by omega), (by omega), t_P⟩))
    exact pe_zret hx hb hr hlocks hK hP hD hS d_NReader_accept_21 rfl ⟨(Or.inr rfl), (fun z9 => absurd z9 (by decide)), (fun _ => ⟨b5, hlt9, e7⟩), hI10, hu⟩
  · skip
    refine lv_iconst (v := nI 0) hx hb d_NReader_accept_8 (by decide) ?_
    exact pe_zret hx hb hr hlocks hK hP hD hS d_NReader_accept_9 rfl ⟨(Or.inl rfl), (fun _ => ⟨b5, eR⟩), (fun z9 => absurd z9 (by decide)), hI, hu⟩
set_option maxHeartbeats 4000000 in
set_option maxRecDepth 100000 in
theorem c_addOpN (l : Launch) (g : Lay) (sz : Nat) (f : Nat → va_E) (Rd : Nat) (kd : Int32) (le : Int32) (ri : Int32) (hL : LO g) (t_Rd : g.tg Rd = 8) (hI : OC g f) (hno : le = (-1) ∨ ri = (-1)) : Met l ⟨"BigRunner$Reader", "addOperation", "(III)I"⟩ [Cond.code ⟨"BigRunner$Reader", "addOperation", "(III)I"⟩ prog_8_method_15_code 5 (some .int)] ({ frames := 0, cells := 0, slots := 0, locals := 0 }) (va_Pc [.ref Rd, .int kd, .int le, .int ri] (pc_in g sz f)) (va_Qi (fun r f1 => (r = (-1)) ∧ (f = f1)) (pc_out g sz) (pc_A g sz)) 0 0 (pc_A g sz) := by
  refine pe_ofW (cc := prog_8_method_15_code) (maxL := 5) (ret := (some .int)) (lv := [(0, .ref Rd), (1, .int kd), (2, .int le), (3, .int ri)]) (by decide) (Nat.le_of_ble_eq_true rfl) rfl ?_
  intro p e s m args below meth c ls hx hb hr hml hlocks hown hB hP hK hD hsz hS hl
  subst hsz
  refine lv_iload_n hx hb d_NReader_addOperation_0 rfl (lv_at hl 2 rfl) ?_
  refine lv_iconst (v := (-1)) hx hb d_NReader_addOperation_1 (by decide) ?_
  refine lv_icmp_eq (tgt := 28) hx hb d_NReader_addOperation_2 (by decide) (fun b1 => ?_) (fun b1 => ?_)
  · skip
    refine lv_iconst (v := (-1)) hx hb d_NReader_addOperation_28 (by decide) ?_
    exact pe_iret hx hb hr hlocks hK hP hD hS d_NReader_addOperation_29 ⟨rfl, rfl⟩
  · skip
    refine lv_iload_n hx hb d_NReader_addOperation_5 rfl (lv_at hl 3 rfl) ?_
    refine lv_iconst (v := (-1)) hx hb d_NReader_addOperation_6 (by decide) ?_
    refine lv_icmp_eq (tgt := 28) hx hb d_NReader_addOperation_7 (by decide) (fun b2 => ?_) (fun b2 => ?_)
    · skip
      refine lv_iconst (v := (-1)) hx hb d_NReader_addOperation_28 (by decide) ?_
      exact pe_iret hx hb hr hlocks hK hP hD hS d_NReader_addOperation_29 ⟨rfl, rfl⟩
    · skip
      exact absurd hno (fun z => z.elim b1 b2)
