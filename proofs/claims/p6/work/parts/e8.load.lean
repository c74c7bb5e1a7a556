def CE (g : Lay) (f : Nat → va_E) (pr : Nat) (ld : Int32) : Option (Nat → IVL) → Prop
  | none => ld = nI 0
  | some en => ld = nI 1 ∧ EV g f pr en
theorem CE.un {g : Lay} {f f1 : Nat → va_E} {pr : Nat} {ld : Int32} {sg : Option (Nat → IVL)} {W : List Nat} (h : CE g f pr ld sg) (hL : LO g) (t : g.tg pr = 7) (hu : un W g f f1) (hW : 3 ∉ W) : CE g f1 pr ld sg := by
  cases sg with
  | none => exact h
  | some en => exact ⟨h.1, EV_fr hL t h.2 (fun v hv => hu _ (by rw [lo_e26 hL _ (lo_k7_4 hL pr t) v hv]; exact hW))⟩
def CK (g : Lay) (B : Nat) (f : Nat → va_E) (n : Nat) (hT : Nat → Int32) (sg : Option (Nat → IVL)) : Prop := ∃ (ld : Int32) (tx : Value) (ln0 : Nat) (ax0 : Nat) (PR : Nat) (pr : Nat) (ix : Nat) (os : Nat) (st : Nat) (mo : Int32) (lo : Int32) (tr : Nat) (sn : Nat) (nn : Nat), g.tg PR = 7 ∧ g.tg pr = 7 ∧ (f B = .inr (0, [.ref (g.lk B 0), .int (nI n), .ref (g.lk B 2), .ref (g.lk B 3), .int ld])) ∧ (n ≤ 72) ∧ (ld = nI 0 ∨ ld = nI 1) ∧ (f (g.lk B 0) = .inl (g.ac (g.lk B 0), 72, .inl hT)) ∧ (∀ i, i < 72 → vp_nar .char (hT i) = hT i) ∧ (f (g.lk B 2) = .inr (7, [tx, .int (nI ln0), .int (nI ax0), .ref PR])) ∧ (ln0 ≤ 72) ∧ (ax0 ≤ 72) ∧ (f (g.lk B 3) = .inr (8, [.ref pr, .ref (g.lk (g.lk B 3) 1), .int (nI ix), .ref (g.lk (g.lk B 3) 3), .ref (g.lk (g.lk B 3) 4), .ref (g.lk (g.lk B 3) 5), .ref (g.lk (g.lk B 3) 6), .ref (g.lk (g.lk B 3) 7), .int (nI os), .int (nI st), .int mo, .int lo, .int (nI tr)])) ∧ (ix ≤ 36) ∧ (os ≤ st) ∧ (st ≤ 3000) ∧ (tr ≤ 3) ∧ (PR ≠ pr) ∧ (f pr = .inr (6, [.ref (g.lk pr 0), .int (nI sn), .ref (g.lk pr 2), .int (nI nn), .ref (g.lk pr 4), .ref (g.lk pr 5)])) ∧ (sn ≤ 36) ∧ (nn ≤ 72) ∧ (SG g f pr 0 sn) ∧ (sn ≤ ix ∨ nj g f pr ix) ∧ (OIN g f PR) ∧ (OIN g f pr) ∧ (CE g f pr ld sg)
theorem CK.un {g : Lay} {B n : Nat} {hT : Nat → Int32} {sg : Option (Nat → IVL)} {f f1 : Nat → va_E} (hL : LO g) (t_B : g.tg B = 1) {W : List Nat} (h : CK g B f n hT sg) (hu : un W g f f1) (hW : ∀ x ∈ [1, 3, 7, 8, 9, 10, 20], x ∉ W) : CK g B f1 n hT sg := by
  obtain ⟨ld, tx, ln0, ax0, PR, pr, ix, os, st, mo, lo, tr, sn, nn, t_PR, t_pr, eB, hn, hld, eT, cT, eR, hl0, ha0, eX, hix, hos, hst, htr, hPR, eP, hsn, hnn, hSG, hnj, hi1, hi2, hce⟩ := h
  exact ⟨ld, tx, ln0, ax0, PR, pr, ix, os, st, mo, lo, tr, sn, nn, t_PR, t_pr, hu.at t_B (hW 1 (by decide)) eB, hn, hld, hu.at (lo_k1_0 hL _ t_B) (hW 20 (by decide)) eT, cT, hu.at (lo_k1_2 hL _ t_B) (hW 8 (by decide)) eR, hl0, ha0, hu.at (lo_k1_3 hL _ t_B) (hW 9 (by decide)) eX, hix, hos, hst, htr, hPR, hu.at t_pr (hW 7 (by decide)) eP, hsn, hnn, SG_un hSG hL t_pr hsn hu (hW 10 (by decide)), (by rcases Nat.lt_or_ge ix sn with q | q; exact Or.inr (nj_un (hnj.resolve_left (by omega)) hL t_pr (by omega) hu (hW 10 (by decide))); exact Or.inl q), hi1.un hL t_PR hu (hW 3 (by decide)), hi2.un hL t_pr hu (hW 3 (by decide)), hce.un hL t_pr hu (hW 3 (by decide))⟩
theorem CK0.ck {g : Lay} {x : Nat} {f : Nat → va_E} (h : CK0 g x f) : CK g x f 0 (fun _ => nI 0) none := by
  obtain ⟨tx, PR, pr, t1, t2, t3, hne, e1, e2, e3, e4, e5, e6, e7⟩ := h
  exact ⟨nI 0, tx, 0, 0, PR, pr, 0, 0, 0, nI 0, nI 0, 0, 0, 0, t2, t3, e1, by decide, Or.inl rfl, e2, (fun _ _ => rfl), e3, by decide, by decide, e4, by decide, by decide, by decide, by decide, hne, e5, by decide, by decide, (fun i _ q => absurd q (by omega)), (Or.inl (Nat.zero_le _)), e6, e7, rfl⟩
set_option maxHeartbeats 4000000 in
set_option maxRecDepth 100000 in
theorem c3_reads (l : Launch) (g : Lay) (sz : Nat) (f : Nat → va_E) (Rd : Nat) (tl : Nat) (ln : Nat) (P : Nat) (hT : Nat → Int32) (tx : Value) (ln0 : Nat) (ax0 : Nat) (sn : Nat) (nn : Nat) (hL : LO g) (t_Rd : g.tg Rd = 8) (t_tl : g.tg tl = 20) (t_P : g.tg P = 7) (hI : IV g f) (eR : f Rd = .inr (7, [tx, .int (nI ln0), .int (nI ax0), .ref P])) (eT : f tl = .inl (g.ac tl, 72, .inl hT)) (cT : ∀ i, i < 72 → vp_nar .char (hT i) = hT i) (hln : ln ≤ 72) (hl0 : ln0 ≤ 72) (ha0 : ax0 ≤ 72) (eP : f P = .inr (6, [.ref (g.lk P 0), .int (nI sn), .ref (g.lk P 2), .int (nI nn), .ref (g.lk P 4), .ref (g.lk P 5)])) (hsn : sn ≤ 36) (hnn : nn ≤ 72) : Met l ⟨"BigRunner$Reader", "reads", "([CI)Z"⟩ [Cond.code ⟨"BigRunner$Reader", "reads", "([CI)Z"⟩ prog_8_method_2_code 3 (some .boolean)] ({ frames := 1211, cells := 0, slots := 0, locals := 37022 }) (va_Pc [.ref Rd, .ref tl, .int (nI ln)] (pc_in g sz f)) (va_Qi (fun r f1 => ((∃ (s1 n1 : Nat), s1 ≤ 36 ∧ n1 ≤ 72 ∧ 0 < s1 ∧ px_s (tk hT ln) 400 1 1 0 = some ln ∧ f1 Rd = .inr (7, [.ref tl, .int (nI ln), .int (nI ln), .ref P]) ∧ f1 P = .inr (6, [.ref (g.lk P 0), .int (nI s1), .ref (g.lk P 2), .int (nI n1), .ref (g.lk P 4), .ref (g.lk P 5)]) ∧ SG g f1 P 0 s1 ∧ nj g f1 P 0 ∧ SRP g f1 P 0 0 s1 n1 (ox_s (tk hT ln) (vc hT ln) 400 1 1 0 0) ∧ r = nI 1) ∨ (px_s (tk hT ln) 400 1 1 0 ≠ some ln ∧ (∃ a9 : Nat, a9 ≤ 72 ∧ f1 Rd = .inr (7, [.ref tl, .int (nI ln), .int (nI a9), .ref P])) ∧ r = nI 0)) ∧ (IV g f1) ∧ (un [6, 7, 8, 10] g f f1)) (pc_out g sz) (pc_A g sz)) 0 0 (pc_A g sz) := by
  refine pe_ofW (cc := prog_8_method_2_code) (maxL := 3) (ret := (some .boolean)) (lv := [(0, .ref Rd), (1, .ref tl), (2, .int (nI ln))]) (by decide) (Nat.le_of_ble_eq_true rfl) rfl ?_
  intro p e s m args below meth c ls hx hb hr hml hlocks hown hB hP hK hD hsz hS hl
  subst hsz
  have hu : un [6, 7, 8, 10] g f f := un.rf
  refine lv_aload_n hx hb d_NReader_reads_0 rfl (lv_at hl 0 rfl) ?_
  refine lv_aload_n hx hb d_NReader_reads_1 rfl (lv_at hl 1 rfl) ?_
  refine pf_put (v := .ref tl) (ty := (.array .char)) (fs' := [.ref tl, .int (nI ln0), .int (nI ax0), .ref P]) (C := "BigRunner$Reader") (T := FT7) (N := 4) hx hb (hw7 hB _) (fun _ h9 => h9) TY7 ok7 nm7 hown hK hP hD hS (lo_in hL t_Rd (by decide)) eR rfl 0 (by decide) (wd_270 hB _) rfl (by decide +kernel) rfl rfl (Nat.le_of_ble_eq_true rfl) rfl d_NReader_reads_2 (fun f1 H locs e2 k3 hP hD hS => ?_)
  have eT := (k3 tl (tg_ne t_tl t_Rd (by decide))).trans eT
  have eP := (k3 P (tg_ne t_P t_Rd (by decide))).trans eP
  have hu := hu.st k3 t_Rd (by decide)
  have hk4 : ∀ b, b ≠ Rd → f1 b = f b := k3
  refine lv_aload_n hx hb d_NReader_reads_5 rfl (lv_at hl 0 rfl) ?_
  refine lv_iload_n hx hb d_NReader_reads_6 rfl (lv_at hl 2 rfl) ?_
  refine lv_aload_n hx hb d_NReader_reads_7 rfl (lv_at hl 1 rfl) ?_
  refine pf_alen (n := 72) hx hb hK hP (lo_in hL t_tl (by decide)) eT rfl (lo_t20 hL _ t_tl) d_NReader_reads_8 ?_
  refine va_mmin hx hb (hml.trans hl.1.symm) hown (wd_458 hB _) (wd_459 hB _) (wd_83 hB _) (wd_460 hB _) (Nat.le_of_ble_eq_true rfl) (Nat.le_of_ble_eq_true rfl) (Nat.le_of_ble_eq_true rfl) (Nat.le_of_ble_eq_true rfl) d_NReader_reads_9 ?_
  refine lv_topi (fun z_ hz_ => ?_)
  obtain ⟨mn5, hmn5⟩ : ∃ z : Nat, z = min ln 72 := ⟨_, rfl⟩
  obtain rfl : z_ = nI mn5 := by rw [hz_, hmn5]; exact mi_min (a := ln) (b := 72) (by omega) (by omega)
  refine lv_topi (fun z_ hz_ => ?_)
  obtain rfl : z_ = nI (ln) := hz_.trans (congrArg nI (show mn5 = ln by omega))
  refine pf_put (v := .int (nI ln)) (ty := .int) (fs' := [.ref tl, .int (nI ln), .int (nI ax0), .ref P]) (C := "BigRunner$Reader") (T := FT7) (N := 4) hx hb (hw7 hB _) (fun _ h9 => h9) TY7 ok7 nm7 hown hK hP hD hS (lo_in hL t_Rd (by decide)) e2 rfl 1 (by decide) (wd_271 hB _) rfl (by decide +kernel) rfl rfl (Nat.le_of_ble_eq_true rfl) rfl d_NReader_reads_12 (fun f6 H locs e7 k8 hP hD hS => ?_)
  have eT := (k8 tl (tg_ne t_tl t_Rd (by decide))).trans eT
  have eP := (k8 P (tg_ne t_P t_Rd (by decide))).trans eP
  have hu := hu.st k8 t_Rd (by decide)
  have hk9 : ∀ b, b ≠ Rd → f6 b = f b := fun b q0 => (k8 b q0).trans (hk4 b q0)
  refine lv_aload_n hx hb d_NReader_reads_15 rfl (lv_at hl 0 rfl) ?_
  refine lv_iconst (v := nI 0) hx hb d_NReader_reads_16 (by decide) ?_
  refine pf_put (v := .int (nI 0)) (ty := .int) (fs' := [.ref tl, .int (nI ln), .int (nI 0), .ref P]) (C := "BigRunner$Reader") (T := FT7) (N := 4) hx hb (hw7 hB _) (fun _ h9 => h9) TY7 ok7 nm7 hown hK hP hD hS (lo_in hL t_Rd (by decide)) e7 rfl 2 (by decide) (wd_272 hB _) rfl (by decide +kernel) rfl rfl (Nat.le_of_ble_eq_true rfl) rfl d_NReader_reads_17 (fun f10 H locs e11 k12 hP hD hS => ?_)
  have eT := (k12 tl (tg_ne t_tl t_Rd (by decide))).trans eT
  have eP := (k12 P (tg_ne t_P t_Rd (by decide))).trans eP
  have hu := hu.st k12 t_Rd (by decide)
  have hk13 : ∀ b, b ≠ Rd → f10 b = f b := fun b q0 => (k12 b q0).trans (hk9 b q0)
  refine lv_aload_n hx hb d_NReader_reads_20 rfl (lv_at hl 0 rfl) ?_
  refine pf_get (v := .ref P) (C := "BigRunner$Reader") (T := FT7) (N := 4) hx hb (hw7 hB _) (fun _ h9 => h9) hown hK hP (lo_in hL t_Rd (by decide)) e11 rfl 3 (by decide) (wd_273 hB _) rfl d_NReader_reads_21 ?_
  refine lv_iconst (v := nI 0) hx hb d_NReader_reads_24 (by decide) ?_
  have hI14 := iv_1 hI hL t_Rd (by decide) hk13 (oc_8.mk t_Rd (⟨(.ref tl), ln, 0, P, e11, (by omega), (by omega), t_P⟩))
  refine pf_put (v := .int (nI 0)) (ty := .int) (fs' := [.ref (g.lk P 0), .int (nI 0), .ref (g.lk P 2), .int (nI nn), .ref (g.lk P 4), .ref (g.lk P 5)]) (C := "BigRunner$Program") (T := FT6) (N := 6) hx hb (hw6 hB _) (fun _ h9 => h9) TY6 ok6 nm6 hown hK hP hD hS (lo_in hL t_P (by decide)) eP rfl 1 (by decide) (wd_246 hB _) rfl (by decide +kernel) rfl rfl (Nat.le_of_ble_eq_true rfl) rfl d_NReader_reads_25 (fun f15 H locs e16 k17 hP hD hS => ?_)
  have eT := (k17 tl (tg_ne t_tl t_P (by decide))).trans eT
  have e11 := (k17 Rd (tg_ne t_Rd t_P (by decide))).trans e11
  have hu := hu.st k17 t_P (by decide)
  have hk18 : ∀ b, b ≠ P → f15 b = f10 b := k17
  refine lv_aload_n hx hb d_NReader_reads_28 rfl (lv_at hl 0 rfl) ?_
  refine pf_get (v := .ref P) (C := "BigRunner$Reader") (T := FT7) (N := 4) hx hb (hw7 hB _) (fun _ h9 => h9) hown hK hP (lo_in hL t_Rd (by decide)) e11 rfl 3 (by decide) (wd_273 hB _) rfl d_NReader_reads_29 ?_
  refine lv_iconst (v := nI 0) hx hb d_NReader_reads_32 (by decide) ?_
  refine pf_put (v := .int (nI 0)) (ty := .int) (fs' := [.ref (g.lk P 0), .int (nI 0), .ref (g.lk P 2), .int (nI 0), .ref (g.lk P 4), .ref (g.lk P 5)]) (C := "BigRunner$Program") (T := FT6) (N := 6) hx hb (hw6 hB _) (fun _ h9 => h9) TY6 ok6 nm6 hown hK hP hD hS (lo_in hL t_P (by decide)) e16 rfl 3 (by decide) (wd_252 hB _) rfl (by decide +kernel) rfl rfl (Nat.le_of_ble_eq_true rfl) rfl d_NReader_reads_33 (fun f19 H locs e20 k21 hP hD hS => ?_)
  have eT := (k21 tl (tg_ne t_tl t_P (by decide))).trans eT
  have e11 := (k21 Rd (tg_ne t_Rd t_P (by decide))).trans e11
  have hu := hu.st k21 t_P (by decide)
  have hk22 : ∀ b, b ≠ P → f19 b = f10 b := fun b q0 => (k21 b q0).trans (hk18 b q0)
  refine lv_aload_n hx hb d_NReader_reads_36 rfl (lv_at hl 0 rfl) ?_
  refine lv_iconst (v := nI 1) hx hb d_NReader_reads_37 (by decide) ?_
  have hI23 := iv_1 hI14 hL t_P (by decide) hk22 (oc_7.mk t_P (⟨0, 0, e20, (by omega), (by omega)⟩))
  refine pcc_i (va_runV (C := "BigRunner$Reader") (As := [.int (nI 1)]) (rest := []) ⟨hx, hb, hml, hown, tb_nil⟩ (c2_readProgram l g H.size f19 Rd tl ln 0 P hT 0 0 1 hL t_Rd t_tl t_P hI23 e11 eT cT (by omega) (by omega) e20 (by omega) (by omega) (by omega) (by omega) (by omega)) ⟨(callB_of 1 (tb_one (wd_464 hB _)) tb_good1 rfl rfl rfl (wd_73 hB _) (wd_461 hB _) (by decide +kernel) ⟨Nat.le_of_ble_eq_true rfl, Nat.le_of_ble_eq_true rfl⟩), (wd_463 hB _), (wd_2 hB _)⟩ ⟨pe_bl, pg_recv (ci := 7) hK hP (lo_in hL t_Rd (by decide)) e11 rfl, pe_pre hB hK hP hD⟩ rfl rfl hl.1 rfl (lv_room (Nat.le_of_ble_eq_true rfl)) d_NReader_reads_38 ⟨Nat.le_of_ble_eq_true rfl, Nat.le_of_ble_eq_true rfl⟩) hS (fun r24 f25 H locs hq26 hP hD hS => ?_)
  obtain ⟨rs_27, fr_28, frn_29, hI1_30, hu1_31⟩ := hq26
  have hu := hu.tr hu1_31 (by decide)
  have eT := hu1_31.at t_tl (by decide) eT
  rcases rs_27 with ⟨a32, s33, n34, c41, c42, c43, c44, c45, c46, c47, c48, hp37, e35, e36, hsg38, hnj39, hsp40, rfl⟩ | ⟨a32, s33, n34, c41, c42, c43, hp37, e35, e36, rfl⟩
  · skip
    have hfb49 : ∀ i, i < 72 → i < n34 → f25 (g.lk (g.lk P 2) i) = f25 (g.lk (g.lk P 2) i) := fun _ _ _ => rfl
    refine lv_if_eq (tgt := 59) hx hb d_NReader_reads_41 (by decide) (fun b50 => ?_) (fun b50 => ?_)
    · skip
      replace b50 := (nI_eq (a := 1) (b := 0) (by omega) (by omega)).mp b50
      exfalso; omega
    · skip
      replace b50 := mt (nI_eq (a := 1) (b := 0) (by omega) (by omega)).mpr b50
      refine lv_aload_n hx hb d_NReader_reads_44 rfl (lv_at hl 0 rfl) ?_
      refine pf_get (v := .int (nI a32)) (C := "BigRunner$Reader") (T := FT7) (N := 4) hx hb (hw7 hB _) (fun _ h9 => h9) hown hK hP (lo_in hL t_Rd (by decide)) e35 rfl 2 (by decide) (wd_272 hB _) rfl d_NReader_reads_45 ?_
      refine lv_aload_n hx hb d_NReader_reads_48 rfl (lv_at hl 0 rfl) ?_
      refine pf_get (v := .int (nI ln)) (C := "BigRunner$Reader") (T := FT7) (N := 4) hx hb (hw7 hB _) (fun _ h9 => h9) hown hK hP (lo_in hL t_Rd (by decide)) e35 rfl 1 (by decide) (wd_271 hB _) rfl d_NReader_reads_49 ?_
      refine lv_icmp_ne (tgt := 59) hx hb d_NReader_reads_52 (by decide) (fun b51 => ?_) (fun b51 => ?_)
      · skip
        replace b51 := mt (nI_eq (a := a32) (b := ln) (by omega) (by omega)).mpr b51
        refine lv_iconst (v := nI 0) hx hb d_NReader_reads_59 (by decide) ?_
        exact pe_zret hx hb hr hlocks hK hP hD hS d_NReader_reads_60 rfl ⟨(Or.inr ⟨by rw [hp37]; exact fun z => b51 (Option.some.inj z), ⟨a32, by omega, e35⟩, rfl⟩), hI1_30, hu⟩
      · skip
        replace b51 := (nI_eq (a := a32) (b := ln) (by omega) (by omega)).mp b51
        have hend : a32 = ln := by omega
        refine lv_iconst (v := nI 1) hx hb d_NReader_reads_55 (by decide) ?_
        refine lv_goto (tgt := 60) hx hb d_NReader_reads_56 (by decide) ?_
        exact pe_zret hx hb hr hlocks hK hP hD hS d_NReader_reads_60 rfl ⟨(Or.inl ⟨s33, n34, by omega, by omega, by omega, by rw [hp37, hend], by have z := e35; rw [hend] at z; exact z, e36, hsg38, hnj39, hsp40, rfl⟩), hI1_30, hu⟩
  · skip
    refine lv_if_eq (tgt := 59) hx hb d_NReader_reads_41 (by decide) (fun b52 => ?_) (fun b52 => ?_)
    · skip
      replace b52 := (nI_eq (a := 0) (b := 0) (by omega) (by omega)).mp b52
      refine lv_iconst (v := nI 0) hx hb d_NReader_reads_59 (by decide) ?_
      exact pe_zret hx hb hr hlocks hK hP hD hS d_NReader_reads_60 rfl ⟨(Or.inr ⟨(by rw [hp37]; exact fun z => (by cases z)), ⟨a32, by omega, e35⟩, rfl⟩), hI1_30, hu⟩
    · skip
      replace b52 := mt (nI_eq (a := 0) (b := 0) (by omega) (by omega)).mpr b52
      exfalso; omega
theorem PRS_ut {g : Lay} {Rd pr P : Nat} {f : Nat → va_E} {nb : Nat → Nat} (L : List (Nat × Nat)) : ∀ (s n b : Nat) (st : List Nat), PRS (ut g Rd pr) f P nb s n b st L = PRS g f P nb s n b st L := by
  induction L with
  | nil => intro s n b st; rfl
  | cons x L ih =>
    intro s n b st
    obtain ⟨w, a⟩ := x
    unfold PRS
    rw [ih, ih]
    rfl
theorem SRP_ut {g : Lay} {Rd pr P s n s1 n1 : Nat} {f : Nat → va_E} {L : List (Nat × Nat)} (h : SRP (ut g Rd pr) f P s n s1 n1 L) : SRP g f P s n s1 n1 L := ⟨h.1, fun nb q => by rw [← PRS_ut (Rd := Rd) (pr := pr)]; exact h.2 nb q⟩
set_option maxHeartbeats 4000000 in
set_option maxRecDepth 100000 in
theorem c2_readsU (l : Launch) (g : Lay) (sz : Nat) (f : Nat → va_E) (Rd : Nat) (tl : Nat) (ln : Nat) (P : Nat) (hT : Nat → Int32) (tx : Value) (ln0 : Nat) (ax0 : Nat) (sn : Nat) (nn : Nat) (pr : Nat) (hL : LO g) (t_Rd : g.tg Rd = 8) (t_tl : g.tg tl = 20) (t_P : g.tg P = 7) (t_pr : g.tg pr = 7) (hI : IV g f) (eR : f Rd = .inr (7, [tx, .int (nI ln0), .int (nI ax0), .ref P])) (eT : f tl = .inl (g.ac tl, 72, .inl hT)) (cT : ∀ i, i < 72 → vp_nar .char (hT i) = hT i) (hln : ln ≤ 72) (hl0 : ln0 ≤ 72) (ha0 : ax0 ≤ 72) (eP : f P = .inr (6, [.ref (g.lk P 0), .int (nI sn), .ref (g.lk P 2), .int (nI nn), .ref (g.lk P 4), .ref (g.lk P 5)])) (hsn : sn ≤ 36) (hnn : nn ≤ 72) (hne : P ≠ pr) : Met l ⟨"BigRunner$Reader", "reads", "([CI)Z"⟩ [Cond.code ⟨"BigRunner$Reader", "reads", "([CI)Z"⟩ prog_8_method_2_code 3 (some .boolean)] ({ frames := 1211, cells := 0, slots := 0, locals := 37022 }) (va_Pc [.ref Rd, .ref tl, .int (nI ln)] (pc_in g sz f)) (va_Qi (fun r f1 => ((∃ (s1 n1 : Nat), s1 ≤ 36 ∧ n1 ≤ 72 ∧ 0 < s1 ∧ px_s (tk hT ln) 400 1 1 0 = some ln ∧ f1 Rd = .inr (7, [.ref tl, .int (nI ln), .int (nI ln), .ref P]) ∧ f1 P = .inr (6, [.ref (g.lk P 0), .int (nI s1), .ref (g.lk P 2), .int (nI n1), .ref (g.lk P 4), .ref (g.lk P 5)]) ∧ SG g f1 P 0 s1 ∧ nj g f1 P 0 ∧ SRP g f1 P 0 0 s1 n1 (ox_s (tk hT ln) (vc hT ln) 400 1 1 0 0) ∧ r = nI 1) ∨ (px_s (tk hT ln) 400 1 1 0 ≠ some ln ∧ (∃ a9 : Nat, a9 ≤ 72 ∧ f1 Rd = .inr (7, [.ref tl, .int (nI ln), .int (nI a9), .ref P])) ∧ r = nI 0)) ∧ (f1 pr = f pr ∧ ∀ i, i < 36 → f1 (g.lk (g.lk pr 0) i) = f (g.lk (g.lk pr 0) i)) ∧ (IV g f1) ∧ (un [6, 7, 8, 10] g f f1)) (pc_out g sz) (pc_A g sz)) 0 0 (pc_A g sz) := by
  refine pm_mono (c3_reads l (ut g Rd pr) sz f Rd tl ln P hT tx ln0 ax0 sn nn (ut_LO hL t_pr) ((ut_out (ut_8 hL t_pr t_Rd)).trans t_Rd) (ut_tg hL t_pr t_tl (by decide)) ((ut_out (ut_7 hL t_pr t_P hne)).trans t_P) (ut_IV hL t_pr t_Rd eR hne hI) eR eT cT hln hl0 ha0 eP hsn hnn) ?_
  rintro a st o t ⟨⟨r, f1, q1, ⟨q2, q3, q4⟩, q5⟩, q6⟩
  exact ⟨⟨r, f1, q1, ⟨q2.imp (fun ⟨s1, n1, a1, a2, a3, a4, a5, a6, a7, a8, a9, a10⟩ => ⟨s1, n1, a1, a2, a3, a4, a5, a6, a7, a8, SRP_ut a9, a10⟩) id, ⟨ut_fr q4 (by decide) (Or.inr (Or.inr (Or.inr (Or.inl rfl)))), fun i hi => ut_fr q4 (by decide) (Or.inr (Or.inr (Or.inr (Or.inr (Or.inr ⟨i, hi, rfl⟩)))))⟩, ut_VI hL t_pr hI q3 q4 (by decide), ut_un q4 (by decide)⟩, q5⟩, q6⟩
set_option maxHeartbeats 4000000 in
set_option maxRecDepth 100000 in
theorem c2_load (l : Launch) (g : Lay) (sz : Nat) (f : Nat → va_E) (B : Nat) (n : Nat) (hT : Nat → Int32) (ld : Int32) (tx : Value) (ln0 : Nat) (ax0 : Nat) (PR : Nat) (pr : Nat) (ix : Nat) (os : Nat) (st : Nat) (mo : Int32) (lo : Int32) (tr : Nat) (sn : Nat) (nn : Nat) (sg : Option (Nat → IVL)) (hL : LO g) (t_B : g.tg B = 1) (t_PR : g.tg PR = 7) (t_pr : g.tg pr = 7) (hI : IV g f) (eB : f B = .inr (0, [.ref (g.lk B 0), .int (nI n), .ref (g.lk B 2), .ref (g.lk B 3), .int ld])) (hn : n ≤ 72) (hld : ld = nI 0 ∨ ld = nI 1) (eT : f (g.lk B 0) = .inl (g.ac (g.lk B 0), 72, .inl hT)) (cT : ∀ i, i < 72 → vp_nar .char (hT i) = hT i) (eR : f (g.lk B 2) = .inr (7, [tx, .int (nI ln0), .int (nI ax0), .ref PR])) (hl0 : ln0 ≤ 72) (ha0 : ax0 ≤ 72) (eX : f (g.lk B 3) = .inr (8, [.ref pr, .ref (g.lk (g.lk B 3) 1), .int (nI ix), .ref (g.lk (g.lk B 3) 3), .ref (g.lk (g.lk B 3) 4), .ref (g.lk (g.lk B 3) 5), .ref (g.lk (g.lk B 3) 6), .ref (g.lk (g.lk B 3) 7), .int (nI os), .int (nI st), .int mo, .int lo, .int (nI tr)])) (hix : ix ≤ 36) (hos : os ≤ st) (hst : st ≤ 3000) (htr : tr ≤ 3) (hPR : PR ≠ pr) (eP : f pr = .inr (6, [.ref (g.lk pr 0), .int (nI sn), .ref (g.lk pr 2), .int (nI nn), .ref (g.lk pr 4), .ref (g.lk pr 5)])) (hsn : sn ≤ 36) (hnn : nn ≤ 72) (hSG : SG g f pr 0 sn) (hnj : sn ≤ ix ∨ nj g f pr ix) (hi1 : OIN g f PR) (hi2 : OIN g f pr) (hce : CE g f pr ld sg) (hLt : l.stackTraces = false) : tw_Met l ⟨"BigRunner", "load", "()I"⟩ [Cond.code ⟨"BigRunner", "load", "()I"⟩ prog_1_method_4_code 3 (some .int)] ({ frames := 1212, cells := 1, slots := 6, locals := 37044 }) (va_Pc [.ref B] (pt_in g sz f)) (tq (fun v9 f1 => ∃ r, v9 = some (.int r) ∧ (px_s (tk hT n) 400 1 1 0 = some n) ∧ (r = nI (rds (ox_s (tk hT n) (vc hT n) 400 1 1 0 0) 30 1 (fun _ => zI)).1) ∧ ((rds (ox_s (tk hT n) (vc hT n) 400 1 1 0 0) 30 1 (fun _ => zI)).1 ≤ 24) ∧ (CK g B f1 0 hT (some (rds (ox_s (tk hT n) (vc hT n) 400 1 1 0 0) 30 1 (fun _ => zI)).2)) ∧ (IV g f1) ∧ (un [1, 3, 5, 6, 7, 8, 9, 10, 23, 27] g f f1)) (fun C9 f1 => (C9 = "java/lang/IllegalArgumentException") ∧ (px_s (tk hT n) 400 1 1 0 ≠ some n) ∧ (CK g B f1 n hT sg) ∧ (IV g f1) ∧ (un [1, 3, 5, 6, 7, 8, 9, 10, 23, 27] g f f1)) g sz) 1 6 (pc_A g sz) := by
  refine pt_ofW (cc := prog_1_method_4_code) (maxL := 3) (ret := (some .int)) (lv := [(0, .ref B)]) (by decide) (Nat.le_of_ble_eq_true rfl) rfl ?_
  intro p e s m args below meth c ls hx hb hr hml hlocks hown hB hP hK hD hsz hS hl hno hTZ
  subst hsz
  have hu : un [1, 3, 5, 6, 7, 8, 9, 10, 23, 27] g f f := un.rf
  refine lv_aload_n hx hb d_B_load_0 rfl (lv_at hl 0 rfl) ?_
  refine pf_get (v := .ref (g.lk B 2)) (C := "BigRunner") (T := FT0) (N := 5) hx hb (hw0 hB _) (fun _ h9 => h9) hown hK hP (lo_in hL t_B (by decide)) eB rfl 2 (by decide) (wd_380 hB _) rfl d_B_load_1 ?_
  refine lv_aload_n hx hb d_B_load_4 rfl (lv_at hl 0 rfl) ?_
  refine pf_get (v := .ref (g.lk B 0)) (C := "BigRunner") (T := FT0) (N := 5) hx hb (hw0 hB _) (fun _ h9 => h9) hown hK hP (lo_in hL t_B (by decide)) eB rfl 0 (by decide) (wd_378 hB _) rfl d_B_load_5 ?_
  refine lv_aload_n hx hb d_B_load_8 rfl (lv_at hl 0 rfl) ?_
  refine pf_get (v := .int (nI n)) (C := "BigRunner") (T := FT0) (N := 5) hx hb (hw0 hB _) (fun _ h9 => h9) hown hK hP (lo_in hL t_B (by decide)) eB rfl 1 (by decide) (wd_379 hB _) rfl d_B_load_9 ?_
  obtain ⟨sc_2, nc_3, e1, c4, c5⟩ := oc_7.of t_PR (hI.1 PR)
  refine pcc_i (va_runV (C := "BigRunner$Reader") (As := [.ref (g.lk B 0), .int (nI n)]) (rest := []) ⟨hx, hb, hml, hown, tb_nil⟩ (c2_readsU l g s.heap.size f ((g.lk B 2)) ((g.lk B 0)) n PR hT tx ln0 ax0 sc_2 nc_3 pr hL (lo_k1_2 hL _ t_B) (lo_k1_0 hL _ t_B) t_PR t_pr hI eR eT cT (by omega) (by omega) (by omega) e1 (by omega) (by omega) hPR) ⟨(callB_of 2 (tb_one (wd_457 hB _)) tb_good1 rfl rfl rfl (wd_73 hB _) (wd_454 hB _) (by decide +kernel) ⟨Nat.le_of_ble_eq_true rfl, Nat.le_of_ble_eq_true rfl⟩), (wd_455 hB _), (wd_456 hB _)⟩ ⟨pe_bl, pg_recv (ci := 7) hK hP (lo_in hL (lo_k1_2 hL _ t_B) (by decide)) eR rfl, pe_pre hB hK hP hD⟩ rfl rfl hl.1 rfl (lv_room (Nat.le_of_ble_eq_true rfl)) d_B_load_12 ⟨Nat.le_of_ble_eq_true rfl, Nat.le_of_ble_eq_true rfl⟩) hS (fun r6 f7 H locs hq8 hP hD hS => ?_)
  obtain ⟨rs_9, fr_10, hI1_11, hu1_12⟩ := hq8
  have hu := hu.tr hu1_12 (by decide)
  have eB := hu1_12.at t_B (by decide) eB
  have eT := hu1_12.at (lo_k1_0 hL _ t_B) (by decide) eT
  have eX := hu1_12.at (lo_k1_3 hL _ t_B) (by decide) eX
  have e25 := fr_10.1.trans eP
  have hi1 := hi1.un hL t_PR hu1_12 (by decide)
  have hi2 := hi2.un hL t_pr hu1_12 (by decide)
  have hce := hce.un hL t_pr hu1_12 (by decide)
  rcases rs_9 with ⟨s1_13, n1_14, c15, c16, c17, c18, e19, e20, hsg21, hnj22, hsp23, rfl⟩ | ⟨c24, ⟨a9_26, c27, e28⟩, rfl⟩
  · skip
    have hub : un [1, 3, 5, 6, 8, 9, 23, 27] g f7 f7 := un.rf
    have hub8 : un [8] g f7 f7 := un.rf
    obtain ⟨hren9, hprs9⟩ := hsp23
    have hPRS9 := hprs9 _ (NBA_ex (ox_s (tk hT n) (vc hT n) 400 1 1 0 0) 0 0 0)
    have hL10 := PRS_10 hsg21 (ox_s (tk hT n) (vc hT n) 400 1 1 0 0) _ _ _ _ _ _ _ _ ox_s_b.2 hren9 (Nat.le_refl _) hPRS9
    refine lv_if_ne (tgt := 28) hx hb d_B_load_15 (by decide) (fun b29 => ?_) (fun b29 => ?_)
    · skip
      replace b29 := mt (nI_eq (a := 1) (b := 0) (by omega) (by omega)).mpr b29
      refine lv_aload_n hx hb d_B_load_28 rfl (lv_at hl 0 rfl) ?_
      refine pf_get (v := .ref (g.lk B 2)) (C := "BigRunner") (T := FT0) (N := 5) hx hb (hw0 hB _) (fun _ h9 => h9) hown hK hP (lo_in hL t_B (by decide)) eB rfl 2 (by decide) (wd_380 hB _) rfl d_B_load_29 ?_
      refine pf_get (v := .ref PR) (C := "BigRunner$Reader") (T := FT7) (N := 4) hx hb (hw7 hB _) (fun _ h9 => h9) hown hK hP (lo_in hL (lo_k1_2 hL _ t_B) (by decide)) e19 rfl 3 (by decide) (wd_274 hB _) rfl d_B_load_32 ?_
      refine lv_astore_n (lv' := [(1, .ref PR), (0, .ref B)]) hx hb d_B_load_35 rfl hl (by decide) rfl (fun ls hl => ?_)
      refine lv_aload_n hx hb d_B_load_36 rfl (lv_at hl 1 rfl) ?_
      refine pf_get (v := .ref (g.lk B 2)) (C := "BigRunner") (T := FT0) (N := 5) hx hb (hw0 hB _) (fun _ h9 => h9) hown hK hP (lo_in hL t_B (by decide)) eB rfl 2 (by decide) (wd_380 hB _) rfl d_B_load_37 ?_
      refine lv_aload_n hx hb d_B_load_40 rfl (lv_at hl 1 rfl) ?_
      refine pf_get (v := .ref (g.lk B 3)) (C := "BigRunner") (T := FT0) (N := 5) hx hb (hw0 hB _) (fun _ h9 => h9) hown hK hP (lo_in hL t_B (by decide)) eB rfl 3 (by decide) (wd_381 hB _) rfl d_B_load_41 ?_
      refine pf_get (v := .ref pr) (C := "BigRunner$Runner") (T := FT8) (N := 13) hx hb (hw8 hB _) (fun _ h9 => h9) hown hK hP (lo_in hL (lo_k1_3 hL _ t_B) (by decide)) eX rfl 0 (by decide) (wd_331 hB _) rfl d_B_load_44 ?_
      refine pf_put (v := .ref pr) (ty := (.object "BigRunner$Program")) (fs' := [.ref (g.lk B 0), .int (nI n), .int (nI n), .ref pr]) (C := "BigRunner$Reader") (T := FT7) (N := 4) hx hb (hw7 hB _) (fun _ h9 => h9) TY7 ok7 nm7 hown hK hP hD hS (lo_in hL (lo_k1_2 hL _ t_B) (by decide)) e19 rfl 3 (by decide) (wd_274 hB _) rfl (by decide +kernel) rfl rfl (Nat.le_of_ble_eq_true rfl) rfl d_B_load_47 (fun f30 H locs e31 k32 hP hD hS => ?_)
      have eB := (k32 B (tg_ne t_B (lo_k1_2 hL _ t_B) (by decide))).trans eB
      have eT := (k32 (g.lk B 0) (tg_ne (lo_k1_0 hL _ t_B) (lo_k1_2 hL _ t_B) (by decide))).trans eT
      have eX := (k32 (g.lk B 3) (tg_ne (lo_k1_3 hL _ t_B) (lo_k1_2 hL _ t_B) (by decide))).trans eX
      have e25 := (k32 pr (tg_ne t_pr (lo_k1_2 hL _ t_B) (by decide))).trans e25
      have e20 := (k32 PR (tg_ne t_PR (lo_k1_2 hL _ t_B) (by decide))).trans e20
      have hu := hu.st k32 (lo_k1_2 hL _ t_B) (by decide)
      have hub := hub.st k32 (lo_k1_2 hL _ t_B) (by decide)
      have hub8 := hub8.st k32 (lo_k1_2 hL _ t_B) (by decide)
      have hk33 : ∀ b, b ≠ (g.lk B 2) → f30 b = f7 b := k32
      refine lv_aload_n hx hb d_B_load_50 rfl (lv_at hl 0 rfl) ?_
      have hin9 := (hi1.un hL t_PR hub8 (by decide)).in
      have hI34 := iv_1 hI1_11 hL (lo_k1_2 hL _ t_B) (by decide) hk33 (oc_8.mk (lo_k1_2 hL _ t_B) (⟨(.ref (g.lk B 0)), n, n, pr, e31, (by omega), (by omega), t_pr⟩))
      refine pcc_i (va_runV (C := "BigRunner$Program") (As := []) (rest := []) ⟨hx, hb, hml, hown, tb_nil⟩ (c2_findIntervals l g H.size f30 PR s1_13 n1_14 (((ox_s (tk hT n) (vc hT n) 400 1 1 0 0))) ((nbm 0 0 0 (ox_s (tk hT n) (vc hT n) 400 1 1 0 0))) hL t_PR hI34 e20 (by omega) (by omega) (PRS_eq _ _ _ _ _ _ _ _ _ hren9 hPRS9 (fun j h1 h2 => hub8 _ (by rw [lo_e24 hL _ (lo_k7_0 hL PR t_PR) j (by omega)]; decide)) (fun j h1 h2 => hub8 _ (by rw [lo_e25 hL _ (lo_k7_2 hL PR t_PR) j (by omega)]; decide))) hren9 ox_s_b.1 hL10 hin9) ⟨(callB_of 0 (tb_one (wd_594 hB _)) tb_good1 rfl rfl rfl (wd_74 hB _) (wd_591 hB _) (by decide +kernel) ⟨Nat.le_of_ble_eq_true rfl, Nat.le_of_ble_eq_true rfl⟩), (wd_592 hB _), (wd_593 hB _)⟩ ⟨pe_bl, pg_recv (ci := 6) hK hP (lo_in hL t_PR (by decide)) e20 rfl, pe_pre hB hK hP hD⟩ rfl rfl hl.1 rfl (lv_room (Nat.le_of_ble_eq_true rfl)) d_B_load_51 ⟨Nat.le_of_ble_eq_true rfl, Nat.le_of_ble_eq_true rfl⟩) hS (fun r35 f36 H locs hq37 hP hD hS => ?_)
      obtain ⟨qv_38, ev_39, r24_40, fr_41, hI1_42, hu1_43⟩ := hq37
      subst qv_38
      have hu := hu.tr hu1_43 (by decide)
      have hub := hub.tr hu1_43 (by decide)
      have eB := hu1_43.at t_B (by decide) eB
      have eT := hu1_43.at (lo_k1_0 hL _ t_B) (by decide) eT
      have eX := hu1_43.at (lo_k1_3 hL _ t_B) (by decide) eX
      have e25 := hu1_43.at t_pr (by decide) e25
      have e20 := hu1_43.at t_PR (by decide) e20
      have e31 := hu1_43.at (lo_k1_2 hL _ t_B) (by decide) e31
      have hr24 := r24_40
      have hev9 := ev_39
      have hj1 : OIN g f36 PR := (fr_41 PR t_PR).trans (hi1.un hL t_PR hub8 (by decide))
      have hj2 : OIN g f36 pr := (fr_41 pr t_pr).trans (hi2.un hL t_pr hub8 (by decide))
      have hub3 : un [1, 5, 9, 23, 27] g f36 f36 := un.rf
      refine lv_istore_n (lv' := [(2, .int (nI (rds ((ox_s (tk hT n) (vc hT n) 400 1 1 0 0)) 30 1 (fun _ => zI)).1)), (1, .ref PR), (0, .ref B)]) hx hb d_B_load_54 rfl hl (by decide) rfl (fun ls hl => ?_)
      refine lv_aload_n hx hb d_B_load_55 rfl (lv_at hl 2 rfl) ?_
      refine pf_get (v := .ref (g.lk B 3)) (C := "BigRunner") (T := FT0) (N := 5) hx hb (hw0 hB _) (fun _ h9 => h9) hown hK hP (lo_in hL t_B (by decide)) eB rfl 3 (by decide) (wd_381 hB _) rfl d_B_load_56 ?_
      refine lv_aload_n hx hb d_B_load_59 rfl (lv_at hl 1 rfl) ?_
      refine pcc_v (va_runV (C := "BigRunner$Runner") (As := [.ref PR]) (rest := []) ⟨hx, hb, hml, hown, tb_nil⟩ (c_begin l g H.size f36 ((g.lk B 3)) pr ix os st mo lo tr PR hL (lo_k1_3 hL _ t_B) t_pr t_PR hI1_42 eX (by omega) (by omega) (by omega) (by omega)) ⟨(callB_of 1 (tb_one (wd_676 hB _)) tb_good1 rfl rfl rfl (wd_79 hB _) (wd_673 hB _) (by decide +kernel) ⟨Nat.le_of_ble_eq_true rfl, Nat.le_of_ble_eq_true rfl⟩), (wd_674 hB _), (wd_675 hB _)⟩ ⟨pe_bl, pg_recv (ci := 8) hK hP (lo_in hL (lo_k1_3 hL _ t_B) (by decide)) eX rfl, pe_pre hB hK hP hD⟩ rfl rfl hl.1 rfl (lv_room (Nat.le_of_ble_eq_true rfl)) d_B_load_60 ⟨Nat.le_of_ble_eq_true rfl, Nat.le_of_ble_eq_true rfl⟩) hS (fun f45 H locs hq46 hP hD hS => ?_)
      obtain ⟨x1_47, hI1_48, hu1_49⟩ := hq46
      have hu := hu.tr hu1_49 (by decide)
      have hub := hub.tr hu1_49 (by decide)
      have hub3 := hub3.tr hu1_49 (by decide)
      have eB := hu1_49.at t_B (by decide) eB
      have eT := hu1_49.at (lo_k1_0 hL _ t_B) (by decide) eT
      have e25 := hu1_49.at t_pr (by decide) e25
      have e20 := hu1_49.at t_PR (by decide) e20
      have e31 := hu1_49.at (lo_k1_2 hL _ t_B) (by decide) e31
      refine lv_aload_n hx hb d_B_load_63 rfl (lv_at hl 2 rfl) ?_
      refine lv_iconst (v := nI 1) hx hb d_B_load_64 (by decide) ?_
      refine pf_put (v := .int (nI 1)) (ty := .boolean) (fs' := [.ref (g.lk B 0), .int (nI n), .ref (g.lk B 2), .ref (g.lk B 3), .int (nI 1)]) (C := "BigRunner") (T := FT0) (N := 5) hx hb (hw0 hB _) (fun _ h9 => h9) TY0 ok0 nm0 hown hK hP hD hS (lo_in hL t_B (by decide)) eB rfl 4 (by decide) (wd_382 hB _) rfl (by decide +kernel) rfl rfl (Nat.le_of_ble_eq_true rfl) rfl d_B_load_65 (fun f50 H locs e51 k52 hP hD hS => ?_)
      have eT := (k52 (g.lk B 0) (tg_ne (lo_k1_0 hL _ t_B) t_B (by decide))).trans eT
      have e25 := (k52 pr (tg_ne t_pr t_B (by decide))).trans e25
      have e20 := (k52 PR (tg_ne t_PR t_B (by decide))).trans e20
      have e31 := (k52 (g.lk B 2) (tg_ne (lo_k1_2 hL _ t_B) t_B (by decide))).trans e31
      have x1_47 := (k52 (g.lk B 3) (tg_ne (lo_k1_3 hL _ t_B) t_B (by decide))).trans x1_47
      have hu := hu.st k52 t_B (by decide)
      have hub := hub.st k52 t_B (by decide)
      have hub3 := hub3.st k52 t_B (by decide)
      have hk53 : ∀ b, b ≠ B → f50 b = f45 b := k52
      refine lv_aload_n hx hb d_B_load_68 rfl (lv_at hl 2 rfl) ?_
      refine lv_iconst (v := nI 0) hx hb d_B_load_69 (by decide) ?_
      refine pf_put (v := .int (nI 0)) (ty := .int) (fs' := [.ref (g.lk B 0), .int (nI 0), .ref (g.lk B 2), .ref (g.lk B 3), .int (nI 1)]) (C := "BigRunner") (T := FT0) (N := 5) hx hb (hw0 hB _) (fun _ h9 => h9) TY0 ok0 nm0 hown hK hP hD hS (lo_in hL t_B (by decide)) e51 rfl 1 (by decide) (wd_379 hB _) rfl (by decide +kernel) rfl rfl (Nat.le_of_ble_eq_true rfl) rfl d_B_load_70 (fun f54 H locs e55 k56 hP hD hS => ?_)
      have eT := (k56 (g.lk B 0) (tg_ne (lo_k1_0 hL _ t_B) t_B (by decide))).trans eT
      have e25 := (k56 pr (tg_ne t_pr t_B (by decide))).trans e25
      have e20 := (k56 PR (tg_ne t_PR t_B (by decide))).trans e20
      have e31 := (k56 (g.lk B 2) (tg_ne (lo_k1_2 hL _ t_B) t_B (by decide))).trans e31
      have x1_47 := (k56 (g.lk B 3) (tg_ne (lo_k1_3 hL _ t_B) t_B (by decide))).trans x1_47
      have hu := hu.st k56 t_B (by decide)
      have hub := hub.st k56 t_B (by decide)
      have hub3 := hub3.st k56 t_B (by decide)
      have hk57 : ∀ b, b ≠ B → f54 b = f45 b := fun b q0 => (k56 b q0).trans (hk53 b q0)
      refine lv_iload_n hx hb d_B_load_73 rfl (lv_at hl 0 rfl) ?_
      have hI58 := iv_1 hI1_48 hL t_B (by decide) hk57 (oc_1.mk t_B (⟨0, ((nI 1)), e55, (by omega), (Or.inr rfl)⟩))
      exact pt_iret hx hb hr hlocks hK hP hD hS d_B_load_74 ⟨_, rfl, ⟨c18, rfl, hr24, ⟨(nI 1), (.ref (g.lk B 0)), n, n, pr, PR, 0, 0, 0, (nI 0), (nI 0), 0, s1_13, n1_14, t_pr, t_PR, e55, by omega, (Or.inr rfl), eT, cT, e31, by omega, by omega, x1_47, by omega, by omega, by omega, by omega, (Ne.symm hPR), e20, by omega, by omega, SG_un hsg21 hL t_PR (by omega) hub (by decide), (Or.inr (nj_un hnj22 hL t_PR (by omega) hub (by decide))), hj2.un hL t_pr hub3 (by decide), hj1.un hL t_PR hub3 (by decide), ⟨rfl, EV_fr hL t_PR hev9 (fun v hv => hub3 _ (by rw [lo_e26 hL _ (lo_k7_4 hL PR t_PR) v hv]; decide))⟩⟩, hI58, hu⟩⟩
    · skip
      replace b29 := (nI_eq (a := 1) (b := 0) (by omega) (by omega)).mp b29
      exfalso; omega
  · skip
    refine lv_if_ne (tgt := 28) hx hb d_B_load_15 (by decide) (fun b59 => ?_) (fun b59 => ?_)
    · skip
      replace b59 := mt (nI_eq (a := 0) (b := 0) (by omega) (by omega)).mpr b59
      exfalso; omega
    · skip
      replace b59 := (nI_eq (a := 0) (b := 0) (by omega) (by omega)).mp b59
      exact pt_throw (own := "BigRunner") (cls := "java/lang/IllegalArgumentException") (text := "the line is no PROGRAM") (names := ["java/lang/RuntimeException", "java/lang/Exception"]) hx hb (hl.1.trans hml.symm) hlocks hno hLt hown (by decide +kernel) (by decide +kernel) hB hTZ (fun U hB hH => ⟨(wd_521 hB _), (wd_522 hB _), (wd_87 hB _), (wd_564 hB _), oa_2 hB hH _⟩) hK hP hD hS d_B_load_18 d_B_load_21 d_B_load_22 d_B_load_24 d_B_load_27 (Nat.le_of_ble_eq_true rfl) (Nat.le_of_ble_eq_true rfl) (Nat.le_of_ble_eq_true rfl) (Nat.le_of_ble_eq_true rfl) ⟨rfl, c24, ⟨ld, (.ref (g.lk B 0)), n, a9_26, PR, pr, ix, os, st, mo, lo, tr, sn, nn, t_PR, t_pr, eB, by omega, hld, eT, cT, e28, by omega, by omega, eX, by omega, by omega, by omega, by omega, hPR, e25, by omega, by omega, SG_eq hSG (fun i _ q => fr_10.2 i (by omega)), (by rcases Nat.lt_or_ge ix sn with q | q; exact Or.inr (nj_eq (hnj.resolve_left (by omega)) (fr_10.2 ix (by omega))); exact Or.inl q), hi1, hi2, hce⟩, hI1_11, hu⟩
