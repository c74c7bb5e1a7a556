def CE (g : Lay) (f : Nat → va_E) (pr : Nat) (ld : Int32) : Option (Nat → IVL) → Prop
  | none => ld = nI 0
  | some en => ld = nI 1 ∧ EV g f pr en
theorem CE.un {g : Lay} {f f1 : Nat → va_E} {pr : Nat} {ld : Int32} {sg : Option (Nat → IVL)} {W : List Nat} (h : CE g f pr ld sg) (hL : LO g) (t : g.tg pr = 7) (hu : un W g f f1) (hW : 3 ∉ W) : CE g f1 pr ld sg := by
  cases sg with
  | none => exact h
  | some en => exact ⟨h.1, EV_fr hL t h.2 (fun v hv => hu _ (by rw [lo_e26 hL _ (lo_k7_4 hL pr t) v hv]; exact hW))⟩
def CK (g : Lay) (B : Nat) (f : Nat → va_E) (n : Nat) (hT : Nat → Int32) (sg : Option (Nat → IVL)) : Prop := ∃ (ld : Int32) (tx : Value) (ln0 : Nat) (ax0 : Nat) (PR : Nat) (pr : Nat) (ix : Nat) (os : Nat) (st : Nat) (mo : Int32) (lo : Int32) (tr : Nat) (sn : Nat) (nn : Nat), g.tg PR = 7 ∧ g.tg pr = 7 ∧ (f B = .inr (0, [.ref (g.lk B 0), .int (nI n), .ref (g.lk B 2), .ref (g.lk B 3), .int ld])) ∧ (n ≤ 72) ∧ (ld = nI 0 ∨ ld = nI 1) ∧ (f (g.lk B 0) = .inl (g.ac (g.lk B 0), 72, .inl hT)) ∧ (∀ i, i < 72 → vp_nar .char (hT i) = hT i) ∧ (f (g.lk B 2) = .inr (7, [tx, .int (nI ln0), .int (nI ax0), .ref PR])) ∧ (ln0 ≤ 72) ∧ (ax0 ≤ 72) ∧ (f (g.lk B 3) = .inr (8, [.ref pr, .ref (g.lk (g.lk B 3) 1), .int (nI ix), .ref (g.lk (g.lk B 3) 3), .ref (g.lk (g.lk B 3) 4), .ref (g.lk (g.lk B 3) 5), .ref (g.lk (g.lk B 3) 6), .ref (g.lk (g.lk B 3) 7), .int (nI os), .int (nI st), .int mo, .int lo, .int (nI tr)])) ∧ (ix ≤ 36) ∧ (os ≤ st) ∧ (st ≤ 3000) ∧ (tr ≤ 3) ∧ (PR ≠ pr) ∧ (f pr = .inr (6, [.ref (g.lk pr 0), .int (nI sn), .ref (g.lk pr 2), .int (nI nn), .ref (g.lk pr 4), .ref (g.lk pr 5)])) ∧ (sn ≤ 36) ∧ (nn ≤ 72) ∧ (SG g f pr 0 sn) ∧ (sn ≤ ix ∨ nj g f pr ix) ∧ (OIN g f PR) ∧ (OIN g f pr) ∧ (CE g f pr ld sg)
theorem CK.un {g : Lay} {B n : Nat} {hT : Nat → Int32} {sg : Option (Nat → IVL)} {f f1 : Nat → va_E} (hL : LO g) (t_B : g.tg B = 1) {W : List Nat} (h : CK g B f n hT sg) (hu : un W g f f1) (hW : ∀ x ∈ [1, 3, 7, 8, 9, 10, 20], x ∉ W) : CK g B f1 n hT sg := by
  obtain ⟨ld, tx, ln0, ax0, PR, pr, ix, os, st, mo, lo, tr, sn, nn, t_PR, t_pr, eB, hn, hld, eT, cT, eR, hl0, ha0, eX, hix, hos, hst, htr, hPR, eP, hsn, hnn, hSG, hnj, hi1, hi2, hce⟩ := h
  exact ⟨ld, tx, ln0, ax0, PR, pr, ix, os, st, mo, lo, tr, sn, nn, t_PR, t_pr, hu.at t_B (hW 1 (by decide)) eB, hn, hld, hu.at (lo_k1_0 hL _ t_B) (hW 20 (by decide)) eT, cT, hu.at (lo_k1_2 hL _ t_B) (hW 8 (by decide)) eR, hl0, ha0, hu.at (lo_k1_3 hL _ t_B) (hW 9 (by decide)) eX, hix, hos, hst, htr, hPR, hu.at t_pr (hW 7 (by decide)) eP, hsn, hnn, SG_un hSG hL t_pr hsn hu (hW 10 (by decide)), (by rcases Nat.lt_or_ge ix sn with q | q; exact Or.inr (nj_un (hnj.resolve_left (by omega)) hL t_pr (by omega) hu (hW 10 (by decide))); exact Or.inl q), hi1.un hL t_PR hu (hW 3 (by decide)), hi2.un hL t_pr hu (hW 3 (by decide)), hce.un hL t_pr hu (hW 3 (by decide))⟩
set_option maxHeartbeats 4000000 in
set_option maxRecDepth 100000 in
theorem c3_reads (l : Launch) (g : Lay) (sz : Nat) (f : Nat → va_E) (Rd : Nat) (tl : Nat) (ln : Nat) (P : Nat) (hT : Nat → Int32) (tx : Value) (ln0 : Nat) (ax0 : Nat) (sn : Nat) (nn : Nat) (hL : LO g) (t_Rd : g.tg Rd = 8) (t_tl : g.tg tl = 20) (t_P : g.tg P = 7) (hI : IV g f) (eR : f Rd = .inr (7, [tx, .int (nI ln0), .int (nI ax0), .ref P])) (eT : f tl = .inl (g.ac tl, 72, .inl hT)) (cT : ∀ i, i < 72 → vp_nar .char (hT i) = hT i) (hln : ln ≤ 72) (hl0 : ln0 ≤ 72) (ha0 : ax0 ≤ 72) (eP : f P = .inr (6, [.ref (g.lk P 0), .int (nI sn), .ref (g.lk P 2), .int (nI nn), .ref (g.lk P 4), .ref (g.lk P 5)])) (hsn : sn ≤ 36) (hnn : nn ≤ 72) : Met l ⟨"BigRunner$Reader", "reads", "([CI)Z"⟩ [Cond.code ⟨"BigRunner$Reader", "reads", "([CI)Z"⟩ prog_8_method_2_code 3 (some .boolean)] ({ frames := 1211, cells := 0, slots := 0, locals := 37022 }) (va_Pc [.ref Rd, .ref tl, .int (nI ln)] (pc_in g sz f)) (va_Qi (fun r f1 => ((∃ (s1 n1 : Nat), s1 ≤ 36 ∧ n1 ≤ 72 ∧ 0 < s1 ∧ px_s (tk hT ln) 400 1 1 0 = some ln ∧ f1 Rd = .inr (7, [.ref tl, .int (nI ln), .int (nI ln), .ref P]) ∧ f1 P = .inr (6, [.ref (g.lk P 0), .int (nI s1), .ref (g.lk P 2), .int (nI n1), .ref (g.lk P 4), .ref (g.lk P 5)]) ∧ SG g f1 P 0 s1 ∧ nj g f1 P 0 ∧ SRP g f1 P 0 0 s1 n1 (ox_s (tk hT ln) (vc hT ln) 400 1 1 0 0) ∧ r = nI 1) ∨ (px_s (tk hT ln) 400 1 1 0 ≠ some ln ∧ (∃ a9 : Nat, a9 ≤ 72 ∧ f1 Rd = .inr (7, [.ref tl, .int (nI ln), .int (nI a9), .ref P])) ∧ r = nI 0)) ∧ (IV g f1) ∧ (un [6, 7, 8, 10] g f f1)) (pc_out g sz) (pc_A g sz)) 0 0 (pc_A g sz) := by
  refine pe_ofW (cc := prog_8_method_2_code) (maxL := 3) (ret := (some .boolean)) (lv := [(0, .ref Rd), (1, .ref tl), (2, .int (nI ln))]) (by decide) (Nat.le_of_ble_eq_true rfl) rfl ?_
  intro p e s m args below meth c ls hx hb hr hml hlocks hown hB hP hK hD hsz hS hl
  subst hsz
  have hu : un [6, 7, 8, 10] g f f := un.rf
  refine lv_aload_n hx hb d_NReader_reads_0 rfl (lv_at hl 0 rfl) ?_
  refine lv_aload_n hx hb d_NReader_reads_1 rfl (lv_at hl 1 rfl) ?_
  refine pf_put (v := .ref tl) (ty := (.array .char)) (fs' := [.ref tl, .int (nI ln0), .int (nI ax0), .ref P]) (C := "BigRunner$Reader") (T := FT7) (N := 4) hx hb (hw7 hB _) (fun _ h9 => h9) TY7 ok7 nm7 hown hK hP hD hS (lo_in hL t_Rd (by decide)) eR rfl 0 (by decide) (wd_270 hB _) rfl (by decide +kernel) rfl rfl (Nat.le_of_ble_eq_true rfl) rfl d_NReader_reads_2 (fun f1 H locs e2 k3 hP hD hS => ?_)
  have eT := (k3 tl (tg_ne t_tl t_Rd (by decide))).trans eT
  have eP := (k3 P (tg_ne t_P t_Rd (by decide))).trans eP
  have hu := hu.st k3 t_Rd (by decide)
  have hk4 : ∀ b, b ≠ Rd → f1 b = f b := k3
  refine lv_aload_n hx hb d_NReader_reads_5 rfl (lv_at hl 0 rfl) ?_
  refine lv_iload_n hx hb d_NReader_reads_6 rfl (lv_at hl 2 rfl) ?_
  refine lv_aload_n hx hb d_NReader_reads_7 rfl (lv_at hl 1 rfl) ?_
  refine pf_alen (n := 72) hx hb hK hP (lo_in hL t_tl (by decide)) eT rfl (lo_t20 hL _ t_tl) d_NReader_reads_8 ?_
  refine va_mmin hx hb (hml.trans hl.1.symm) hown (wd_458 hB _) (wd_459 hB _) (wd_83 hB _) (wd_460 hB _) (Nat.le_of_ble_eq_true rfl) (Nat.le_of_ble_eq_true rfl) (Nat.le_of_ble_eq_true rfl) (Nat.le_of_ble_eq_true rfl) d_NReader_reads_9 ?_
  refine lv_topi (fun z_ hz_ => ?_)
  obtain ⟨mn5, hmn5⟩ : ∃ z : Nat, z = min ln 72 := ⟨_, rfl⟩
  obtain rfl : z_ = nI mn5 := by rw [hz_, hmn5]; exact mi_min (a := ln) (b := 72) (by omega) (by omega)
  refine lv_topi (fun z_ hz_ => ?_)
  obtain rfl : z_ = nI (ln) := hz_.trans (congrArg nI (show mn5 = ln by omega))
  refine pf_put (v := .int (nI ln)) (ty := .int) (fs' := [.ref tl, .int (nI ln), .int (nI ax0), .ref P]) (C := "BigRunner$Reader") (T := FT7) (N := 4) hx hb (hw7 hB _) (fun _ h9 => h9) TY7 ok7 nm7 hown hK hP hD hS (lo_in hL t_Rd (by decide)) e2 rfl 1 (by decide) (wd_271 hB _) rfl (by decide +kernel) rfl rfl (Nat.le_of_ble_eq_true rfl) rfl d_NReader_reads_12 (fun f6 H locs e7 k8 hP hD hS => ?_)
  have eT := (k8 tl (tg_ne t_tl t_Rd (by decide))).trans eT
  have eP := (k8 P (tg_ne t_P t_Rd (by decide))).trans eP
  have hu := hu.st k8 t_Rd (by decide)
  have hk9 : ∀ b, b ≠ Rd → f6 b = f b := fun b q0 => (k8 b q0).trans (hk4 b q0)
  refine lv_aload_n hx hb d_NReader_reads_15 rfl (lv_at hl 0 rfl) ?_
  refine lv_iconst (v := nI 0) hx hb d_NReader_reads_16 (by decide) ?_
  refine pf_put (v := .int (nI 0)) (ty := .int) (fs' := [.ref tl, .int (nI ln), .int (nI 0), .ref P]) (C := "BigRunner$Reader") (T := FT7) (N := 4) hx hb (hw7 hB _) (fun _ h9 => h9) TY7 ok7 nm7 hown hK hP hD hS (lo_in hL t_Rd (by decide)) e7 rfl 2 (by decide) (wd_272 hB _) rfl (by decide +kernel) rfl rfl (Nat.le_of_ble_eq_true rfl) rfl d_NReader_reads_17 (fun f10 H locs e11 k12 hP hD hS => ?_)
  have eT := (k12 tl (tg_ne t_tl t_Rd (by decide))).trans eT
  have eP := (k12 P (tg_ne t_P t_Rd (by decide))).trans eP
  have hu := hu.st k12 t_Rd (by decide)
  have hk13 : ∀ b, b ≠ Rd → f10 b = f b := fun b q0 => (k12 b q0).trans (hk9 b q0)
  refine lv_aload_n hx hb d_NReader_reads_20 rfl (lv_at hl 0 rfl) ?_
  refine pf_get (v := .ref P) (C := "BigRunner$Reader") (T := FT7) (N := 4) hx hb (hw7 hB _) (fun _ h9 => h9) hown hK hP (lo_in hL t_Rd (by decide)) e11 rfl 3 (by decide) (wd_273 hB _) rfl d_NReader_reads_21 ?_
  refine lv_iconst (v := nI 0) hx hb d_NReader_reads_24 (by decide) ?_
  have hI14 := iv_1 hI hL t_Rd (by decide) hk13 (oc_8.mk t_Rd (⟨(.ref tl), ln, 0, P, e11, (by omega), (by omega), t_P⟩))
  refine pf_put (v := .int (nI 0)) (ty := .int) (fs' := [.ref (g.lk P 0), .int (nI 0), .ref (g.lk P 2), .int (nI nn), .ref (g.lk P 4), .ref (g.lk P 5)]) (C := "BigRunner$Program") (T := FT6) (N := 6) hx hb (hw6 hB _) (fun _ h9 => h9) TY6 ok6 nm6 hown hK hP hD hS (lo_in hL t_P (by decide)) eP rfl 1 (by decide) (wd_246 hB _) rfl (by decide +kernel) rfl rfl (Nat.le_of_ble_eq_true rfl) rfl d_NReader_reads_25 (fun f15 H locs e16 k17 hP hD hS => ?_)
  have eT := (k17 tl (tg_ne t_tl t_P (by decide))).trans eT
  have e11 := (k17 Rd (tg_ne t_Rd t_P (by decide))).trans e11
  have hu := hu.st k17 t_P (by decide)
  have hk18 : ∀ b, b ≠ P → f15 b = f10 b := k17
  refine lv_aload_n hx hb d_NReader_reads_28 rfl (lv_at hl 0 rfl) ?_
  refine pf_get (v := .ref P) (C := "BigRunner$Reader") (T := FT7) (N := 4) hx hb (hw7 hB _) (fun _ h9 => h9) hown hK hP (lo_in hL t_Rd (by decide)) e11 rfl 3 (by decide) (wd_273 hB _) rfl d_NReader_reads_29 ?_
  refine lv_iconst (v := nI 0) hx hb d_NReader_reads_32 (by decide) ?_
  refine pf_put (v := .int (nI 0)) (ty := .int) (fs' := [.ref (g.lk P 0), .int (nI 0), .ref (g.lk P 2), .int (nI 0), .ref (g.lk P 4), .ref (g.lk P 5)]) (C := "BigRunner$Program") (T := FT6) (N := 6) hx hb (hw6 hB _) (fun _ h9 => h9) TY6 ok6 nm6 hown hK hP hD hS (lo_in hL t_P (by decide)) e16 rfl 3 (by decide) (wd_252 hB _) rfl (by decide +kernel) rfl rfl (Nat.le_of_ble_eq_true rfl) rfl d_NReader_reads_33 (fun f19 H locs e20 k21 hP hD hS => ?_)
  have eT := (k21 tl (tg_ne t_tl t_P (by decide))).trans eT
  have e11 := (k21 Rd (tg_ne t_Rd t_P (by decide))).trans e11
  have hu := hu.st k21 t_P (by decide)
  have hk22 : ∀ b, b ≠ P → f19 b = f10 b := fun b q0 => (k21 b q0).trans (hk18 b q0)
  refine lv_aload_n hx hb d_NReader_reads_36 rfl (lv_at hl 0 rfl) ?_
  refine lv_iconst (v := nI 1) hx hb d_NReader_reads_37 (by decide) ?_
  have hI23 := iv_1 hI14 hL t_P (by decide) hk22 (oc_7.mk t_P (⟨0, 0, e20, (by omega), (by omega)⟩))
  refine pcc_i (va_runV (C := "BigRunner$Reader") (As := [.int (nI 1)]) (rest := []) ⟨hx, hb, hml, hown, tb_nil⟩ (c2_readProgram l g H.size f19 Rd tl ln 0 P hT 0 0 1 hL t_Rd t_tl t_P hI23 e11 eT cT (by omega) (by omega) e20 (by omega) (by omega) (by omega) (by omega) (by omega)) ⟨(callB_of 1 (tb_one (wd_464 hB _)) tb_good1 rfl rfl rfl (wd_73 hB _) (wd_461 hB _) (by decide +kernel) ⟨Nat.le_of_ble_eq_true rfl, Nat.le_of_ble_eq_true rfl⟩), (wd_463 hB _), (wd_2 hB _)⟩ ⟨pe_bl, pg_recv (ci := 7) hK hP (lo_in hL t_Rd (by decide)) e11 rfl, pe_pre hB hK hP hD⟩ rfl rfl hl.1 rfl (lv_room (Nat.le_of_ble_eq_true rfl)) d_NReader_reads_38 ⟨Nat.le_of_ble_eq_true rfl, Nat.le_of_ble_eq_true rfl⟩) hS (fun r24 f25 H locs hq26 hP hD hS => ?_)
  obtain ⟨rs_27, fr_28, frn_29, hI1_30, hu1_31⟩ := hq26
  have hu := hu.tr hu1_31 (by decide)
  have eT := hu1_31.at t_tl (by decide) eT
  rcases rs_27 with ⟨a32, s33, n34, c41, c42, c43, c44, c45, c46, c47, c48, hp37, e35, e36, hsg38, hnj39, hsp40, rfl⟩ | ⟨a32, s33, n34, c41, c42, c43, hp37, e35, e36, rfl⟩
  · skip
    have hfb49 : ∀ i, i < 72 → i < n34 → f25 (g.lk (g.lk P 2) i) = f25 (g.lk (g.lk P 2) i) := fun _ _ _ => rfl
    refine lv_if_eq (tgt := 59) hx hb d_NReader_reads_41 (by decide) (fun b50 => ?_) (fun b50 => ?_)
    · skip
      replace b50 := (nI_eq (a := 1) (b := 0) (by omega) (by omega)).mp b50
      exfalso; omega
    · skip
      replace b50 := mt (nI_eq (a := 1) (b := 0) (by omega) (by omega)).mpr b50
      refine lv_aload_n hx hb d_NReader_reads_44 rfl (lv_at hl 0 rfl) ?_
      refine pf_get (v := .int (nI a32)) (C := "BigRunner$Reader") (T := FT7) (N := 4) hx hb (hw7 hB _) (fun _ h9 => h9) hown hK hP (lo_in hL t_Rd (by decide)) e35 rfl 2 (by decide) (wd_272 hB _) rfl d_NReader_reads_45 ?_
      refine lv_aload_n hx hb d_NReader_reads_48 rfl (lv_at hl 0 rfl) ?_
      refine pf_get (v := .int (nI ln)) (C := "BigRunner$Reader") (T := FT7) (N := 4) hx hb (hw7 hB _) (fun _ h9 => h9) hown hK hP (lo_in hL t_Rd (by decide)) e35 rfl 1 (by decide) (wd_271 hB _) rfl d_NReader_reads_49 ?_
      refine lv_icmp_ne (tgt := 59) hx hb d_NReader_reads_52 (by decide) (fun b51 => ?_) (fun b51 => ?_)
      · skip
        replace b51 := mt (nI_eq (a := a32) (b := ln) (by omega) (by omega)).mpr b51
        refine lv_iconst (v := nI 0) hx hb d_NReader_reads_59 (by decide) ?_
        exact pe_zret hx hb hr hlocks hK hP hD hS d_NReader_reads_60 rfl ⟨(Or.inr ⟨by rw [hp37]; exact fun z => b51 (Option.some.inj z), ⟨a32, by omega, e35⟩, rfl⟩), hI1_30, hu⟩
      · skip
        replace b51 := (nI_eq (a := a32) (b := ln) (by omega) (by omega)).mp b51
        have hend : a32 = ln := by omega
        refine lv_iconst (v := nI 1) hx hb d_NReader_reads_55 (by decide) ?_
        refine lv_goto (tgt := 60) hx hb d_NReader_reads_56 (by decide) ?_
        exact pe_zret hx hb hr hlocks hK hP hD hS d_NReader_reads_60 rfl ⟨(Or.inl ⟨s33, n34, by omega, by omega, by omega, by rw [hp37, hend], by have z := e35; rw [hend] at z; exact z, e36, hsg38, hnj39, hsp40, rfl⟩), hI1_30, hu⟩
  · skip
    refine lv_if_eq (tgt := 59) hx hb d_NReader_reads_41 (by decide) (fun b52 => ?_) (fun b52 => ?_)
    · skip
      replace b52 := (nI_eq (a := 0) (b := 0) (by omega) (by omega)).mp b52
      refine lv_iconst (v := nI 0) hx hb d_NReader_reads_59 (by decide) ?_
      exact pe_zret hx hb hr hlocks hK hP hD hS d_NReader_reads_60 rfl ⟨(Or.inr ⟨(by rw [hp37]; exact fun z => (by cases z)), ⟨a32, by omega, e35⟩, rfl⟩), hI1_30, hu⟩
    · skip
      replace b52 := mt (nI_eq (a := 0) (b := 0) (by omega) (by omega)).mpr b52
      exfalso; omega
