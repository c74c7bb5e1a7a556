set_option maxHeartbeats 4000000 in
set_option maxRecDepth 100000 in
theorem v_judge (l : Launch) (g : Lay) (sz : Nat) (f : Nat → va_E) (P : Nat) (n : Nat) (kd : Nat) (le : Nat) (ri : Nat) (sm : Int32) (mv : Int64) (Y : IVL) (hL : LO g) (t_P : g.tg P = 7) (hI : IV g f) (hn : n < 72) (eN : f (g.lk (g.lk P 2) n) = .inr (5, [.int (nI kd), .int (nI le), .int (nI ri), .ref (g.lk (g.lk (g.lk P 2) n) 3), .int sm, .long mv, .ref (g.lk (g.lk (g.lk P 2) n) 6)])) (hkd : kd ≤ 7) (hlt : 2 ≤ kd → le < n ∧ ri < n) (hkl : le < 72 ∧ ri < 72 ∧ (kd = 1 → le < 10)) (hYr : .inr (2, [.long (cL Y.1), .long (cH Y.2)]) = f (g.lk (g.lk (g.lk P 2) n) 3)) (hKY : iK Y) : Met l ⟨"BigRunner$Program", "judge", "(LBigRunner$Node;)V"⟩ [Cond.code ⟨"BigRunner$Program", "judge", "(LBigRunner$Node;)V"⟩ prog_7_method_6_code 3 none] ({ frames := 2, cells := 0, slots := 0, locals := 41 }) (va_Pc [.ref P, .ref (g.lk (g.lk P 2) n)] (pc_in g sz f)) (va_Qv (fun f1 => (∃ sm1 : Int32, f1 (g.lk (g.lk P 2) n) = .inr (5, [.int (nI kd), .int (nI le), .int (nI ri), .ref (g.lk (g.lk (g.lk P 2) n) 3), .int sm1, .long mv, .ref (g.lk (g.lk (g.lk P 2) n) 6)]) ∧ (sm1 = nI 0 ∨ sm1 = nI 1) ∧ (sm1 = nI 1 ↔ bdd Y ∧ (2 ≤ kd → Tof g f P 3 le = 1 ∧ Tof g f P 3 ri = 1))) ∧ (IV g f1) ∧ (∀ b, b ≠ (g.lk (g.lk P 2) n) → f1 b = f b)) (pc_out g sz) (pc_A g sz)) 0 0 (pc_A g sz) := by
  refine pe_ofW (cc := prog_7_method_6_code) (maxL := 3) (ret := none) (lv := [(0, .ref P), (1, .ref (g.lk (g.lk P 2) n))]) (by decide) (Nat.le_of_ble_eq_true rfl) rfl ?_
  intro p e s m args below meth c ls hx hb hr hml hlocks hown hB hP hK hD hsz hS hl
  subst hsz
  have hu : ∀ b, b ≠ (g.lk (g.lk P 2) n) → f b = f b := fun _ _ => rfl
  have htn9 := lo_n25 hL _ (lo_k7_2 hL _ t_P) n (by omega)
  obtain ⟨hl72, hr72, hk10⟩ := hkl
  have eY := hYr.symm
  refine lv_iconst (v := nI 1) hx hb d_NProgram_judge_0 (by decide) ?_
  refine lv_istore_n (lv' := [(2, .int (nI 1)), (0, .ref P), (1, .ref (g.lk (g.lk P 2) n))]) hx hb d_NProgram_judge_1 rfl hl (by decide) rfl (fun ls hl => ?_)
  refine lv_aload_n hx hb d_NProgram_judge_2 rfl (lv_at hl 2 rfl) ?_
  refine pf_get (v := .int (nI kd)) (C := "BigRunner$Node") (T := FT5) (N := 7) hx hb (hw5 hB _) (fun _ h9 => h9) hown hK hP (lo_in hL (lo_e25 hL _ (lo_k7_2 hL _ t_P) _ (by omega)) (by decide)) eN rfl 0 (by decide) (wd_203 hB _) rfl d_NProgram_judge_3 ?_
  refine lv_iconst (v := nI 2) hx hb d_NProgram_judge_6 (by decide) ?_
  refine lv_icmp_lt (tgt := 46) hx hb d_NProgram_judge_7 (by decide) (fun b1 => ?_) (fun b1 => ?_)
  · skip
    replace b1 := (nI_ltI (a := kd) (b := 2) (by omega) (by omega)).mp b1
    refine lv_aload_n hx hb d_NProgram_judge_46 rfl (lv_at hl 2 rfl) ?_
    refine lv_iload_n hx hb d_NProgram_judge_47 rfl (lv_at hl 0 rfl) ?_
    refine lv_if_eq (tgt := 65) hx hb d_NProgram_judge_48 (by decide) (fun b2 => ?_) (fun b2 => ?_)
    · skip
      replace b2 := (nI_eq (a := 1) (b := 0) (by omega) (by omega)).mp b2
      exfalso; omega
    · skip
      replace b2 := mt (nI_eq (a := 1) (b := 0) (by omega) (by omega)).mpr b2
      refine lv_aload_n hx hb d_NProgram_judge_51 rfl (lv_at hl 2 rfl) ?_
      refine pf_get (v := .ref (g.lk (g.lk (g.lk P 2) n) 3)) (C := "BigRunner$Node") (T := FT5) (N := 7) hx hb (hw5 hB _) (fun _ h9 => h9) hown hK hP (lo_in hL (lo_e25 hL _ (lo_k7_2 hL _ t_P) _ (by omega)) (by decide)) eN rfl 3 (by decide) (wd_215 hB _) rfl d_NProgram_judge_52 ?_
      refine pcc_i (va_runV (C := "BigRunner$Interval") (As := []) (rest := [.ref (g.lk (g.lk P 2) n)]) ⟨hx, hb, hml, hown, tb_nil⟩ (c2_isBounded l g s.heap.size f ((g.lk (g.lk (g.lk P 2) n) 3)) ((cL Y.1)) ((cH Y.2)) hL (lo_k6_3 hL _ (lo_e25 hL _ (lo_k7_2 hL _ t_P) _ (by omega))) hI.1 eY) ⟨(callB_of 0 (tb_one (wd_440 hB _)) tb_good1 rfl rfl rfl (wd_75 hB _) (wd_672 hB _) (by decide +kernel) ⟨Nat.le_of_ble_eq_true rfl, Nat.le_of_ble_eq_true rfl⟩), (wd_438 hB _), (wd_439 hB _)⟩ ⟨pe_bl, pg_recv (ci := 2) hK hP (lo_in hL (lo_k6_3 hL _ (lo_e25 hL _ (lo_k7_2 hL _ t_P) _ (by omega))) (by decide)) eY rfl, pe_pre hB hK hP hD⟩ rfl rfl hl.1 rfl (lv_room (Nat.le_of_ble_eq_true rfl)) d_NProgram_judge_55 ⟨Nat.le_of_ble_eq_true rfl, Nat.le_of_ble_eq_true rfl⟩) hS (fun r3 f4 H locs hq5 hP hD hS => ?_)
      obtain ⟨bo_6, i0_7, i1_8, rfl⟩ := hq5
      refine lv_if_eq (tgt := 65) hx hb d_NProgram_judge_58 (by decide) (fun b9 => ?_) (fun b9 => ?_)
      · skip
        have hr10 : r3 = nI 0 := b9
        have hi11 := i0_7 hr10
        have hbd9 : ¬ bdd Y := (bdd_n hKY).mp (by assumption)
        refine lv_iconst (v := nI 0) hx hb d_NProgram_judge_65 (by decide) ?_
        refine pf_put (v := .int (nI 0)) (ty := .boolean) (fs' := [.int (nI kd), .int (nI le), .int (nI ri), .ref (g.lk (g.lk (g.lk P 2) n) 3), .int (nI 0), .long mv, .ref (g.lk (g.lk (g.lk P 2) n) 6)]) (C := "BigRunner$Node") (T := FT5) (N := 7) hx hb (hw5 hB _) (fun _ h9 => h9) TY5 ok5 nm5 hown hK hP hD hS (lo_in hL (lo_e25 hL _ (lo_k7_2 hL _ t_P) _ (by omega)) (by decide)) eN rfl 4 (by decide) (wd_217 hB _) rfl (by decide +kernel) rfl rfl (Nat.le_of_ble_eq_true rfl) rfl d_NProgram_judge_66 (fun f12 H locs e13 k14 hP hD hS => ?_)
        have eY := (k14 (g.lk (g.lk (g.lk P 2) n) 3) (tg_ne (lo_k6_3 hL _ (lo_e25 hL _ (lo_k7_2 hL _ t_P) _ (by omega))) (lo_e25 hL _ (lo_k7_2 hL _ t_P) _ (by omega)) (by decide))).trans eY
        have hu : ∀ b, b ≠ (g.lk (g.lk P 2) n) → f12 b = f b := fun b q0 => (k14 b q0).trans (hu b q0)
        have hk15 : ∀ b, b ≠ (g.lk (g.lk P 2) n) → f12 b = f b := k14
        have hI16 := iv_1 hI hL (lo_e25 hL _ (lo_k7_2 hL _ t_P) _ (by omega)) (by decide) hk15 (oc_6.mk (lo_e25 hL _ (lo_k7_2 hL _ t_P) _ (by omega)) (⟨kd, le, ri, ((nI 0)), mv, e13, (by omega), (by omega), (by omega), (by omega), (Or.inl rfl), (by omega)⟩))
        exact pe_vret hx hb hr hlocks hK hP hD hS d_NProgram_judge_69 ⟨⟨nI 0, e13, Or.inl rfl, ⟨fun q9 => absurd q9 (by decide), fun z9 => absurd z9 (fun z9 => hbd9 z9.1)⟩⟩, hI16, hu⟩
      · skip
        have hr17 : r3 = nI 1 := (bl_1 bo_6 b9)
        have hi18 := i1_8 hr17
        have hbd9 : bdd Y := (bdd_k hKY).mp (by assumption)
        refine lv_iconst (v := nI 1) hx hb d_NProgram_judge_61 (by decide) ?_
        refine lv_goto (tgt := 66) hx hb d_NProgram_judge_62 (by decide) ?_
        refine pf_put (v := .int (nI 1)) (ty := .boolean) (fs' := [.int (nI kd), .int (nI le), .int (nI ri), .ref (g.lk (g.lk (g.lk P 2) n) 3), .int (nI 1), .long mv, .ref (g.lk (g.lk (g.lk P 2) n) 6)]) (C := "BigRunner$Node") (T := FT5) (N := 7) hx hb (hw5 hB _) (fun _ h9 => h9) TY5 ok5 nm5 hown hK hP hD hS (lo_in hL (lo_e25 hL _ (lo_k7_2 hL _ t_P) _ (by omega)) (by decide)) eN rfl 4 (by decide) (wd_217 hB _) rfl (by decide +kernel) rfl rfl (Nat.le_of_ble_eq_true rfl) rfl d_NProgram_judge_66 (fun f19 H locs e20 k21 hP hD hS => ?_)
        have eY := (k21 (g.lk (g.lk (g.lk P 2) n) 3) (tg_ne (lo_k6_3 hL _ (lo_e25 hL _ (lo_k7_2 hL _ t_P) _ (by omega))) (lo_e25 hL _ (lo_k7_2 hL _ t_P) _ (by omega)) (by decide))).trans eY
        have hu : ∀ b, b ≠ (g.lk (g.lk P 2) n) → f19 b = f b := fun b q0 => (k21 b q0).trans (hu b q0)
        have hk22 : ∀ b, b ≠ (g.lk (g.lk P 2) n) → f19 b = f b := k21
        have hI23 := iv_1 hI hL (lo_e25 hL _ (lo_k7_2 hL _ t_P) _ (by omega)) (by decide) hk22 (oc_6.mk (lo_e25 hL _ (lo_k7_2 hL _ t_P) _ (by omega)) (⟨kd, le, ri, ((nI 1)), mv, e20, (by omega), (by omega), (by omega), (by omega), (Or.inr rfl), (by omega)⟩))
        exact pe_vret hx hb hr hlocks hK hP hD hS d_NProgram_judge_69 ⟨⟨nI 1, e20, Or.inr rfl, ⟨fun _ => ⟨hbd9, fun q9 => absurd q9 (by omega)⟩, fun _ => rfl⟩⟩, hI23, hu⟩
  · skip
    replace b1 := mt (nI_ltI (a := kd) (b := 2) (by omega) (by omega)).mpr b1
    obtain ⟨hln9, hrn9⟩ := hlt (by omega)
    refine lv_aload_n hx hb d_NProgram_judge_10 rfl (lv_at hl 1 rfl) ?_
    obtain ⟨sc_25, nc_26, e24, c27, c28⟩ := oc_7.of t_P (hI.1 P)
    refine pf_get (v := .ref (g.lk P 2)) (C := "BigRunner$Program") (T := FT6) (N := 6) hx hb (hw6 hB _) (fun _ h9 => h9) hown hK hP (lo_in hL t_P (by decide)) e24 rfl 2 (by decide) (wd_248 hB _) rfl d_NProgram_judge_11 ?_
    refine lv_aload_n hx hb d_NProgram_judge_14 rfl (lv_at hl 2 rfl) ?_
    refine pf_get (v := .int (nI le)) (C := "BigRunner$Node") (T := FT5) (N := 7) hx hb (hw5 hB _) (fun _ h9 => h9) hown hK hP (lo_in hL (lo_e25 hL _ (lo_k7_2 hL _ t_P) _ (by omega)) (by decide)) eN rfl 1 (by decide) (wd_207 hB _) rfl d_NProgram_judge_15 ?_
    have e29 := oc_25.of (lo_k7_2 hL _ t_P) (hI.1 (g.lk P 2))
    refine pf_aald (i := le) hx hb hK hP (lo_in hL (lo_k7_2 hL _ t_P) (by decide)) e29 (lo_t25 hL _ (lo_k7_2 hL _ t_P)) (by omega) (by decide) d_NProgram_judge_18 ?_
    have t30 := lo_e25 hL _ (lo_k7_2 hL _ t_P) le (by omega)
    obtain ⟨kd_32, le_33, ri_34, sm_35, mv_36, e31, c37, c38, c39, c40, c41, c42⟩ := oc_6.of t30 (hI.1 (g.lk (g.lk P 2) le))
    refine pf_get (v := .int sm_35) (C := "BigRunner$Node") (T := FT5) (N := 7) hx hb (hw5 hB _) (fun _ h9 => h9) hown hK hP (lo_in hL t30 (by decide)) e31 rfl 4 (by decide) (wd_217 hB _) rfl d_NProgram_judge_19 ?_
    refine lv_if_eq (tgt := 44) hx hb d_NProgram_judge_22 (by decide) (fun b43 => ?_) (fun b43 => ?_)
    · skip
      have hr44 : sm_35 = nI 0 := b43
      have htl : Tof g f P 3 le = 0 := by rw [(Tof_n (P := P) (j := le) e31).2.2.2.1, hr44]; decide
      refine lv_iconst (v := nI 0) hx hb d_NProgram_judge_44 (by decide) ?_
      refine lv_istore_n (lv' := [(2, .int (nI 0)), (0, .ref P), (1, .ref (g.lk (g.lk P 2) n))]) hx hb d_NProgram_judge_45 rfl hl (by decide) rfl (fun ls hl => ?_)
      refine lv_aload_n hx hb d_NProgram_judge_46 rfl (lv_at hl 2 rfl) ?_
      refine lv_iload_n hx hb d_NProgram_judge_47 rfl (lv_at hl 0 rfl) ?_
      refine lv_if_eq (tgt := 65) hx hb d_NProgram_judge_48 (by decide) (fun b45 => ?_) (fun b45 => ?_)
      · skip
        replace b45 := (nI_eq (a := 0) (b := 0) (by omega) (by omega)).mp b45
        refine lv_iconst (v := nI 0) hx hb d_NProgram_judge_65 (by decide) ?_
        refine pf_put (v := .int (nI 0)) (ty := .boolean) (fs' := [.int (nI kd), .int (nI le), .int (nI ri), .ref (g.lk (g.lk (g.lk P 2) n) 3), .int (nI 0), .long mv, .ref (g.lk (g.lk (g.lk P 2) n) 6)]) (C := "BigRunner$Node") (T := FT5) (N := 7) hx hb (hw5 hB _) (fun _ h9 => h9) TY5 ok5 nm5 hown hK hP hD hS (lo_in hL (lo_e25 hL _ (lo_k7_2 hL _ t_P) _ (by omega)) (by decide)) eN rfl 4 (by decide) (wd_217 hB _) rfl (by decide +kernel) rfl rfl (Nat.le_of_ble_eq_true rfl) rfl d_NProgram_judge_66 (fun f46 H locs e47 k48 hP hD hS => ?_)
        have eY := (k48 (g.lk (g.lk (g.lk P 2) n) 3) (tg_ne (lo_k6_3 hL _ (lo_e25 hL _ (lo_k7_2 hL _ t_P) _ (by omega))) (lo_e25 hL _ (lo_k7_2 hL _ t_P) _ (by omega)) (by decide))).trans eY
        have e24 := (k48 P (tg_ne t_P (lo_e25 hL _ (lo_k7_2 hL _ t_P) _ (by omega)) (by decide))).trans e24
        have e29 := (k48 (g.lk P 2) (tg_ne (lo_k7_2 hL _ t_P) (lo_e25 hL _ (lo_k7_2 hL _ t_P) _ (by omega)) (by decide))).trans e29
        have e31 := (k48 (g.lk (g.lk P 2) le) (tn_ne (lo_n25 hL _ (lo_k7_2 hL _ t_P) _ (by omega)) (lo_n25 hL _ (lo_k7_2 hL _ t_P) _ (by omega)) (by omega))).trans e31
        have hu : ∀ b, b ≠ (g.lk (g.lk P 2) n) → f46 b = f b := fun b q0 => (k48 b q0).trans (hu b q0)
        have hk49 : ∀ b, b ≠ (g.lk (g.lk P 2) n) → f46 b = f b := k48
        have hI50 := iv_1 hI hL (lo_e25 hL _ (lo_k7_2 hL _ t_P) _ (by omega)) (by decide) hk49 (oc_6.mk (lo_e25 hL _ (lo_k7_2 hL _ t_P) _ (by omega)) (⟨kd, le, ri, ((nI 0)), mv, e47, (by omega), (by omega), (by omega), (by omega), (Or.inl rfl), (by omega)⟩))
        exact pe_vret hx hb hr hlocks hK hP hD hS d_NProgram_judge_69 ⟨⟨nI 0, e47, Or.inl rfl, ⟨fun q9 => absurd q9 (by decide), fun z9 => absurd z9 (fun z9 => by have y9 := (z9.2 (by omega)).1; omega)⟩⟩, hI50, hu⟩
      · skip
        replace b45 := mt (nI_eq (a := 0) (b := 0) (by omega) (by omega)).mpr b45
        exfalso; omega
    · skip
      have hr51 : sm_35 = nI 1 := (bl_1 c41 b43)
      have htl : Tof g f P 3 le = 1 := by rw [(Tof_n (P := P) (j := le) e31).2.2.2.1, hr51]; decide
      refine lv_aload_n hx hb d_NProgram_judge_25 rfl (lv_at hl 1 rfl) ?_
      refine pf_get (v := .ref (g.lk P 2)) (C := "BigRunner$Program") (T := FT6) (N := 6) hx hb (hw6 hB _) (fun _ h9 => h9) hown hK hP (lo_in hL t_P (by decide)) e24 rfl 2 (by decide) (wd_248 hB _) rfl d_NProgram_judge_26 ?_
      refine lv_aload_n hx hb d_NProgram_judge_29 rfl (lv_at hl 2 rfl) ?_
      refine pf_get (v := .int (nI ri)) (C := "BigRunner$Node") (T := FT5) (N := 7) hx hb (hw5 hB _) (fun _ h9 => h9) hown hK hP (lo_in hL (lo_e25 hL _ (lo_k7_2 hL _ t_P) _ (by omega)) (by decide)) eN rfl 2 (by decide) (wd_211 hB _) rfl d_NProgram_judge_30 ?_
      refine pf_aald (i := ri) hx hb hK hP (lo_in hL (lo_k7_2 hL _ t_P) (by decide)) e29 (lo_t25 hL _ (lo_k7_2 hL _ t_P)) (by omega) (by decide) d_NProgram_judge_33 ?_
      have t52 := lo_e25 hL _ (lo_k7_2 hL _ t_P) ri (by omega)
      obtain ⟨kd_54, le_55, ri_56, sm_57, mv_58, e53, c59, c60, c61, c62, c63, c64⟩ := oc_6.of t52 (hI.1 (g.lk (g.lk P 2) ri))
      refine pf_get (v := .int sm_57) (C := "BigRunner$Node") (T := FT5) (N := 7) hx hb (hw5 hB _) (fun _ h9 => h9) hown hK hP (lo_in hL t52 (by decide)) e53 rfl 4 (by decide) (wd_217 hB _) rfl d_NProgram_judge_34 ?_
      refine lv_if_eq (tgt := 44) hx hb d_NProgram_judge_37 (by decide) (fun b65 => ?_) (fun b65 => ?_)
      · skip
        have hr66 : sm_57 = nI 0 := b65
        have htr : Tof g f P 3 ri = 0 := by rw [(Tof_n (P := P) (j := ri) e53).2.2.2.1, hr66]; decide
        refine lv_iconst (v := nI 0) hx hb d_NProgram_judge_44 (by decide) ?_
        refine lv_istore_n (lv' := [(2, .int (nI 0)), (0, .ref P), (1, .ref (g.lk (g.lk P 2) n))]) hx hb d_NProgram_judge_45 rfl hl (by decide) rfl (fun ls hl => ?_)
        refine lv_aload_n hx hb d_NProgram_judge_46 rfl (lv_at hl 2 rfl) ?_
        refine lv_iload_n hx hb d_NProgram_judge_47 rfl (lv_at hl 0 rfl) ?_
        refine lv_if_eq (tgt := 65) hx hb d_NProgram_judge_48 (by decide) (fun b67 => ?_) (fun b67 => ?_)
        · skip
          replace b67 := (nI_eq (a := 0) (b := 0) (by omega) (by omega)).mp b67
          refine lv_iconst (v := nI 0) hx hb d_NProgram_judge_65 (by decide) ?_
          refine pf_put (v := .int (nI 0)) (ty := .boolean) (fs' := [.int (nI kd), .int (nI le), .int (nI ri), .ref (g.lk (g.lk (g.lk P 2) n) 3), .int (nI 0), .long mv, .ref (g.lk (g.lk (g.lk P 2) n) 6)]) (C := "BigRunner$Node") (T := FT5) (N := 7) hx hb (hw5 hB _) (fun _ h9 => h9) TY5 ok5 nm5 hown hK hP hD hS (lo_in hL (lo_e25 hL _ (lo_k7_2 hL _ t_P) _ (by omega)) (by decide)) eN rfl 4 (by decide) (wd_217 hB _) rfl (by decide +kernel) rfl rfl (Nat.le_of_ble_eq_true rfl) rfl d_NProgram_judge_66 (fun f68 H locs e69 k70 hP hD hS => ?_)
          have eY := (k70 (g.lk (g.lk (g.lk P 2) n) 3) (tg_ne (lo_k6_3 hL _ (lo_e25 hL _ (lo_k7_2 hL _ t_P) _ (by omega))) (lo_e25 hL _ (lo_k7_2 hL _ t_P) _ (by omega)) (by decide))).trans eY
          have e24 := (k70 P (tg_ne t_P (lo_e25 hL _ (lo_k7_2 hL _ t_P) _ (by omega)) (by decide))).trans e24
          have e29 := (k70 (g.lk P 2) (tg_ne (lo_k7_2 hL _ t_P) (lo_e25 hL _ (lo_k7_2 hL _ t_P) _ (by omega)) (by decide))).trans e29
          have e31 := (k70 (g.lk (g.lk P 2) le) (tn_ne (lo_n25 hL _ (lo_k7_2 hL _ t_P) _ (by omega)) (lo_n25 hL _ (lo_k7_2 hL _ t_P) _ (by omega)) (by omega))).trans e31
          have e53 := (k70 (g.lk (g.lk P 2) ri) (tn_ne (lo_n25 hL _ (lo_k7_2 hL _ t_P) _ (by omega)) (lo_n25 hL _ (lo_k7_2 hL _ t_P) _ (by omega)) (by omega))).trans e53
          have hu : ∀ b, b ≠ (g.lk (g.lk P 2) n) → f68 b = f b := fun b q0 => (k70 b q0).trans (hu b q0)
          have hk71 : ∀ b, b ≠ (g.lk (g.lk P 2) n) → f68 b = f b := k70
          have hI72 := iv_1 hI hL (lo_e25 hL _ (lo_k7_2 hL _ t_P) _ (by omega)) (by decide) hk71 (oc_6.mk (lo_e25 hL _ (lo_k7_2 hL _ t_P) _ (by omega)) (⟨kd, le, ri, ((nI 0)), mv, e69, (by omega), (by omega), (by omega), (by omega), (Or.inl rfl), (by omega)⟩))
          exact pe_vret hx hb hr hlocks hK hP hD hS d_NProgram_judge_69 ⟨⟨nI 0, e69, Or.inl rfl, ⟨fun q9 => absurd q9 (by decide), fun z9 => absurd z9 (fun z9 => by have y9 := (z9.2 (by omega)).2; omega)⟩⟩, hI72, hu⟩
        · skip
          replace b67 := mt (nI_eq (a := 0) (b := 0) (by omega) (by omega)).mpr b67
          exfalso; omega
      · skip
        have hr73 : sm_57 = nI 1 := (bl_1 c63 b65)
        have htr : Tof g f P 3 ri = 1 := by rw [(Tof_n (P := P) (j := ri) e53).2.2.2.1, hr73]; decide
        refine lv_iconst (v := nI 1) hx hb d_NProgram_judge_40 (by decide) ?_
        refine lv_goto (tgt := 45) hx hb d_NProgram_judge_41 (by decide) ?_
        refine lv_istore_n (lv' := [(2, .int (nI 1)), (0, .ref P), (1, .ref (g.lk (g.lk P 2) n))]) hx hb d_NProgram_judge_45 rfl hl (by decide) rfl (fun ls hl => ?_)
        refine lv_aload_n hx hb d_NProgram_judge_46 rfl (lv_at hl 2 rfl) ?_
        refine lv_iload_n hx hb d_NProgram_judge_47 rfl (lv_at hl 0 rfl) ?_
        refine lv_if_eq (tgt := 65) hx hb d_NProgram_judge_48 (by decide) (fun b74 => ?_) (fun b74 => ?_)
        · skip
          replace b74 := (nI_eq (a := 1) (b := 0) (by omega) (by omega)).mp b74
          exfalso; omega
        · skip
          replace b74 := mt (nI_eq (a := 1) (b := 0) (by omega) (by omega)).mpr b74
          refine lv_aload_n hx hb d_NProgram_judge_51 rfl (lv_at hl 2 rfl) ?_
          refine pf_get (v := .ref (g.lk (g.lk (g.lk P 2) n) 3)) (C := "BigRunner$Node") (T := FT5) (N := 7) hx hb (hw5 hB _) (fun _ h9 => h9) hown hK hP (lo_in hL (lo_e25 hL _ (lo_k7_2 hL _ t_P) _ (by omega)) (by decide)) eN rfl 3 (by decide) (wd_215 hB _) rfl d_NProgram_judge_52 ?_
          refine pcc_i (va_runV (C := "BigRunner$Interval") (As := []) (rest := [.ref (g.lk (g.lk P 2) n)]) ⟨hx, hb, hml, hown, tb_nil⟩ (c2_isBounded l g s.heap.size f ((g.lk (g.lk (g.lk P 2) n) 3)) ((cL Y.1)) ((cH Y.2)) hL (lo_k6_3 hL _ (lo_e25 hL _ (lo_k7_2 hL _ t_P) _ (by omega))) hI.1 eY) ⟨(callB_of 0 (tb_one (wd_440 hB _)) tb_good1 rfl rfl rfl (wd_75 hB _) (wd_672 hB _) (by decide +kernel) ⟨Nat.le_of_ble_eq_true rfl, Nat.le_of_ble_eq_true rfl⟩), (wd_438 hB _), (wd_439 hB _)⟩ ⟨pe_bl, pg_recv (ci := 2) hK hP (lo_in hL (lo_k6_3 hL _ (lo_e25 hL _ (lo_k7_2 hL _ t_P) _ (by omega))) (by decide)) eY rfl, pe_pre hB hK hP hD⟩ rfl rfl hl.1 rfl (lv_room (Nat.le_of_ble_eq_true rfl)) d_NProgram_judge_55 ⟨Nat.le_of_ble_eq_true rfl, Nat.le_of_ble_eq_true rfl⟩) hS (fun r75 f76 H locs hq77 hP hD hS => ?_)
          obtain ⟨bo_78, i0_79, i1_80, rfl⟩ := hq77
          refine lv_if_eq (tgt := 65) hx hb d_NProgram_judge_58 (by decide) (fun b81 => ?_) (fun b81 => ?_)
          · skip
            have hr82 : r75 = nI 0 := b81
            have hi83 := i0_79 hr82
            have hbd9 : ¬ bdd Y := (bdd_n hKY).mp (by assumption)
            refine lv_iconst (v := nI 0) hx hb d_NProgram_judge_65 (by decide) ?_
            refine pf_put (v := .int (nI 0)) (ty := .boolean) (fs' := [.int (nI kd), .int (nI le), .int (nI ri), .ref (g.lk (g.lk (g.lk P 2) n) 3), .int (nI 0), .long mv, .ref (g.lk (g.lk (g.lk P 2) n) 6)]) (C := "BigRunner$Node") (T := FT5) (N := 7) hx hb (hw5 hB _) (fun _ h9 => h9) TY5 ok5 nm5 hown hK hP hD hS (lo_in hL (lo_e25 hL _ (lo_k7_2 hL _ t_P) _ (by omega)) (by decide)) eN rfl 4 (by decide) (wd_217 hB _) rfl (by decide +kernel) rfl rfl (Nat.le_of_ble_eq_true rfl) rfl d_NProgram_judge_66 (fun f84 H locs e85 k86 hP hD hS => ?_)
            have eY := (k86 (g.lk (g.lk (g.lk P 2) n) 3) (tg_ne (lo_k6_3 hL _ (lo_e25 hL _ (lo_k7_2 hL _ t_P) _ (by omega))) (lo_e25 hL _ (lo_k7_2 hL _ t_P) _ (by omega)) (by decide))).trans eY
            have e24 := (k86 P (tg_ne t_P (lo_e25 hL _ (lo_k7_2 hL _ t_P) _ (by omega)) (by decide))).trans e24
            have e29 := (k86 (g.lk P 2) (tg_ne (lo_k7_2 hL _ t_P) (lo_e25 hL _ (lo_k7_2 hL _ t_P) _ (by omega)) (by decide))).trans e29
            have e31 := (k86 (g.lk (g.lk P 2) le) (tn_ne (lo_n25 hL _ (lo_k7_2 hL _ t_P) _ (by omega)) (lo_n25 hL _ (lo_k7_2 hL _ t_P) _ (by omega)) (by omega))).trans e31
            have e53 := (k86 (g.lk (g.lk P 2) ri) (tn_ne (lo_n25 hL _ (lo_k7_2 hL _ t_P) _ (by omega)) (lo_n25 hL _ (lo_k7_2 hL _ t_P) _ (by omega)) (by omega))).trans e53
            have hu : ∀ b, b ≠ (g.lk (g.lk P 2) n) → f84 b = f b := fun b q0 => (k86 b q0).trans (hu b q0)
            have hk87 : ∀ b, b ≠ (g.lk (g.lk P 2) n) → f84 b = f b := k86
            have hI88 := iv_1 hI hL (lo_e25 hL _ (lo_k7_2 hL _ t_P) _ (by omega)) (by decide) hk87 (oc_6.mk (lo_e25 hL _ (lo_k7_2 hL _ t_P) _ (by omega)) (⟨kd, le, ri, ((nI 0)), mv, e85, (by omega), (by omega), (by omega), (by omega), (Or.inl rfl), (by omega)⟩))
            exact pe_vret hx hb hr hlocks hK hP hD hS d_NProgram_judge_69 ⟨⟨nI 0, e85, Or.inl rfl, ⟨fun q9 => absurd q9 (by decide), fun z9 => absurd z9 (fun z9 => hbd9 z9.1)⟩⟩, hI88, hu⟩
          · skip
            have hr89 : r75 = nI 1 := (bl_1 bo_78 b81)
            have hi90 := i1_80 hr89
            have hbd9 : bdd Y := (bdd_k hKY).mp (by assumption)
            refine lv_iconst (v := nI 1) hx hb d_NProgram_judge_61 (by decide) ?_
            refine lv_goto (tgt := 66) hx hb d_NProgram_judge_62 (by decide) ?_
            refine pf_put (v := .int (nI 1)) (ty := .boolean) (fs' := [.int (nI kd), .int (nI le), .int (nI ri), .ref (g.lk (g.lk (g.lk P 2) n) 3), .int (nI 1), .long mv, .ref (g.lk (g.lk (g.lk P 2) n) 6)]) (C := "BigRunner$Node") (T := FT5) (N := 7) hx hb (hw5 hB _) (fun _ h9 => h9) TY5 ok5 nm5 hown hK hP hD hS (lo_in hL (lo_e25 hL _ (lo_k7_2 hL _ t_P) _ (by omega)) (by decide)) eN rfl 4 (by decide) (wd_217 hB _) rfl (by decide +kernel) rfl rfl (Nat.le_of_ble_eq_true rfl) rfl d_NProgram_judge_66 (fun f91 H locs e92 k93 hP hD hS => ?_)
            have eY := (k93 (g.lk (g.lk (g.lk P 2) n) 3) (tg_ne (lo_k6_3 hL _ (lo_e25 hL _ (lo_k7_2 hL _ t_P) _ (by omega))) (lo_e25 hL _ (lo_k7_2 hL _ t_P) _ (by omega)) (by decide))).trans eY
            have e24 := (k93 P (tg_ne t_P (lo_e25 hL _ (lo_k7_2 hL _ t_P) _ (by omega)) (by decide))).trans e24
            have e29 := (k93 (g.lk P 2) (tg_ne (lo_k7_2 hL _ t_P) (lo_e25 hL _ (lo_k7_2 hL _ t_P) _ (by omega)) (by decide))).trans e29
            have e31 := (k93 (g.lk (g.lk P 2) le) (tn_ne (lo_n25 hL _ (lo_k7_2 hL _ t_P) _ (by omega)) (lo_n25 hL _ (lo_k7_2 hL _ t_P) _ (by omega)) (by omega))).trans e31
            have e53 := (k93 (g.lk (g.lk P 2) ri) (tn_ne (lo_n25 hL _ (lo_k7_2 hL _ t_P) _ (by omega)) (lo_n25 hL _ (lo_k7_2 hL _ t_P) _ (by omega)) (by omega))).trans e53
            have hu : ∀ b, b ≠ (g.lk (g.lk P 2) n) → f91 b = f b := fun b q0 => (k93 b q0).trans (hu b q0)
            have hk94 : ∀ b, b ≠ (g.lk (g.lk P 2) n) → f91 b = f b := k93
            have hI95 := iv_1 hI hL (lo_e25 hL _ (lo_k7_2 hL _ t_P) _ (by omega)) (by decide) hk94 (oc_6.mk (lo_e25 hL _ (lo_k7_2 hL _ t_P) _ (by omega)) (⟨kd, le, ri, ((nI 1)), mv, e92, (by omega), (by omega), (by omega), (by omega), (Or.inr rfl), (by omega)⟩))
            exact pe_vret hx hb hr hlocks hK hP hD hS d_NProgram_judge_69 ⟨⟨nI 1, e92, Or.inr rfl, ⟨fun _ => ⟨hbd9, fun q9 => ⟨htl, htr⟩⟩, fun _ => rfl⟩⟩, hI95, hu⟩
theorem tof_eq {g : Lay} {f f1 : Nat → va_E} {P i : Nat} (e : f1 (g.lk (g.lk P 2) i) = f (g.lk (g.lk P 2) i)) (k : Nat) (hk : k ≤ 4) : Tof g f1 P k i = Tof g f P k i := by
  have q : k = 0 ∨ k = 1 ∨ k = 2 ∨ k = 3 ∨ k = 4 := by omega
  rcases q with rfl | rfl | rfl | rfl | rfl <;> (unfold Tof; simp [e])
theorem nsm_eq {kd kd0 le le0 ri ri0 a a0 b b0 : Nat} {sm sm0 sm1 : Int32} {mv mv0 : Int64} (q : (.inr (5, [.int (nI kd), .int (nI le), .int (nI ri), .ref a, .int sm, .long mv, .ref b]) : va_E) = .inr (5, [.int (nI kd0), .int (nI le0), .int (nI ri0), .ref a0, .int sm0, .long mv0, .ref b0])) : (.inr (5, [.int (nI kd), .int (nI le), .int (nI ri), .ref a, .int sm1, .long mv, .ref b]) : va_E) = .inr (5, [.int (nI kd0), .int (nI le0), .int (nI ri0), .ref a0, .int sm1, .long mv0, .ref b0]) := by
  injection q with q
  injection q with _ q
  injection q with q1 q
  injection q with q2 q
  injection q with q3 q
  injection q with q4 q
  injection q with _ q
  injection q with q6 q
  injection q with q7 _
  rw [q1, q2, q3, q4, q6, q7]
theorem nd_km {g : Lay} {f : Nat → va_E} {P j w a kdo leo rio x y : Nat} {st : List Nat} {smo : Int32} {mvo : Int64} (h : ND g f P st j w a) (e : f (g.lk (g.lk P 2) j) = .inr (5, [.int (nI kdo), .int (nI leo), .int (nI rio), .ref x, .int smo, .long mvo, .ref y])) (hk : kdo ≤ 7) : kdo = km w := by
  obtain ⟨le, ri, sm, mv, e1, w8, -⟩ := h
  rw [e] at e1
  injection e1 with e1
  injection e1 with _ e1
  injection e1 with e1 _
  injection e1 with e1
  refine (nI_eq (by omega) ?_).mp e1
  unfold km
  by_cases h2 : w < 2
  · rw [if_pos h2]; omega
  · rw [if_neg h2]
    by_cases h7 : w = 7
    · rw [if_pos h7]; omega
    · rw [if_neg h7]; omega
theorem tsb_fin {g : Lay} {f2 fJ : Nat → va_E} {P j w a kdo leo rio x y : Nat} {T : TT} {en : Nat → IVL} {S : List IVL} {sm1 : Int32} {mv : Int64} (hw : w < 8) (ek : kdo = km w) (hA : T 1 j = Tof g f2 P 1 j ∧ T 2 j = Tof g f2 P 2 j ∧ T 3 j = Tof g f2 P 3 j) (hA3 : ∀ i, i < j → T 3 i = Tof g f2 P 3 i) (e : f2 (g.lk (g.lk P 2) j) = .inr (5, [.int (nI kdo), .int (nI leo), .int (nI rio), .ref x, .int sm1, .long mv, .ref y])) (b1 : leo < 72) (b2 : rio < 72) (hlt : 2 ≤ kdo → leo < j ∧ rio < j) (hsb : sm1 = nI 0 ∨ sm1 = nI 1) (hsj : sm1 = nI 1 ↔ bdd ((xst en S w a).headD zI) ∧ (2 ≤ kdo → Tof g fJ P 3 leo = 1 ∧ Tof g fJ P 3 rio = 1)) (hJ : ∀ i, i < j → Tof g f2 P 3 i = Tof g fJ P 3 i) : TSB T en (xst en S w a) j w a := by
  obtain ⟨-, t1, t2, t3, -⟩ := Tof_n e
  refine TSB_j hw (hA.2.2.trans t3) hsb ?_ (fun z => ?_) (fun z => ?_)
  · rw [hsj, hA.1, hA.2.1, t1 (by omega), t2 (by omega), ek]
    have q : 2 ≤ km w → T 3 leo = Tof g fJ P 3 leo ∧ T 3 rio = Tof g fJ P 3 rio := fun z => by
      have := hlt (by omega)
      exact ⟨(hA3 _ this.1).trans (hJ _ this.1), (hA3 _ this.2).trans (hJ _ this.2)⟩
    exact ⟨fun ⟨z1, z2⟩ => ⟨z1, fun z => by rw [(q z).1, (q z).2]; exact z2 z⟩, fun ⟨z1, z2⟩ => ⟨z1, fun z => by rw [← (q z).1, ← (q z).2]; exact z2 z⟩⟩
  · subst z
    exact ⟨fun q => (by cases q), fun q => (by cases q)⟩
  · subst z
    rfl
set_option maxHeartbeats 4000000 in
set_option maxRecDepth 100000 in
theorem v_findIntervals (l : Launch) (g : Lay) (sz : Nat) (f : Nat → va_E) (P : Nat) (sn : Nat) (nn : Nat) (L : List (Nat × Nat)) (nb : Nat → Nat) (hL : LO g) (t_P : g.tg P = 7) (hI : IV g f) (eP : f P = .inr (6, [.ref (g.lk P 0), .int (nI sn), .ref (g.lk P 2), .int (nI nn), .ref (g.lk P 4), .ref (g.lk P 5)])) (hsn : sn ≤ 36) (hnn : nn ≤ 72) (hPRS : PRS g f P nb 0 0 0 [] L) (hren : ren 0 0 0 [] L = (sn, nn, nn, [])) (hW12 : ∀ x, x ∈ L → x.1 ≤ 12) (hL10 : ∀ x, x ∈ L → x.1 = 8 ∨ x.1 = 9 → x.2 < 10) (hIN : f (g.lk P 5) = .inr (2, [.long (cL inI.1), .long (cH inI.2)])) : Met l ⟨"BigRunner$Program", "findIntervals", "()I"⟩ [Cond.code ⟨"BigRunner$Program", "findIntervals", "()I"⟩ prog_7_method_2_code 3 (some .int)] ({ frames := 7, cells := 0, slots := 0, locals := 161 }) (va_Pc [.ref P] (pc_in g sz f)) (va_Qi (fun r f1 => (r = nI (rds L 30 1 (fun _ => zI)).1) ∧ (EV g f1 P (rds L 30 1 (fun _ => zI)).2) ∧ ((rds L 30 1 (fun _ => zI)).1 ≤ 24) ∧ (∀ Q, g.tg Q = 7 → f1 (g.lk Q 5) = f (g.lk Q 5)) ∧ (TSBL (Tof g f1 P) (rds L 30 1 (fun _ => zI)).2 [] 0 L) ∧ (PRS g f1 P nb 0 0 0 [] L) ∧ (IV g f1) ∧ (un [3, 6] g f f1)) (pc_out g sz) (pc_A g sz)) 0 0 (pc_A g sz) := by
  refine pe_ofW (cc := prog_7_method_2_code) (maxL := 3) (ret := (some .int)) (lv := [(0, .ref P)]) (by decide) (Nat.le_of_ble_eq_true rfl) rfl ?_
  intro p e s m args below meth c ls hx hb hr hml hlocks hown hB hP hK hD hsz hS hl
  subst hsz
  have hu : un [3, 6] g f f := un.rf
  refine lv_iconst (v := nI 0) hx hb d_NProgram_findIntervals_0 (by decide) ?_
  refine lv_istore_n (lv' := [(1, .int (nI 0)), (0, .ref P)]) hx hb d_NProgram_findIntervals_1 rfl hl (by decide) rfl (fun ls hl => ?_)
  have lp1 : ∀ (k3 : Nat) (i : Nat) (f2 : Nat → va_E) (H : Heap) (locs : List Loc) (ls : Array Slot), (10 < i + k3) → (i ≤ 10) → (∀ v, v < i → f2 (g.lk (g.lk P 4) v) = .inr (2, [.long (cL zI.1), .long (cH zI.2)])) → (∀ Q, g.tg Q = 7 → f2 (g.lk Q 5) = f (g.lk Q 5)) → IV g f2 → un [3] g f f2 → lv_has ls 3 [(1, .int (nI i)), (0, .ref P)] → va_P g.D vcl (va_pl g.LP f2) H → va_D (pc_A g s.heap.size) (va_pl g.LP f2) → va_S (pc_A g s.heap.size) s.heap H locs → W p l e ({ frames := 7, cells := 0, slots := 0, locals := 161 }) s m args below meth c H locs 0 0 (MQ below (va_Qi (fun r f1 => (r = nI (rds L 30 1 (fun _ => zI)).1) ∧ (EV g f1 P (rds L 30 1 (fun _ => zI)).2) ∧ ((rds L 30 1 (fun _ => zI)).1 ≤ 24) ∧ (∀ Q, g.tg Q = 7 → f1 (g.lk Q 5) = f (g.lk Q 5)) ∧ (TSBL (Tof g f1 P) (rds L 30 1 (fun _ => zI)).2 [] 0 L) ∧ (PRS g f1 P nb 0 0 0 [] L) ∧ (IV g f1) ∧ (un [3, 6] g f f1)) (pc_out g s.heap.size) (pc_A g s.heap.size)) args s 0 0 (pc_A g s.heap.size)) (F0 m 2 ls []) := by
    intro k3
    induction k3 with
    | zero => intros; exfalso; omega
    | succ k3 ih4 =>
      intro i f2 H locs ls hfu5 hi hz h5 hI6 hv7 hl hP hD hS
      have eP := hv7.at t_P (by decide) eP
      have hu := hu.tr hv7 (by decide)
      refine lv_iload_n hx hb d_NProgram_findIntervals_2 rfl (lv_at hl 0 rfl) ?_
      refine lv_bipush (v := nI 10) hx hb d_NProgram_findIntervals_3 (by decide) ?_
      refine lv_icmp_ge (tgt := 25) hx hb d_NProgram_findIntervals_5 (by decide) (fun b8 => ?_) (fun b8 => ?_)
      · skip
        replace b8 := (nI_leI (a := 10) (b := i) (by omega) (by omega)).mp b8
        refine lv_iconst (v := nI 1) hx hb d_NProgram_findIntervals_25 (by decide) ?_
        refine lv_istore_n (lv' := [(1, .int (nI 1)), (0, .ref P)]) hx hb d_NProgram_findIntervals_26 rfl hl (by decide) rfl (fun ls hl => ?_)
        have hEVz : EV g f2 P (fun _ => zI) := ⟨fun _ => iK_z, fun v hv => hz v (by omega)⟩
        have hPRz := (PRS_eq L _ _ _ _ _ _ _ _ hren hPRS (fun j h1 h2 => hv7 _ (by rw [lo_e24 hL _ (lo_k7_0 hL P t_P) j (by omega)]; decide)) (fun j h1 h2 => hv7 _ (by rw [lo_e25 hL _ (lo_k7_2 hL P t_P) j (by omega)]; decide)))
        have lp9 : ∀ (k11 : Nat) (rd : Nat) (en2 : Nat → IVL) (f10 : Nat → va_E) (H : Heap) (locs : List Loc) (ls : Array Slot), (24 < rd + k11) → (rd ≤ 24) → (1 ≤ rd) → (PRS g f10 P nb 0 0 0 [] L) → (EV g f10 P en2) → (∀ Q, g.tg Q = 7 → f10 (g.lk Q 5) = f (g.lk Q 5)) → ((rds L 30 1 (fun _ => zI)) = rds L (31 - rd) rd en2) → (4 ≤ rd → cnt en2 10 + rd ≤ 24) → IV g f10 → un [3] g f2 f10 → lv_has ls 3 [(1, .int (nI rd)), (0, .ref P)] → va_P g.D vcl (va_pl g.LP f10) H → va_D (pc_A g s.heap.size) (va_pl g.LP f10) → va_S (pc_A g s.heap.size) s.heap H locs → W p l e ({ frames := 7, cells := 0, slots := 0, locals := 161 }) s m args below meth c H locs 0 0 (MQ below (va_Qi (fun r f1 => (r = nI (rds L 30 1 (fun _ => zI)).1) ∧ (EV g f1 P (rds L 30 1 (fun _ => zI)).2) ∧ ((rds L 30 1 (fun _ => zI)).1 ≤ 24) ∧ (∀ Q, g.tg Q = 7 → f1 (g.lk Q 5) = f (g.lk Q 5)) ∧ (TSBL (Tof g f1 P) (rds L 30 1 (fun _ => zI)).2 [] 0 L) ∧ (PRS g f1 P nb 0 0 0 [] L) ∧ (IV g f1) ∧ (un [3, 6] g f f1)) (pc_out g s.heap.size) (pc_A g s.heap.size)) args s 0 0 (pc_A g s.heap.size)) (F0 m 27 ls []) := by
          intro k11
          induction k11 with
          | zero => intros; exfalso; omega
          | succ k11 ih12 =>
            intro rd en2 f10 H locs ls hfu13 hrd hrd0 hPR2 hEV2 h52 hrd2 hct hI14 hv15 hl hP hD hS
            have eP := hv15.at t_P (by decide) eP
            have hu := hu.tr hv15 (by decide)
            have hv7 := hv7.tr hv15 (by decide)
            refine lv_iload_n hx hb d_NProgram_findIntervals_27 rfl (lv_at hl 0 rfl) ?_
            refine lv_bipush (v := nI 24) hx hb d_NProgram_findIntervals_28 (by decide) ?_
            refine lv_icmp_ge (tgt := 56) hx hb d_NProgram_findIntervals_30 (by decide) (fun b16 => ?_) (fun b16 => ?_)
            · skip
              replace b16 := (nI_leI (a := 24) (b := rd) (by omega) (by omega)).mp b16
              have hfin : (rds L 30 1 (fun _ => zI)) = (rd, en2) := hrd2.trans (by rw [show 31 - rd = (30 - rd) + 1 by omega]; exact rds_end hL10 (by omega) (by have := hct (by omega); omega))
              have hEVf := hEV2
              have h5f := h52
              have hR24 : rd ≤ 24 := hrd
              have hPRf := hPR2
              refine lv_iconst (v := nI 0) hx hb d_NProgram_findIntervals_56 (by decide) ?_
              refine lv_istore_n (lv' := [(2, .int (nI 0)), (1, .int (nI rd)), (0, .ref P)]) hx hb d_NProgram_findIntervals_57 rfl hl (by decide) rfl (fun ls hl => ?_)
              skip
              have lp17 : ∀ (k19 : Nat) (j : Nat) (Lr : List (Nat × Nat)) (s7 : Nat) (b7 : Nat) (st7 : List Nat) (S7 : List IVL) (f18 : Nat → va_E) (H : Heap) (locs : List Loc) (ls : Array Slot), (nn < j + k19) → (j ≤ nn) → (EV g f18 P en2) → (∀ Q, g.tg Q = 7 → f18 (g.lk Q 5) = f (g.lk Q 5)) → (PRS g f18 P nb 0 0 0 [] L) → (PRS g f18 P nb s7 j b7 st7 Lr) → (ren s7 j b7 st7 Lr = (sn, nn, nn, [])) → (ISt g f18 P j st7 S7) → (∀ T' : TT, AGR T' (Tof g f18 P) j → TSBL T' en2 S7 j Lr → TSBL T' en2 [] 0 L) → IV g f18 → un [3, 6] g f10 f18 → lv_has ls 3 [(2, .int (nI j)), (1, .int (nI rd)), (0, .ref P)] → va_P g.D vcl (va_pl g.LP f18) H → va_D (pc_A g s.heap.size) (va_pl g.LP f18) → va_S (pc_A g s.heap.size) s.heap H locs → W p l e ({ frames := 7, cells := 0, slots := 0, locals := 161 }) s m args below meth c H locs 0 0 (MQ below (va_Qi (fun r f1 => (r = nI (rds L 30 1 (fun _ => zI)).1) ∧ (EV g f1 P (rds L 30 1 (fun _ => zI)).2) ∧ ((rds L 30 1 (fun _ => zI)).1 ≤ 24) ∧ (∀ Q, g.tg Q = 7 → f1 (g.lk Q 5) = f (g.lk Q 5)) ∧ (TSBL (Tof g f1 P) (rds L 30 1 (fun _ => zI)).2 [] 0 L) ∧ (PRS g f1 P nb 0 0 0 [] L) ∧ (IV g f1) ∧ (un [3, 6] g f f1)) (pc_out g s.heap.size) (pc_A g s.heap.size)) args s 0 0 (pc_A g s.heap.size)) (F0 m 58 ls []) := by
                intro k19
                induction k19 with
                | zero => intros; exfalso; omega
                | succ k19 ih20 =>
                  intro j Lr s7 b7 st7 S7 f18 H locs ls hfu21 hj hEV3 h53 hPRw hPR3 hre3 hIS3 hK3 hI22 hv23 hl hP hD hS
                  have eP := hv23.at t_P (by decide) eP
                  have hu := hu.tr hv23 (by decide)
                  refine lv_iload_n hx hb d_NProgram_findIntervals_58 rfl (lv_at hl 0 rfl) ?_
                  refine lv_aload_n hx hb d_NProgram_findIntervals_59 rfl (lv_at hl 2 rfl) ?_
                  refine pf_get (v := .int (nI nn)) (C := "BigRunner$Program") (T := FT6) (N := 6) hx hb (hw6 hB _) (fun _ h9 => h9) hown hK hP (lo_in hL t_P (by decide)) eP rfl 3 (by decide) (wd_251 hB _) rfl d_NProgram_findIntervals_60 ?_
                  refine lv_icmp_ge (tgt := 92) hx hb d_NProgram_findIntervals_63 (by decide) (fun b24 => ?_) (fun b24 => ?_)
                  · skip
                    replace b24 := (nI_leI (a := nn) (b := j) (by omega) (by omega)).mp b24
                    refine lv_iload_n hx hb d_NProgram_findIntervals_92 rfl (lv_at hl 1 rfl) ?_
                    exact pe_iret hx hb hr hlocks hK hP hD hS d_NProgram_findIntervals_93 ⟨(by rw [hfin]), (by rw [hfin]; exact hEV3), (by rw [hfin]; exact hR24), h53, (by rw [hfin]; exact hK3 _ (fun _ _ => ⟨rfl, rfl, rfl⟩) (TSBL_end Lr _ _ _ _ _ _ _ _ (by rw [show j = nn by omega] at hre3 ⊢; exact hre3))), hPRw, hI22, hu⟩
                  · skip
                    replace b24 := mt (nI_leI (a := nn) (b := j) (by omega) (by omega)).mpr b24
                    obtain ⟨s6, b6, st6, S6, w9, a9, L9, hw9, hND9, hPR9, hre9, hIS9, hTS9⟩ := PRS_node (en := en2) Lr _ _ _ _ S7 _ _ _ _ hre3 hPR3 hIS3 (show j < nn by omega)
                    refine lv_aload_n hx hb d_NProgram_findIntervals_66 rfl (lv_at hl 2 rfl) ?_
                    refine lv_aload_n hx hb d_NProgram_findIntervals_67 rfl (lv_at hl 2 rfl) ?_
                    refine pf_get (v := .ref (g.lk P 2)) (C := "BigRunner$Program") (T := FT6) (N := 6) hx hb (hw6 hB _) (fun _ h9 => h9) hown hK hP (lo_in hL t_P (by decide)) eP rfl 2 (by decide) (wd_248 hB _) rfl d_NProgram_findIntervals_68 ?_
                    refine lv_iload_n hx hb d_NProgram_findIntervals_71 rfl (lv_at hl 0 rfl) ?_
                    have e25 := oc_25.of (lo_k7_2 hL _ t_P) (hI22.1 (g.lk P 2))
                    refine pf_aald (i := j) hx hb hK hP (lo_in hL (lo_k7_2 hL _ t_P) (by decide)) e25 (lo_t25 hL _ (lo_k7_2 hL _ t_P)) (by omega) (by decide) d_NProgram_findIntervals_72 ?_
                    have t26 := lo_e25 hL _ (lo_k7_2 hL _ t_P) j (by omega)
                    refine pcc_v (va_runV (C := "BigRunner$Program") (As := [.ref (g.lk (g.lk P 2) j)]) (rest := []) ⟨hx, hb, hml, hown, tb_nil⟩ (c2_findInterval l g H.size f18 P j w9 a9 st6 S6 en2 hL t_P hI22 (by omega) hND9 hIS9 hEV3) ⟨(callB_of 1 (tb_one (wd_616 hB _)) tb_good1 rfl rfl rfl (wd_74 hB _) (wd_613 hB _) (by decide +kernel) ⟨Nat.le_of_ble_eq_true rfl, Nat.le_of_ble_eq_true rfl⟩), (wd_615 hB _), (wd_20 hB _)⟩ ⟨pe_bl, pg_recv (ci := 6) hK hP (lo_in hL t_P (by decide)) eP rfl, pe_pre hB hK hP hD⟩ rfl rfl hl.1 rfl (lv_room (Nat.le_of_ble_eq_true rfl)) d_NProgram_findIntervals_73 ⟨Nat.le_of_ble_eq_true rfl, Nat.le_of_ble_eq_true rfl⟩) hS (fun f28 H locs hq29 hP hD hS => ?_)
                    obtain ⟨is_30, hI1_31, hk1_32⟩ := hq29
                    have hu := hu.st hk1_32 (lo_k6_3 hL _ t26) (by decide)
                    have hv23 := hv23.st hk1_32 (lo_k6_3 hL _ t26) (by decide)
                    have eP := (hk1_32 P (tg_ne t_P (lo_k6_3 hL _ t26) (by decide))).trans eP
                    have e25 := (hk1_32 (g.lk P 2) (tg_ne (lo_k7_2 hL _ t_P) (lo_k6_3 hL _ t26) (by decide))).trans e25
                    have his9 := is_30
                    obtain ⟨eY9, hKY9⟩ := IS_hd his9
                    obtain ⟨kd_34, le_35, ri_36, sm_37, mv_38, e33, c39, c40, c41, c42, c43, c44⟩ := oc_6.of t26 (hI1_31.1 (g.lk (g.lk P 2) j))
                    have eNj9 := (hk1_32 _ (tg_ne (lo_e25 hL _ (lo_k7_2 hL P t_P) j (by omega)) (lo_k6_3 hL _ (lo_e25 hL _ (lo_k7_2 hL P t_P) j (by omega))) (by decide))).symm.trans e33
                    have htn8 := lo_n25 hL _ (lo_k7_2 hL P t_P) j (by omega)
                    have hkm9 : kd_34 = km w9 := nd_km hND9 eNj9 (by omega)
                    refine lv_aload_n hx hb d_NProgram_findIntervals_76 rfl (lv_at hl 2 rfl) ?_
                    refine lv_aload_n hx hb d_NProgram_findIntervals_77 rfl (lv_at hl 2 rfl) ?_
                    refine pf_get (v := .ref (g.lk P 2)) (C := "BigRunner$Program") (T := FT6) (N := 6) hx hb (hw6 hB _) (fun _ h9 => h9) hown hK hP (lo_in hL t_P (by decide)) eP rfl 2 (by decide) (wd_248 hB _) rfl d_NProgram_findIntervals_78 ?_
                    refine lv_iload_n hx hb d_NProgram_findIntervals_81 rfl (lv_at hl 0 rfl) ?_
                    refine pf_aald (i := j) hx hb hK hP (lo_in hL (lo_k7_2 hL _ t_P) (by decide)) e25 (lo_t25 hL _ (lo_k7_2 hL _ t_P)) (by omega) (by decide) d_NProgram_findIntervals_82 ?_
                    refine pcc_v (va_runV (C := "BigRunner$Program") (As := [.ref (g.lk (g.lk P 2) j)]) (rest := []) ⟨hx, hb, hml, hown, tb_nil⟩ (v_judge l g H.size f28 P j kd_34 le_35 ri_36 sm_37 mv_38 ((((xst en2 S6 w9 a9).headD zI))) hL t_P hI1_31 (by omega) e33 (by omega) (by omega) (by omega) eY9.symm hKY9) ⟨(callB_of 1 (tb_one (wd_671 hB _)) tb_good1 rfl rfl rfl (wd_74 hB _) (wd_668 hB _) (by decide +kernel) ⟨Nat.le_of_ble_eq_true rfl, Nat.le_of_ble_eq_true rfl⟩), (wd_670 hB _), (wd_23 hB _)⟩ ⟨pe_bl, pg_recv (ci := 6) hK hP (lo_in hL t_P (by decide)) eP rfl, pe_pre hB hK hP hD⟩ rfl rfl hl.1 rfl (lv_room (Nat.le_of_ble_eq_true rfl)) d_NProgram_findIntervals_83 ⟨Nat.le_of_ble_eq_true rfl, Nat.le_of_ble_eq_true rfl⟩) hS (fun f46 H locs hq47 hP hD hS => ?_)
                    obtain ⟨jd_48, hI1_49, hk1_50⟩ := hq47
                    have hu := hu.st hk1_50 t26 (by decide)
                    have hv23 := hv23.st hk1_50 t26 (by decide)
                    have eP := (hk1_50 P (tg_ne t_P t26 (by decide))).trans eP
                    have e25 := (hk1_50 (g.lk P 2) (tg_ne (lo_k7_2 hL _ t_P) t26 (by decide))).trans e25
                    have eY9 := (hk1_50 (g.lk (g.lk (g.lk P 2) j) 3) (tg_ne (lo_k6_3 hL _ t26) t26 (by decide))).trans eY9
                    refine lv_iinc (k := 0) (v := nI (j + 1)) (lv' := [(2, .int (nI (j + 1))), (1, .int (nI rd)), (0, .ref P)]) hx hb d_NProgram_findIntervals_86 hl rfl (by rw [nI_succ]; rfl) (by decide) rfl (fun ls hl => ?_)
                    refine lv_goto (tgt := 58) hx hb d_NProgram_findIntervals_89 (by decide) ?_
                    have hk6 := hk1_50
                    have hlr9 : 2 ≤ kd_34 → le_35 < j ∧ ri_36 < j := fun z9 => by have y9 := c44 z9; omega
                    obtain ⟨sm1, eJ9, hsb9, hsj9⟩ := jd_48
                    have hna9 : ∀ i, i < 72 → i ≠ j → f46 (g.lk (g.lk P 2) i) = f18 (g.lk (g.lk P 2) i) := fun i hi hne => (hk6 _ (na_ne hL t_P hi (by omega) hne)).trans (hk1_32 _ (tg_ne (lo_e25 hL _ (lo_k7_2 hL P t_P) i hi) (lo_k6_3 hL _ (lo_e25 hL _ (lo_k7_2 hL P t_P) j (by omega))) (by decide)))
                    have hst9 : ∀ i, i < 36 → f46 (g.lk (g.lk P 0) i) = f18 (g.lk (g.lk P 0) i) := fun i hi => (hk6 _ (tg_ne (lo_e24 hL _ (lo_k7_0 hL P t_P) i hi) (lo_e25 hL _ (lo_k7_2 hL P t_P) j (by omega)) (by decide))).trans (hk1_32 _ (tg_ne (lo_e24 hL _ (lo_k7_0 hL P t_P) i hi) (lo_k6_3 hL _ (lo_e25 hL _ (lo_k7_2 hL P t_P) j (by omega))) (by decide)))
                    have hsm9 : NSM g f18 f46 P j := ⟨hna9, fun kd0 le0 ri0 sm0 mv0 a0 b0 q0 => ⟨sm1, by rw [eJ9]; rw [eNj9] at q0; exact nsm_eq q0⟩⟩
                    exact ih20 (j + 1) L9 s6 b6 ((stp st6 j w9)) ((xst en2 S6 w9 a9)) f46 H locs ls (by omega) (by omega) (EV_fr hL t_P hEV3 (fun v9 hv9 => (hk6 _ (tg_ne (lo_e26 hL _ (lo_k7_4 hL P t_P) v9 hv9) (lo_e25 hL _ (lo_k7_2 hL P t_P) j (by omega)) (by decide))).trans (hk1_32 _ (ni_vn hL t_P t_P hv9 (by omega))))) (fun Q hQ => (hk6 _ (tg_ne (lo_k7_5 hL Q hQ) (lo_e25 hL _ (lo_k7_2 hL P t_P) j (by omega)) (by decide))).trans ((hk1_32 _ (ni_in hL t_P hQ (by omega))).trans (h53 Q hQ))) (PRS_sm hsm9 hst9 L _ _ _ _ _ _ _ _ hren hnn hsn hPRw) (PRS_sm hsm9 hst9 L9 _ _ _ _ _ _ _ _ hre9 hnn hsn hPR9) hre9 (ISt_fr (fun i hi => hk6 _ (tg_ne (lo_k6_3 hL _ (lo_e25 hL _ (lo_k7_2 hL P t_P) i hi)) (lo_e25 hL _ (lo_k7_2 hL P t_P) j (by omega)) (by decide))) _ _ _ (by omega) his9) (fun T' hA9 hB9 => hK3 T' (fun i hi => by have y9 := hA9 i (by omega); rw [tof_eq (hna9 i (by omega) (by omega)) 1 (by decide), tof_eq (hna9 i (by omega) (by omega)) 2 (by decide), tof_eq (hna9 i (by omega) (by omega)) 3 (by decide)] at y9; exact y9) (hTS9 T' (tsb_fin hw9 hkm9 (hA9 j (by omega)) (fun i hi => (hA9 i (by omega)).2.2) eJ9 (by omega) (by omega) hlr9 hsb9 hsj9 (fun i hi => tof_eq (hk6 _ (na_ne hL t_P (by omega) (by omega) (by omega))) 3 (by decide))) hB9)) hI1_49 hv23 hl hP hD hS
              exact lp17 (nn + 1) 0 L 0 0 ([]) ([]) f10 H locs ls (by omega) (by omega) hEVf h5f hPRf hPRf hren rfl (fun _ _ z => z) hI14 un.rf hl hP hD hS
            · skip
              replace b16 := mt (nI_leI (a := 24) (b := rd) (by omega) (by omega)).mpr b16
              refine lv_aload_n hx hb d_NProgram_findIntervals_33 rfl (lv_at hl 1 rfl) ?_
              refine lv_iload_n hx hb d_NProgram_findIntervals_34 rfl (lv_at hl 0 rfl) ?_
              refine lv_iconst (v := nI 4) hx hb d_NProgram_findIntervals_35 (by decide) ?_
              refine lv_icmp_lt (tgt := 43) hx hb d_NProgram_findIntervals_36 (by decide) (fun b51 => ?_) (fun b51 => ?_)
              · skip
                replace b51 := (nI_ltI (a := rd) (b := 4) (by omega) (by omega)).mp b51
                refine lv_iconst (v := nI 0) hx hb d_NProgram_findIntervals_43 (by decide) ?_
                have hdw9 : decide (3 < rd) = false := decide_eq_false (by omega)
                have hIN9 := (h52 P t_P).trans hIN
                refine pcc_i (va_runV (C := "BigRunner$Program") (As := [.int (nI 0)]) (rest := []) ⟨hx, hb, hml, hown, tb_nil⟩ (c2_makeRound l g H.size f10 P false sn nn L nb en2 hL t_P hI14 eP (by omega) (by omega) hPR2 hren hW12 hL10 hEV2 hIN9) ⟨(callB_of 1 (tb_one (wd_604 hB _)) tb_good1 rfl rfl rfl (wd_74 hB _) (wd_601 hB _) (by decide +kernel) ⟨Nat.le_of_ble_eq_true rfl, Nat.le_of_ble_eq_true rfl⟩), (wd_603 hB _), (wd_18 hB _)⟩ ⟨pe_bl, pg_recv (ci := 6) hK hP (lo_in hL t_P (by decide)) eP rfl, pe_pre hB hK hP hD⟩ rfl rfl hl.1 rfl (lv_room (Nat.le_of_ble_eq_true rfl)) d_NProgram_findIntervals_44 ⟨Nat.le_of_ble_eq_true rfl, Nat.le_of_ble_eq_true rfl⟩) hS (fun r52 f53 H locs hq54 hP hD hS => ?_)
                obtain ⟨qv_55, ev_56, fr_57, hI1_58, hu1_59⟩ := hq54
                subst qv_55
                have hu := hu.tr hu1_59 (by decide)
                have hv7 := hv7.tr hu1_59 (by decide)
                have hv15 := hv15.tr hu1_59 (by decide)
                have eP := hu1_59.at t_P (by decide) eP
                refine lv_if_eq (tgt := 56) hx hb d_NProgram_findIntervals_47 (by decide) (fun b60 => ?_) (fun b60 => ?_)
                · skip
                  have hfin : (rds L 30 1 (fun _ => zI)) = (rd, (rnd false en2 [] false L).1) := hrd2.trans (by rw [show 31 - rd = (30 - rd) + 1 by omega]; exact ((rds_s L (30 - rd) rd en2) _ _ rfl).2 (by rw [hdw9]; exact bI_0 b60) |>.trans (by rw [hdw9]))
                  have hEVf := ev_56
                  have h5f : ∀ Q, g.tg Q = 7 → f53 (g.lk Q 5) = f (g.lk Q 5) := fun Q hQ => (fr_57 _ (fun j hj => ni_in hL t_P hQ hj) (fun v hv => vn_in hL t_P hQ hv)).trans (h52 Q hQ)
                  have hR24 : rd ≤ 24 := hrd
                  have hPRf := (PRS_eq L _ _ _ _ _ _ _ _ hren hPR2 (fun j h1 h2 => hu1_59 _ (by rw [lo_e24 hL _ (lo_k7_0 hL P t_P) j (by omega)]; decide)) (fun j h1 h2 => hu1_59 _ (by rw [lo_e25 hL _ (lo_k7_2 hL P t_P) j (by omega)]; decide)))
                  refine lv_iconst (v := nI 0) hx hb d_NProgram_findIntervals_56 (by decide) ?_
                  refine lv_istore_n (lv' := [(2, .int (nI 0)), (1, .int (nI rd)), (0, .ref P)]) hx hb d_NProgram_findIntervals_57 rfl hl (by decide) rfl (fun ls hl => ?_)
                  skip
                  have lp61 : ∀ (k63 : Nat) (j : Nat) (Lr : List (Nat × Nat)) (s7 : Nat) (b7 : Nat) (st7 : List Nat) (S7 : List IVL) (f62 : Nat → va_E) (H : Heap) (locs : List Loc) (ls : Array Slot), (nn < j + k63) → (j ≤ nn) → (EV g f62 P ((rnd false en2 [] false L).1)) → (∀ Q, g.tg Q = 7 → f62 (g.lk Q 5) = f (g.lk Q 5)) → (PRS g f62 P nb 0 0 0 [] L) → (PRS g f62 P nb s7 j b7 st7 Lr) → (ren s7 j b7 st7 Lr = (sn, nn, nn, [])) → (ISt g f62 P j st7 S7) → (∀ T' : TT, AGR T' (Tof g f62 P) j → TSBL T' ((rnd false en2 [] false L).1) S7 j Lr → TSBL T' ((rnd false en2 [] false L).1) [] 0 L) → IV g f62 → un [3, 6] g f53 f62 → lv_has ls 3 [(2, .int (nI j)), (1, .int (nI rd)), (0, .ref P)] → va_P g.D vcl (va_pl g.LP f62) H → va_D (pc_A g s.heap.size) (va_pl g.LP f62) → va_S (pc_A g s.heap.size) s.heap H locs → W p l e ({ frames := 7, cells := 0, slots := 0, locals := 161 }) s m args below meth c H locs 0 0 (MQ below (va_Qi (fun r f1 => (r = nI (rds L 30 1 (fun _ => zI)).1) ∧ (EV g f1 P (rds L 30 1 (fun _ => zI)).2) ∧ ((rds L 30 1 (fun _ => zI)).1 ≤ 24) ∧ (∀ Q, g.tg Q = 7 → f1 (g.lk Q 5) = f (g.lk Q 5)) ∧ (TSBL (Tof g f1 P) (rds L 30 1 (fun _ => zI)).2 [] 0 L) ∧ (PRS g f1 P nb 0 0 0 [] L) ∧ (IV g f1) ∧ (un [3, 6] g f f1)) (pc_out g s.heap.size) (pc_A g s.heap.size)) args s 0 0 (pc_A g s.heap.size)) (F0 m 58 ls []) := by
                    intro k63
                    induction k63 with
                    | zero => intros; exfalso; omega
                    | succ k63 ih64 =>
                      intro j Lr s7 b7 st7 S7 f62 H locs ls hfu65 hj hEV3 h53 hPRw hPR3 hre3 hIS3 hK3 hI66 hv67 hl hP hD hS
                      have eP := hv67.at t_P (by decide) eP
                      have hu := hu.tr hv67 (by decide)
                      refine lv_iload_n hx hb d_NProgram_findIntervals_58 rfl (lv_at hl 0 rfl) ?_
                      refine lv_aload_n hx hb d_NProgram_findIntervals_59 rfl (lv_at hl 2 rfl) ?_
                      refine pf_get (v := .int (nI nn)) (C := "BigRunner$Program") (T := FT6) (N := 6) hx hb (hw6 hB _) (fun _ h9 => h9) hown hK hP (lo_in hL t_P (by decide)) eP rfl 3 (by decide) (wd_251 hB _) rfl d_NProgram_findIntervals_60 ?_
                      refine lv_icmp_ge (tgt := 92) hx hb d_NProgram_findIntervals_63 (by decide) (fun b68 => ?_) (fun b68 => ?_)
                      · skip
                        replace b68 := (nI_leI (a := nn) (b := j) (by omega) (by omega)).mp b68
                        refine lv_iload_n hx hb d_NProgram_findIntervals_92 rfl (lv_at hl 1 rfl) ?_
                        exact pe_iret hx hb hr hlocks hK hP hD hS d_NProgram_findIntervals_93 ⟨(by rw [hfin]), (by rw [hfin]; exact hEV3), (by rw [hfin]; exact hR24), h53, (by rw [hfin]; exact hK3 _ (fun _ _ => ⟨rfl, rfl, rfl⟩) (TSBL_end Lr _ _ _ _ _ _ _ _ (by rw [show j = nn by omega] at hre3 ⊢; exact hre3))), hPRw, hI66, hu⟩
                      · skip
                        replace b68 := mt (nI_leI (a := nn) (b := j) (by omega) (by omega)).mpr b68
                        obtain ⟨s6, b6, st6, S6, w9, a9, L9, hw9, hND9, hPR9, hre9, hIS9, hTS9⟩ := PRS_node (en := (rnd false en2 [] false L).1) Lr _ _ _ _ S7 _ _ _ _ hre3 hPR3 hIS3 (show j < nn by omega)
                        refine lv_aload_n hx hb d_NProgram_findIntervals_66 rfl (lv_at hl 2 rfl) ?_
                        refine lv_aload_n hx hb d_NProgram_findIntervals_67 rfl (lv_at hl 2 rfl) ?_
                        refine pf_get (v := .ref (g.lk P 2)) (C := "BigRunner$Program") (T := FT6) (N := 6) hx hb (hw6 hB _) (fun _ h9 => h9) hown hK hP (lo_in hL t_P (by decide)) eP rfl 2 (by decide) (wd_248 hB _) rfl d_NProgram_findIntervals_68 ?_
                        refine lv_iload_n hx hb d_NProgram_findIntervals_71 rfl (lv_at hl 0 rfl) ?_
                        have e69 := oc_25.of (lo_k7_2 hL _ t_P) (hI66.1 (g.lk P 2))
                        refine pf_aald (i := j) hx hb hK hP (lo_in hL (lo_k7_2 hL _ t_P) (by decide)) e69 (lo_t25 hL _ (lo_k7_2 hL _ t_P)) (by omega) (by decide) d_NProgram_findIntervals_72 ?_
                        have t70 := lo_e25 hL _ (lo_k7_2 hL _ t_P) j (by omega)
                        refine pcc_v (va_runV (C := "BigRunner$Program") (As := [.ref (g.lk (g.lk P 2) j)]) (rest := []) ⟨hx, hb, hml, hown, tb_nil⟩ (c2_findInterval l g H.size f62 P j w9 a9 st6 S6 (((rnd false en2 [] false L).1)) hL t_P hI66 (by omega) hND9 hIS9 hEV3) ⟨(callB_of 1 (tb_one (wd_616 hB _)) tb_good1 rfl rfl rfl (wd_74 hB _) (wd_613 hB _) (by decide +kernel) ⟨Nat.le_of_ble_eq_true rfl, Nat.le_of_ble_eq_true rfl⟩), (wd_615 hB _), (wd_20 hB _)⟩ ⟨pe_bl, pg_recv (ci := 6) hK hP (lo_in hL t_P (by decide)) eP rfl, pe_pre hB hK hP hD⟩ rfl rfl hl.1 rfl (lv_room (Nat.le_of_ble_eq_true rfl)) d_NProgram_findIntervals_73 ⟨Nat.le_of_ble_eq_true rfl, Nat.le_of_ble_eq_true rfl⟩) hS (fun f72 H locs hq73 hP hD hS => ?_)
                        obtain ⟨is_74, hI1_75, hk1_76⟩ := hq73
                        have hu := hu.st hk1_76 (lo_k6_3 hL _ t70) (by decide)
                        have hv67 := hv67.st hk1_76 (lo_k6_3 hL _ t70) (by decide)
                        have eP := (hk1_76 P (tg_ne t_P (lo_k6_3 hL _ t70) (by decide))).trans eP
                        have e69 := (hk1_76 (g.lk P 2) (tg_ne (lo_k7_2 hL _ t_P) (lo_k6_3 hL _ t70) (by decide))).trans e69
                        have his9 := is_74
                        obtain ⟨eY9, hKY9⟩ := IS_hd his9
                        obtain ⟨kd_78, le_79, ri_80, sm_81, mv_82, e77, c83, c84, c85, c86, c87, c88⟩ := oc_6.of t70 (hI1_75.1 (g.lk (g.lk P 2) j))
                        have eNj9 := (hk1_76 _ (tg_ne (lo_e25 hL _ (lo_k7_2 hL P t_P) j (by omega)) (lo_k6_3 hL _ (lo_e25 hL _ (lo_k7_2 hL P t_P) j (by omega))) (by decide))).symm.trans e77
                        have htn8 := lo_n25 hL _ (lo_k7_2 hL P t_P) j (by omega)
                        have hkm9 : kd_78 = km w9 := nd_km hND9 eNj9 (by omega)
                        refine lv_aload_n hx hb d_NProgram_findIntervals_76 rfl (lv_at hl 2 rfl) ?_
                        refine lv_aload_n hx hb d_NProgram_findIntervals_77 rfl (lv_at hl 2 rfl) ?_
                        refine pf_get (v := .ref (g.lk P 2)) (C := "BigRunner$Program") (T := FT6) (N := 6) hx hb (hw6 hB _) (fun _ h9 => h9) hown hK hP (lo_in hL t_P (by decide)) eP rfl 2 (by decide) (wd_248 hB _) rfl d_NProgram_findIntervals_78 ?_
                        refine lv_iload_n hx hb d_NProgram_findIntervals_81 rfl (lv_at hl 0 rfl) ?_
                        refine pf_aald (i := j) hx hb hK hP (lo_in hL (lo_k7_2 hL _ t_P) (by decide)) e69 (lo_t25 hL _ (lo_k7_2 hL _ t_P)) (by omega) (by decide) d_NProgram_findIntervals_82 ?_
                        refine pcc_v (va_runV (C := "BigRunner$Program") (As := [.ref (g.lk (g.lk P 2) j)]) (rest := []) ⟨hx, hb, hml, hown, tb_nil⟩ (v_judge l g H.size f72 P j kd_78 le_79 ri_80 sm_81 mv_82 ((((xst ((rnd false en2 [] false L).1) S6 w9 a9).headD zI))) hL t_P hI1_75 (by omega) e77 (by omega) (by omega) (by omega) eY9.symm hKY9) ⟨(callB_of 1 (tb_one (wd_671 hB _)) tb_good1 rfl rfl rfl (wd_74 hB _) (wd_668 hB _) (by decide +kernel) ⟨Nat.le_of_ble_eq_true rfl, Nat.le_of_ble_eq_true rfl⟩), (wd_670 hB _), (wd_23 hB _)⟩ ⟨pe_bl, pg_recv (ci := 6) hK hP (lo_in hL t_P (by decide)) eP rfl, pe_pre hB hK hP hD⟩ rfl rfl hl.1 rfl (lv_room (Nat.le_of_ble_eq_true rfl)) d_NProgram_findIntervals_83 ⟨Nat.le_of_ble_eq_true rfl, Nat.le_of_ble_eq_true rfl⟩) hS (fun f90 H locs hq91 hP hD hS => ?_)
                        obtain ⟨jd_92, hI1_93, hk1_94⟩ := hq91
                        have hu := hu.st hk1_94 t70 (by decide)
                        have hv67 := hv67.st hk1_94 t70 (by decide)
                        have eP := (hk1_94 P (tg_ne t_P t70 (by decide))).trans eP
                        have e69 := (hk1_94 (g.lk P 2) (tg_ne (lo_k7_2 hL _ t_P) t70 (by decide))).trans e69
                        have eY9 := (hk1_94 (g.lk (g.lk (g.lk P 2) j) 3) (tg_ne (lo_k6_3 hL _ t70) t70 (by decide))).trans eY9
                        refine lv_iinc (k := 0) (v := nI (j + 1)) (lv' := [(2, .int (nI (j + 1))), (1, .int (nI rd)), (0, .ref P)]) hx hb d_NProgram_findIntervals_86 hl rfl (by rw [nI_succ]; rfl) (by decide) rfl (fun ls hl => ?_)
                        refine lv_goto (tgt := 58) hx hb d_NProgram_findIntervals_89 (by decide) ?_
                        have hk6 := hk1_94
                        have hlr9 : 2 ≤ kd_78 → le_79 < j ∧ ri_80 < j := fun z9 => by have y9 := c88 z9; omega
                        obtain ⟨sm1, eJ9, hsb9, hsj9⟩ := jd_92
                        have hna9 : ∀ i, i < 72 → i ≠ j → f90 (g.lk (g.lk P 2) i) = f62 (g.lk (g.lk P 2) i) := fun i hi hne => (hk6 _ (na_ne hL t_P hi (by omega) hne)).trans (hk1_76 _ (tg_ne (lo_e25 hL _ (lo_k7_2 hL P t_P) i hi) (lo_k6_3 hL _ (lo_e25 hL _ (lo_k7_2 hL P t_P) j (by omega))) (by decide)))
                        have hst9 : ∀ i, i < 36 → f90 (g.lk (g.lk P 0) i) = f62 (g.lk (g.lk P 0) i) := fun i hi => (hk6 _ (tg_ne (lo_e24 hL _ (lo_k7_0 hL P t_P) i hi) (lo_e25 hL _ (lo_k7_2 hL P t_P) j (by omega)) (by decide))).trans (hk1_76 _ (tg_ne (lo_e24 hL _ (lo_k7_0 hL P t_P) i hi) (lo_k6_3 hL _ (lo_e25 hL _ (lo_k7_2 hL P t_P) j (by omega))) (by decide)))
                        have hsm9 : NSM g f62 f90 P j := ⟨hna9, fun kd0 le0 ri0 sm0 mv0 a0 b0 q0 => ⟨sm1, by rw [eJ9]; rw [eNj9] at q0; exact nsm_eq q0⟩⟩
                        exact ih64 (j + 1) L9 s6 b6 ((stp st6 j w9)) ((xst ((rnd false en2 [] false L).1) S6 w9 a9)) f90 H locs ls (by omega) (by omega) (EV_fr hL t_P hEV3 (fun v9 hv9 => (hk6 _ (tg_ne (lo_e26 hL _ (lo_k7_4 hL P t_P) v9 hv9) (lo_e25 hL _ (lo_k7_2 hL P t_P) j (by omega)) (by decide))).trans (hk1_76 _ (ni_vn hL t_P t_P hv9 (by omega))))) (fun Q hQ => (hk6 _ (tg_ne (lo_k7_5 hL Q hQ) (lo_e25 hL _ (lo_k7_2 hL P t_P) j (by omega)) (by decide))).trans ((hk1_76 _ (ni_in hL t_P hQ (by omega))).trans (h53 Q hQ))) (PRS_sm hsm9 hst9 L _ _ _ _ _ _ _ _ hren hnn hsn hPRw) (PRS_sm hsm9 hst9 L9 _ _ _ _ _ _ _ _ hre9 hnn hsn hPR9) hre9 (ISt_fr (fun i hi => hk6 _ (tg_ne (lo_k6_3 hL _ (lo_e25 hL _ (lo_k7_2 hL P t_P) i hi)) (lo_e25 hL _ (lo_k7_2 hL P t_P) j (by omega)) (by decide))) _ _ _ (by omega) his9) (fun T' hA9 hB9 => hK3 T' (fun i hi => by have y9 := hA9 i (by omega); rw [tof_eq (hna9 i (by omega) (by omega)) 1 (by decide), tof_eq (hna9 i (by omega) (by omega)) 2 (by decide), tof_eq (hna9 i (by omega) (by omega)) 3 (by decide)] at y9; exact y9) (hTS9 T' (tsb_fin hw9 hkm9 (hA9 j (by omega)) (fun i hi => (hA9 i (by omega)).2.2) eJ9 (by omega) (by omega) hlr9 hsb9 hsj9 (fun i hi => tof_eq (hk6 _ (na_ne hL t_P (by omega) (by omega) (by omega))) 3 (by decide))) hB9)) hI1_93 hv67 hl hP hD hS
                  exact lp61 (nn + 1) 0 L 0 0 ([]) ([]) f53 H locs ls (by omega) (by omega) hEVf h5f hPRf hPRf hren rfl (fun _ _ z => z) hI1_58 un.rf hl hP hD hS
                · skip
                  refine lv_iinc (k := 0) (v := nI (rd + 1)) (lv' := [(1, .int (nI (rd + 1))), (0, .ref P)]) hx hb d_NProgram_findIntervals_50 hl rfl (by rw [nI_succ]; rfl) (by decide) rfl (fun ls hl => ?_)
                  refine lv_goto (tgt := 27) hx hb d_NProgram_findIntervals_53 (by decide) ?_
                  exact ih12 (rd + 1) ((rnd false en2 [] false L).1) f53 H locs ls (by omega) (by omega) (by omega) (PRS_eq L _ _ _ _ _ _ _ _ hren hPR2 (fun j h1 h2 => hu1_59 _ (by rw [lo_e24 hL _ (lo_k7_0 hL P t_P) j (by omega)]; decide)) (fun j h1 h2 => hu1_59 _ (by rw [lo_e25 hL _ (lo_k7_2 hL P t_P) j (by omega)]; decide))) ev_56 (fun Q hQ => (fr_57 _ (fun j hj => ni_in hL t_P hQ hj) (fun v hv => vn_in hL t_P hQ hv)).trans (h52 Q hQ)) (hrd2.trans (by rw [show 31 - rd = (30 - rd) + 1 by omega, show 31 - (rd + 1) = 30 - rd by omega]; exact ((rds_s L (30 - rd) rd en2) _ _ rfl).1 (by rw [hdw9]; exact bI_1 b60) |>.trans (by rw [hdw9]))) (fun q4 => by have z1 := cnt_le (rnd false en2 [] false L).1 10; omega) hI1_58 hv15 hl hP hD hS
              · skip
                replace b51 := mt (nI_ltI (a := rd) (b := 4) (by omega) (by omega)).mpr b51
                refine lv_iconst (v := nI 1) hx hb d_NProgram_findIntervals_39 (by decide) ?_
                refine lv_goto (tgt := 44) hx hb d_NProgram_findIntervals_40 (by decide) ?_
                have hdw9 : decide (3 < rd) = true := decide_eq_true (by omega)
                have hIN9 := (h52 P t_P).trans hIN
                refine pcc_i (va_runV (C := "BigRunner$Program") (As := [.int (nI 1)]) (rest := []) ⟨hx, hb, hml, hown, tb_nil⟩ (c2_makeRound l g H.size f10 P true sn nn L nb en2 hL t_P hI14 eP (by omega) (by omega) hPR2 hren hW12 hL10 hEV2 hIN9) ⟨(callB_of 1 (tb_one (wd_604 hB _)) tb_good1 rfl rfl rfl (wd_74 hB _) (wd_601 hB _) (by decide +kernel) ⟨Nat.le_of_ble_eq_true rfl, Nat.le_of_ble_eq_true rfl⟩), (wd_603 hB _), (wd_18 hB _)⟩ ⟨pe_bl, pg_recv (ci := 6) hK hP (lo_in hL t_P (by decide)) eP rfl, pe_pre hB hK hP hD⟩ rfl rfl hl.1 rfl (lv_room (Nat.le_of_ble_eq_true rfl)) d_NProgram_findIntervals_44 ⟨Nat.le_of_ble_eq_true rfl, Nat.le_of_ble_eq_true rfl⟩) hS (fun r95 f96 H locs hq97 hP hD hS => ?_)
                obtain ⟨qv_98, ev_99, fr_100, hI1_101, hu1_102⟩ := hq97
                subst qv_98
                have hu := hu.tr hu1_102 (by decide)
                have hv7 := hv7.tr hu1_102 (by decide)
                have hv15 := hv15.tr hu1_102 (by decide)
                have eP := hu1_102.at t_P (by decide) eP
                refine lv_if_eq (tgt := 56) hx hb d_NProgram_findIntervals_47 (by decide) (fun b103 => ?_) (fun b103 => ?_)
                · skip
                  have hfin : (rds L 30 1 (fun _ => zI)) = (rd, (rnd true en2 [] false L).1) := hrd2.trans (by rw [show 31 - rd = (30 - rd) + 1 by omega]; exact ((rds_s L (30 - rd) rd en2) _ _ rfl).2 (by rw [hdw9]; exact bI_0 b103) |>.trans (by rw [hdw9]))
                  have hEVf := ev_99
                  have h5f : ∀ Q, g.tg Q = 7 → f96 (g.lk Q 5) = f (g.lk Q 5) := fun Q hQ => (fr_100 _ (fun j hj => ni_in hL t_P hQ hj) (fun v hv => vn_in hL t_P hQ hv)).trans (h52 Q hQ)
                  have hR24 : rd ≤ 24 := hrd
                  have hPRf := (PRS_eq L _ _ _ _ _ _ _ _ hren hPR2 (fun j h1 h2 => hu1_102 _ (by rw [lo_e24 hL _ (lo_k7_0 hL P t_P) j (by omega)]; decide)) (fun j h1 h2 => hu1_102 _ (by rw [lo_e25 hL _ (lo_k7_2 hL P t_P) j (by omega)]; decide)))
                  refine lv_iconst (v := nI 0) hx hb d_NProgram_findIntervals_56 (by decide) ?_
                  refine lv_istore_n (lv' := [(2, .int (nI 0)), (1, .int (nI rd)), (0, .ref P)]) hx hb d_NProgram_findIntervals_57 rfl hl (by decide) rfl (fun ls hl => ?_)
                  skip
                  have lp104 : ∀ (k106 : Nat) (j : Nat) (Lr : List (Nat × Nat)) (s7 : Nat) (b7 : Nat) (st7 : List Nat) (S7 : List IVL) (f105 : Nat → va_E) (H : Heap) (locs : List Loc) (ls : Array Slot), (nn < j + k106) → (j ≤ nn) → (EV g f105 P ((rnd true en2 [] false L).1)) → (∀ Q, g.tg Q = 7 → f105 (g.lk Q 5) = f (g.lk Q 5)) → (PRS g f105 P nb 0 0 0 [] L) → (PRS g f105 P nb s7 j b7 st7 Lr) → (ren s7 j b7 st7 Lr = (sn, nn, nn, [])) → (ISt g f105 P j st7 S7) → (∀ T' : TT, AGR T' (Tof g f105 P) j → TSBL T' ((rnd true en2 [] false L).1) S7 j Lr → TSBL T' ((rnd true en2 [] false L).1) [] 0 L) → IV g f105 → un [3, 6] g f96 f105 → lv_has ls 3 [(2, .int (nI j)), (1, .int (nI rd)), (0, .ref P)] → va_P g.D vcl (va_pl g.LP f105) H → va_D (pc_A g s.heap.size) (va_pl g.LP f105) → va_S (pc_A g s.heap.size) s.heap H locs → W p l e ({ frames := 7, cells := 0, slots := 0, locals := 161 }) s m args below meth c H locs 0 0 (MQ below (va_Qi (fun r f1 => (r = nI (rds L 30 1 (fun _ => zI)).1) ∧ (EV g f1 P (rds L 30 1 (fun _ => zI)).2) ∧ ((rds L 30 1 (fun _ => zI)).1 ≤ 24) ∧ (∀ Q, g.tg Q = 7 → f1 (g.lk Q 5) = f (g.lk Q 5)) ∧ (TSBL (Tof g f1 P) (rds L 30 1 (fun _ => zI)).2 [] 0 L) ∧ (PRS g f1 P nb 0 0 0 [] L) ∧ (IV g f1) ∧ (un [3, 6] g f f1)) (pc_out g s.heap.size) (pc_A g s.heap.size)) args s 0 0 (pc_A g s.heap.size)) (F0 m 58 ls []) := by
                    intro k106
                    induction k106 with
                    | zero => intros; exfalso; omega
                    | succ k106 ih107 =>
                      intro j Lr s7 b7 st7 S7 f105 H locs ls hfu108 hj hEV3 h53 hPRw hPR3 hre3 hIS3 hK3 hI109 hv110 hl hP hD hS
                      have eP := hv110.at t_P (by decide) eP
                      have hu := hu.tr hv110 (by decide)
                      refine lv_iload_n hx hb d_NProgram_findIntervals_58 rfl (lv_at hl 0 rfl) ?_
                      refine lv_aload_n hx hb d_NProgram_findIntervals_59 rfl (lv_at hl 2 rfl) ?_
                      refine pf_get (v := .int (nI nn)) (C := "BigRunner$Program") (T := FT6) (N := 6) hx hb (hw6 hB _) (fun _ h9 => h9) hown hK hP (lo_in hL t_P (by decide)) eP rfl 3 (by decide) (wd_251 hB _) rfl d_NProgram_findIntervals_60 ?_
                      refine lv_icmp_ge (tgt := 92) hx hb d_NProgram_findIntervals_63 (by decide) (fun b111 => ?_) (fun b111 => ?_)
                      · skip
                        replace b111 := (nI_leI (a := nn) (b := j) (by omega) (by omega)).mp b111
                        refine lv_iload_n hx hb d_NProgram_findIntervals_92 rfl (lv_at hl 1 rfl) ?_
                        exact pe_iret hx hb hr hlocks hK hP hD hS d_NProgram_findIntervals_93 ⟨(by rw [hfin]), (by rw [hfin]; exact hEV3), (by rw [hfin]; exact hR24), h53, (by rw [hfin]; exact hK3 _ (fun _ _ => ⟨rfl, rfl, rfl⟩) (TSBL_end Lr _ _ _ _ _ _ _ _ (by rw [show j = nn by omega] at hre3 ⊢; exact hre3))), hPRw, hI109, hu⟩
                      · skip
                        replace b111 := mt (nI_leI (a := nn) (b := j) (by omega) (by omega)).mpr b111
                        obtain ⟨s6, b6, st6, S6, w9, a9, L9, hw9, hND9, hPR9, hre9, hIS9, hTS9⟩ := PRS_node (en := (rnd true en2 [] false L).1) Lr _ _ _ _ S7 _ _ _ _ hre3 hPR3 hIS3 (show j < nn by omega)
                        refine lv_aload_n hx hb d_NProgram_findIntervals_66 rfl (lv_at hl 2 rfl) ?_
                        refine lv_aload_n hx hb d_NProgram_findIntervals_67 rfl (lv_at hl 2 rfl) ?_
                        refine pf_get (v := .ref (g.lk P 2)) (C := "BigRunner$Program") (T := FT6) (N := 6) hx hb (hw6 hB _) (fun _ h9 => h9) hown hK hP (lo_in hL t_P (by decide)) eP rfl 2 (by decide) (wd_248 hB _) rfl d_NProgram_findIntervals_68 ?_
                        refine lv_iload_n hx hb d_NProgram_findIntervals_71 rfl (lv_at hl 0 rfl) ?_
                        have e112 := oc_25.of (lo_k7_2 hL _ t_P) (hI109.1 (g.lk P 2))
                        refine pf_aald (i := j) hx hb hK hP (lo_in hL (lo_k7_2 hL _ t_P) (by decide)) e112 (lo_t25 hL _ (lo_k7_2 hL _ t_P)) (by omega) (by decide) d_NProgram_findIntervals_72 ?_
                        have t113 := lo_e25 hL _ (lo_k7_2 hL _ t_P) j (by omega)
                        refine pcc_v (va_runV (C := "BigRunner$Program") (As := [.ref (g.lk (g.lk P 2) j)]) (rest := []) ⟨hx, hb, hml, hown, tb_nil⟩ (c2_findInterval l g H.size f105 P j w9 a9 st6 S6 (((rnd true en2 [] false L).1)) hL t_P hI109 (by omega) hND9 hIS9 hEV3) ⟨(callB_of 1 (tb_one (wd_616 hB _)) tb_good1 rfl rfl rfl (wd_74 hB _) (wd_613 hB _) (by decide +kernel) ⟨Nat.le_of_ble_eq_true rfl, Nat.le_of_ble_eq_true rfl⟩), (wd_615 hB _), (wd_20 hB _)⟩ ⟨pe_bl, pg_recv (ci := 6) hK hP (lo_in hL t_P (by decide)) eP rfl, pe_pre hB hK hP hD⟩ rfl rfl hl.1 rfl (lv_room (Nat.le_of_ble_eq_true rfl)) d_NProgram_findIntervals_73 ⟨Nat.le_of_ble_eq_true rfl, Nat.le_of_ble_eq_true rfl⟩) hS (fun f115 H locs hq116 hP hD hS => ?_)
                        obtain ⟨is_117, hI1_118, hk1_119⟩ := hq116
                        have hu := hu.st hk1_119 (lo_k6_3 hL _ t113) (by decide)
                        have hv110 := hv110.st hk1_119 (lo_k6_3 hL _ t113) (by decide)
                        have eP := (hk1_119 P (tg_ne t_P (lo_k6_3 hL _ t113) (by decide))).trans eP
                        have e112 := (hk1_119 (g.lk P 2) (tg_ne (lo_k7_2 hL _ t_P) (lo_k6_3 hL _ t113) (by decide))).trans e112
                        have his9 := is_117
                        obtain ⟨eY9, hKY9⟩ := IS_hd his9
                        obtain ⟨kd_121, le_122, ri_123, sm_124, mv_125, e120, c126, c127, c128, c129, c130, c131⟩ := oc_6.of t113 (hI1_118.1 (g.lk (g.lk P 2) j))
                        have eNj9 := (hk1_119 _ (tg_ne (lo_e25 hL _ (lo_k7_2 hL P t_P) j (by omega)) (lo_k6_3 hL _ (lo_e25 hL _ (lo_k7_2 hL P t_P) j (by omega))) (by decide))).symm.trans e120
                        have htn8 := lo_n25 hL _ (lo_k7_2 hL P t_P) j (by omega)
                        have hkm9 : kd_121 = km w9 := nd_km hND9 eNj9 (by omega)
                        refine lv_aload_n hx hb d_NProgram_findIntervals_76 rfl (lv_at hl 2 rfl) ?_
                        refine lv_aload_n hx hb d_NProgram_findIntervals_77 rfl (lv_at hl 2 rfl) ?_
                        refine pf_get (v := .ref (g.lk P 2)) (C := "BigRunner$Program") (T := FT6) (N := 6) hx hb (hw6 hB _) (fun _ h9 => h9) hown hK hP (lo_in hL t_P (by decide)) eP rfl 2 (by decide) (wd_248 hB _) rfl d_NProgram_findIntervals_78 ?_
                        refine lv_iload_n hx hb d_NProgram_findIntervals_81 rfl (lv_at hl 0 rfl) ?_
                        refine pf_aald (i := j) hx hb hK hP (lo_in hL (lo_k7_2 hL _ t_P) (by decide)) e112 (lo_t25 hL _ (lo_k7_2 hL _ t_P)) (by omega) (by decide) d_NProgram_findIntervals_82 ?_
                        refine pcc_v (va_runV (C := "BigRunner$Program") (As := [.ref (g.lk (g.lk P 2) j)]) (rest := []) ⟨hx, hb, hml, hown, tb_nil⟩ (v_judge l g H.size f115 P j kd_121 le_122 ri_123 sm_124 mv_125 ((((xst ((rnd true en2 [] false L).1) S6 w9 a9).headD zI))) hL t_P hI1_118 (by omega) e120 (by omega) (by omega) (by omega) eY9.symm hKY9) ⟨(callB_of 1 (tb_one (wd_671 hB _)) tb_good1 rfl rfl rfl (wd_74 hB _) (wd_668 hB _) (by decide +kernel) ⟨Nat.le_of_ble_eq_true rfl, Nat.le_of_ble_eq_true rfl⟩), (wd_670 hB _), (wd_23 hB _)⟩ ⟨pe_bl, pg_recv (ci := 6) hK hP (lo_in hL t_P (by decide)) eP rfl, pe_pre hB hK hP hD⟩ rfl rfl hl.1 rfl (lv_room (Nat.le_of_ble_eq_true rfl)) d_NProgram_findIntervals_83 ⟨Nat.le_of_ble_eq_true rfl, Nat.le_of_ble_eq_true rfl⟩) hS (fun f133 H locs hq134 hP hD hS => ?_)
                        obtain ⟨jd_135, hI1_136, hk1_137⟩ := hq134
                        have hu := hu.st hk1_137 t113 (by decide)
                        have hv110 := hv110.st hk1_137 t113 (by decide)
                        have eP := (hk1_137 P (tg_ne t_P t113 (by decide))).trans eP
                        have e112 := (hk1_137 (g.lk P 2) (tg_ne (lo_k7_2 hL _ t_P) t113 (by decide))).trans e112
                        have eY9 := (hk1_137 (g.lk (g.lk (g.lk P 2) j) 3) (tg_ne (lo_k6_3 hL _ t113) t113 (by decide))).trans eY9
                        refine lv_iinc (k := 0) (v := nI (j + 1)) (lv' := [(2, .int (nI (j + 1))), (1, .int (nI rd)), (0, .ref P)]) hx hb d_NProgram_findIntervals_86 hl rfl (by rw [nI_succ]; rfl) (by decide) rfl (fun ls hl => ?_)
                        refine lv_goto (tgt := 58) hx hb d_NProgram_findIntervals_89 (by decide) ?_
                        have hk6 := hk1_137
                        have hlr9 : 2 ≤ kd_121 → le_122 < j ∧ ri_123 < j := fun z9 => by have y9 := c131 z9; omega
                        obtain ⟨sm1, eJ9, hsb9, hsj9⟩ := jd_135
                        have hna9 : ∀ i, i < 72 → i ≠ j → f133 (g.lk (g.lk P 2) i) = f105 (g.lk (g.lk P 2) i) := fun i hi hne => (hk6 _ (na_ne hL t_P hi (by omega) hne)).trans (hk1_119 _ (tg_ne (lo_e25 hL _ (lo_k7_2 hL P t_P) i hi) (lo_k6_3 hL _ (lo_e25 hL _ (lo_k7_2 hL P t_P) j (by omega))) (by decide)))
                        have hst9 : ∀ i, i < 36 → f133 (g.lk (g.lk P 0) i) = f105 (g.lk (g.lk P 0) i) := fun i hi => (hk6 _ (tg_ne (lo_e24 hL _ (lo_k7_0 hL P t_P) i hi) (lo_e25 hL _ (lo_k7_2 hL P t_P) j (by omega)) (by decide))).trans (hk1_119 _ (tg_ne (lo_e24 hL _ (lo_k7_0 hL P t_P) i hi) (lo_k6_3 hL _ (lo_e25 hL _ (lo_k7_2 hL P t_P) j (by omega))) (by decide)))
                        have hsm9 : NSM g f105 f133 P j := ⟨hna9, fun kd0 le0 ri0 sm0 mv0 a0 b0 q0 => ⟨sm1, by rw [eJ9]; rw [eNj9] at q0; exact nsm_eq q0⟩⟩
                        exact ih107 (j + 1) L9 s6 b6 ((stp st6 j w9)) ((xst ((rnd true en2 [] false L).1) S6 w9 a9)) f133 H locs ls (by omega) (by omega) (EV_fr hL t_P hEV3 (fun v9 hv9 => (hk6 _ (tg_ne (lo_e26 hL _ (lo_k7_4 hL P t_P) v9 hv9) (lo_e25 hL _ (lo_k7_2 hL P t_P) j (by omega)) (by decide))).trans (hk1_119 _ (ni_vn hL t_P t_P hv9 (by omega))))) (fun Q hQ => (hk6 _ (tg_ne (lo_k7_5 hL Q hQ) (lo_e25 hL _ (lo_k7_2 hL P t_P) j (by omega)) (by decide))).trans ((hk1_119 _ (ni_in hL t_P hQ (by omega))).trans (h53 Q hQ))) (PRS_sm hsm9 hst9 L _ _ _ _ _ _ _ _ hren hnn hsn hPRw) (PRS_sm hsm9 hst9 L9 _ _ _ _ _ _ _ _ hre9 hnn hsn hPR9) hre9 (ISt_fr (fun i hi => hk6 _ (tg_ne (lo_k6_3 hL _ (lo_e25 hL _ (lo_k7_2 hL P t_P) i hi)) (lo_e25 hL _ (lo_k7_2 hL P t_P) j (by omega)) (by decide))) _ _ _ (by omega) his9) (fun T' hA9 hB9 => hK3 T' (fun i hi => by have y9 := hA9 i (by omega); rw [tof_eq (hna9 i (by omega) (by omega)) 1 (by decide), tof_eq (hna9 i (by omega) (by omega)) 2 (by decide), tof_eq (hna9 i (by omega) (by omega)) 3 (by decide)] at y9; exact y9) (hTS9 T' (tsb_fin hw9 hkm9 (hA9 j (by omega)) (fun i hi => (hA9 i (by omega)).2.2) eJ9 (by omega) (by omega) hlr9 hsb9 hsj9 (fun i hi => tof_eq (hk6 _ (na_ne hL t_P (by omega) (by omega) (by omega))) 3 (by decide))) hB9)) hI1_136 hv110 hl hP hD hS
                  exact lp104 (nn + 1) 0 L 0 0 ([]) ([]) f96 H locs ls (by omega) (by omega) hEVf h5f hPRf hPRf hren rfl (fun _ _ z => z) hI1_101 un.rf hl hP hD hS
                · skip
                  refine lv_iinc (k := 0) (v := nI (rd + 1)) (lv' := [(1, .int (nI (rd + 1))), (0, .ref P)]) hx hb d_NProgram_findIntervals_50 hl rfl (by rw [nI_succ]; rfl) (by decide) rfl (fun ls hl => ?_)
                  refine lv_goto (tgt := 27) hx hb d_NProgram_findIntervals_53 (by decide) ?_
                  exact ih12 (rd + 1) ((rnd true en2 [] false L).1) f96 H locs ls (by omega) (by omega) (by omega) (PRS_eq L _ _ _ _ _ _ _ _ hren hPR2 (fun j h1 h2 => hu1_102 _ (by rw [lo_e24 hL _ (lo_k7_0 hL P t_P) j (by omega)]; decide)) (fun j h1 h2 => hu1_102 _ (by rw [lo_e25 hL _ (lo_k7_2 hL P t_P) j (by omega)]; decide))) ev_99 (fun Q hQ => (fr_100 _ (fun j hj => ni_in hL t_P hQ hj) (fun v hv => vn_in hL t_P hQ hv)).trans (h52 Q hQ)) (hrd2.trans (by rw [show 31 - rd = (30 - rd) + 1 by omega, show 31 - (rd + 1) = 30 - rd by omega]; exact ((rds_s L (30 - rd) rd en2) _ _ rfl).1 (by rw [hdw9]; exact bI_1 b103) |>.trans (by rw [hdw9]))) (fun q4 => by have z1 := (rnd_cnt L en2 [] false hL10).2 (bI_1 b103); have z2 := hct (by omega); rcases z1 with z3 | z3; cases z3; omega) hI1_101 hv15 hl hP hD hS
        exact lp9 25 1 ((fun _ => zI)) f2 H locs ls (by omega) (by omega) (by omega) hPRz hEVz h5 rfl (fun q => absurd q (by decide)) hI6 un.rf hl hP hD hS
      · skip
        replace b8 := mt (nI_leI (a := 10) (b := i) (by omega) (by omega)).mpr b8
        refine lv_aload_n hx hb d_NProgram_findIntervals_8 rfl (lv_at hl 1 rfl) ?_
        refine pf_get (v := .ref (g.lk P 4)) (C := "BigRunner$Program") (T := FT6) (N := 6) hx hb (hw6 hB _) (fun _ h9 => h9) hown hK hP (lo_in hL t_P (by decide)) eP rfl 4 (by decide) (wd_253 hB _) rfl d_NProgram_findIntervals_9 ?_
        refine lv_iload_n hx hb d_NProgram_findIntervals_12 rfl (lv_at hl 0 rfl) ?_
        have e138 := oc_26.of (lo_k7_4 hL _ t_P) (hI6.1 (g.lk P 4))
        refine pf_aald (i := i) hx hb hK hP (lo_in hL (lo_k7_4 hL _ t_P) (by decide)) e138 (lo_t26 hL _ (lo_k7_4 hL _ t_P)) (by omega) (by decide) d_NProgram_findIntervals_13 ?_
        have t139 := lo_e26 hL _ (lo_k7_4 hL _ t_P) i (by omega)
        refine lv_lconst (v := nL 0) hx hb d_NProgram_findIntervals_14 (by decide) ?_
        refine lv_lconst (v := nL 0) hx hb d_NProgram_findIntervals_15 (by decide) ?_
        obtain ⟨lo_141, hi_142, e140⟩ := oc_3.of t139 (hI6.1 (g.lk (g.lk P 4) i))
        refine pcc_v (va_runV (C := "BigRunner$Interval") (As := [.long (nL 0), .long (nL 0)]) (rest := []) ⟨hx, hb, hml, hown, tb_nil⟩ (c2_iset l g H.size f2 ((g.lk (g.lk P 4) i)) ((nL 0)) ((nL 0)) hL t139 hI6) ⟨(callB_of 2 (tb_one (wd_598 hB _)) tb_good1 rfl rfl rfl (wd_75 hB _) (wd_595 hB _) (by decide +kernel) ⟨Nat.le_of_ble_eq_true rfl, Nat.le_of_ble_eq_true rfl⟩), (wd_596 hB _), (wd_597 hB _)⟩ ⟨pe_bl, pg_recv (ci := 2) hK hP (lo_in hL t139 (by decide)) e140 rfl, pe_pre hB hK hP hD⟩ rfl rfl hl.1 rfl (lv_room (Nat.le_of_ble_eq_true rfl)) d_NProgram_findIntervals_16 ⟨Nat.le_of_ble_eq_true rfl, Nat.le_of_ble_eq_true rfl⟩) hS (fun f144 H locs hq145 hP hD hS => ?_)
        obtain ⟨v_146, hI1_147, hk1_148⟩ := hq145
        have hu := hu.st hk1_148 t139 (by decide)
        have hv7 := hv7.st hk1_148 t139 (by decide)
        have eP := (hk1_148 P (tg_ne t_P t139 (by decide))).trans eP
        have e138 := (hk1_148 (g.lk P 4) (tg_ne (lo_k7_4 hL _ t_P) t139 (by decide))).trans e138
        refine lv_iinc (k := 0) (v := nI (i + 1)) (lv' := [(1, .int (nI (i + 1))), (0, .ref P)]) hx hb d_NProgram_findIntervals_19 hl rfl (by rw [nI_succ]; rfl) (by decide) rfl (fun ls hl => ?_)
        refine lv_goto (tgt := 2) hx hb d_NProgram_findIntervals_22 (by decide) ?_
        exact ih4 (i + 1) f144 H locs ls (by omega) (by omega) (fun v hv => by rcases Nat.lt_or_ge v i with q | q; exact (hk1_148 _ (vn_ne hL t_P (by omega) (by omega) (by omega))).trans (hz v q); rw [show v = i by omega]; exact v_146.trans (by rw [c_vL (a := 0) (by decide), c_vH (a := 0) (by decide)]; rfl)) (fun Q hQ => (hk1_148 _ (vn_in hL t_P hQ (by omega))).trans (h5 Q hQ)) hI1_147 hv7 hl hP hD hS
  exact lp1 11 0 f s.heap [] ls (by omega) (by omega) (fun v hv => absurd hv (by omega)) (fun _ _ => rfl) hI un.rf hl hP hD hS

