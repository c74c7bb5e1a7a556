set_option maxHeartbeats 4000000 in
set_option maxRecDepth 100000 in
theorem m2_reads (l : Launch) (g : Lay) (sz : Nat) (f : Nat → va_E) (M : Nat) (mth : Int32) (mn : Nat) (mdr : Nat) (msz : Nat) (mix : Nat) (mdp : Nat) (mwt : Nat) (mop : Nat) (mtp : Nat) (mwa : Nat) (mgi : Nat) (mpc : Nat) (mst : Nat) (mtr : Nat) (msp : Nat) (mma : Int32) (mlg : Int32) (mdu : Int32) (hT : Nat → Int32) (hL : LO g) (t_M : g.tg M = 11) (hI : IV g f) (eM : f M = .inr (10, [.int mth, .ref (g.lk M 1), .int (nI mn), .ref (g.lk M 3), .ref (g.lk M 4), .int (nI mdr), .ref (g.lk M 6), .ref (g.lk M 7), .ref (g.lk M 8), .int (nI msz), .int (nI mix), .int (nI mdp), .ref (g.lk M 12), .int (nI mwt), .ref (g.lk M 14), .ref (g.lk M 15), .int (nI mop), .ref (g.lk M 17), .ref (g.lk M 18), .ref (g.lk M 19), .ref (g.lk M 20), .ref (g.lk M 21), .ref (g.lk M 22), .ref (g.lk M 23), .ref (g.lk M 24), .ref (g.lk M 25), .ref (g.lk M 26), .ref (g.lk M 27), .ref (g.lk M 28), .ref (g.lk M 29), .ref (g.lk M 30), .ref (g.lk M 31), .int (nI mtp), .ref (g.lk M 33), .ref (g.lk M 34), .ref (g.lk M 35), .int (nI mwa), .int (nI mgi), .int (nI mpc), .int (nI mst), .int (nI mtr), .int (nI msp), .int mma, .int mlg, .int mdu])) (hMB : mn ≤ 72 ∧ mdr ≤ 100 ∧ msz ≤ 100 ∧ mix ≤ 100 ∧ mdp ≤ 20 ∧ mwt ≤ 72 ∧ mop ≤ 40 ∧ mtp ≤ 80 ∧ mwa ≤ 20 ∧ mgi ≤ msp ∧ mpc ≤ 100 ∧ mst ≤ 4 ∧ mtr ≤ 3 ∧ msp ≤ 3000 ∧ (mdu = 0 ∨ mdu = 1)) (eT : f (g.lk M 1) = .inl (g.ac (g.lk M 1), 72, .inl hT)) (cT : ∀ i, i < 72 → vp_nar .char (hT i) = hT i) : Met l ⟨"BigRunnerModel", "reads", "()Z"⟩ [Cond.code ⟨"BigRunnerModel", "reads", "()Z"⟩ prog_12_method_14_code 3 (some .boolean)] ({ frames := 4, cells := 0, slots := 0, locals := 89 }) (va_Pc [.ref M] (pc_in g sz f)) (va_Qi (fun r f1 => ((∃ (ix1 dp1 n1 wt1 : Nat) (d1 g1 : Nat → Int32), py_r (tk hT mn) mn 400 0 [] 1 true = true ∧ ix1 ≤ 90 ∧ dp1 ≤ 13 ∧ 0 < n1 ∧ n1 ≤ 90 ∧ wt1 ≤ 72 ∧ WF d1 g1 (dpc d1) n1 ∧ d1 0 ≠ nI 12 ∧ n1 = (oy_r (tk hT mn) (vc hT mn) mn 400 0 [] [] 1 true).length ∧ DS d1 g1 0 (oy_r (tk hT mn) (vc hT mn) mn 400 0 [] [] 1 true) ∧ E8 d1 n1 ∧ f1 M = .inr (10, [.int mth, .ref (g.lk M 1), .int (nI mn), .ref (g.lk M 3), .ref (g.lk M 4), .int (nI n1), .ref (g.lk M 6), .ref (g.lk M 7), .ref (g.lk M 8), .int (nI msz), .int (nI ix1), .int (nI dp1), .ref (g.lk M 12), .int (nI wt1), .ref (g.lk M 14), .ref (g.lk M 15), .int (nI 0), .ref (g.lk M 17), .ref (g.lk M 18), .ref (g.lk M 19), .ref (g.lk M 20), .ref (g.lk M 21), .ref (g.lk M 22), .ref (g.lk M 23), .ref (g.lk M 24), .ref (g.lk M 25), .ref (g.lk M 26), .ref (g.lk M 27), .ref (g.lk M 28), .ref (g.lk M 29), .ref (g.lk M 30), .ref (g.lk M 31), .int (nI mtp), .ref (g.lk M 33), .ref (g.lk M 34), .ref (g.lk M 35), .int (nI mwa), .int (nI mgi), .int (nI mpc), .int (nI mst), .int (nI mtr), .int (nI msp), .int mma, .int mlg, .int (nI 0)]) ∧ f1 (g.lk M 3) = .inl (g.ac (g.lk M 3), 100, .inl d1) ∧ f1 (g.lk M 4) = .inl (g.ac (g.lk M 4), 100, .inl g1) ∧ r = nI 1) ∨ (py_r (tk hT mn) mn 400 0 [] 1 true = false ∧ (∃ (fb ix1 op1 dp1 dr1 wt1 : Nat), ix1 ≤ 90 ∧ dp1 ≤ 13 ∧ dr1 ≤ 90 ∧ wt1 ≤ 72 ∧ op1 ≤ 30 ∧ fb ≤ 1 ∧ f1 M = .inr (10, [.int mth, .ref (g.lk M 1), .int (nI mn), .ref (g.lk M 3), .ref (g.lk M 4), .int (nI dr1), .ref (g.lk M 6), .ref (g.lk M 7), .ref (g.lk M 8), .int (nI msz), .int (nI ix1), .int (nI dp1), .ref (g.lk M 12), .int (nI wt1), .ref (g.lk M 14), .ref (g.lk M 15), .int (nI op1), .ref (g.lk M 17), .ref (g.lk M 18), .ref (g.lk M 19), .ref (g.lk M 20), .ref (g.lk M 21), .ref (g.lk M 22), .ref (g.lk M 23), .ref (g.lk M 24), .ref (g.lk M 25), .ref (g.lk M 26), .ref (g.lk M 27), .ref (g.lk M 28), .ref (g.lk M 29), .ref (g.lk M 30), .ref (g.lk M 31), .int (nI mtp), .ref (g.lk M 33), .ref (g.lk M 34), .ref (g.lk M 35), .int (nI mwa), .int (nI mgi), .int (nI mpc), .int (nI mst), .int (nI mtr), .int (nI msp), .int mma, .int mlg, .int (nI fb)])) ∧ r = nI 0)) ∧ (IV g f1) ∧ (un [11, 41, 42, 46, 47, 48] g f f1)) (pc_out g sz) (pc_A g sz)) 0 0 (pc_A g sz) := by
  refine pe_ofW (cc := prog_12_method_14_code) (maxL := 3) (ret := (some .boolean)) (lv := [(0, .ref M)]) (by decide) (Nat.le_of_ble_eq_true rfl) rfl ?_
  intro p e s m args below meth c ls hx hb hr hml hlocks hown hB hP hK hD hsz hS hl
  subst hsz
  have hu : un [11, 41, 42, 46, 47, 48] g f f := un.rf
  obtain ⟨hmb0, hmb1, hmb2, hmb3, hmb4, hmb5, hmb6, hmb7, hmb8, hmb9, hmb10, hmb11, hmb12, hmb13, hmb14⟩ := hMB
  refine lv_aload_n hx hb d_M_reads_0 rfl (lv_at hl 0 rfl) ?_
  refine lv_iconst (v := nI 0) hx hb d_M_reads_1 (by decide) ?_
  refine pf_put (v := .int (nI 0)) (ty := .int) (fs' := [.int mth, .ref (g.lk M 1), .int (nI mn), .ref (g.lk M 3), .ref (g.lk M 4), .int (nI mdr), .ref (g.lk M 6), .ref (g.lk M 7), .ref (g.lk M 8), .int (nI msz), .int (nI 0), .int (nI mdp), .ref (g.lk M 12), .int (nI mwt), .ref (g.lk M 14), .ref (g.lk M 15), .int (nI mop), .ref (g.lk M 17), .ref (g.lk M 18), .ref (g.lk M 19), .ref (g.lk M 20), .ref (g.lk M 21), .ref (g.lk M 22), .ref (g.lk M 23), .ref (g.lk M 24), .ref (g.lk M 25), .ref (g.lk M 26), .ref (g.lk M 27), .ref (g.lk M 28), .ref (g.lk M 29), .ref (g.lk M 30), .ref (g.lk M 31), .int (nI mtp), .ref (g.lk M 33), .ref (g.lk M 34), .ref (g.lk M 35), .int (nI mwa), .int (nI mgi), .int (nI mpc), .int (nI mst), .int (nI mtr), .int (nI msp), .int mma, .int mlg, .int mdu]) (C := "BigRunnerModel") (T := FT10) (N := 45) hx hb (hw10 hB _) (fun _ h9 => h9) TY10 ok10 nm10 hown hK hP hD hS (lo_in hL t_M (by decide)) eM rfl 10 (by decide) (wd_957 hB _) rfl (by decide +kernel) rfl rfl (Nat.le_of_ble_eq_true rfl) rfl d_M_reads_2 (fun f1 H locs e2 k3 hP hD hS => ?_)
  have eT := (k3 (g.lk M 1) (tg_ne (lo_k11_1 hL _ t_M) t_M (by decide))).trans eT
  have hu := hu.st k3 t_M (by decide)
  have hk4 : ∀ b, b ≠ M → f1 b = f b := k3
  refine lv_aload_n hx hb d_M_reads_5 rfl (lv_at hl 0 rfl) ?_
  refine lv_iconst (v := nI 1) hx hb d_M_reads_6 (by decide) ?_
  refine pf_put (v := .int (nI 1)) (ty := .int) (fs' := [.int mth, .ref (g.lk M 1), .int (nI mn), .ref (g.lk M 3), .ref (g.lk M 4), .int (nI mdr), .ref (g.lk M 6), .ref (g.lk M 7), .ref (g.lk M 8), .int (nI msz), .int (nI 0), .int (nI 1), .ref (g.lk M 12), .int (nI mwt), .ref (g.lk M 14), .ref (g.lk M 15), .int (nI mop), .ref (g.lk M 17), .ref (g.lk M 18), .ref (g.lk M 19), .ref (g.lk M 20), .ref (g.lk M 21), .ref (g.lk M 22), .ref (g.lk M 23), .ref (g.lk M 24), .ref (g.lk M 25), .ref (g.lk M 26), .ref (g.lk M 27), .ref (g.lk M 28), .ref (g.lk M 29), .ref (g.lk M 30), .ref (g.lk M 31), .int (nI mtp), .ref (g.lk M 33), .ref (g.lk M 34), .ref (g.lk M 35), .int (nI mwa), .int (nI mgi), .int (nI mpc), .int (nI mst), .int (nI mtr), .int (nI msp), .int mma, .int mlg, .int mdu]) (C := "BigRunnerModel") (T := FT10) (N := 45) hx hb (hw10 hB _) (fun _ h9 => h9) TY10 ok10 nm10 hown hK hP hD hS (lo_in hL t_M (by decide)) e2 rfl 11 (by decide) (wd_958 hB _) rfl (by decide +kernel) rfl rfl (Nat.le_of_ble_eq_true rfl) rfl d_M_reads_7 (fun f5 H locs e6 k7 hP hD hS => ?_)
  have eT := (k7 (g.lk M 1) (tg_ne (lo_k11_1 hL _ t_M) t_M (by decide))).trans eT
  have hu := hu.st k7 t_M (by decide)
  have hk8 : ∀ b, b ≠ M → f5 b = f b := fun b q0 => (k7 b q0).trans (hk4 b q0)
  refine lv_aload_n hx hb d_M_reads_10 rfl (lv_at hl 0 rfl) ?_
  refine lv_iconst (v := nI 0) hx hb d_M_reads_11 (by decide) ?_
  refine pf_put (v := .int (nI 0)) (ty := .int) (fs' := [.int mth, .ref (g.lk M 1), .int (nI mn), .ref (g.lk M 3), .ref (g.lk M 4), .int (nI 0), .ref (g.lk M 6), .ref (g.lk M 7), .ref (g.lk M 8), .int (nI msz), .int (nI 0), .int (nI 1), .ref (g.lk M 12), .int (nI mwt), .ref (g.lk M 14), .ref (g.lk M 15), .int (nI mop), .ref (g.lk M 17), .ref (g.lk M 18), .ref (g.lk M 19), .ref (g.lk M 20), .ref (g.lk M 21), .ref (g.lk M 22), .ref (g.lk M 23), .ref (g.lk M 24), .ref (g.lk M 25), .ref (g.lk M 26), .ref (g.lk M 27), .ref (g.lk M 28), .ref (g.lk M 29), .ref (g.lk M 30), .ref (g.lk M 31), .int (nI mtp), .ref (g.lk M 33), .ref (g.lk M 34), .ref (g.lk M 35), .int (nI mwa), .int (nI mgi), .int (nI mpc), .int (nI mst), .int (nI mtr), .int (nI msp), .int mma, .int mlg, .int mdu]) (C := "BigRunnerModel") (T := FT10) (N := 45) hx hb (hw10 hB _) (fun _ h9 => h9) TY10 ok10 nm10 hown hK hP hD hS (lo_in hL t_M (by decide)) e6 rfl 5 (by decide) (wd_952 hB _) rfl (by decide +kernel) rfl rfl (Nat.le_of_ble_eq_true rfl) rfl d_M_reads_12 (fun f9 H locs e10 k11 hP hD hS => ?_)
  have eT := (k11 (g.lk M 1) (tg_ne (lo_k11_1 hL _ t_M) t_M (by decide))).trans eT
  have hu := hu.st k11 t_M (by decide)
  have hk12 : ∀ b, b ≠ M → f9 b = f b := fun b q0 => (k11 b q0).trans (hk8 b q0)
  refine lv_aload_n hx hb d_M_reads_15 rfl (lv_at hl 0 rfl) ?_
  refine lv_iconst (v := nI 0) hx hb d_M_reads_16 (by decide) ?_
  refine pf_put (v := .int (nI 0)) (ty := .int) (fs' := [.int mth, .ref (g.lk M 1), .int (nI mn), .ref (g.lk M 3), .ref (g.lk M 4), .int (nI 0), .ref (g.lk M 6), .ref (g.lk M 7), .ref (g.lk M 8), .int (nI msz), .int (nI 0), .int (nI 1), .ref (g.lk M 12), .int (nI mwt), .ref (g.lk M 14), .ref (g.lk M 15), .int (nI 0), .ref (g.lk M 17), .ref (g.lk M 18), .ref (g.lk M 19), .ref (g.lk M 20), .ref (g.lk M 21), .ref (g.lk M 22), .ref (g.lk M 23), .ref (g.lk M 24), .ref (g.lk M 25), .ref (g.lk M 26), .ref (g.lk M 27), .ref (g.lk M 28), .ref (g.lk M 29), .ref (g.lk M 30), .ref (g.lk M 31), .int (nI mtp), .ref (g.lk M 33), .ref (g.lk M 34), .ref (g.lk M 35), .int (nI mwa), .int (nI mgi), .int (nI mpc), .int (nI mst), .int (nI mtr), .int (nI msp), .int mma, .int mlg, .int mdu]) (C := "BigRunnerModel") (T := FT10) (N := 45) hx hb (hw10 hB _) (fun _ h9 => h9) TY10 ok10 nm10 hown hK hP hD hS (lo_in hL t_M (by decide)) e10 rfl 16 (by decide) (wd_963 hB _) rfl (by decide +kernel) rfl rfl (Nat.le_of_ble_eq_true rfl) rfl d_M_reads_17 (fun f13 H locs e14 k15 hP hD hS => ?_)
  have eT := (k15 (g.lk M 1) (tg_ne (lo_k11_1 hL _ t_M) t_M (by decide))).trans eT
  have hu := hu.st k15 t_M (by decide)
  have hk16 : ∀ b, b ≠ M → f13 b = f b := fun b q0 => (k15 b q0).trans (hk12 b q0)
  refine lv_aload_n hx hb d_M_reads_20 rfl (lv_at hl 0 rfl) ?_
  refine lv_iconst (v := nI 1) hx hb d_M_reads_21 (by decide) ?_
  refine pf_put (v := .int (nI 1)) (ty := .boolean) (fs' := [.int mth, .ref (g.lk M 1), .int (nI mn), .ref (g.lk M 3), .ref (g.lk M 4), .int (nI 0), .ref (g.lk M 6), .ref (g.lk M 7), .ref (g.lk M 8), .int (nI msz), .int (nI 0), .int (nI 1), .ref (g.lk M 12), .int (nI mwt), .ref (g.lk M 14), .ref (g.lk M 15), .int (nI 0), .ref (g.lk M 17), .ref (g.lk M 18), .ref (g.lk M 19), .ref (g.lk M 20), .ref (g.lk M 21), .ref (g.lk M 22), .ref (g.lk M 23), .ref (g.lk M 24), .ref (g.lk M 25), .ref (g.lk M 26), .ref (g.lk M 27), .ref (g.lk M 28), .ref (g.lk M 29), .ref (g.lk M 30), .ref (g.lk M 31), .int (nI mtp), .ref (g.lk M 33), .ref (g.lk M 34), .ref (g.lk M 35), .int (nI mwa), .int (nI mgi), .int (nI mpc), .int (nI mst), .int (nI mtr), .int (nI msp), .int mma, .int mlg, .int (nI 1)]) (C := "BigRunnerModel") (T := FT10) (N := 45) hx hb (hw10 hB _) (fun _ h9 => h9) TY10 ok10 nm10 hown hK hP hD hS (lo_in hL t_M (by decide)) e14 rfl 44 (by decide) (wd_991 hB _) rfl (by decide +kernel) rfl rfl (Nat.le_of_ble_eq_true rfl) rfl d_M_reads_22 (fun f17 H locs e18 k19 hP hD hS => ?_)
  have eT := (k19 (g.lk M 1) (tg_ne (lo_k11_1 hL _ t_M) t_M (by decide))).trans eT
  have hu := hu.st k19 t_M (by decide)
  have hk20 : ∀ b, b ≠ M → f17 b = f b := fun b q0 => (k19 b q0).trans (hk16 b q0)
  refine lv_iconst (v := nI 1) hx hb d_M_reads_25 (by decide) ?_
  refine lv_istore_n (lv' := [(1, .int (nI 1)), (0, .ref M)]) hx hb d_M_reads_26 rfl hl (by decide) rfl (fun ls hl => ?_)
  obtain ⟨h_22, e21⟩ := oc_41.of (lo_k11_3 hL _ t_M) (hI.1 (g.lk M 3))
  replace e21 := (hk20 (g.lk M 3) (tg_ne (lo_k11_3 hL _ t_M) t_M (by decide))).trans e21
  obtain ⟨h_25, e24⟩ := oc_42.of (lo_k11_4 hL _ t_M) (hI.1 (g.lk M 4))
  replace e24 := (hk20 (g.lk M 4) (tg_ne (lo_k11_4 hL _ t_M) t_M (by decide))).trans e24
  obtain ⟨h_28, e27⟩ := oc_47.of (lo_k11_14 hL _ t_M) (hI.1 (g.lk M 14))
  replace e27 := (hk20 (g.lk M 14) (tg_ne (lo_k11_14 hL _ t_M) t_M (by decide))).trans e27
  obtain ⟨h_31, e30⟩ := oc_48.of (lo_k11_15 hL _ t_M) (hI.1 (g.lk M 15))
  replace e30 := (hk20 (g.lk M 15) (tg_ne (lo_k11_15 hL _ t_M) t_M (by decide))).trans e30
  have hI33 := iv_1 hI hL t_M (by decide) hk20 (oc_11.mk t_M (⟨mth, mn, 0, msz, 0, 1, mwt, 0, mtp, mwa, mgi, mpc, mst, mtr, msp, mma, mlg, ((nI 1)), e18, (by omega), (by omega), (by omega), (by omega), (by omega), (by omega), (by omega), (by omega), (by omega), (by omega), (by omega), (by omega), (by omega), (by omega), (Or.inr rfl)⟩))
  have lp34 : ∀ (k36 : Nat) (fb : Nat) (i8 : Nat) (p8 : Nat) (r8 : Nat) (o8 : Nat) (t8 : Nat) (d8 : Nat → Int32) (g8 : Nat → Int32) (b8 : Nat → Int32) (k8 : Nat → Int32) (Fv : Nat) (D8 : List (Nat × Nat)) (f35 : Nat → va_E) (H : Heap) (locs : List Loc) (ls : Array Slot), (mn < i8 + k36) → (fb ≤ 1) → (i8 ≤ mn) → (r8 ≤ i8) → (o8 + 1 ≤ p8) → (p8 ≤ 10) → (t8 ≤ 72) → (mn + 2 ≤ i8 + Fv) → (py_r (tk hT mn) mn 400 0 [] 1 true = py_r (tk hT mn) mn Fv i8 (kl k8 o8) p8 (decide (fb = 1))) → (DI d8 g8 b8 k8 r8 o8) → (fb = 1 ∨ 0 < r8) → (oy_r (tk hT mn) (vc hT mn) mn 400 0 [] [] 1 true = oy_r (tk hT mn) (vc hT mn) mn Fv i8 D8 (klx k8 b8 o8) p8 (decide (fb = 1))) → (DS d8 g8 0 D8) → (D8.length = r8) → (E8 d8 r8) → f35 M = .inr (10, [.int mth, .ref (g.lk M 1), .int (nI mn), .ref (g.lk M 3), .ref (g.lk M 4), .int (nI r8), .ref (g.lk M 6), .ref (g.lk M 7), .ref (g.lk M 8), .int (nI msz), .int (nI i8), .int (nI p8), .ref (g.lk M 12), .int (nI t8), .ref (g.lk M 14), .ref (g.lk M 15), .int (nI o8), .ref (g.lk M 17), .ref (g.lk M 18), .ref (g.lk M 19), .ref (g.lk M 20), .ref (g.lk M 21), .ref (g.lk M 22), .ref (g.lk M 23), .ref (g.lk M 24), .ref (g.lk M 25), .ref (g.lk M 26), .ref (g.lk M 27), .ref (g.lk M 28), .ref (g.lk M 29), .ref (g.lk M 30), .ref (g.lk M 31), .int (nI mtp), .ref (g.lk M 33), .ref (g.lk M 34), .ref (g.lk M 35), .int (nI mwa), .int (nI mgi), .int (nI mpc), .int (nI mst), .int (nI mtr), .int (nI msp), .int mma, .int mlg, .int (nI fb)]) → f35 (g.lk M 3) = .inl (g.ac (g.lk M 3), 100, .inl (d8)) → f35 (g.lk M 4) = .inl (g.ac (g.lk M 4), 100, .inl (g8)) → f35 (g.lk M 14) = .inl (g.ac (g.lk M 14), 40, .inl (b8)) → f35 (g.lk M 15) = .inl (g.ac (g.lk M 15), 40, .inl (k8)) → IV g f35 → un [11, 41, 42, 46, 47, 48] g f17 f35 → lv_has ls 3 [(1, .int (nI 1)), (0, .ref M)] → va_P g.D vcl (va_pl g.LP f35) H → va_D (pc_A g s.heap.size) (va_pl g.LP f35) → va_S (pc_A g s.heap.size) s.heap H locs → W p l e ({ frames := 4, cells := 0, slots := 0, locals := 89 }) s m args below meth c H locs 0 0 (MQ below (va_Qi (fun r f1 => ((∃ (ix1 dp1 n1 wt1 : Nat) (d1 g1 : Nat → Int32), py_r (tk hT mn) mn 400 0 [] 1 true = true ∧ ix1 ≤ 90 ∧ dp1 ≤ 13 ∧ 0 < n1 ∧ n1 ≤ 90 ∧ wt1 ≤ 72 ∧ WF d1 g1 (dpc d1) n1 ∧ d1 0 ≠ nI 12 ∧ n1 = (oy_r (tk hT mn) (vc hT mn) mn 400 0 [] [] 1 true).length ∧ DS d1 g1 0 (oy_r (tk hT mn) (vc hT mn) mn 400 0 [] [] 1 true) ∧ E8 d1 n1 ∧ f1 M = .inr (10, [.int mth, .ref (g.lk M 1), .int (nI mn), .ref (g.lk M 3), .ref (g.lk M 4), .int (nI n1), .ref (g.lk M 6), .ref (g.lk M 7), .ref (g.lk M 8), .int (nI msz), .int (nI ix1), .int (nI dp1), .ref (g.lk M 12), .int (nI wt1), .ref (g.lk M 14), .ref (g.lk M 15), .int (nI 0), .ref (g.lk M 17), .ref (g.lk M 18), .ref (g.lk M 19), .ref (g.lk M 20), .ref (g.lk M 21), .ref (g.lk M 22), .ref (g.lk M 23), .ref (g.lk M 24), .ref (g.lk M 25), .ref (g.lk M 26), .ref (g.lk M 27), .ref (g.lk M 28), .ref (g.lk M 29), .ref (g.lk M 30), .ref (g.lk M 31), .int (nI mtp), .ref (g.lk M 33), .ref (g.lk M 34), .ref (g.lk M 35), .int (nI mwa), .int (nI mgi), .int (nI mpc), .int (nI mst), .int (nI mtr), .int (nI msp), .int mma, .int mlg, .int (nI 0)]) ∧ f1 (g.lk M 3) = .inl (g.ac (g.lk M 3), 100, .inl d1) ∧ f1 (g.lk M 4) = .inl (g.ac (g.lk M 4), 100, .inl g1) ∧ r = nI 1) ∨ (py_r (tk hT mn) mn 400 0 [] 1 true = false ∧ (∃ (fb ix1 op1 dp1 dr1 wt1 : Nat), ix1 ≤ 90 ∧ dp1 ≤ 13 ∧ dr1 ≤ 90 ∧ wt1 ≤ 72 ∧ op1 ≤ 30 ∧ fb ≤ 1 ∧ f1 M = .inr (10, [.int mth, .ref (g.lk M 1), .int (nI mn), .ref (g.lk M 3), .ref (g.lk M 4), .int (nI dr1), .ref (g.lk M 6), .ref (g.lk M 7), .ref (g.lk M 8), .int (nI msz), .int (nI ix1), .int (nI dp1), .ref (g.lk M 12), .int (nI wt1), .ref (g.lk M 14), .ref (g.lk M 15), .int (nI op1), .ref (g.lk M 17), .ref (g.lk M 18), .ref (g.lk M 19), .ref (g.lk M 20), .ref (g.lk M 21), .ref (g.lk M 22), .ref (g.lk M 23), .ref (g.lk M 24), .ref (g.lk M 25), .ref (g.lk M 26), .ref (g.lk M 27), .ref (g.lk M 28), .ref (g.lk M 29), .ref (g.lk M 30), .ref (g.lk M 31), .int (nI mtp), .ref (g.lk M 33), .ref (g.lk M 34), .ref (g.lk M 35), .int (nI mwa), .int (nI mgi), .int (nI mpc), .int (nI mst), .int (nI mtr), .int (nI msp), .int mma, .int mlg, .int (nI fb)])) ∧ r = nI 0)) ∧ (IV g f1) ∧ (un [11, 41, 42, 46, 47, 48] g f f1)) (pc_out g s.heap.size) (pc_A g s.heap.size)) args s 0 0 (pc_A g s.heap.size)) (F0 m 27 ls []) := by
    intro k36
    induction k36 with
    | zero => intros; exfalso; omega
    | succ k36 ih37 =>
      intro fb i8 p8 r8 o8 t8 d8 g8 b8 k8 Fv D8 f35 H locs ls hfu38 hfb hi8 hr8 ho8 hp8 ht8 hFv hpy hDI8 h08 hoy hDS8 hDl8 hE88 e39 e40 e41 e42 e43 hI44 hv45 hl hP hD hS
      have eT := hv45.at (lo_k11_1 hL _ t_M) (by decide) eT
      have hu := hu.tr hv45 (by decide)
      obtain ⟨Fw, rfl⟩ : ∃ Fw, Fv = Fw + 1 := ⟨Fv - 1, by omega⟩
      rcases (show fb = 0 ∨ fb = 1 by omega) with rfl | rfl
      · skip
        have hpy1 : py_r (tk hT mn) mn 400 0 [] 1 true = py_r (tk hT mn) mn (Fw + 1) i8 (kl k8 o8) p8 false := hpy
        have hoy1 : oy_r (tk hT mn) (vc hT mn) mn 400 0 [] [] 1 true = oy_r (tk hT mn) (vc hT mn) mn (Fw + 1) i8 D8 (klx k8 b8 o8) p8 false := hoy
        refine lv_iload_n hx hb d_M_reads_27 rfl (lv_at hl 0 rfl) ?_
        refine lv_if_eq (tgt := 107) hx hb d_M_reads_28 (by decide) (fun b46 => ?_) (fun b46 => ?_)
        · skip
          replace b46 := (nI_eq (a := 1) (b := 0) (by omega) (by omega)).mp b46
          exfalso; omega
        · skip
          replace b46 := mt (nI_eq (a := 1) (b := 0) (by omega) (by omega)).mpr b46
          refine lv_aload_n hx hb d_M_reads_31 rfl (lv_at hl 1 rfl) ?_
          refine pf_get (v := .int (nI 0)) (C := "BigRunnerModel") (T := FT10) (N := 45) hx hb (hw10 hB _) (fun _ h9 => h9) hown hK hP (lo_in hL t_M (by decide)) e39 rfl 44 (by decide) (wd_991 hB _) rfl d_M_reads_32 ?_
          refine lv_if_ne (tgt := 49) hx hb d_M_reads_35 (by decide) (fun b47 => ?_) (fun b47 => ?_)
          · skip
            replace b47 := mt (nI_eq (a := 0) (b := 0) (by omega) (by omega)).mpr b47
            exfalso; omega
          · skip
            replace b47 := (nI_eq (a := 0) (b := 0) (by omega) (by omega)).mp b47
            refine lv_aload_n hx hb d_M_reads_38 rfl (lv_at hl 1 rfl) ?_
            refine pf_get (v := .int (nI i8)) (C := "BigRunnerModel") (T := FT10) (N := 45) hx hb (hw10 hB _) (fun _ h9 => h9) hown hK hP (lo_in hL t_M (by decide)) e39 rfl 10 (by decide) (wd_957 hB _) rfl d_M_reads_39 ?_
            refine lv_aload_n hx hb d_M_reads_42 rfl (lv_at hl 1 rfl) ?_
            refine pf_get (v := .int (nI mn)) (C := "BigRunnerModel") (T := FT10) (N := 45) hx hb (hw10 hB _) (fun _ h9 => h9) hown hK hP (lo_in hL t_M (by decide)) e39 rfl 2 (by decide) (wd_949 hB _) rfl d_M_reads_43 ?_
            refine lv_icmp_ge (tgt := 107) hx hb d_M_reads_46 (by decide) (fun b48 => ?_) (fun b48 => ?_)
            · skip
              replace b48 := (nI_leI (a := mn) (b := i8) (by omega) (by omega)).mp b48
              refine lv_iload_n hx hb d_M_reads_107 rfl (lv_at hl 0 rfl) ?_
              refine lv_if_eq (tgt := 122) hx hb d_M_reads_108 (by decide) (fun b49 => ?_) (fun b49 => ?_)
              · skip
                replace b49 := (nI_eq (a := 1) (b := 0) (by omega) (by omega)).mp b49
                exfalso; omega
              · skip
                replace b49 := mt (nI_eq (a := 1) (b := 0) (by omega) (by omega)).mpr b49
                refine lv_aload_n hx hb d_M_reads_111 rfl (lv_at hl 1 rfl) ?_
                refine pf_get (v := .int (nI o8)) (C := "BigRunnerModel") (T := FT10) (N := 45) hx hb (hw10 hB _) (fun _ h9 => h9) hown hK hP (lo_in hL t_M (by decide)) e39 rfl 16 (by decide) (wd_963 hB _) rfl d_M_reads_112 ?_
                refine lv_if_ne (tgt := 122) hx hb d_M_reads_115 (by decide) (fun b50 => ?_) (fun b50 => ?_)
                · skip
                  replace b50 := mt (nI_eq (a := o8) (b := 0) (by omega) (by omega)).mpr b50
                  refine lv_iconst (v := nI 0) hx hb d_M_reads_122 (by decide) ?_
                  exact pe_zret hx hb hr hlocks hK hP hD hS d_M_reads_123 rfl ⟨(Or.inr ⟨(hpy1.trans (by rw [py_rF, if_neg (by omega)]; exact decide_eq_false (fun z => by rw [kl_s k8 (show 0 < o8 by omega)] at z; cases z))), ⟨0, i8, o8, p8, r8, t8, by omega, by omega, by omega, by omega, by omega, by omega, e39⟩, rfl⟩), hI44, hu⟩
                · skip
                  replace b50 := (nI_eq (a := o8) (b := 0) (by omega) (by omega)).mp b50
                  refine lv_iconst (v := nI 1) hx hb d_M_reads_118 (by decide) ?_
                  refine lv_goto (tgt := 123) hx hb d_M_reads_119 (by decide) ?_
                  have hoe : oy_r (tk hT mn) (vc hT mn) mn 400 0 [] [] 1 true = D8 := hoy1.trans (by rw [oy_rF, if_neg (by omega)])
                  exact pe_zret hx hb hr hlocks hK hP hD hS d_M_reads_123 rfl ⟨(Or.inl ⟨i8, p8, r8, t8, _, _, (hpy1.trans (by rw [py_rF, if_neg (by omega), show o8 = 0 by omega]; rfl)), by omega, by omega, by omega, by omega, by omega, (DI_WF (by have z := hDI8; rw [show o8 = 0 by omega] at z; exact z)), hDI8.2.2.2.2.1.resolve_left (by omega), (by rw [hoe]; exact hDl8.symm), (by rw [hoe]; exact hDS8), hE88, (by have z := e39; rw [show o8 = 0 by omega] at z; exact z), e40, e41, rfl⟩), hI44, hu⟩
            · skip
              replace b48 := mt (nI_leI (a := mn) (b := i8) (by omega) (by omega)).mpr b48
              refine lv_aload_n hx hb d_M_reads_49 rfl (lv_at hl 1 rfl) ?_
              refine pf_get (v := .int (nI 0)) (C := "BigRunnerModel") (T := FT10) (N := 45) hx hb (hw10 hB _) (fun _ h9 => h9) hown hK hP (lo_in hL t_M (by decide)) e39 rfl 44 (by decide) (wd_991 hB _) rfl d_M_reads_50 ?_
              refine lv_if_eq (tgt := 69) hx hb d_M_reads_53 (by decide) (fun b51 => ?_) (fun b51 => ?_)
              · skip
                replace b51 := (nI_eq (a := 0) (b := 0) (by omega) (by omega)).mp b51
                refine lv_aload_n hx hb d_M_reads_69 rfl (lv_at hl 1 rfl) ?_
                refine pcc_i (va_runV (C := "BigRunnerModel") (As := []) (rest := []) ⟨hx, hb, hml, hown, tb_nil⟩ (m_here l g H.size f35 M mth mn r8 msz i8 p8 t8 o8 mtp mwa mgi mpc mst mtr msp mma mlg ((nI 0)) hT hL t_M hI44.1 e39 ⟨(by omega), (by omega), (by omega), (by omega), (by omega), (by omega), (by omega), (by omega), (by omega), (by omega), (by omega), (by omega), (by omega), (by omega), (Or.inl rfl)⟩ eT cT) ⟨(callB_of 0 (tb_one (wd_1111 hB _)) tb_good1 rfl rfl rfl (wd_82 hB _) (wd_1108 hB _) (by decide +kernel) ⟨Nat.le_of_ble_eq_true rfl, Nat.le_of_ble_eq_true rfl⟩), (wd_1110 hB _), (wd_43 hB _)⟩ ⟨pe_bl, pg_recv (ci := 10) hK hP (lo_in hL t_M (by decide)) e39 rfl, pe_pre hB hK hP hD⟩ rfl rfl hl.1 rfl (lv_room (Nat.le_of_ble_eq_true rfl)) d_M_reads_70 ⟨Nat.le_of_ble_eq_true rfl, Nat.le_of_ble_eq_true rfl⟩) hS (fun r52 f53 H locs hq54 hP hD hS => ?_)
                obtain ⟨nx_55, rfl⟩ := hq54
                subst nx_55
                refine lv_istore_n (lv' := [(2, .int (nxm hT mn i8)), (1, .int (nI 1)), (0, .ref M)]) hx hb d_M_reads_73 rfl hl (by decide) rfl (fun ls hl => ?_)
                refine lv_aload_n hx hb d_M_reads_74 rfl (lv_at hl 2 rfl) ?_
                refine lv_dup hx hb d_M_reads_75 rfl ?_
                refine pf_get (v := .int (nI i8)) (C := "BigRunnerModel") (T := FT10) (N := 45) hx hb (hw10 hB _) (fun _ h9 => h9) hown hK hP (lo_in hL t_M (by decide)) e39 rfl 10 (by decide) (wd_957 hB _) rfl d_M_reads_76 ?_
                refine lv_iconst (v := nI 1) hx hb d_M_reads_79 (by decide) ?_
                refine pf_iaddN (x := i8) (y := 1) hx hb d_M_reads_80 ?_
                refine pf_put (v := .int (nI (i8 + 1))) (ty := .int) (fs' := [.int mth, .ref (g.lk M 1), .int (nI mn), .ref (g.lk M 3), .ref (g.lk M 4), .int (nI r8), .ref (g.lk M 6), .ref (g.lk M 7), .ref (g.lk M 8), .int (nI msz), .int (nI (i8 + 1)), .int (nI p8), .ref (g.lk M 12), .int (nI t8), .ref (g.lk M 14), .ref (g.lk M 15), .int (nI o8), .ref (g.lk M 17), .ref (g.lk M 18), .ref (g.lk M 19), .ref (g.lk M 20), .ref (g.lk M 21), .ref (g.lk M 22), .ref (g.lk M 23), .ref (g.lk M 24), .ref (g.lk M 25), .ref (g.lk M 26), .ref (g.lk M 27), .ref (g.lk M 28), .ref (g.lk M 29), .ref (g.lk M 30), .ref (g.lk M 31), .int (nI mtp), .ref (g.lk M 33), .ref (g.lk M 34), .ref (g.lk M 35), .int (nI mwa), .int (nI mgi), .int (nI mpc), .int (nI mst), .int (nI mtr), .int (nI msp), .int mma, .int mlg, .int (nI 0)]) (C := "BigRunnerModel") (T := FT10) (N := 45) hx hb (hw10 hB _) (fun _ h9 => h9) TY10 ok10 nm10 hown hK hP hD hS (lo_in hL t_M (by decide)) e39 rfl 10 (by decide) (wd_957 hB _) rfl (by decide +kernel) rfl rfl (Nat.le_of_ble_eq_true rfl) rfl d_M_reads_81 (fun f56 H locs e57 k58 hP hD hS => ?_)
                have eT := (k58 (g.lk M 1) (tg_ne (lo_k11_1 hL _ t_M) t_M (by decide))).trans eT
                have e40 := (k58 (g.lk M 3) (tg_ne (lo_k11_3 hL _ t_M) t_M (by decide))).trans e40
                have e41 := (k58 (g.lk M 4) (tg_ne (lo_k11_4 hL _ t_M) t_M (by decide))).trans e41
                have e42 := (k58 (g.lk M 14) (tg_ne (lo_k11_14 hL _ t_M) t_M (by decide))).trans e42
                have e43 := (k58 (g.lk M 15) (tg_ne (lo_k11_15 hL _ t_M) t_M (by decide))).trans e43
                have hu := hu.st k58 t_M (by decide)
                have hv45 := hv45.st k58 t_M (by decide)
                have hk59 : ∀ b, b ≠ M → f56 b = f35 b := k58
                refine lv_iload_n hx hb d_M_reads_84 rfl (lv_at hl 0 rfl) ?_
                refine lv_bipush (v := nI 59) hx hb d_M_reads_85 (by decide) ?_
                refine lv_icmp_ne (tgt := 98) hx hb d_M_reads_87 (by decide) (fun b60 => ?_) (fun b60 => ?_)
                · skip
                  have hq16 : kc (nxm hT mn i8) ≠ 16 := fun z => b60 (kc_16.mp z)
                  refine lv_aload_n hx hb d_M_reads_98 rfl (lv_at hl 2 rfl) ?_
                  refine lv_iload_n hx hb d_M_reads_99 rfl (lv_at hl 0 rfl) ?_
                  have hI61 := iv_1 hI44 hL t_M (by decide) hk59 (oc_11.mk t_M (⟨mth, mn, r8, msz, (i8 + 1), p8, t8, o8, mtp, mwa, mgi, mpc, mst, mtr, msp, mma, mlg, ((nI 0)), e57, (by omega), (by omega), (by omega), (by omega), (by omega), (by omega), (by omega), (by omega), (by omega), (by omega), (by omega), (by omega), (by omega), (by omega), (Or.inl rfl)⟩))
                  refine pcc_i (va_runV (C := "BigRunnerModel") (As := [.int (nxm hT mn i8)]) (rest := []) ⟨hx, hb, hml, hown, tb_nil⟩ (m2_closes l g H.size f56 M mth mn r8 msz ((i8 + 1)) p8 t8 o8 mtp mwa mgi mpc mst mtr msp mma mlg hT d8 g8 b8 k8 ((nxm hT mn i8)) D8 hL t_M hI61 e57 ⟨(by omega), (by omega), (by omega), (by omega), (by omega), (by omega), (by omega), (by omega), (by omega), (by omega), (by omega), (by omega), (by omega), (by omega)⟩ e40 e41 e42 e43 (by omega) (by omega) (by omega) hDI8 hDS8 hDl8 hE88) ⟨(callB_of 1 (tb_one (wd_1144 hB _)) tb_good1 rfl rfl rfl (wd_82 hB _) (wd_1141 hB _) (by decide +kernel) ⟨Nat.le_of_ble_eq_true rfl, Nat.le_of_ble_eq_true rfl⟩), (wd_1143 hB _), (wd_49 hB _)⟩ ⟨pe_bl, pg_recv (ci := 10) hK hP (lo_in hL t_M (by decide)) e57 rfl, pe_pre hB hK hP hD⟩ rfl rfl hl.1 rfl (lv_room (Nat.le_of_ble_eq_true rfl)) d_M_reads_100 ⟨Nat.le_of_ble_eq_true rfl, Nat.le_of_ble_eq_true rfl⟩) hS (fun r62 f63 H locs hq64 hP hD hS => ?_)
                  obtain ⟨rs_65, hI1_66, hu1_67⟩ := hq64
                  have hu := hu.tr hu1_67 (by decide)
                  have hv45 := hv45.tr hu1_67 (by decide)
                  have eT := hu1_67.at (lo_k11_1 hL _ t_M) (by decide) eT
                  rcases rs_65 with ⟨fb_68, op_69, dp_70, dr_71, d_72, g_73, b_74, k_75, c76, c77, c78, c79, c80, c81, c82, c83, e84, e85, e86, e87, e88, rfl⟩ | ⟨c89, e90, rfl⟩
                  · skip
                    refine lv_istore_n (lv' := [(1, .int (nI 1)), (2, .int (nxm hT mn i8)), (0, .ref M)]) hx hb d_M_reads_103 rfl hl (by decide) rfl (fun ls hl => ?_)
                    refine lv_goto (tgt := 27) hx hb d_M_reads_104 (by decide) ?_
                    obtain ⟨D_91, dx92⟩ := c83
                    have hl : lv_has ls 3 [(1, .int (nI 1)), (0, .ref M)] := lv_sub hl [0, 2] rfl
                    exact ih37 fb_68 (i8 + 1) dp_70 dr_71 op_69 t8 d_72 g_73 b_74 k_75 Fw D_91 f63 H locs ls (by omega) (by omega) (by omega) (by omega) (by omega) (by omega) (by omega) (by omega) (hpy1.trans (c76 i8 Fw (by omega) (tkm hT mn i8).symm hq16)) c82 (Or.inr (by omega)) (hoy1.trans (dx92.2.2.2 i8 Fw (by omega) (tkm hT mn i8).symm hq16)) dx92.2.1 dx92.1 dx92.2.2.1 e84 e85 e86 e87 e88 hI1_66 hv45 hl hP hD hS
                  · skip
                    refine lv_istore_n (lv' := [(1, .int (nI 0)), (2, .int (nxm hT mn i8)), (0, .ref M)]) hx hb d_M_reads_103 rfl hl (by decide) rfl (fun ls hl => ?_)
                    refine lv_goto (tgt := 27) hx hb d_M_reads_104 (by decide) ?_
                    refine lv_iload_n hx hb d_M_reads_27 rfl (lv_at hl 0 rfl) ?_
                    refine lv_if_eq (tgt := 107) hx hb d_M_reads_28 (by decide) (fun b93 => ?_) (fun b93 => ?_)
                    · skip
                      replace b93 := (nI_eq (a := 0) (b := 0) (by omega) (by omega)).mp b93
                      refine lv_iload_n hx hb d_M_reads_107 rfl (lv_at hl 0 rfl) ?_
                      refine lv_if_eq (tgt := 122) hx hb d_M_reads_108 (by decide) (fun b94 => ?_) (fun b94 => ?_)
                      · skip
                        replace b94 := (nI_eq (a := 0) (b := 0) (by omega) (by omega)).mp b94
                        refine lv_iconst (v := nI 0) hx hb d_M_reads_122 (by decide) ?_
                        exact pe_zret hx hb hr hlocks hK hP hD hS d_M_reads_123 rfl ⟨(Or.inr ⟨(hpy1.trans (c89 i8 Fw (by omega) (tkm hT mn i8).symm hq16)), ⟨0, i8 + 1, o8, p8, r8, t8, by omega, by omega, by omega, by omega, by omega, by omega, e90⟩, rfl⟩), hI1_66, hu⟩
                      · skip
                        replace b94 := mt (nI_eq (a := 0) (b := 0) (by omega) (by omega)).mpr b94
                        exfalso; omega
                    · skip
                      replace b93 := mt (nI_eq (a := 0) (b := 0) (by omega) (by omega)).mpr b93
                      exfalso; omega
                · skip
                  have tq16 : tk hT mn i8 = 16 := (tkm hT mn i8).symm.trans (kc_16.mpr b60)
                  refine lv_aload_n hx hb d_M_reads_90 rfl (lv_at hl 2 rfl) ?_
                  refine lv_iconst (v := nI 1) hx hb d_M_reads_91 (by decide) ?_
                  refine pf_put (v := .int (nI 1)) (ty := .boolean) (fs' := [.int mth, .ref (g.lk M 1), .int (nI mn), .ref (g.lk M 3), .ref (g.lk M 4), .int (nI r8), .ref (g.lk M 6), .ref (g.lk M 7), .ref (g.lk M 8), .int (nI msz), .int (nI (i8 + 1)), .int (nI p8), .ref (g.lk M 12), .int (nI t8), .ref (g.lk M 14), .ref (g.lk M 15), .int (nI o8), .ref (g.lk M 17), .ref (g.lk M 18), .ref (g.lk M 19), .ref (g.lk M 20), .ref (g.lk M 21), .ref (g.lk M 22), .ref (g.lk M 23), .ref (g.lk M 24), .ref (g.lk M 25), .ref (g.lk M 26), .ref (g.lk M 27), .ref (g.lk M 28), .ref (g.lk M 29), .ref (g.lk M 30), .ref (g.lk M 31), .int (nI mtp), .ref (g.lk M 33), .ref (g.lk M 34), .ref (g.lk M 35), .int (nI mwa), .int (nI mgi), .int (nI mpc), .int (nI mst), .int (nI mtr), .int (nI msp), .int mma, .int mlg, .int (nI 1)]) (C := "BigRunnerModel") (T := FT10) (N := 45) hx hb (hw10 hB _) (fun _ h9 => h9) TY10 ok10 nm10 hown hK hP hD hS (lo_in hL t_M (by decide)) e57 rfl 44 (by decide) (wd_991 hB _) rfl (by decide +kernel) rfl rfl (Nat.le_of_ble_eq_true rfl) rfl d_M_reads_92 (fun f95 H locs e96 k97 hP hD hS => ?_)
                  have eT := (k97 (g.lk M 1) (tg_ne (lo_k11_1 hL _ t_M) t_M (by decide))).trans eT
                  have e40 := (k97 (g.lk M 3) (tg_ne (lo_k11_3 hL _ t_M) t_M (by decide))).trans e40
                  have e41 := (k97 (g.lk M 4) (tg_ne (lo_k11_4 hL _ t_M) t_M (by decide))).trans e41
                  have e42 := (k97 (g.lk M 14) (tg_ne (lo_k11_14 hL _ t_M) t_M (by decide))).trans e42
                  have e43 := (k97 (g.lk M 15) (tg_ne (lo_k11_15 hL _ t_M) t_M (by decide))).trans e43
                  have hu := hu.st k97 t_M (by decide)
                  have hv45 := hv45.st k97 t_M (by decide)
                  have hk98 : ∀ b, b ≠ M → f95 b = f35 b := fun b q0 => (k97 b q0).trans (hk59 b q0)
                  refine lv_goto (tgt := 104) hx hb d_M_reads_95 (by decide) ?_
                  refine lv_goto (tgt := 27) hx hb d_M_reads_104 (by decide) ?_
                  have hI99 := iv_1 hI44 hL t_M (by decide) hk98 (oc_11.mk t_M (⟨mth, mn, r8, msz, (i8 + 1), p8, t8, o8, mtp, mwa, mgi, mpc, mst, mtr, msp, mma, mlg, ((nI 1)), e96, (by omega), (by omega), (by omega), (by omega), (by omega), (by omega), (by omega), (by omega), (by omega), (by omega), (by omega), (by omega), (by omega), (by omega), (Or.inr rfl)⟩))
                  have hl : lv_has ls 3 [(1, .int (nI 1)), (0, .ref M)] := lv_sub hl [1, 2] rfl
                  exact ih37 1 (i8 + 1) p8 r8 o8 t8 d8 g8 b8 k8 Fw D8 f95 H locs ls (by omega) (by omega) (by omega) (by omega) (by omega) (by omega) (by omega) (by omega) (hpy1.trans (by rw [py_rF, if_pos (by omega), if_pos tq16]; rfl)) hDI8 (Or.inl rfl) (hoy1.trans (by rw [oy_rF, if_pos (by omega), if_pos tq16]; rfl)) hDS8 hDl8 hE88 e96 e40 e41 e42 e43 hI99 hv45 hl hP hD hS
              · skip
                replace b51 := mt (nI_eq (a := 0) (b := 0) (by omega) (by omega)).mpr b51
                exfalso; omega
      · skip
        have hpy1 : py_r (tk hT mn) mn 400 0 [] 1 true = py_r (tk hT mn) mn (Fw + 1) i8 (kl k8 o8) p8 true := hpy
        have hoy1 : oy_r (tk hT mn) (vc hT mn) mn 400 0 [] [] 1 true = oy_r (tk hT mn) (vc hT mn) mn (Fw + 1) i8 D8 (klx k8 b8 o8) p8 true := hoy
        refine lv_iload_n hx hb d_M_reads_27 rfl (lv_at hl 0 rfl) ?_
        refine lv_if_eq (tgt := 107) hx hb d_M_reads_28 (by decide) (fun b100 => ?_) (fun b100 => ?_)
        · skip
          replace b100 := (nI_eq (a := 1) (b := 0) (by omega) (by omega)).mp b100
          exfalso; omega
        · skip
          replace b100 := mt (nI_eq (a := 1) (b := 0) (by omega) (by omega)).mpr b100
          refine lv_aload_n hx hb d_M_reads_31 rfl (lv_at hl 1 rfl) ?_
          refine pf_get (v := .int (nI 1)) (C := "BigRunnerModel") (T := FT10) (N := 45) hx hb (hw10 hB _) (fun _ h9 => h9) hown hK hP (lo_in hL t_M (by decide)) e39 rfl 44 (by decide) (wd_991 hB _) rfl d_M_reads_32 ?_
          refine lv_if_ne (tgt := 49) hx hb d_M_reads_35 (by decide) (fun b101 => ?_) (fun b101 => ?_)
          · skip
            replace b101 := mt (nI_eq (a := 1) (b := 0) (by omega) (by omega)).mpr b101
            refine lv_aload_n hx hb d_M_reads_49 rfl (lv_at hl 1 rfl) ?_
            refine pf_get (v := .int (nI 1)) (C := "BigRunnerModel") (T := FT10) (N := 45) hx hb (hw10 hB _) (fun _ h9 => h9) hown hK hP (lo_in hL t_M (by decide)) e39 rfl 44 (by decide) (wd_991 hB _) rfl d_M_reads_50 ?_
            refine lv_if_eq (tgt := 69) hx hb d_M_reads_53 (by decide) (fun b102 => ?_) (fun b102 => ?_)
            · skip
              replace b102 := (nI_eq (a := 1) (b := 0) (by omega) (by omega)).mp b102
              exfalso; omega
            · skip
              replace b102 := mt (nI_eq (a := 1) (b := 0) (by omega) (by omega)).mpr b102
              refine lv_aload_n hx hb d_M_reads_56 rfl (lv_at hl 1 rfl) ?_
              refine lv_iconst (v := nI 0) hx hb d_M_reads_57 (by decide) ?_
              refine pf_put (v := .int (nI 0)) (ty := .boolean) (fs' := [.int mth, .ref (g.lk M 1), .int (nI mn), .ref (g.lk M 3), .ref (g.lk M 4), .int (nI r8), .ref (g.lk M 6), .ref (g.lk M 7), .ref (g.lk M 8), .int (nI msz), .int (nI i8), .int (nI p8), .ref (g.lk M 12), .int (nI t8), .ref (g.lk M 14), .ref (g.lk M 15), .int (nI o8), .ref (g.lk M 17), .ref (g.lk M 18), .ref (g.lk M 19), .ref (g.lk M 20), .ref (g.lk M 21), .ref (g.lk M 22), .ref (g.lk M 23), .ref (g.lk M 24), .ref (g.lk M 25), .ref (g.lk M 26), .ref (g.lk M 27), .ref (g.lk M 28), .ref (g.lk M 29), .ref (g.lk M 30), .ref (g.lk M 31), .int (nI mtp), .ref (g.lk M 33), .ref (g.lk M 34), .ref (g.lk M 35), .int (nI mwa), .int (nI mgi), .int (nI mpc), .int (nI mst), .int (nI mtr), .int (nI msp), .int mma, .int mlg, .int (nI 0)]) (C := "BigRunnerModel") (T := FT10) (N := 45) hx hb (hw10 hB _) (fun _ h9 => h9) TY10 ok10 nm10 hown hK hP hD hS (lo_in hL t_M (by decide)) e39 rfl 44 (by decide) (wd_991 hB _) rfl (by decide +kernel) rfl rfl (Nat.le_of_ble_eq_true rfl) rfl d_M_reads_58 (fun f103 H locs e104 k105 hP hD hS => ?_)
              have eT := (k105 (g.lk M 1) (tg_ne (lo_k11_1 hL _ t_M) t_M (by decide))).trans eT
              have e40 := (k105 (g.lk M 3) (tg_ne (lo_k11_3 hL _ t_M) t_M (by decide))).trans e40
              have e41 := (k105 (g.lk M 4) (tg_ne (lo_k11_4 hL _ t_M) t_M (by decide))).trans e41
              have e42 := (k105 (g.lk M 14) (tg_ne (lo_k11_14 hL _ t_M) t_M (by decide))).trans e42
              have e43 := (k105 (g.lk M 15) (tg_ne (lo_k11_15 hL _ t_M) t_M (by decide))).trans e43
              have hu := hu.st k105 t_M (by decide)
              have hv45 := hv45.st k105 t_M (by decide)
              have hk106 : ∀ b, b ≠ M → f103 b = f35 b := k105
              refine lv_aload_n hx hb d_M_reads_61 rfl (lv_at hl 1 rfl) ?_
              have hI107 := iv_1 hI44 hL t_M (by decide) hk106 (oc_11.mk t_M (⟨mth, mn, r8, msz, i8, p8, t8, o8, mtp, mwa, mgi, mpc, mst, mtr, msp, mma, mlg, ((nI 0)), e104, (by omega), (by omega), (by omega), (by omega), (by omega), (by omega), (by omega), (by omega), (by omega), (by omega), (by omega), (by omega), (by omega), (by omega), (Or.inl rfl)⟩))
              refine pcc_i (va_runV (C := "BigRunnerModel") (As := []) (rest := []) ⟨hx, hb, hml, hown, tb_nil⟩ (m2_statement l g H.size f103 M mth mn r8 msz i8 p8 t8 o8 mtp mwa mgi mpc mst mtr msp mma mlg hT d8 g8 b8 k8 D8 hL t_M hI107 e104 ⟨(by omega), (by omega), (by omega), (by omega), (by omega), (by omega), (by omega), (by omega), (by omega), (by omega), (by omega), (by omega), (by omega), (by omega)⟩ eT cT e40 e41 e42 e43 (by omega) (by omega) (by omega) (by omega) hDI8 hDS8 hDl8 hE88) ⟨(callB_of 0 (tb_one (wd_1107 hB _)) tb_good1 rfl rfl rfl (wd_82 hB _) (wd_1104 hB _) (by decide +kernel) ⟨Nat.le_of_ble_eq_true rfl, Nat.le_of_ble_eq_true rfl⟩), (wd_1106 hB _), (wd_42 hB _)⟩ ⟨pe_bl, pg_recv (ci := 10) hK hP (lo_in hL t_M (by decide)) e104 rfl, pe_pre hB hK hP hD⟩ rfl rfl hl.1 rfl (lv_room (Nat.le_of_ble_eq_true rfl)) d_M_reads_62 ⟨Nat.le_of_ble_eq_true rfl, Nat.le_of_ble_eq_true rfl⟩) hS (fun r108 f109 H locs hq110 hP hD hS => ?_)
              obtain ⟨rs_111, hI1_112, hu1_113⟩ := hq110
              have hu := hu.tr hu1_113 (by decide)
              have hv45 := hv45.tr hu1_113 (by decide)
              have eT := hu1_113.at (lo_k11_1 hL _ t_M) (by decide) eT
              rcases rs_111 with ⟨fb_114, ix_115, op_116, dp_117, dr_118, wt_119, d_120, g_121, b_122, k_123, c124, c125, c126, c127, c128, c129, c130, c131, c132, c133, c134, e135, e136, e137, e138, e139, rfl⟩ | ⟨c146, ⟨fb_140, ix_141, op_142, dp_143, dr_144, wt_145, c147, c148, c149, c150, c151, c152, e153⟩, rfl⟩
              · skip
                refine lv_istore_n (lv' := [(1, .int (nI 1)), (0, .ref M)]) hx hb d_M_reads_65 rfl hl (by decide) rfl (fun ls hl => ?_)
                refine lv_goto (tgt := 27) hx hb d_M_reads_66 (by decide) ?_
                obtain ⟨D_154, dx155⟩ := c134
                exact ih37 fb_114 ix_115 dp_117 dr_118 op_116 wt_119 d_120 g_121 b_122 k_123 Fw D_154 f109 H locs ls (by omega) (by omega) (by omega) (by omega) (by omega) (by omega) (by omega) (by omega) (hpy1.trans (c124 Fw)) c133 (Or.inr (by omega)) (hoy1.trans (dx155.2.2.2 Fw)) dx155.2.1 dx155.1 dx155.2.2.1 e135 e136 e137 e138 e139 hI1_112 hv45 hl hP hD hS
              · skip
                refine lv_istore_n (lv' := [(1, .int (nI 0)), (0, .ref M)]) hx hb d_M_reads_65 rfl hl (by decide) rfl (fun ls hl => ?_)
                refine lv_goto (tgt := 27) hx hb d_M_reads_66 (by decide) ?_
                refine lv_iload_n hx hb d_M_reads_27 rfl (lv_at hl 0 rfl) ?_
                refine lv_if_eq (tgt := 107) hx hb d_M_reads_28 (by decide) (fun b156 => ?_) (fun b156 => ?_)
                · skip
                  replace b156 := (nI_eq (a := 0) (b := 0) (by omega) (by omega)).mp b156
                  refine lv_iload_n hx hb d_M_reads_107 rfl (lv_at hl 0 rfl) ?_
                  refine lv_if_eq (tgt := 122) hx hb d_M_reads_108 (by decide) (fun b157 => ?_) (fun b157 => ?_)
                  · skip
                    replace b157 := (nI_eq (a := 0) (b := 0) (by omega) (by omega)).mp b157
                    refine lv_iconst (v := nI 0) hx hb d_M_reads_122 (by decide) ?_
                    exact pe_zret hx hb hr hlocks hK hP hD hS d_M_reads_123 rfl ⟨(Or.inr ⟨(hpy1.trans (c146 Fw)), ⟨fb_140, ix_141, op_142, dp_143, dr_144, wt_145, by omega, by omega, by omega, by omega, by omega, by omega, e153⟩, rfl⟩), hI1_112, hu⟩
                  · skip
                    replace b157 := mt (nI_eq (a := 0) (b := 0) (by omega) (by omega)).mpr b157
                    exfalso; omega
                · skip
                  replace b156 := mt (nI_eq (a := 0) (b := 0) (by omega) (by omega)).mpr b156
                  exfalso; omega
          · skip
            replace b101 := (nI_eq (a := 1) (b := 0) (by omega) (by omega)).mp b101
            exfalso; omega
  exact lp34 (mn + 1) 1 0 1 0 0 mwt h_22 h_25 h_28 h_31 400 ([]) f17 H locs ls (by omega) (by omega) (by omega) (by omega) (by omega) (by omega) (by omega) (by omega) rfl DI_0 (Or.inl rfl) rfl trivial rfl (E8_0 _) e18 e21 e24 e27 e30 hI33 un.rf hl hP hD hS

