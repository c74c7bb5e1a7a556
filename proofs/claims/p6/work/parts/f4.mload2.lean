set_option maxHeartbeats 4000000 in
set_option maxRecDepth 100000 in
theorem m2_load (l : Launch) (g : Lay) (sz : Nat) (f : Nat → va_E) (M : Nat) (mth : Int32) (mn : Nat) (mdr : Nat) (msz : Nat) (mix : Nat) (mdp : Nat) (mwt : Nat) (mop : Nat) (mtp : Nat) (mwa : Nat) (mgi : Nat) (mpc : Nat) (mst : Nat) (mtr : Nat) (msp : Nat) (mma : Int32) (mlg : Int32) (mdu : Int32) (hT : Nat → Int32) (hC : Nat → Int32) (hA : Nat → Int32) (hL : LO g) (t_M : g.tg M = 11) (hI : IV g f) (eM : f M = .inr (10, [.int mth, .ref (g.lk M 1), .int (nI mn), .ref (g.lk M 3), .ref (g.lk M 4), .int (nI mdr), .ref (g.lk M 6), .ref (g.lk M 7), .ref (g.lk M 8), .int (nI msz), .int (nI mix), .int (nI mdp), .ref (g.lk M 12), .int (nI mwt), .ref (g.lk M 14), .ref (g.lk M 15), .int (nI mop), .ref (g.lk M 17), .ref (g.lk M 18), .ref (g.lk M 19), .ref (g.lk M 20), .ref (g.lk M 21), .ref (g.lk M 22), .ref (g.lk M 23), .ref (g.lk M 24), .ref (g.lk M 25), .ref (g.lk M 26), .ref (g.lk M 27), .ref (g.lk M 28), .ref (g.lk M 29), .ref (g.lk M 30), .ref (g.lk M 31), .int (nI mtp), .ref (g.lk M 33), .ref (g.lk M 34), .ref (g.lk M 35), .int (nI mwa), .int (nI mgi), .int (nI mpc), .int (nI mst), .int (nI mtr), .int (nI msp), .int mma, .int mlg, .int mdu])) (hMB : mn ≤ 72 ∧ mdr ≤ 100 ∧ msz ≤ 100 ∧ mix ≤ 100 ∧ mdp ≤ 20 ∧ mwt ≤ 72 ∧ mop ≤ 40 ∧ mtp ≤ 80 ∧ mwa ≤ 20 ∧ mgi ≤ msp ∧ mpc ≤ 100 ∧ mst ≤ 4 ∧ mtr ≤ 3 ∧ msp ≤ 3000 ∧ (mdu = 0 ∨ mdu = 1)) (eT : f (g.lk M 1) = .inl (g.ac (g.lk M 1), 72, .inl hT)) (cT : ∀ i, i < 72 → vp_nar .char (hT i) = hT i) (eC : f (g.lk M 6) = .inl (g.ac (g.lk M 6), 100, .inl hC)) (eA : f (g.lk M 7) = .inl (g.ac (g.lk M 7), 100, .inl hA)) (hLB : py_r (tk hT mn) mn 400 0 [] 1 true = true → ∀ x, x ∈ oy_r (tk hT mn) (vc hT mn) mn 400 0 [] [] 1 true → LB x) : Met l ⟨"BigRunnerModel", "load", "()I"⟩ [Cond.code ⟨"BigRunnerModel", "load", "()I"⟩ prog_12_method_40_code 2 (some .int)] ({ frames := 6, cells := 0, slots := 0, locals := 144 }) (va_Pc [.ref M] (pc_in g sz f)) (va_Qi (fun r f1 => ((∃ (ix1 dp1 n1 wt1 tp1 : Nat) (c1 a1 : Nat → Int32) (dpf : Nat → Nat), py_r (tk hT mn) mn 400 0 [] 1 true = true ∧ ix1 ≤ 90 ∧ dp1 ≤ 13 ∧ n1 ≤ 90 ∧ wt1 ≤ 72 ∧ tp1 ≤ 80 ∧ WF c1 a1 dpf n1 ∧ RI c1 dpf n1 1 0 0 ∧ r = nI (rds (oy_r (tk hT mn) (vc hT mn) mn 400 0 [] [] 1 true) 30 1 (fun _ => zI)).1 ∧ (∃ (lw1 hg1 : Nat → Int64) (un1 ov1 : Nat → Int32), f1 (g.lk M 17) = .inl (g.ac (g.lk M 17), 10, .inr (.inl lw1)) ∧ f1 (g.lk M 18) = .inl (g.ac (g.lk M 18), 10, .inr (.inl hg1)) ∧ f1 (g.lk M 19) = .inl (g.ac (g.lk M 19), 10, .inl un1) ∧ f1 (g.lk M 20) = .inl (g.ac (g.lk M 20), 10, .inl ov1) ∧ VR lw1 hg1 un1 ov1 ((rds (oy_r (tk hT mn) (vc hT mn) mn 400 0 [] [] 1 true) 30 1 (fun _ => zI)).2)) ∧ f1 M = .inr (10, [.int (nI 0), .ref (g.lk M 1), .int (nI 0), .ref (g.lk M 3), .ref (g.lk M 4), .int (nI n1), .ref (g.lk M 6), .ref (g.lk M 7), .ref (g.lk M 8), .int (nI n1), .int (nI ix1), .int (nI dp1), .ref (g.lk M 12), .int (nI wt1), .ref (g.lk M 14), .ref (g.lk M 15), .int (nI 0), .ref (g.lk M 17), .ref (g.lk M 18), .ref (g.lk M 19), .ref (g.lk M 20), .ref (g.lk M 21), .ref (g.lk M 22), .ref (g.lk M 23), .ref (g.lk M 24), .ref (g.lk M 25), .ref (g.lk M 26), .ref (g.lk M 27), .ref (g.lk M 28), .ref (g.lk M 29), .ref (g.lk M 30), .ref (g.lk M 31), .int (nI tp1), .ref (g.lk M 33), .ref (g.lk M 34), .ref (g.lk M 35), .int (nI mwa), .int (nI 0), .int (nI 0), .int (nI 1), .int (nI 0), .int (nI 0), .int (nI 0), .int (nI 0), .int (nI 0)]) ∧ f1 (g.lk M 6) = .inl (g.ac (g.lk M 6), 100, .inl c1) ∧ f1 (g.lk M 7) = .inl (g.ac (g.lk M 7), 100, .inl a1)) ∨ (py_r (tk hT mn) mn 400 0 [] 1 true = false ∧ (∃ (fb ix1 op1 dp1 dr1 wt1 : Nat), ix1 ≤ 90 ∧ dp1 ≤ 13 ∧ dr1 ≤ 90 ∧ wt1 ≤ 72 ∧ op1 ≤ 30 ∧ fb ≤ 1 ∧ f1 M = .inr (10, [.int (nI 1), .ref (g.lk M 1), .int (nI mn), .ref (g.lk M 3), .ref (g.lk M 4), .int (nI dr1), .ref (g.lk M 6), .ref (g.lk M 7), .ref (g.lk M 8), .int (nI msz), .int (nI ix1), .int (nI dp1), .ref (g.lk M 12), .int (nI wt1), .ref (g.lk M 14), .ref (g.lk M 15), .int (nI op1), .ref (g.lk M 17), .ref (g.lk M 18), .ref (g.lk M 19), .ref (g.lk M 20), .ref (g.lk M 21), .ref (g.lk M 22), .ref (g.lk M 23), .ref (g.lk M 24), .ref (g.lk M 25), .ref (g.lk M 26), .ref (g.lk M 27), .ref (g.lk M 28), .ref (g.lk M 29), .ref (g.lk M 30), .ref (g.lk M 31), .int (nI mtp), .ref (g.lk M 33), .ref (g.lk M 34), .ref (g.lk M 35), .int (nI mwa), .int (nI mgi), .int (nI mpc), .int (nI mst), .int (nI mtr), .int (nI msp), .int mma, .int mlg, .int (nI fb)])) ∧ f1 (g.lk M 6) = .inl (g.ac (g.lk M 6), 100, .inl hC) ∧ f1 (g.lk M 7) = .inl (g.ac (g.lk M 7), 100, .inl hA))) ∧ (IV g f1) ∧ (un [11, 41, 42, 43, 44, 45, 46, 47, 48, 49, 50, 51, 52, 53, 54, 55, 56, 57, 58, 59] g f f1)) (pc_out g sz) (pc_A g sz)) 0 0 (pc_A g sz) := by
  refine pe_ofW (cc := prog_12_method_40_code) (maxL := 2) (ret := (some .int)) (lv := [(0, .ref M)]) (by decide) (Nat.le_of_ble_eq_true rfl) rfl ?_
  intro p e s m args below meth c ls hx hb hr hml hlocks hown hB hP hK hD hsz hS hl
  subst hsz
  have hu : un [11, 41, 42, 43, 44, 45, 46, 47, 48, 49, 50, 51, 52, 53, 54, 55, 56, 57, 58, 59] g f f := un.rf
  obtain ⟨hmb0, hmb1, hmb2, hmb3, hmb4, hmb5, hmb6, hmb7, hmb8, hmb9, hmb10, hmb11, hmb12, hmb13, hmb14⟩ := hMB
  have hLBx := hLB
  refine lv_aload_n hx hb d_M_load_0 rfl (lv_at hl 0 rfl) ?_
  refine lv_aload_n hx hb d_M_load_1 rfl (lv_at hl 0 rfl) ?_
  refine pcc_i (va_runV (C := "BigRunnerModel") (As := []) (rest := [.ref M]) ⟨hx, hb, hml, hown, tb_nil⟩ (m2_reads l g s.heap.size f M mth mn mdr msz mix mdp mwt mop mtp mwa mgi mpc mst mtr msp mma mlg mdu hT hL t_M hI eM ⟨(by omega), (by omega), (by omega), (by omega), (by omega), (by omega), (by omega), (by omega), (by omega), (by omega), (by omega), (by omega), (by omega), (by omega), hmb14⟩ eT cT) ⟨(callB_of 0 (tb_one (wd_1103 hB _)) tb_good1 rfl rfl rfl (wd_82 hB _) (wd_1100 hB _) (by decide +kernel) ⟨Nat.le_of_ble_eq_true rfl, Nat.le_of_ble_eq_true rfl⟩), (wd_1102 hB _), (wd_41 hB _)⟩ ⟨pe_bl, pg_recv (ci := 10) hK hP (lo_in hL t_M (by decide)) eM rfl, pe_pre hB hK hP hD⟩ rfl rfl hl.1 rfl (lv_room (Nat.le_of_ble_eq_true rfl)) d_M_load_2 ⟨Nat.le_of_ble_eq_true rfl, Nat.le_of_ble_eq_true rfl⟩) hS (fun r1 f2 H locs hq3 hP hD hS => ?_)
  obtain ⟨rs_4, hI1_5, hu1_6⟩ := hq3
  have hu := hu.tr hu1_6 (by decide)
  have eT := hu1_6.at (lo_k11_1 hL _ t_M) (by decide) eT
  have eC := hu1_6.at (lo_k11_6 hL _ t_M) (by decide) eC
  have eA := hu1_6.at (lo_k11_7 hL _ t_M) (by decide) eA
  rcases rs_4 with ⟨ix_7, dp_8, n_9, wt_10, d_11, g_12, c13, c14, c15, c16, c17, c18, c19, c20, c21, c22, c23, e24, e25, e26, rfl⟩ | ⟨c33, ⟨fb_27, ix_28, op_29, dp_30, dr_31, wt_32, c34, c35, c36, c37, c38, c39, e40⟩, rfl⟩
  · skip
    refine lv_if_eq (tgt := 12) hx hb d_M_load_5 (by decide) (fun b41 => ?_) (fun b41 => ?_)
    · skip
      replace b41 := (nI_eq (a := 1) (b := 0) (by omega) (by omega)).mp b41
      exfalso; omega
    · skip
      replace b41 := mt (nI_eq (a := 1) (b := 0) (by omega) (by omega)).mpr b41
      refine lv_iconst (v := nI 0) hx hb d_M_load_8 (by decide) ?_
      refine lv_goto (tgt := 13) hx hb d_M_load_9 (by decide) ?_
      refine pf_put (v := .int (nI 0)) (ty := .int) (fs' := [.int (nI 0), .ref (g.lk M 1), .int (nI mn), .ref (g.lk M 3), .ref (g.lk M 4), .int (nI n_9), .ref (g.lk M 6), .ref (g.lk M 7), .ref (g.lk M 8), .int (nI msz), .int (nI ix_7), .int (nI dp_8), .ref (g.lk M 12), .int (nI wt_10), .ref (g.lk M 14), .ref (g.lk M 15), .int (nI 0), .ref (g.lk M 17), .ref (g.lk M 18), .ref (g.lk M 19), .ref (g.lk M 20), .ref (g.lk M 21), .ref (g.lk M 22), .ref (g.lk M 23), .ref (g.lk M 24), .ref (g.lk M 25), .ref (g.lk M 26), .ref (g.lk M 27), .ref (g.lk M 28), .ref (g.lk M 29), .ref (g.lk M 30), .ref (g.lk M 31), .int (nI mtp), .ref (g.lk M 33), .ref (g.lk M 34), .ref (g.lk M 35), .int (nI mwa), .int (nI mgi), .int (nI mpc), .int (nI mst), .int (nI mtr), .int (nI msp), .int mma, .int mlg, .int (nI 0)]) (C := "BigRunnerModel") (T := FT10) (N := 45) hx hb (hw10 hB _) (fun _ h9 => h9) TY10 ok10 nm10 hown hK hP hD hS (lo_in hL t_M (by decide)) e24 rfl 0 (by decide) (wd_947 hB _) rfl (by decide +kernel) rfl rfl (Nat.le_of_ble_eq_true rfl) rfl d_M_load_13 (fun f42 H locs e43 k44 hP hD hS => ?_)
      have eT := (k44 (g.lk M 1) (tg_ne (lo_k11_1 hL _ t_M) t_M (by decide))).trans eT
      have eC := (k44 (g.lk M 6) (tg_ne (lo_k11_6 hL _ t_M) t_M (by decide))).trans eC
      have eA := (k44 (g.lk M 7) (tg_ne (lo_k11_7 hL _ t_M) t_M (by decide))).trans eA
      have e25 := (k44 (g.lk M 3) (tg_ne (lo_k11_3 hL _ t_M) t_M (by decide))).trans e25
      have e26 := (k44 (g.lk M 4) (tg_ne (lo_k11_4 hL _ t_M) t_M (by decide))).trans e26
      have hu := hu.st k44 t_M (by decide)
      have hk45 : ∀ b, b ≠ M → f42 b = f2 b := k44
      refine lv_aload_n hx hb d_M_load_16 rfl (lv_at hl 0 rfl) ?_
      refine pf_get (v := .int (nI 0)) (C := "BigRunnerModel") (T := FT10) (N := 45) hx hb (hw10 hB _) (fun _ h9 => h9) hown hK hP (lo_in hL t_M (by decide)) e43 rfl 0 (by decide) (wd_947 hB _) rfl d_M_load_17 ?_
      refine lv_if_le (tgt := 25) hx hb d_M_load_20 (by decide) (fun b46 => ?_) (fun b46 => ?_)
      · skip
        replace b46 := (nI_leI (a := 0) (b := 0) (by omega) (by omega)).mp b46
        refine lv_iconst (v := nI 0) hx hb d_M_load_25 (by decide) ?_
        refine lv_istore_n (lv' := [(1, .int (nI 0)), (0, .ref M)]) hx hb d_M_load_26 rfl hl (by decide) rfl (fun ls hl => ?_)
        have hI47 := iv_1 hI1_5 hL t_M (by decide) hk45 (oc_11.mk t_M (⟨((nI 0)), mn, n_9, msz, ix_7, dp_8, wt_10, 0, mtp, mwa, mgi, mpc, mst, mtr, msp, mma, mlg, ((nI 0)), e43, (by omega), (by omega), (by omega), (by omega), (by omega), (by omega), (by omega), (by omega), (by omega), (by omega), (by omega), (by omega), (by omega), (by omega), (Or.inl rfl)⟩))
        have lp48 : ∀ (k50 : Nat) (i : Nat) (c8 : Nat → Int32) (a8 : Nat → Int32) (f49 : Nat → va_E) (H : Heap) (locs : List Loc) (ls : Array Slot), (n_9 < i + k50) → (i ≤ n_9) → (smd i c8 d_11) → (smd i a8 g_12) → f49 (g.lk M 6) = .inl (g.ac (g.lk M 6), 100, .inl (c8)) → f49 (g.lk M 7) = .inl (g.ac (g.lk M 7), 100, .inl (a8)) → IV g f49 → un [43, 44] g f42 f49 → lv_has ls 2 [(1, .int (nI i)), (0, .ref M)] → va_P g.D vcl (va_pl g.LP f49) H → va_D (pc_A g s.heap.size) (va_pl g.LP f49) → va_S (pc_A g s.heap.size) s.heap H locs → W p l e ({ frames := 6, cells := 0, slots := 0, locals := 144 }) s m args below meth c H locs 0 0 (MQ below (va_Qi (fun r f1 => ((∃ (ix1 dp1 n1 wt1 tp1 : Nat) (c1 a1 : Nat → Int32) (dpf : Nat → Nat), py_r (tk hT mn) mn 400 0 [] 1 true = true ∧ ix1 ≤ 90 ∧ dp1 ≤ 13 ∧ n1 ≤ 90 ∧ wt1 ≤ 72 ∧ tp1 ≤ 80 ∧ WF c1 a1 dpf n1 ∧ RI c1 dpf n1 1 0 0 ∧ r = nI (rds (oy_r (tk hT mn) (vc hT mn) mn 400 0 [] [] 1 true) 30 1 (fun _ => zI)).1 ∧ (∃ (lw1 hg1 : Nat → Int64) (un1 ov1 : Nat → Int32), f1 (g.lk M 17) = .inl (g.ac (g.lk M 17), 10, .inr (.inl lw1)) ∧ f1 (g.lk M 18) = .inl (g.ac (g.lk M 18), 10, .inr (.inl hg1)) ∧ f1 (g.lk M 19) = .inl (g.ac (g.lk M 19), 10, .inl un1) ∧ f1 (g.lk M 20) = .inl (g.ac (g.lk M 20), 10, .inl ov1) ∧ VR lw1 hg1 un1 ov1 ((rds (oy_r (tk hT mn) (vc hT mn) mn 400 0 [] [] 1 true) 30 1 (fun _ => zI)).2)) ∧ f1 M = .inr (10, [.int (nI 0), .ref (g.lk M 1), .int (nI 0), .ref (g.lk M 3), .ref (g.lk M 4), .int (nI n1), .ref (g.lk M 6), .ref (g.lk M 7), .ref (g.lk M 8), .int (nI n1), .int (nI ix1), .int (nI dp1), .ref (g.lk M 12), .int (nI wt1), .ref (g.lk M 14), .ref (g.lk M 15), .int (nI 0), .ref (g.lk M 17), .ref (g.lk M 18), .ref (g.lk M 19), .ref (g.lk M 20), .ref (g.lk M 21), .ref (g.lk M 22), .ref (g.lk M 23), .ref (g.lk M 24), .ref (g.lk M 25), .ref (g.lk M 26), .ref (g.lk M 27), .ref (g.lk M 28), .ref (g.lk M 29), .ref (g.lk M 30), .ref (g.lk M 31), .int (nI tp1), .ref (g.lk M 33), .ref (g.lk M 34), .ref (g.lk M 35), .int (nI mwa), .int (nI 0), .int (nI 0), .int (nI 1), .int (nI 0), .int (nI 0), .int (nI 0), .int (nI 0), .int (nI 0)]) ∧ f1 (g.lk M 6) = .inl (g.ac (g.lk M 6), 100, .inl c1) ∧ f1 (g.lk M 7) = .inl (g.ac (g.lk M 7), 100, .inl a1)) ∨ (py_r (tk hT mn) mn 400 0 [] 1 true = false ∧ (∃ (fb ix1 op1 dp1 dr1 wt1 : Nat), ix1 ≤ 90 ∧ dp1 ≤ 13 ∧ dr1 ≤ 90 ∧ wt1 ≤ 72 ∧ op1 ≤ 30 ∧ fb ≤ 1 ∧ f1 M = .inr (10, [.int (nI 1), .ref (g.lk M 1), .int (nI mn), .ref (g.lk M 3), .ref (g.lk M 4), .int (nI dr1), .ref (g.lk M 6), .ref (g.lk M 7), .ref (g.lk M 8), .int (nI msz), .int (nI ix1), .int (nI dp1), .ref (g.lk M 12), .int (nI wt1), .ref (g.lk M 14), .ref (g.lk M 15), .int (nI op1), .ref (g.lk M 17), .ref (g.lk M 18), .ref (g.lk M 19), .ref (g.lk M 20), .ref (g.lk M 21), .ref (g.lk M 22), .ref (g.lk M 23), .ref (g.lk M 24), .ref (g.lk M 25), .ref (g.lk M 26), .ref (g.lk M 27), .ref (g.lk M 28), .ref (g.lk M 29), .ref (g.lk M 30), .ref (g.lk M 31), .int (nI mtp), .ref (g.lk M 33), .ref (g.lk M 34), .ref (g.lk M 35), .int (nI mwa), .int (nI mgi), .int (nI mpc), .int (nI mst), .int (nI mtr), .int (nI msp), .int mma, .int mlg, .int (nI fb)])) ∧ f1 (g.lk M 6) = .inl (g.ac (g.lk M 6), 100, .inl hC) ∧ f1 (g.lk M 7) = .inl (g.ac (g.lk M 7), 100, .inl hA))) ∧ (IV g f1) ∧ (un [11, 41, 42, 43, 44, 45, 46, 47, 48, 49, 50, 51, 52, 53, 54, 55, 56, 57, 58, 59] g f f1)) (pc_out g s.heap.size) (pc_A g s.heap.size)) args s 0 0 (pc_A g s.heap.size)) (F0 m 27 ls []) := by
          intro k50
          induction k50 with
          | zero => intros; exfalso; omega
          | succ k50 ih51 =>
            intro i c8 a8 f49 H locs ls hfu52 hi hsc hsa e53 e54 hI55 hv56 hl hP hD hS
            have eT := hv56.at (lo_k11_1 hL _ t_M) (by decide) eT
            have e25 := hv56.at (lo_k11_3 hL _ t_M) (by decide) e25
            have e26 := hv56.at (lo_k11_4 hL _ t_M) (by decide) e26
            have e43 := hv56.at t_M (by decide) e43
            have hu := hu.tr hv56 (by decide)
            refine lv_iload_n hx hb d_M_load_27 rfl (lv_at hl 0 rfl) ?_
            refine lv_aload_n hx hb d_M_load_28 rfl (lv_at hl 1 rfl) ?_
            refine pf_get (v := .int (nI n_9)) (C := "BigRunnerModel") (T := FT10) (N := 45) hx hb (hw10 hB _) (fun _ h9 => h9) hown hK hP (lo_in hL t_M (by decide)) e43 rfl 5 (by decide) (wd_952 hB _) rfl d_M_load_29 ?_
            refine lv_icmp_ge (tgt := 65) hx hb d_M_load_32 (by decide) (fun b57 => ?_) (fun b57 => ?_)
            · skip
              replace b57 := (nI_leI (a := n_9) (b := i) (by omega) (by omega)).mp b57
              have hDSc : DS c8 a8 0 (oy_r (tk hT mn) (vc hT mn) mn 400 0 [] [] 1 true) := DS_smd c22 hsc hsa (by omega)
              have hE8c : ∀ p, p < n_9 → c8 p = nI 8 → dpc d_11 p = 1 := fun p hp e => c23 p hp ((hsc p (by omega)).symm.trans e)
              have hwf : WF c8 a8 (dpc d_11) n_9 := WF_smd c19 (by have z := hsc; rw [show i = n_9 by omega] at z; exact z) (by have z := hsa; rw [show i = n_9 by omega] at z; exact z)
              have hri : RI c8 (dpc d_11) n_9 1 0 0 := fun _ => ⟨by omega, rfl, fun z => c20 ((hsc 0 (by omega)).symm.trans z), rfl⟩
              refine lv_aload_n hx hb d_M_load_65 rfl (lv_at hl 1 rfl) ?_
              refine lv_aload_n hx hb d_M_load_66 rfl (lv_at hl 1 rfl) ?_
              refine pf_get (v := .int (nI n_9)) (C := "BigRunnerModel") (T := FT10) (N := 45) hx hb (hw10 hB _) (fun _ h9 => h9) hown hK hP (lo_in hL t_M (by decide)) e43 rfl 5 (by decide) (wd_952 hB _) rfl d_M_load_67 ?_
              refine pf_put (v := .int (nI n_9)) (ty := .int) (fs' := [.int (nI 0), .ref (g.lk M 1), .int (nI mn), .ref (g.lk M 3), .ref (g.lk M 4), .int (nI n_9), .ref (g.lk M 6), .ref (g.lk M 7), .ref (g.lk M 8), .int (nI n_9), .int (nI ix_7), .int (nI dp_8), .ref (g.lk M 12), .int (nI wt_10), .ref (g.lk M 14), .ref (g.lk M 15), .int (nI 0), .ref (g.lk M 17), .ref (g.lk M 18), .ref (g.lk M 19), .ref (g.lk M 20), .ref (g.lk M 21), .ref (g.lk M 22), .ref (g.lk M 23), .ref (g.lk M 24), .ref (g.lk M 25), .ref (g.lk M 26), .ref (g.lk M 27), .ref (g.lk M 28), .ref (g.lk M 29), .ref (g.lk M 30), .ref (g.lk M 31), .int (nI mtp), .ref (g.lk M 33), .ref (g.lk M 34), .ref (g.lk M 35), .int (nI mwa), .int (nI mgi), .int (nI mpc), .int (nI mst), .int (nI mtr), .int (nI msp), .int mma, .int mlg, .int (nI 0)]) (C := "BigRunnerModel") (T := FT10) (N := 45) hx hb (hw10 hB _) (fun _ h9 => h9) TY10 ok10 nm10 hown hK hP hD hS (lo_in hL t_M (by decide)) e43 rfl 9 (by decide) (wd_956 hB _) rfl (by decide +kernel) rfl rfl (Nat.le_of_ble_eq_true rfl) rfl d_M_load_70 (fun f58 H locs e59 k60 hP hD hS => ?_)
              have eT := (k60 (g.lk M 1) (tg_ne (lo_k11_1 hL _ t_M) t_M (by decide))).trans eT
              have e25 := (k60 (g.lk M 3) (tg_ne (lo_k11_3 hL _ t_M) t_M (by decide))).trans e25
              have e26 := (k60 (g.lk M 4) (tg_ne (lo_k11_4 hL _ t_M) t_M (by decide))).trans e26
              have e53 := (k60 (g.lk M 6) (tg_ne (lo_k11_6 hL _ t_M) t_M (by decide))).trans e53
              have e54 := (k60 (g.lk M 7) (tg_ne (lo_k11_7 hL _ t_M) t_M (by decide))).trans e54
              have hu := hu.st k60 t_M (by decide)
              have hk61 : ∀ b, b ≠ M → f58 b = f49 b := k60
              refine lv_aload_n hx hb d_M_load_73 rfl (lv_at hl 1 rfl) ?_
              refine lv_iconst (v := nI 0) hx hb d_M_load_74 (by decide) ?_
              refine pf_put (v := .int (nI 0)) (ty := .int) (fs' := [.int (nI 0), .ref (g.lk M 1), .int (nI 0), .ref (g.lk M 3), .ref (g.lk M 4), .int (nI n_9), .ref (g.lk M 6), .ref (g.lk M 7), .ref (g.lk M 8), .int (nI n_9), .int (nI ix_7), .int (nI dp_8), .ref (g.lk M 12), .int (nI wt_10), .ref (g.lk M 14), .ref (g.lk M 15), .int (nI 0), .ref (g.lk M 17), .ref (g.lk M 18), .ref (g.lk M 19), .ref (g.lk M 20), .ref (g.lk M 21), .ref (g.lk M 22), .ref (g.lk M 23), .ref (g.lk M 24), .ref (g.lk M 25), .ref (g.lk M 26), .ref (g.lk M 27), .ref (g.lk M 28), .ref (g.lk M 29), .ref (g.lk M 30), .ref (g.lk M 31), .int (nI mtp), .ref (g.lk M 33), .ref (g.lk M 34), .ref (g.lk M 35), .int (nI mwa), .int (nI mgi), .int (nI mpc), .int (nI mst), .int (nI mtr), .int (nI msp), .int mma, .int mlg, .int (nI 0)]) (C := "BigRunnerModel") (T := FT10) (N := 45) hx hb (hw10 hB _) (fun _ h9 => h9) TY10 ok10 nm10 hown hK hP hD hS (lo_in hL t_M (by decide)) e59 rfl 2 (by decide) (wd_949 hB _) rfl (by decide +kernel) rfl rfl (Nat.le_of_ble_eq_true rfl) rfl d_M_load_75 (fun f62 H locs e63 k64 hP hD hS => ?_)
              have eT := (k64 (g.lk M 1) (tg_ne (lo_k11_1 hL _ t_M) t_M (by decide))).trans eT
              have e25 := (k64 (g.lk M 3) (tg_ne (lo_k11_3 hL _ t_M) t_M (by decide))).trans e25
              have e26 := (k64 (g.lk M 4) (tg_ne (lo_k11_4 hL _ t_M) t_M (by decide))).trans e26
              have e53 := (k64 (g.lk M 6) (tg_ne (lo_k11_6 hL _ t_M) t_M (by decide))).trans e53
              have e54 := (k64 (g.lk M 7) (tg_ne (lo_k11_7 hL _ t_M) t_M (by decide))).trans e54
              have hu := hu.st k64 t_M (by decide)
              have hk65 : ∀ b, b ≠ M → f62 b = f49 b := fun b q0 => (k64 b q0).trans (hk61 b q0)
              refine lv_iconst (v := nI 0) hx hb d_M_load_78 (by decide) ?_
              refine lv_istore_n (lv' := [(1, .int (nI 0)), (0, .ref M)]) hx hb d_M_load_79 rfl hl (by decide) rfl (fun ls hl => ?_)
              have hI66 := iv_1 hI55 hL t_M (by decide) hk65 (oc_11.mk t_M (⟨((nI 0)), 0, n_9, n_9, ix_7, dp_8, wt_10, 0, mtp, mwa, mgi, mpc, mst, mtr, msp, mma, mlg, ((nI 0)), e63, (by omega), (by omega), (by omega), (by omega), (by omega), (by omega), (by omega), (by omega), (by omega), (by omega), (by omega), (by omega), (by omega), (by omega), (Or.inl rfl)⟩))
              have lp67 : ∀ (k69 : Nat) (j : Nat) (f68 : Nat → va_E) (H : Heap) (locs : List Loc) (ls : Array Slot), (200 < j + k69) → (j ≤ 200) → IV g f68 → un [58, 59] g f62 f68 → lv_has ls 2 [(1, .int (nI j)), (0, .ref M)] → va_P g.D vcl (va_pl g.LP f68) H → va_D (pc_A g s.heap.size) (va_pl g.LP f68) → va_S (pc_A g s.heap.size) s.heap H locs → W p l e ({ frames := 6, cells := 0, slots := 0, locals := 144 }) s m args below meth c H locs 0 0 (MQ below (va_Qi (fun r f1 => ((∃ (ix1 dp1 n1 wt1 tp1 : Nat) (c1 a1 : Nat → Int32) (dpf : Nat → Nat), py_r (tk hT mn) mn 400 0 [] 1 true = true ∧ ix1 ≤ 90 ∧ dp1 ≤ 13 ∧ n1 ≤ 90 ∧ wt1 ≤ 72 ∧ tp1 ≤ 80 ∧ WF c1 a1 dpf n1 ∧ RI c1 dpf n1 1 0 0 ∧ r = nI (rds (oy_r (tk hT mn) (vc hT mn) mn 400 0 [] [] 1 true) 30 1 (fun _ => zI)).1 ∧ (∃ (lw1 hg1 : Nat → Int64) (un1 ov1 : Nat → Int32), f1 (g.lk M 17) = .inl (g.ac (g.lk M 17), 10, .inr (.inl lw1)) ∧ f1 (g.lk M 18) = .inl (g.ac (g.lk M 18), 10, .inr (.inl hg1)) ∧ f1 (g.lk M 19) = .inl (g.ac (g.lk M 19), 10, .inl un1) ∧ f1 (g.lk M 20) = .inl (g.ac (g.lk M 20), 10, .inl ov1) ∧ VR lw1 hg1 un1 ov1 ((rds (oy_r (tk hT mn) (vc hT mn) mn 400 0 [] [] 1 true) 30 1 (fun _ => zI)).2)) ∧ f1 M = .inr (10, [.int (nI 0), .ref (g.lk M 1), .int (nI 0), .ref (g.lk M 3), .ref (g.lk M 4), .int (nI n1), .ref (g.lk M 6), .ref (g.lk M 7), .ref (g.lk M 8), .int (nI n1), .int (nI ix1), .int (nI dp1), .ref (g.lk M 12), .int (nI wt1), .ref (g.lk M 14), .ref (g.lk M 15), .int (nI 0), .ref (g.lk M 17), .ref (g.lk M 18), .ref (g.lk M 19), .ref (g.lk M 20), .ref (g.lk M 21), .ref (g.lk M 22), .ref (g.lk M 23), .ref (g.lk M 24), .ref (g.lk M 25), .ref (g.lk M 26), .ref (g.lk M 27), .ref (g.lk M 28), .ref (g.lk M 29), .ref (g.lk M 30), .ref (g.lk M 31), .int (nI tp1), .ref (g.lk M 33), .ref (g.lk M 34), .ref (g.lk M 35), .int (nI mwa), .int (nI 0), .int (nI 0), .int (nI 1), .int (nI 0), .int (nI 0), .int (nI 0), .int (nI 0), .int (nI 0)]) ∧ f1 (g.lk M 6) = .inl (g.ac (g.lk M 6), 100, .inl c1) ∧ f1 (g.lk M 7) = .inl (g.ac (g.lk M 7), 100, .inl a1)) ∨ (py_r (tk hT mn) mn 400 0 [] 1 true = false ∧ (∃ (fb ix1 op1 dp1 dr1 wt1 : Nat), ix1 ≤ 90 ∧ dp1 ≤ 13 ∧ dr1 ≤ 90 ∧ wt1 ≤ 72 ∧ op1 ≤ 30 ∧ fb ≤ 1 ∧ f1 M = .inr (10, [.int (nI 1), .ref (g.lk M 1), .int (nI mn), .ref (g.lk M 3), .ref (g.lk M 4), .int (nI dr1), .ref (g.lk M 6), .ref (g.lk M 7), .ref (g.lk M 8), .int (nI msz), .int (nI ix1), .int (nI dp1), .ref (g.lk M 12), .int (nI wt1), .ref (g.lk M 14), .ref (g.lk M 15), .int (nI op1), .ref (g.lk M 17), .ref (g.lk M 18), .ref (g.lk M 19), .ref (g.lk M 20), .ref (g.lk M 21), .ref (g.lk M 22), .ref (g.lk M 23), .ref (g.lk M 24), .ref (g.lk M 25), .ref (g.lk M 26), .ref (g.lk M 27), .ref (g.lk M 28), .ref (g.lk M 29), .ref (g.lk M 30), .ref (g.lk M 31), .int (nI mtp), .ref (g.lk M 33), .ref (g.lk M 34), .ref (g.lk M 35), .int (nI mwa), .int (nI mgi), .int (nI mpc), .int (nI mst), .int (nI mtr), .int (nI msp), .int mma, .int mlg, .int (nI fb)])) ∧ f1 (g.lk M 6) = .inl (g.ac (g.lk M 6), 100, .inl hC) ∧ f1 (g.lk M 7) = .inl (g.ac (g.lk M 7), 100, .inl hA))) ∧ (IV g f1) ∧ (un [11, 41, 42, 43, 44, 45, 46, 47, 48, 49, 50, 51, 52, 53, 54, 55, 56, 57, 58, 59] g f f1)) (pc_out g s.heap.size) (pc_A g s.heap.size)) args s 0 0 (pc_A g s.heap.size)) (F0 m 80 ls []) := by
                intro k69
                induction k69 with
                | zero => intros; exfalso; omega
                | succ k69 ih70 =>
                  intro j f68 H locs ls hfu71 hj hI72 hv73 hl hP hD hS
                  have eT := hv73.at (lo_k11_1 hL _ t_M) (by decide) eT
                  have e25 := hv73.at (lo_k11_3 hL _ t_M) (by decide) e25
                  have e26 := hv73.at (lo_k11_4 hL _ t_M) (by decide) e26
                  have e53 := hv73.at (lo_k11_6 hL _ t_M) (by decide) e53
                  have e54 := hv73.at (lo_k11_7 hL _ t_M) (by decide) e54
                  have e63 := hv73.at t_M (by decide) e63
                  have hu := hu.tr hv73 (by decide)
                  refine lv_iload_n hx hb d_M_load_80 rfl (lv_at hl 0 rfl) ?_
                  refine lv_sipush (v := nI 200) hx hb d_M_load_81 (by decide) ?_
                  refine lv_icmp_ge (tgt := 110) hx hb d_M_load_84 (by decide) (fun b74 => ?_) (fun b74 => ?_)
                  · skip
                    replace b74 := (nI_leI (a := 200) (b := j) (by omega) (by omega)).mp b74
                    refine lv_aload_n hx hb d_M_load_110 rfl (lv_at hl 1 rfl) ?_
                    refine lv_iconst (v := nI 0) hx hb d_M_load_111 (by decide) ?_
                    refine pf_put (v := .int (nI 0)) (ty := .int) (fs' := [.int (nI 0), .ref (g.lk M 1), .int (nI 0), .ref (g.lk M 3), .ref (g.lk M 4), .int (nI n_9), .ref (g.lk M 6), .ref (g.lk M 7), .ref (g.lk M 8), .int (nI n_9), .int (nI ix_7), .int (nI dp_8), .ref (g.lk M 12), .int (nI wt_10), .ref (g.lk M 14), .ref (g.lk M 15), .int (nI 0), .ref (g.lk M 17), .ref (g.lk M 18), .ref (g.lk M 19), .ref (g.lk M 20), .ref (g.lk M 21), .ref (g.lk M 22), .ref (g.lk M 23), .ref (g.lk M 24), .ref (g.lk M 25), .ref (g.lk M 26), .ref (g.lk M 27), .ref (g.lk M 28), .ref (g.lk M 29), .ref (g.lk M 30), .ref (g.lk M 31), .int (nI mtp), .ref (g.lk M 33), .ref (g.lk M 34), .ref (g.lk M 35), .int (nI mwa), .int (nI 0), .int (nI mpc), .int (nI mst), .int (nI mtr), .int (nI msp), .int mma, .int mlg, .int (nI 0)]) (C := "BigRunnerModel") (T := FT10) (N := 45) hx hb (hw10 hB _) (fun _ h9 => h9) TY10 ok10 nm10 hown hK hP hD hS (lo_in hL t_M (by decide)) e63 rfl 37 (by decide) (wd_984 hB _) rfl (by decide +kernel) rfl rfl (Nat.le_of_ble_eq_true rfl) rfl d_M_load_112 (fun f75 H locs e76 k77 hP hD hS => ?_)
                    have eT := (k77 (g.lk M 1) (tg_ne (lo_k11_1 hL _ t_M) t_M (by decide))).trans eT
                    have e25 := (k77 (g.lk M 3) (tg_ne (lo_k11_3 hL _ t_M) t_M (by decide))).trans e25
                    have e26 := (k77 (g.lk M 4) (tg_ne (lo_k11_4 hL _ t_M) t_M (by decide))).trans e26
                    have e53 := (k77 (g.lk M 6) (tg_ne (lo_k11_6 hL _ t_M) t_M (by decide))).trans e53
                    have e54 := (k77 (g.lk M 7) (tg_ne (lo_k11_7 hL _ t_M) t_M (by decide))).trans e54
                    have hu := hu.st k77 t_M (by decide)
                    have hk78 : ∀ b, b ≠ M → f75 b = f68 b := k77
                    refine lv_aload_n hx hb d_M_load_115 rfl (lv_at hl 1 rfl) ?_
                    refine lv_iconst (v := nI 0) hx hb d_M_load_116 (by decide) ?_
                    refine pf_put (v := .int (nI 0)) (ty := .int) (fs' := [.int (nI 0), .ref (g.lk M 1), .int (nI 0), .ref (g.lk M 3), .ref (g.lk M 4), .int (nI n_9), .ref (g.lk M 6), .ref (g.lk M 7), .ref (g.lk M 8), .int (nI n_9), .int (nI ix_7), .int (nI dp_8), .ref (g.lk M 12), .int (nI wt_10), .ref (g.lk M 14), .ref (g.lk M 15), .int (nI 0), .ref (g.lk M 17), .ref (g.lk M 18), .ref (g.lk M 19), .ref (g.lk M 20), .ref (g.lk M 21), .ref (g.lk M 22), .ref (g.lk M 23), .ref (g.lk M 24), .ref (g.lk M 25), .ref (g.lk M 26), .ref (g.lk M 27), .ref (g.lk M 28), .ref (g.lk M 29), .ref (g.lk M 30), .ref (g.lk M 31), .int (nI mtp), .ref (g.lk M 33), .ref (g.lk M 34), .ref (g.lk M 35), .int (nI mwa), .int (nI 0), .int (nI 0), .int (nI mst), .int (nI mtr), .int (nI msp), .int mma, .int mlg, .int (nI 0)]) (C := "BigRunnerModel") (T := FT10) (N := 45) hx hb (hw10 hB _) (fun _ h9 => h9) TY10 ok10 nm10 hown hK hP hD hS (lo_in hL t_M (by decide)) e76 rfl 38 (by decide) (wd_985 hB _) rfl (by decide +kernel) rfl rfl (Nat.le_of_ble_eq_true rfl) rfl d_M_load_117 (fun f79 H locs e80 k81 hP hD hS => ?_)
                    have eT := (k81 (g.lk M 1) (tg_ne (lo_k11_1 hL _ t_M) t_M (by decide))).trans eT
                    have e25 := (k81 (g.lk M 3) (tg_ne (lo_k11_3 hL _ t_M) t_M (by decide))).trans e25
                    have e26 := (k81 (g.lk M 4) (tg_ne (lo_k11_4 hL _ t_M) t_M (by decide))).trans e26
                    have e53 := (k81 (g.lk M 6) (tg_ne (lo_k11_6 hL _ t_M) t_M (by decide))).trans e53
                    have e54 := (k81 (g.lk M 7) (tg_ne (lo_k11_7 hL _ t_M) t_M (by decide))).trans e54
                    have hu := hu.st k81 t_M (by decide)
                    have hk82 : ∀ b, b ≠ M → f79 b = f68 b := fun b q0 => (k81 b q0).trans (hk78 b q0)
                    refine lv_aload_n hx hb d_M_load_120 rfl (lv_at hl 1 rfl) ?_
                    refine lv_iconst (v := nI 1) hx hb d_M_load_121 (by decide) ?_
                    refine pf_put (v := .int (nI 1)) (ty := .int) (fs' := [.int (nI 0), .ref (g.lk M 1), .int (nI 0), .ref (g.lk M 3), .ref (g.lk M 4), .int (nI n_9), .ref (g.lk M 6), .ref (g.lk M 7), .ref (g.lk M 8), .int (nI n_9), .int (nI ix_7), .int (nI dp_8), .ref (g.lk M 12), .int (nI wt_10), .ref (g.lk M 14), .ref (g.lk M 15), .int (nI 0), .ref (g.lk M 17), .ref (g.lk M 18), .ref (g.lk M 19), .ref (g.lk M 20), .ref (g.lk M 21), .ref (g.lk M 22), .ref (g.lk M 23), .ref (g.lk M 24), .ref (g.lk M 25), .ref (g.lk M 26), .ref (g.lk M 27), .ref (g.lk M 28), .ref (g.lk M 29), .ref (g.lk M 30), .ref (g.lk M 31), .int (nI mtp), .ref (g.lk M 33), .ref (g.lk M 34), .ref (g.lk M 35), .int (nI mwa), .int (nI 0), .int (nI 0), .int (nI 1), .int (nI mtr), .int (nI msp), .int mma, .int mlg, .int (nI 0)]) (C := "BigRunnerModel") (T := FT10) (N := 45) hx hb (hw10 hB _) (fun _ h9 => h9) TY10 ok10 nm10 hown hK hP hD hS (lo_in hL t_M (by decide)) e80 rfl 39 (by decide) (wd_986 hB _) rfl (by decide +kernel) rfl rfl (Nat.le_of_ble_eq_true rfl) rfl d_M_load_122 (fun f83 H locs e84 k85 hP hD hS => ?_)
                    have eT := (k85 (g.lk M 1) (tg_ne (lo_k11_1 hL _ t_M) t_M (by decide))).trans eT
                    have e25 := (k85 (g.lk M 3) (tg_ne (lo_k11_3 hL _ t_M) t_M (by decide))).trans e25
                    have e26 := (k85 (g.lk M 4) (tg_ne (lo_k11_4 hL _ t_M) t_M (by decide))).trans e26
                    have e53 := (k85 (g.lk M 6) (tg_ne (lo_k11_6 hL _ t_M) t_M (by decide))).trans e53
                    have e54 := (k85 (g.lk M 7) (tg_ne (lo_k11_7 hL _ t_M) t_M (by decide))).trans e54
                    have hu := hu.st k85 t_M (by decide)
                    have hk86 : ∀ b, b ≠ M → f83 b = f68 b := fun b q0 => (k85 b q0).trans (hk82 b q0)
                    refine lv_aload_n hx hb d_M_load_125 rfl (lv_at hl 1 rfl) ?_
                    refine lv_iconst (v := nI 0) hx hb d_M_load_126 (by decide) ?_
                    refine pf_put (v := .int (nI 0)) (ty := .int) (fs' := [.int (nI 0), .ref (g.lk M 1), .int (nI 0), .ref (g.lk M 3), .ref (g.lk M 4), .int (nI n_9), .ref (g.lk M 6), .ref (g.lk M 7), .ref (g.lk M 8), .int (nI n_9), .int (nI ix_7), .int (nI dp_8), .ref (g.lk M 12), .int (nI wt_10), .ref (g.lk M 14), .ref (g.lk M 15), .int (nI 0), .ref (g.lk M 17), .ref (g.lk M 18), .ref (g.lk M 19), .ref (g.lk M 20), .ref (g.lk M 21), .ref (g.lk M 22), .ref (g.lk M 23), .ref (g.lk M 24), .ref (g.lk M 25), .ref (g.lk M 26), .ref (g.lk M 27), .ref (g.lk M 28), .ref (g.lk M 29), .ref (g.lk M 30), .ref (g.lk M 31), .int (nI mtp), .ref (g.lk M 33), .ref (g.lk M 34), .ref (g.lk M 35), .int (nI mwa), .int (nI 0), .int (nI 0), .int (nI 1), .int (nI 0), .int (nI msp), .int mma, .int mlg, .int (nI 0)]) (C := "BigRunnerModel") (T := FT10) (N := 45) hx hb (hw10 hB _) (fun _ h9 => h9) TY10 ok10 nm10 hown hK hP hD hS (lo_in hL t_M (by decide)) e84 rfl 40 (by decide) (wd_987 hB _) rfl (by decide +kernel) rfl rfl (Nat.le_of_ble_eq_true rfl) rfl d_M_load_127 (fun f87 H locs e88 k89 hP hD hS => ?_)
                    have eT := (k89 (g.lk M 1) (tg_ne (lo_k11_1 hL _ t_M) t_M (by decide))).trans eT
                    have e25 := (k89 (g.lk M 3) (tg_ne (lo_k11_3 hL _ t_M) t_M (by decide))).trans e25
                    have e26 := (k89 (g.lk M 4) (tg_ne (lo_k11_4 hL _ t_M) t_M (by decide))).trans e26
                    have e53 := (k89 (g.lk M 6) (tg_ne (lo_k11_6 hL _ t_M) t_M (by decide))).trans e53
                    have e54 := (k89 (g.lk M 7) (tg_ne (lo_k11_7 hL _ t_M) t_M (by decide))).trans e54
                    have hu := hu.st k89 t_M (by decide)
                    have hk90 : ∀ b, b ≠ M → f87 b = f68 b := fun b q0 => (k89 b q0).trans (hk86 b q0)
                    refine lv_aload_n hx hb d_M_load_130 rfl (lv_at hl 1 rfl) ?_
                    refine lv_iconst (v := nI 0) hx hb d_M_load_131 (by decide) ?_
                    refine pf_put (v := .int (nI 0)) (ty := .int) (fs' := [.int (nI 0), .ref (g.lk M 1), .int (nI 0), .ref (g.lk M 3), .ref (g.lk M 4), .int (nI n_9), .ref (g.lk M 6), .ref (g.lk M 7), .ref (g.lk M 8), .int (nI n_9), .int (nI ix_7), .int (nI dp_8), .ref (g.lk M 12), .int (nI wt_10), .ref (g.lk M 14), .ref (g.lk M 15), .int (nI 0), .ref (g.lk M 17), .ref (g.lk M 18), .ref (g.lk M 19), .ref (g.lk M 20), .ref (g.lk M 21), .ref (g.lk M 22), .ref (g.lk M 23), .ref (g.lk M 24), .ref (g.lk M 25), .ref (g.lk M 26), .ref (g.lk M 27), .ref (g.lk M 28), .ref (g.lk M 29), .ref (g.lk M 30), .ref (g.lk M 31), .int (nI mtp), .ref (g.lk M 33), .ref (g.lk M 34), .ref (g.lk M 35), .int (nI mwa), .int (nI 0), .int (nI 0), .int (nI 1), .int (nI 0), .int (nI 0), .int mma, .int mlg, .int (nI 0)]) (C := "BigRunnerModel") (T := FT10) (N := 45) hx hb (hw10 hB _) (fun _ h9 => h9) TY10 ok10 nm10 hown hK hP hD hS (lo_in hL t_M (by decide)) e88 rfl 41 (by decide) (wd_988 hB _) rfl (by decide +kernel) rfl rfl (Nat.le_of_ble_eq_true rfl) rfl d_M_load_132 (fun f91 H locs e92 k93 hP hD hS => ?_)
                    have eT := (k93 (g.lk M 1) (tg_ne (lo_k11_1 hL _ t_M) t_M (by decide))).trans eT
                    have e25 := (k93 (g.lk M 3) (tg_ne (lo_k11_3 hL _ t_M) t_M (by decide))).trans e25
                    have e26 := (k93 (g.lk M 4) (tg_ne (lo_k11_4 hL _ t_M) t_M (by decide))).trans e26
                    have e53 := (k93 (g.lk M 6) (tg_ne (lo_k11_6 hL _ t_M) t_M (by decide))).trans e53
                    have e54 := (k93 (g.lk M 7) (tg_ne (lo_k11_7 hL _ t_M) t_M (by decide))).trans e54
                    have hu := hu.st k93 t_M (by decide)
                    have hk94 : ∀ b, b ≠ M → f91 b = f68 b := fun b q0 => (k93 b q0).trans (hk90 b q0)
                    refine lv_aload_n hx hb d_M_load_135 rfl (lv_at hl 1 rfl) ?_
                    refine lv_iconst (v := nI 0) hx hb d_M_load_136 (by decide) ?_
                    refine pf_put (v := .int (nI 0)) (ty := .int) (fs' := [.int (nI 0), .ref (g.lk M 1), .int (nI 0), .ref (g.lk M 3), .ref (g.lk M 4), .int (nI n_9), .ref (g.lk M 6), .ref (g.lk M 7), .ref (g.lk M 8), .int (nI n_9), .int (nI ix_7), .int (nI dp_8), .ref (g.lk M 12), .int (nI wt_10), .ref (g.lk M 14), .ref (g.lk M 15), .int (nI 0), .ref (g.lk M 17), .ref (g.lk M 18), .ref (g.lk M 19), .ref (g.lk M 20), .ref (g.lk M 21), .ref (g.lk M 22), .ref (g.lk M 23), .ref (g.lk M 24), .ref (g.lk M 25), .ref (g.lk M 26), .ref (g.lk M 27), .ref (g.lk M 28), .ref (g.lk M 29), .ref (g.lk M 30), .ref (g.lk M 31), .int (nI mtp), .ref (g.lk M 33), .ref (g.lk M 34), .ref (g.lk M 35), .int (nI mwa), .int (nI 0), .int (nI 0), .int (nI 1), .int (nI 0), .int (nI 0), .int (nI 0), .int mlg, .int (nI 0)]) (C := "BigRunnerModel") (T := FT10) (N := 45) hx hb (hw10 hB _) (fun _ h9 => h9) TY10 ok10 nm10 hown hK hP hD hS (lo_in hL t_M (by decide)) e92 rfl 42 (by decide) (wd_989 hB _) rfl (by decide +kernel) rfl rfl (Nat.le_of_ble_eq_true rfl) rfl d_M_load_137 (fun f95 H locs e96 k97 hP hD hS => ?_)
                    have eT := (k97 (g.lk M 1) (tg_ne (lo_k11_1 hL _ t_M) t_M (by decide))).trans eT
                    have e25 := (k97 (g.lk M 3) (tg_ne (lo_k11_3 hL _ t_M) t_M (by decide))).trans e25
                    have e26 := (k97 (g.lk M 4) (tg_ne (lo_k11_4 hL _ t_M) t_M (by decide))).trans e26
                    have e53 := (k97 (g.lk M 6) (tg_ne (lo_k11_6 hL _ t_M) t_M (by decide))).trans e53
                    have e54 := (k97 (g.lk M 7) (tg_ne (lo_k11_7 hL _ t_M) t_M (by decide))).trans e54
                    have hu := hu.st k97 t_M (by decide)
                    have hk98 : ∀ b, b ≠ M → f95 b = f68 b := fun b q0 => (k97 b q0).trans (hk94 b q0)
                    refine lv_aload_n hx hb d_M_load_140 rfl (lv_at hl 1 rfl) ?_
                    refine lv_iconst (v := nI 0) hx hb d_M_load_141 (by decide) ?_
                    refine pf_put (v := .int (nI 0)) (ty := .int) (fs' := [.int (nI 0), .ref (g.lk M 1), .int (nI 0), .ref (g.lk M 3), .ref (g.lk M 4), .int (nI n_9), .ref (g.lk M 6), .ref (g.lk M 7), .ref (g.lk M 8), .int (nI n_9), .int (nI ix_7), .int (nI dp_8), .ref (g.lk M 12), .int (nI wt_10), .ref (g.lk M 14), .ref (g.lk M 15), .int (nI 0), .ref (g.lk M 17), .ref (g.lk M 18), .ref (g.lk M 19), .ref (g.lk M 20), .ref (g.lk M 21), .ref (g.lk M 22), .ref (g.lk M 23), .ref (g.lk M 24), .ref (g.lk M 25), .ref (g.lk M 26), .ref (g.lk M 27), .ref (g.lk M 28), .ref (g.lk M 29), .ref (g.lk M 30), .ref (g.lk M 31), .int (nI mtp), .ref (g.lk M 33), .ref (g.lk M 34), .ref (g.lk M 35), .int (nI mwa), .int (nI 0), .int (nI 0), .int (nI 1), .int (nI 0), .int (nI 0), .int (nI 0), .int (nI 0), .int (nI 0)]) (C := "BigRunnerModel") (T := FT10) (N := 45) hx hb (hw10 hB _) (fun _ h9 => h9) TY10 ok10 nm10 hown hK hP hD hS (lo_in hL t_M (by decide)) e96 rfl 43 (by decide) (wd_990 hB _) rfl (by decide +kernel) rfl rfl (Nat.le_of_ble_eq_true rfl) rfl d_M_load_142 (fun f99 H locs e100 k101 hP hD hS => ?_)
                    have eT := (k101 (g.lk M 1) (tg_ne (lo_k11_1 hL _ t_M) t_M (by decide))).trans eT
                    have e25 := (k101 (g.lk M 3) (tg_ne (lo_k11_3 hL _ t_M) t_M (by decide))).trans e25
                    have e26 := (k101 (g.lk M 4) (tg_ne (lo_k11_4 hL _ t_M) t_M (by decide))).trans e26
                    have e53 := (k101 (g.lk M 6) (tg_ne (lo_k11_6 hL _ t_M) t_M (by decide))).trans e53
                    have e54 := (k101 (g.lk M 7) (tg_ne (lo_k11_7 hL _ t_M) t_M (by decide))).trans e54
                    have hu := hu.st k101 t_M (by decide)
                    have hk102 : ∀ b, b ≠ M → f99 b = f68 b := fun b q0 => (k101 b q0).trans (hk98 b q0)
                    refine lv_aload_n hx hb d_M_load_145 rfl (lv_at hl 1 rfl) ?_
                    have hI103 := iv_1 hI72 hL t_M (by decide) hk102 (oc_11.mk t_M (⟨((nI 0)), 0, n_9, n_9, ix_7, dp_8, wt_10, 0, mtp, mwa, 0, 0, 1, 0, 0, ((nI 0)), ((nI 0)), ((nI 0)), e100, (by omega), (by omega), (by omega), (by omega), (by omega), (by omega), (by omega), (by omega), (by omega), (by omega), (by omega), (by omega), (by omega), (by omega), (Or.inl rfl)⟩))
                    refine pcc_i (va_runV (C := "BigRunnerModel") (As := []) (rest := []) ⟨hx, hb, hml, hown, tb_nil⟩ (m2_settle l g H.size f99 M ((nI 0)) 0 n_9 n_9 ix_7 dp_8 wt_10 0 mtp mwa 0 0 1 0 0 ((nI 0)) ((nI 0)) ((nI 0)) c8 a8 ((dpc d_11)) ((oy_r (tk hT mn) (vc hT mn) mn 400 0 [] [] 1 true)) hL t_M hI103 e100 ⟨(by omega), (by omega), (by omega), (by omega), (by omega), (by omega), (by omega), (by omega), (by omega), (by omega), (by omega), (by omega), (by omega), (by omega), (Or.inl rfl)⟩ e53 e54 hwf hDSc c21.symm (hLBx c13) hE8c) ⟨(callB_of 0 (tb_one (wd_1148 hB _)) tb_good1 rfl rfl rfl (wd_82 hB _) (wd_1145 hB _) (by decide +kernel) ⟨Nat.le_of_ble_eq_true rfl, Nat.le_of_ble_eq_true rfl⟩), (wd_1147 hB _), (wd_50 hB _)⟩ ⟨pe_bl, pg_recv (ci := 10) hK hP (lo_in hL t_M (by decide)) e100 rfl, pe_pre hB hK hP hD⟩ rfl rfl hl.1 rfl (lv_room (Nat.le_of_ble_eq_true rfl)) d_M_load_146 ⟨Nat.le_of_ble_eq_true rfl, Nat.le_of_ble_eq_true rfl⟩) hS (fun r104 f105 H locs hq106 hP hD hS => ?_)
                    obtain ⟨qv_107, x1_108, vr_109, hI1_110, hu1_111⟩ := hq106
                    subst qv_107
                    have hu := hu.tr hu1_111 (by decide)
                    have eT := hu1_111.at (lo_k11_1 hL _ t_M) (by decide) eT
                    have e25 := hu1_111.at (lo_k11_3 hL _ t_M) (by decide) e25
                    have e26 := hu1_111.at (lo_k11_4 hL _ t_M) (by decide) e26
                    have e53 := hu1_111.at (lo_k11_6 hL _ t_M) (by decide) e53
                    have e54 := hu1_111.at (lo_k11_7 hL _ t_M) (by decide) e54
                    obtain ⟨tp1_113, c114, e112⟩ := x1_108
                    exact pe_iret hx hb hr hlocks hK hP hD hS d_M_load_149 ⟨(Or.inl ⟨ix_7, dp_8, n_9, wt_10, tp1_113, c8, a8, _, c13, by omega, by omega, by omega, by omega, by omega, hwf, hri, rfl, vr_109, e112, e53, e54⟩), hI1_110, hu⟩
                  · skip
                    replace b74 := mt (nI_leI (a := 200) (b := j) (by omega) (by omega)).mpr b74
                    refine lv_aload_n hx hb d_M_load_87 rfl (lv_at hl 1 rfl) ?_
                    refine pf_get (v := .ref (g.lk M 26)) (C := "BigRunnerModel") (T := FT10) (N := 45) hx hb (hw10 hB _) (fun _ h9 => h9) hown hK hP (lo_in hL t_M (by decide)) e63 rfl 26 (by decide) (wd_973 hB _) rfl d_M_load_88 ?_
                    refine lv_iload_n hx hb d_M_load_91 rfl (lv_at hl 0 rfl) ?_
                    refine lv_iconst (v := nI 0) hx hb d_M_load_92 (by decide) ?_
                    obtain ⟨h_116, e115⟩ := oc_58.of (lo_k11_26 hL _ t_M) (hI72.1 (g.lk M 26))
                    refine pf_iast (i := j) hx hb hK hP hD hS (lo_in hL (lo_k11_26 hL _ t_M) (by decide)) e115 (lo_t58 hL _ (lo_k11_26 hL _ t_M)) (by omega) (by decide) d_M_load_93 (fun f118 H locs e119 k120 hP hD hS => ?_)
                    have eT := (k120 (g.lk M 1) (tg_ne (lo_k11_1 hL _ t_M) (lo_k11_26 hL _ t_M) (by decide))).trans eT
                    have e25 := (k120 (g.lk M 3) (tg_ne (lo_k11_3 hL _ t_M) (lo_k11_26 hL _ t_M) (by decide))).trans e25
                    have e26 := (k120 (g.lk M 4) (tg_ne (lo_k11_4 hL _ t_M) (lo_k11_26 hL _ t_M) (by decide))).trans e26
                    have e53 := (k120 (g.lk M 6) (tg_ne (lo_k11_6 hL _ t_M) (lo_k11_26 hL _ t_M) (by decide))).trans e53
                    have e54 := (k120 (g.lk M 7) (tg_ne (lo_k11_7 hL _ t_M) (lo_k11_26 hL _ t_M) (by decide))).trans e54
                    have e63 := (k120 M (tg_ne t_M (lo_k11_26 hL _ t_M) (by decide))).trans e63
                    have hu := hu.st k120 (lo_k11_26 hL _ t_M) (by decide)
                    have hv73 := hv73.st k120 (lo_k11_26 hL _ t_M) (by decide)
                    have hk121 : ∀ b, b ≠ (g.lk M 26) → f118 b = f68 b := k120
                    refine lv_aload_n hx hb d_M_load_94 rfl (lv_at hl 1 rfl) ?_
                    refine pf_get (v := .ref (g.lk M 27)) (C := "BigRunnerModel") (T := FT10) (N := 45) hx hb (hw10 hB _) (fun _ h9 => h9) hown hK hP (lo_in hL t_M (by decide)) e63 rfl 27 (by decide) (wd_974 hB _) rfl d_M_load_95 ?_
                    refine lv_iload_n hx hb d_M_load_98 rfl (lv_at hl 0 rfl) ?_
                    refine lv_bipush (v := nI 20) hx hb d_M_load_99 (by decide) ?_
                    refine pf_idivN (x := j) (y := 20) hx hb (by omega) (by omega) (by omega) d_M_load_101 ?_
                    refine lv_iconst (v := nI 0) hx hb d_M_load_102 (by decide) ?_
                    have hI122 := iv_1 hI72 hL (lo_k11_26 hL _ t_M) (by decide) hk121 (oc_58.mk (lo_k11_26 hL _ t_M) (⟨_, e119⟩))
                    obtain ⟨h_124, e123⟩ := oc_59.of (lo_k11_27 hL _ t_M) (hI122.1 (g.lk M 27))
                    refine pf_iast (i := j / 20) hx hb hK hP hD hS (lo_in hL (lo_k11_27 hL _ t_M) (by decide)) e123 (lo_t59 hL _ (lo_k11_27 hL _ t_M)) (by omega) (by decide) d_M_load_103 (fun f126 H locs e127 k128 hP hD hS => ?_)
                    have eT := (k128 (g.lk M 1) (tg_ne (lo_k11_1 hL _ t_M) (lo_k11_27 hL _ t_M) (by decide))).trans eT
                    have e25 := (k128 (g.lk M 3) (tg_ne (lo_k11_3 hL _ t_M) (lo_k11_27 hL _ t_M) (by decide))).trans e25
                    have e26 := (k128 (g.lk M 4) (tg_ne (lo_k11_4 hL _ t_M) (lo_k11_27 hL _ t_M) (by decide))).trans e26
                    have e53 := (k128 (g.lk M 6) (tg_ne (lo_k11_6 hL _ t_M) (lo_k11_27 hL _ t_M) (by decide))).trans e53
                    have e54 := (k128 (g.lk M 7) (tg_ne (lo_k11_7 hL _ t_M) (lo_k11_27 hL _ t_M) (by decide))).trans e54
                    have e63 := (k128 M (tg_ne t_M (lo_k11_27 hL _ t_M) (by decide))).trans e63
                    have e119 := (k128 (g.lk M 26) (tg_ne (lo_k11_26 hL _ t_M) (lo_k11_27 hL _ t_M) (by decide))).trans e119
                    have hu := hu.st k128 (lo_k11_27 hL _ t_M) (by decide)
                    have hv73 := hv73.st k128 (lo_k11_27 hL _ t_M) (by decide)
                    have hk129 : ∀ b, b ≠ (g.lk M 27) → f126 b = f118 b := k128
                    refine lv_iinc (k := 0) (v := nI (j + 1)) (lv' := [(1, .int (nI (j + 1))), (0, .ref M)]) hx hb d_M_load_104 hl rfl (by rw [nI_succ]; rfl) (by decide) rfl (fun ls hl => ?_)
                    refine lv_goto (tgt := 80) hx hb d_M_load_107 (by decide) ?_
                    have hI130 := iv_1 hI122 hL (lo_k11_27 hL _ t_M) (by decide) hk129 (oc_59.mk (lo_k11_27 hL _ t_M) (⟨_, e127⟩))
                    exact ih70 (j + 1) f126 H locs ls (by omega) (by omega) hI130 hv73 hl hP hD hS
              exact lp67 201 0 f62 H locs ls (by omega) (by omega) hI66 un.rf hl hP hD hS
            · skip
              replace b57 := mt (nI_leI (a := n_9) (b := i) (by omega) (by omega)).mpr b57
              refine lv_aload_n hx hb d_M_load_35 rfl (lv_at hl 1 rfl) ?_
              refine pf_get (v := .ref (g.lk M 6)) (C := "BigRunnerModel") (T := FT10) (N := 45) hx hb (hw10 hB _) (fun _ h9 => h9) hown hK hP (lo_in hL t_M (by decide)) e43 rfl 6 (by decide) (wd_953 hB _) rfl d_M_load_36 ?_
              refine lv_iload_n hx hb d_M_load_39 rfl (lv_at hl 0 rfl) ?_
              refine lv_aload_n hx hb d_M_load_40 rfl (lv_at hl 1 rfl) ?_
              refine pf_get (v := .ref (g.lk M 3)) (C := "BigRunnerModel") (T := FT10) (N := 45) hx hb (hw10 hB _) (fun _ h9 => h9) hown hK hP (lo_in hL t_M (by decide)) e43 rfl 3 (by decide) (wd_950 hB _) rfl d_M_load_41 ?_
              refine lv_iload_n hx hb d_M_load_44 rfl (lv_at hl 0 rfl) ?_
              refine pf_iald (i := i) hx hb hK hP (lo_in hL (lo_k11_3 hL _ t_M) (by decide)) e25 (lo_t41 hL _ (lo_k11_3 hL _ t_M)) (by omega) (by decide) d_M_load_45 ?_
              refine pf_iast (i := i) hx hb hK hP hD hS (lo_in hL (lo_k11_6 hL _ t_M) (by decide)) e53 (lo_t43 hL _ (lo_k11_6 hL _ t_M)) (by omega) (by decide) d_M_load_46 (fun f131 H locs e132 k133 hP hD hS => ?_)
              have eT := (k133 (g.lk M 1) (tg_ne (lo_k11_1 hL _ t_M) (lo_k11_6 hL _ t_M) (by decide))).trans eT
              have e25 := (k133 (g.lk M 3) (tg_ne (lo_k11_3 hL _ t_M) (lo_k11_6 hL _ t_M) (by decide))).trans e25
              have e26 := (k133 (g.lk M 4) (tg_ne (lo_k11_4 hL _ t_M) (lo_k11_6 hL _ t_M) (by decide))).trans e26
              have e43 := (k133 M (tg_ne t_M (lo_k11_6 hL _ t_M) (by decide))).trans e43
              have e54 := (k133 (g.lk M 7) (tg_ne (lo_k11_7 hL _ t_M) (lo_k11_6 hL _ t_M) (by decide))).trans e54
              have hu := hu.st k133 (lo_k11_6 hL _ t_M) (by decide)
              have hv56 := hv56.st k133 (lo_k11_6 hL _ t_M) (by decide)
              have hk134 : ∀ b, b ≠ (g.lk M 6) → f131 b = f49 b := k133
              refine lv_aload_n hx hb d_M_load_47 rfl (lv_at hl 1 rfl) ?_
              refine pf_get (v := .ref (g.lk M 7)) (C := "BigRunnerModel") (T := FT10) (N := 45) hx hb (hw10 hB _) (fun _ h9 => h9) hown hK hP (lo_in hL t_M (by decide)) e43 rfl 7 (by decide) (wd_954 hB _) rfl d_M_load_48 ?_
              refine lv_iload_n hx hb d_M_load_51 rfl (lv_at hl 0 rfl) ?_
              refine lv_aload_n hx hb d_M_load_52 rfl (lv_at hl 1 rfl) ?_
              refine pf_get (v := .ref (g.lk M 4)) (C := "BigRunnerModel") (T := FT10) (N := 45) hx hb (hw10 hB _) (fun _ h9 => h9) hown hK hP (lo_in hL t_M (by decide)) e43 rfl 4 (by decide) (wd_951 hB _) rfl d_M_load_53 ?_
              refine lv_iload_n hx hb d_M_load_56 rfl (lv_at hl 0 rfl) ?_
              refine pf_iald (i := i) hx hb hK hP (lo_in hL (lo_k11_4 hL _ t_M) (by decide)) e26 (lo_t42 hL _ (lo_k11_4 hL _ t_M)) (by omega) (by decide) d_M_load_57 ?_
              have hI135 := iv_1 hI55 hL (lo_k11_6 hL _ t_M) (by decide) hk134 (oc_43.mk (lo_k11_6 hL _ t_M) (⟨_, e132⟩))
              refine pf_iast (i := i) hx hb hK hP hD hS (lo_in hL (lo_k11_7 hL _ t_M) (by decide)) e54 (lo_t44 hL _ (lo_k11_7 hL _ t_M)) (by omega) (by decide) d_M_load_58 (fun f136 H locs e137 k138 hP hD hS => ?_)
              have eT := (k138 (g.lk M 1) (tg_ne (lo_k11_1 hL _ t_M) (lo_k11_7 hL _ t_M) (by decide))).trans eT
              have e25 := (k138 (g.lk M 3) (tg_ne (lo_k11_3 hL _ t_M) (lo_k11_7 hL _ t_M) (by decide))).trans e25
              have e26 := (k138 (g.lk M 4) (tg_ne (lo_k11_4 hL _ t_M) (lo_k11_7 hL _ t_M) (by decide))).trans e26
              have e43 := (k138 M (tg_ne t_M (lo_k11_7 hL _ t_M) (by decide))).trans e43
              have e132 := (k138 (g.lk M 6) (tg_ne (lo_k11_6 hL _ t_M) (lo_k11_7 hL _ t_M) (by decide))).trans e132
              have hu := hu.st k138 (lo_k11_7 hL _ t_M) (by decide)
              have hv56 := hv56.st k138 (lo_k11_7 hL _ t_M) (by decide)
              have hk139 : ∀ b, b ≠ (g.lk M 7) → f136 b = f131 b := k138
              refine lv_iinc (k := 0) (v := nI (i + 1)) (lv' := [(1, .int (nI (i + 1))), (0, .ref M)]) hx hb d_M_load_59 hl rfl (by rw [nI_succ]; rfl) (by decide) rfl (fun ls hl => ?_)
              refine lv_goto (tgt := 27) hx hb d_M_load_62 (by decide) ?_
              have hI140 := iv_1 hI135 hL (lo_k11_7 hL _ t_M) (by decide) hk139 (oc_44.mk (lo_k11_7 hL _ t_M) (⟨_, e137⟩))
              exact ih51 (i + 1) (upd c8 i ((d_11 i))) (upd a8 i ((g_12 i))) f136 H locs ls (by omega) (by omega) (smd_s hsc) (smd_s hsa) e132 e137 hI140 hv56 hl hP hD hS
        exact lp48 (n_9 + 1) 0 hC hA f42 H locs ls (by omega) (by omega) (fun i hi => absurd hi (by omega)) (fun i hi => absurd hi (by omega)) eC eA hI47 un.rf hl hP hD hS
      · skip
        replace b46 := mt (nI_leI (a := 0) (b := 0) (by omega) (by omega)).mpr b46
        exfalso; omega
  · skip
    have hbo141 : nI fb_27 = 0 ∨ nI fb_27 = 1 := by rcases (show fb_27 = 0 ∨ fb_27 = 1 by omega) with y | y <;> rw [y] <;> decide
    refine lv_if_eq (tgt := 12) hx hb d_M_load_5 (by decide) (fun b142 => ?_) (fun b142 => ?_)
    · skip
      replace b142 := (nI_eq (a := 0) (b := 0) (by omega) (by omega)).mp b142
      refine lv_iconst (v := nI 1) hx hb d_M_load_12 (by decide) ?_
      refine pf_put (v := .int (nI 1)) (ty := .int) (fs' := [.int (nI 1), .ref (g.lk M 1), .int (nI mn), .ref (g.lk M 3), .ref (g.lk M 4), .int (nI dr_31), .ref (g.lk M 6), .ref (g.lk M 7), .ref (g.lk M 8), .int (nI msz), .int (nI ix_28), .int (nI dp_30), .ref (g.lk M 12), .int (nI wt_32), .ref (g.lk M 14), .ref (g.lk M 15), .int (nI op_29), .ref (g.lk M 17), .ref (g.lk M 18), .ref (g.lk M 19), .ref (g.lk M 20), .ref (g.lk M 21), .ref (g.lk M 22), .ref (g.lk M 23), .ref (g.lk M 24), .ref (g.lk M 25), .ref (g.lk M 26), .ref (g.lk M 27), .ref (g.lk M 28), .ref (g.lk M 29), .ref (g.lk M 30), .ref (g.lk M 31), .int (nI mtp), .ref (g.lk M 33), .ref (g.lk M 34), .ref (g.lk M 35), .int (nI mwa), .int (nI mgi), .int (nI mpc), .int (nI mst), .int (nI mtr), .int (nI msp), .int mma, .int mlg, .int (nI fb_27)]) (C := "BigRunnerModel") (T := FT10) (N := 45) hx hb (hw10 hB _) (fun _ h9 => h9) TY10 ok10 nm10 hown hK hP hD hS (lo_in hL t_M (by decide)) e40 rfl 0 (by decide) (wd_947 hB _) rfl (by decide +kernel) rfl rfl (Nat.le_of_ble_eq_true rfl) rfl d_M_load_13 (fun f143 H locs e144 k145 hP hD hS => ?_)
      have eT := (k145 (g.lk M 1) (tg_ne (lo_k11_1 hL _ t_M) t_M (by decide))).trans eT
      have eC := (k145 (g.lk M 6) (tg_ne (lo_k11_6 hL _ t_M) t_M (by decide))).trans eC
      have eA := (k145 (g.lk M 7) (tg_ne (lo_k11_7 hL _ t_M) t_M (by decide))).trans eA
      have hu := hu.st k145 t_M (by decide)
      have hk146 : ∀ b, b ≠ M → f143 b = f2 b := k145
      refine lv_aload_n hx hb d_M_load_16 rfl (lv_at hl 0 rfl) ?_
      refine pf_get (v := .int (nI 1)) (C := "BigRunnerModel") (T := FT10) (N := 45) hx hb (hw10 hB _) (fun _ h9 => h9) hown hK hP (lo_in hL t_M (by decide)) e144 rfl 0 (by decide) (wd_947 hB _) rfl d_M_load_17 ?_
      refine lv_if_le (tgt := 25) hx hb d_M_load_20 (by decide) (fun b147 => ?_) (fun b147 => ?_)
      · skip
        replace b147 := (nI_leI (a := 1) (b := 0) (by omega) (by omega)).mp b147
        exfalso; omega
      · skip
        replace b147 := mt (nI_leI (a := 1) (b := 0) (by omega) (by omega)).mpr b147
        refine lv_iconst (v := nI 0) hx hb d_M_load_23 (by decide) ?_
        have hI148 := iv_1 hI1_5 hL t_M (by decide) hk146 (oc_11.mk t_M (⟨((nI 1)), mn, dr_31, msz, ix_28, dp_30, wt_32, op_29, mtp, mwa, mgi, mpc, mst, mtr, msp, mma, mlg, ((nI fb_27)), e144, (by omega), (by omega), (by omega), (by omega), (by omega), (by omega), (by omega), (by omega), (by omega), (by omega), (by omega), (by omega), (by omega), (by omega), hbo141⟩))
        exact pe_iret hx hb hr hlocks hK hP hD hS d_M_load_24 ⟨(Or.inr ⟨c33, ⟨fb_27, ix_28, op_29, dp_30, dr_31, wt_32, by omega, by omega, by omega, by omega, by omega, by omega, e144⟩, eC, eA⟩), hI148, hu⟩
    · skip
      replace b142 := mt (nI_eq (a := 0) (b := 0) (by omega) (by omega)).mpr b142
      exfalso; omega
set_option maxHeartbeats 4000000 in
set_option maxRecDepth 100000 in
theorem m2_thrown (l : Launch) (g : Lay) (sz : Nat) (f : Nat → va_E) (M : Nat) (mth : Int32) (mn : Nat) (mdr : Nat) (msz : Nat) (mix : Nat) (mdp : Nat) (mwt : Nat) (mop : Nat) (mtp : Nat) (mwa : Nat) (mgi : Nat) (mpc : Nat) (mst : Nat) (mtr : Nat) (msp : Nat) (mma : Int32) (mlg : Int32) (mdu : Int32) (hL : LO g) (t_M : g.tg M = 11) (hI : OC g f) (eM : f M = .inr (10, [.int mth, .ref (g.lk M 1), .int (nI mn), .ref (g.lk M 3), .ref (g.lk M 4), .int (nI mdr), .ref (g.lk M 6), .ref (g.lk M 7), .ref (g.lk M 8), .int (nI msz), .int (nI mix), .int (nI mdp), .ref (g.lk M 12), .int (nI mwt), .ref (g.lk M 14), .ref (g.lk M 15), .int (nI mop), .ref (g.lk M 17), .ref (g.lk M 18), .ref (g.lk M 19), .ref (g.lk M 20), .ref (g.lk M 21), .ref (g.lk M 22), .ref (g.lk M 23), .ref (g.lk M 24), .ref (g.lk M 25), .ref (g.lk M 26), .ref (g.lk M 27), .ref (g.lk M 28), .ref (g.lk M 29), .ref (g.lk M 30), .ref (g.lk M 31), .int (nI mtp), .ref (g.lk M 33), .ref (g.lk M 34), .ref (g.lk M 35), .int (nI mwa), .int (nI mgi), .int (nI mpc), .int (nI mst), .int (nI mtr), .int (nI msp), .int mma, .int mlg, .int mdu])) (hMB : mn ≤ 72 ∧ mdr ≤ 100 ∧ msz ≤ 100 ∧ mix ≤ 100 ∧ mdp ≤ 20 ∧ mwt ≤ 72 ∧ mop ≤ 40 ∧ mtp ≤ 80 ∧ mwa ≤ 20 ∧ mgi ≤ msp ∧ mpc ≤ 100 ∧ mst ≤ 4 ∧ mtr ≤ 3 ∧ msp ≤ 3000 ∧ (mdu = 0 ∨ mdu = 1)) : Met l ⟨"BigRunnerModel", "thrown", "()I"⟩ [Cond.code ⟨"BigRunnerModel", "thrown", "()I"⟩ prog_12_method_2_code 1 (some .int)] ({ frames := 0, cells := 0, slots := 0, locals := 0 }) (va_Pc [.ref M] (pc_in g sz f)) (va_Qi (fun r f1 => (r = mth) ∧ (f = f1)) (pc_out g sz) (pc_A g sz)) 0 0 (pc_A g sz) := by
  refine pe_ofW (cc := prog_12_method_2_code) (maxL := 1) (ret := (some .int)) (lv := [(0, .ref M)]) (by decide) (Nat.le_of_ble_eq_true rfl) rfl ?_
  intro p e s m args below meth c ls hx hb hr hml hlocks hown hB hP hK hD hsz hS hl
  subst hsz
  obtain ⟨hmb0, hmb1, hmb2, hmb3, hmb4, hmb5, hmb6, hmb7, hmb8, hmb9, hmb10, hmb11, hmb12, hmb13, hmb14⟩ := hMB
  refine lv_aload_n hx hb d_M_thrown_0 rfl (lv_at hl 0 rfl) ?_
  refine pf_get (v := .int mth) (C := "BigRunnerModel") (T := FT10) (N := 45) hx hb (hw10 hB _) (fun _ h9 => h9) hown hK hP (lo_in hL t_M (by decide)) eM rfl 0 (by decide) (wd_947 hB _) rfl d_M_thrown_1 ?_
  exact pe_iret hx hb hr hlocks hK hP hD hS d_M_thrown_4 ⟨rfl, rfl⟩
