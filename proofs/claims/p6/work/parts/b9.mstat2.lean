set_option maxHeartbeats 4000000 in
set_option maxRecDepth 100000 in
theorem m2_statement (l : Launch) (g : Lay) (sz : Nat) (f : Nat → va_E) (M : Nat) (mth : Int32) (mn : Nat) (mdr : Nat) (msz : Nat) (mix : Nat) (mdp : Nat) (mwt : Nat) (mop : Nat) (mtp : Nat) (mwa : Nat) (mgi : Nat) (mpc : Nat) (mst : Nat) (mtr : Nat) (msp : Nat) (mma : Int32) (mlg : Int32) (hT : Nat → Int32) (hQ : Nat → Int32) (hG : Nat → Int32) (hB9 : Nat → Int32) (hK9 : Nat → Int32) (D9 : List (Nat × Nat)) (hL : LO g) (t_M : g.tg M = 11) (hI : IV g f) (eM : f M = .inr (10, [.int mth, .ref (g.lk M 1), .int (nI mn), .ref (g.lk M 3), .ref (g.lk M 4), .int (nI mdr), .ref (g.lk M 6), .ref (g.lk M 7), .ref (g.lk M 8), .int (nI msz), .int (nI mix), .int (nI mdp), .ref (g.lk M 12), .int (nI mwt), .ref (g.lk M 14), .ref (g.lk M 15), .int (nI mop), .ref (g.lk M 17), .ref (g.lk M 18), .ref (g.lk M 19), .ref (g.lk M 20), .ref (g.lk M 21), .ref (g.lk M 22), .ref (g.lk M 23), .ref (g.lk M 24), .ref (g.lk M 25), .ref (g.lk M 26), .ref (g.lk M 27), .ref (g.lk M 28), .ref (g.lk M 29), .ref (g.lk M 30), .ref (g.lk M 31), .int (nI mtp), .ref (g.lk M 33), .ref (g.lk M 34), .ref (g.lk M 35), .int (nI mwa), .int (nI mgi), .int (nI mpc), .int (nI mst), .int (nI mtr), .int (nI msp), .int mma, .int mlg, .int (nI 0)])) (hMB : mn ≤ 72 ∧ mdr ≤ 100 ∧ msz ≤ 100 ∧ mix ≤ 100 ∧ mdp ≤ 20 ∧ mwt ≤ 72 ∧ mop ≤ 40 ∧ mtp ≤ 80 ∧ mwa ≤ 20 ∧ mgi ≤ msp ∧ mpc ≤ 100 ∧ mst ≤ 4 ∧ mtr ≤ 3 ∧ msp ≤ 3000) (eT : f (g.lk M 1) = .inl (g.ac (g.lk M 1), 72, .inl hT)) (cT : ∀ i, i < 72 → vp_nar .char (hT i) = hT i) (eD : f (g.lk M 3) = .inl (g.ac (g.lk M 3), 100, .inl hQ)) (eG : f (g.lk M 4) = .inl (g.ac (g.lk M 4), 100, .inl hG)) (eB : f (g.lk M 14) = .inl (g.ac (g.lk M 14), 40, .inl hB9)) (eK : f (g.lk M 15) = .inl (g.ac (g.lk M 15), 40, .inl hK9)) (hix : mix ≤ mn) (hdm : mdr ≤ mix) (hopd : mop + 1 ≤ mdp) (hdp10 : mdp ≤ 10) (hDI : DI hQ hG hB9 hK9 mdr mop) (hDS : DS hQ hG 0 D9) (hDl : D9.length = mdr) (hE8 : E8 hQ mdr) : Met l ⟨"BigRunnerModel", "statement", "()Z"⟩ [Cond.code ⟨"BigRunnerModel", "statement", "()Z"⟩ prog_12_method_12_code 3 (some .boolean)] ({ frames := 3, cells := 0, slots := 0, locals := 67 }) (va_Pc [.ref M] (pc_in g sz f)) (va_Qi (fun r f1 => ((∃ (fb ix1 op1 dp1 dr1 wt1 : Nat) (d1 g1 b1 k1 : Nat → Int32), (∀ (F : Nat), py_r (tk hT mn) mn (F + 1) mix (kl hK9 mop) mdp true = py_r (tk hT mn) mn F ix1 (kl k1 op1) dp1 (decide (fb = 1))) ∧ fb ≤ 1 ∧ mix < ix1 ∧ ix1 ≤ mn ∧ dr1 ≤ ix1 ∧ op1 + 1 ≤ dp1 ∧ dp1 ≤ 10 ∧ wt1 ≤ 72 ∧ 0 < dr1 ∧ DI d1 g1 b1 k1 dr1 op1 ∧ (∃ D1 : List (Nat × Nat), D1.length = dr1 ∧ DS d1 g1 0 D1 ∧ E8 d1 dr1 ∧ (∀ (F : Nat), oy_r (tk hT mn) (vc hT mn) mn (F + 1) mix D9 (klx hK9 hB9 mop) mdp true = oy_r (tk hT mn) (vc hT mn) mn F ix1 D1 (klx k1 b1 op1) dp1 (decide (fb = 1)))) ∧ f1 M = .inr (10, [.int mth, .ref (g.lk M 1), .int (nI mn), .ref (g.lk M 3), .ref (g.lk M 4), .int (nI dr1), .ref (g.lk M 6), .ref (g.lk M 7), .ref (g.lk M 8), .int (nI msz), .int (nI ix1), .int (nI dp1), .ref (g.lk M 12), .int (nI wt1), .ref (g.lk M 14), .ref (g.lk M 15), .int (nI op1), .ref (g.lk M 17), .ref (g.lk M 18), .ref (g.lk M 19), .ref (g.lk M 20), .ref (g.lk M 21), .ref (g.lk M 22), .ref (g.lk M 23), .ref (g.lk M 24), .ref (g.lk M 25), .ref (g.lk M 26), .ref (g.lk M 27), .ref (g.lk M 28), .ref (g.lk M 29), .ref (g.lk M 30), .ref (g.lk M 31), .int (nI mtp), .ref (g.lk M 33), .ref (g.lk M 34), .ref (g.lk M 35), .int (nI mwa), .int (nI mgi), .int (nI mpc), .int (nI mst), .int (nI mtr), .int (nI msp), .int mma, .int mlg, .int (nI fb)]) ∧ f1 (g.lk M 3) = .inl (g.ac (g.lk M 3), 100, .inl d1) ∧ f1 (g.lk M 4) = .inl (g.ac (g.lk M 4), 100, .inl g1) ∧ f1 (g.lk M 14) = .inl (g.ac (g.lk M 14), 40, .inl b1) ∧ f1 (g.lk M 15) = .inl (g.ac (g.lk M 15), 40, .inl k1) ∧ r = nI 1) ∨ ((∀ (F : Nat), py_r (tk hT mn) mn (F + 1) mix (kl hK9 mop) mdp true = false) ∧ (∃ (fb ix1 op1 dp1 dr1 wt1 : Nat), ix1 ≤ 90 ∧ dp1 ≤ 13 ∧ dr1 ≤ 90 ∧ wt1 ≤ 72 ∧ op1 ≤ 30 ∧ fb ≤ 1 ∧ f1 M = .inr (10, [.int mth, .ref (g.lk M 1), .int (nI mn), .ref (g.lk M 3), .ref (g.lk M 4), .int (nI dr1), .ref (g.lk M 6), .ref (g.lk M 7), .ref (g.lk M 8), .int (nI msz), .int (nI ix1), .int (nI dp1), .ref (g.lk M 12), .int (nI wt1), .ref (g.lk M 14), .ref (g.lk M 15), .int (nI op1), .ref (g.lk M 17), .ref (g.lk M 18), .ref (g.lk M 19), .ref (g.lk M 20), .ref (g.lk M 21), .ref (g.lk M 22), .ref (g.lk M 23), .ref (g.lk M 24), .ref (g.lk M 25), .ref (g.lk M 26), .ref (g.lk M 27), .ref (g.lk M 28), .ref (g.lk M 29), .ref (g.lk M 30), .ref (g.lk M 31), .int (nI mtp), .ref (g.lk M 33), .ref (g.lk M 34), .ref (g.lk M 35), .int (nI mwa), .int (nI mgi), .int (nI mpc), .int (nI mst), .int (nI mtr), .int (nI msp), .int mma, .int mlg, .int (nI fb)])) ∧ r = nI 0)) ∧ (IV g f1) ∧ (un [11, 41, 42, 46, 47, 48] g f f1)) (pc_out g sz) (pc_A g sz)) 0 0 (pc_A g sz) := by
  refine pe_ofW (cc := prog_12_method_12_code) (maxL := 3) (ret := (some .boolean)) (lv := [(0, .ref M)]) (by decide) (Nat.le_of_ble_eq_true rfl) rfl ?_
  intro p e s m args below meth c ls hx hb hr hml hlocks hown hB hP hK hD hsz hS hl
  subst hsz
  have hu : un [11, 41, 42, 46, 47, 48] g f f := un.rf
  obtain ⟨hmb0, hmb1, hmb2, hmb3, hmb4, hmb5, hmb6, hmb7, hmb8, hmb9, hmb10, hmb11, hmb12, hmb13⟩ := hMB
  refine lv_aload_n hx hb d_M_statement_0 rfl (lv_at hl 0 rfl) ?_
  refine pcc_i (va_runV (C := "BigRunnerModel") (As := []) (rest := []) ⟨hx, hb, hml, hown, tb_nil⟩ (m_here l g s.heap.size f M mth mn mdr msz mix mdp mwt mop mtp mwa mgi mpc mst mtr msp mma mlg ((nI 0)) hT hL t_M hI.1 eM ⟨(by omega), (by omega), (by omega), (by omega), (by omega), (by omega), (by omega), (by omega), (by omega), (by omega), (by omega), (by omega), (by omega), (by omega), (Or.inl rfl)⟩ eT cT) ⟨(callB_of 0 (tb_one (wd_1111 hB _)) tb_good1 rfl rfl rfl (wd_82 hB _) (wd_1108 hB _) (by decide +kernel) ⟨Nat.le_of_ble_eq_true rfl, Nat.le_of_ble_eq_true rfl⟩), (wd_1110 hB _), (wd_43 hB _)⟩ ⟨pe_bl, pg_recv (ci := 10) hK hP (lo_in hL t_M (by decide)) eM rfl, pe_pre hB hK hP hD⟩ rfl rfl hl.1 rfl (lv_room (Nat.le_of_ble_eq_true rfl)) d_M_statement_1 ⟨Nat.le_of_ble_eq_true rfl, Nat.le_of_ble_eq_true rfl⟩) hS (fun r1 f2 H locs hq3 hP hD hS => ?_)
  obtain ⟨nx_4, rfl⟩ := hq3
  subst nx_4
  refine lv_istore_n (lv' := [(1, .int (nxm hT mn mix)), (0, .ref M)]) hx hb d_M_statement_4 rfl hl (by decide) rfl (fun ls hl => ?_)
  refine lv_aload_n hx hb d_M_statement_5 rfl (lv_at hl 1 rfl) ?_
  refine lv_dup hx hb d_M_statement_6 rfl ?_
  refine pf_get (v := .int (nI mix)) (C := "BigRunnerModel") (T := FT10) (N := 45) hx hb (hw10 hB _) (fun _ h9 => h9) hown hK hP (lo_in hL t_M (by decide)) eM rfl 10 (by decide) (wd_957 hB _) rfl d_M_statement_7 ?_
  refine lv_iconst (v := nI 1) hx hb d_M_statement_10 (by decide) ?_
  refine pf_iaddN (x := mix) (y := 1) hx hb d_M_statement_11 ?_
  refine pf_put (v := .int (nI (mix + 1))) (ty := .int) (fs' := [.int mth, .ref (g.lk M 1), .int (nI mn), .ref (g.lk M 3), .ref (g.lk M 4), .int (nI mdr), .ref (g.lk M 6), .ref (g.lk M 7), .ref (g.lk M 8), .int (nI msz), .int (nI (mix + 1)), .int (nI mdp), .ref (g.lk M 12), .int (nI mwt), .ref (g.lk M 14), .ref (g.lk M 15), .int (nI mop), .ref (g.lk M 17), .ref (g.lk M 18), .ref (g.lk M 19), .ref (g.lk M 20), .ref (g.lk M 21), .ref (g.lk M 22), .ref (g.lk M 23), .ref (g.lk M 24), .ref (g.lk M 25), .ref (g.lk M 26), .ref (g.lk M 27), .ref (g.lk M 28), .ref (g.lk M 29), .ref (g.lk M 30), .ref (g.lk M 31), .int (nI mtp), .ref (g.lk M 33), .ref (g.lk M 34), .ref (g.lk M 35), .int (nI mwa), .int (nI mgi), .int (nI mpc), .int (nI mst), .int (nI mtr), .int (nI msp), .int mma, .int mlg, .int (nI 0)]) (C := "BigRunnerModel") (T := FT10) (N := 45) hx hb (hw10 hB _) (fun _ h9 => h9) TY10 ok10 nm10 hown hK hP hD hS (lo_in hL t_M (by decide)) eM rfl 10 (by decide) (wd_957 hB _) rfl (by decide +kernel) rfl rfl (Nat.le_of_ble_eq_true rfl) rfl d_M_statement_12 (fun f5 H locs e6 k7 hP hD hS => ?_)
  have eT := (k7 (g.lk M 1) (tg_ne (lo_k11_1 hL _ t_M) t_M (by decide))).trans eT
  have eD := (k7 (g.lk M 3) (tg_ne (lo_k11_3 hL _ t_M) t_M (by decide))).trans eD
  have eG := (k7 (g.lk M 4) (tg_ne (lo_k11_4 hL _ t_M) t_M (by decide))).trans eG
  have eB := (k7 (g.lk M 14) (tg_ne (lo_k11_14 hL _ t_M) t_M (by decide))).trans eB
  have eK := (k7 (g.lk M 15) (tg_ne (lo_k11_15 hL _ t_M) t_M (by decide))).trans eK
  have hu := hu.st k7 t_M (by decide)
  have hk8 : ∀ b, b ≠ M → f5 b = f b := k7
  refine lv_iload_n hx hb d_M_statement_15 rfl (lv_at hl 0 rfl) ?_
  refine lv_bipush (v := nI 63) hx hb d_M_statement_16 (by decide) ?_
  refine lv_icmp_ne (tgt := 51) hx hb d_M_statement_18 (by decide) (fun b9 => ?_) (fun b9 => ?_)
  · skip
    have tq8 : tk hT mn mix ≠ 8 := fun z => b9 (kc_8.mp ((tkm hT mn mix).trans z))
    refine lv_iload_n hx hb d_M_statement_51 rfl (lv_at hl 0 rfl) ?_
    refine lv_bipush (v := nI 91) hx hb d_M_statement_52 (by decide) ?_
    refine lv_icmp_eq (tgt := 63) hx hb d_M_statement_54 (by decide) (fun b10 => ?_) (fun b10 => ?_)
    · skip
      have tq10 : tk hT mn mix = 10 := (tkm hT mn mix).symm.trans (kc_10.mpr b10)
      have hl9 : mix < mn := tk_in (h := hT) (by omega)
      refine lv_aload_n hx hb d_M_statement_63 rfl (lv_at hl 1 rfl) ?_
      refine pf_get (v := .ref (g.lk M 14)) (C := "BigRunnerModel") (T := FT10) (N := 45) hx hb (hw10 hB _) (fun _ h9 => h9) hown hK hP (lo_in hL t_M (by decide)) e6 rfl 14 (by decide) (wd_961 hB _) rfl d_M_statement_64 ?_
      refine lv_aload_n hx hb d_M_statement_67 rfl (lv_at hl 1 rfl) ?_
      refine pf_get (v := .int (nI mop)) (C := "BigRunnerModel") (T := FT10) (N := 45) hx hb (hw10 hB _) (fun _ h9 => h9) hown hK hP (lo_in hL t_M (by decide)) e6 rfl 16 (by decide) (wd_963 hB _) rfl d_M_statement_68 ?_
      refine lv_aload_n hx hb d_M_statement_71 rfl (lv_at hl 1 rfl) ?_
      refine pf_get (v := .int (nI mdr)) (C := "BigRunnerModel") (T := FT10) (N := 45) hx hb (hw10 hB _) (fun _ h9 => h9) hown hK hP (lo_in hL t_M (by decide)) e6 rfl 5 (by decide) (wd_952 hB _) rfl d_M_statement_72 ?_
      have hI11 := iv_1 hI hL t_M (by decide) hk8 (oc_11.mk t_M (⟨mth, mn, mdr, msz, (mix + 1), mdp, mwt, mop, mtp, mwa, mgi, mpc, mst, mtr, msp, mma, mlg, ((nI 0)), e6, (by omega), (by omega), (by omega), (by omega), (by omega), (by omega), (by omega), (by omega), (by omega), (by omega), (by omega), (by omega), (by omega), (by omega), (Or.inl rfl)⟩))
      refine pf_iast (i := mop) hx hb hK hP hD hS (lo_in hL (lo_k11_14 hL _ t_M) (by decide)) eB (lo_t47 hL _ (lo_k11_14 hL _ t_M)) (by omega) (by decide) d_M_statement_75 (fun f12 H locs e13 k14 hP hD hS => ?_)
      have eT := (k14 (g.lk M 1) (tg_ne (lo_k11_1 hL _ t_M) (lo_k11_14 hL _ t_M) (by decide))).trans eT
      have eD := (k14 (g.lk M 3) (tg_ne (lo_k11_3 hL _ t_M) (lo_k11_14 hL _ t_M) (by decide))).trans eD
      have eG := (k14 (g.lk M 4) (tg_ne (lo_k11_4 hL _ t_M) (lo_k11_14 hL _ t_M) (by decide))).trans eG
      have eK := (k14 (g.lk M 15) (tg_ne (lo_k11_15 hL _ t_M) (lo_k11_14 hL _ t_M) (by decide))).trans eK
      have e6 := (k14 M (tg_ne t_M (lo_k11_14 hL _ t_M) (by decide))).trans e6
      have hu := hu.st k14 (lo_k11_14 hL _ t_M) (by decide)
      have hk15 : ∀ b, b ≠ (g.lk M 14) → f12 b = f5 b := k14
      refine lv_aload_n hx hb d_M_statement_76 rfl (lv_at hl 1 rfl) ?_
      have hI16 := iv_1 hI11 hL (lo_k11_14 hL _ t_M) (by decide) hk15 (oc_47.mk (lo_k11_14 hL _ t_M) (⟨_, e13⟩))
      refine pcc_i (va_runV (C := "BigRunnerModel") (As := []) (rest := []) ⟨hx, hb, hml, hown, tb_nil⟩ (m2_expr l g H.size f12 M mth mn mdr msz ((mix + 1)) mdp mwt mop mtp mwa mgi mpc mst mtr msp mma mlg ((nI 0)) hT hQ hG hL t_M hI16 e6 ⟨(by omega), (by omega), (by omega), (by omega), (by omega), (by omega), (by omega), (by omega), (by omega), (by omega), (by omega), (by omega), (by omega), (by omega), (Or.inl rfl)⟩ eT cT eD eG (by omega) (by omega) (by omega) hDI.2.1) ⟨(callB_of 0 (tb_one (wd_1122 hB _)) tb_good1 rfl rfl rfl (wd_82 hB _) (wd_1119 hB _) (by decide +kernel) ⟨Nat.le_of_ble_eq_true rfl, Nat.le_of_ble_eq_true rfl⟩), (wd_1121 hB _), (wd_45 hB _)⟩ ⟨pe_bl, pg_recv (ci := 10) hK hP (lo_in hL t_M (by decide)) e6 rfl, pe_pre hB hK hP hD⟩ rfl rfl hl.1 rfl (lv_room (Nat.le_of_ble_eq_true rfl)) d_M_statement_77 ⟨Nat.le_of_ble_eq_true rfl, Nat.le_of_ble_eq_true rfl⟩) hS (fun r17 f18 H locs hq19 hP hD hS => ?_)
      obtain ⟨rs_20, hI1_21, hu1_22⟩ := hq19
      have hu := hu.tr hu1_22 (by decide)
      have eT := hu1_22.at (lo_k11_1 hL _ t_M) (by decide) eT
      have eK := hu1_22.at (lo_k11_15 hL _ t_M) (by decide) eK
      have e13 := hu1_22.at (lo_k11_14 hL _ t_M) (by decide) e13
      rcases rs_20 with ⟨a_23, n_24, d_25, g_26, c27, c28, c29, c30, c31, c32, c33, c34, c35, c36, c37, e38, e39, e40, rfl⟩ | ⟨c45, ⟨ix_41, dp_42, dr_43, wt_44, c46, c47, c48, c49, e50⟩, rfl⟩
      · skip
        refine lv_if_eq (tgt := 92) hx hb d_M_statement_80 (by decide) (fun b51 => ?_) (fun b51 => ?_)
        · skip
          replace b51 := (nI_eq (a := 1) (b := 0) (by omega) (by omega)).mp b51
          exfalso; omega
        · skip
          replace b51 := mt (nI_eq (a := 1) (b := 0) (by omega) (by omega)).mpr b51
          refine lv_aload_n hx hb d_M_statement_83 rfl (lv_at hl 1 rfl) ?_
          refine pcc_i (va_runV (C := "BigRunnerModel") (As := []) (rest := []) ⟨hx, hb, hml, hown, tb_nil⟩ (m_here l g H.size f18 M mth mn n_24 msz a_23 mdp 0 mop mtp mwa mgi mpc mst mtr msp mma mlg ((nI 0)) hT hL t_M hI1_21.1 e38 ⟨(by omega), (by omega), (by omega), (by omega), (by omega), (by omega), (by omega), (by omega), (by omega), (by omega), (by omega), (by omega), (by omega), (by omega), (Or.inl rfl)⟩ eT cT) ⟨(callB_of 0 (tb_one (wd_1111 hB _)) tb_good1 rfl rfl rfl (wd_82 hB _) (wd_1108 hB _) (by decide +kernel) ⟨Nat.le_of_ble_eq_true rfl, Nat.le_of_ble_eq_true rfl⟩), (wd_1110 hB _), (wd_43 hB _)⟩ ⟨pe_bl, pg_recv (ci := 10) hK hP (lo_in hL t_M (by decide)) e38 rfl, pe_pre hB hK hP hD⟩ rfl rfl hl.1 rfl (lv_room (Nat.le_of_ble_eq_true rfl)) d_M_statement_84 ⟨Nat.le_of_ble_eq_true rfl, Nat.le_of_ble_eq_true rfl⟩) hS (fun r52 f53 H locs hq54 hP hD hS => ?_)
          obtain ⟨nx_55, rfl⟩ := hq54
          subst nx_55
          refine lv_bipush (v := nI 58) hx hb d_M_statement_87 (by decide) ?_
          refine lv_icmp_eq (tgt := 94) hx hb d_M_statement_89 (by decide) (fun b56 => ?_) (fun b56 => ?_)
          · skip
            have tq15 : tk hT mn a_23 = 15 := (tkm hT mn a_23).symm.trans (kc_15.mpr b56)
            have hl8 : a_23 < mn := tk_in (h := hT) (by omega)
            refine lv_aload_n hx hb d_M_statement_94 rfl (lv_at hl 1 rfl) ?_
            refine lv_dup hx hb d_M_statement_95 rfl ?_
            refine pf_get (v := .int (nI a_23)) (C := "BigRunnerModel") (T := FT10) (N := 45) hx hb (hw10 hB _) (fun _ h9 => h9) hown hK hP (lo_in hL t_M (by decide)) e38 rfl 10 (by decide) (wd_957 hB _) rfl d_M_statement_96 ?_
            refine lv_iconst (v := nI 1) hx hb d_M_statement_99 (by decide) ?_
            refine pf_iaddN (x := a_23) (y := 1) hx hb d_M_statement_100 ?_
            refine pf_put (v := .int (nI (a_23 + 1))) (ty := .int) (fs' := [.int mth, .ref (g.lk M 1), .int (nI mn), .ref (g.lk M 3), .ref (g.lk M 4), .int (nI n_24), .ref (g.lk M 6), .ref (g.lk M 7), .ref (g.lk M 8), .int (nI msz), .int (nI (a_23 + 1)), .int (nI mdp), .ref (g.lk M 12), .int (nI 0), .ref (g.lk M 14), .ref (g.lk M 15), .int (nI mop), .ref (g.lk M 17), .ref (g.lk M 18), .ref (g.lk M 19), .ref (g.lk M 20), .ref (g.lk M 21), .ref (g.lk M 22), .ref (g.lk M 23), .ref (g.lk M 24), .ref (g.lk M 25), .ref (g.lk M 26), .ref (g.lk M 27), .ref (g.lk M 28), .ref (g.lk M 29), .ref (g.lk M 30), .ref (g.lk M 31), .int (nI mtp), .ref (g.lk M 33), .ref (g.lk M 34), .ref (g.lk M 35), .int (nI mwa), .int (nI mgi), .int (nI mpc), .int (nI mst), .int (nI mtr), .int (nI msp), .int mma, .int mlg, .int (nI 0)]) (C := "BigRunnerModel") (T := FT10) (N := 45) hx hb (hw10 hB _) (fun _ h9 => h9) TY10 ok10 nm10 hown hK hP hD hS (lo_in hL t_M (by decide)) e38 rfl 10 (by decide) (wd_957 hB _) rfl (by decide +kernel) rfl rfl (Nat.le_of_ble_eq_true rfl) rfl d_M_statement_101 (fun f57 H locs e58 k59 hP hD hS => ?_)
            have eT := (k59 (g.lk M 1) (tg_ne (lo_k11_1 hL _ t_M) t_M (by decide))).trans eT
            have eK := (k59 (g.lk M 15) (tg_ne (lo_k11_15 hL _ t_M) t_M (by decide))).trans eK
            have e13 := (k59 (g.lk M 14) (tg_ne (lo_k11_14 hL _ t_M) t_M (by decide))).trans e13
            have e39 := (k59 (g.lk M 3) (tg_ne (lo_k11_3 hL _ t_M) t_M (by decide))).trans e39
            have e40 := (k59 (g.lk M 4) (tg_ne (lo_k11_4 hL _ t_M) t_M (by decide))).trans e40
            have hu := hu.st k59 t_M (by decide)
            have hk60 : ∀ b, b ≠ M → f57 b = f18 b := k59
            refine lv_aload_n hx hb d_M_statement_104 rfl (lv_at hl 1 rfl) ?_
            refine pf_get (v := .ref (g.lk M 15)) (C := "BigRunnerModel") (T := FT10) (N := 45) hx hb (hw10 hB _) (fun _ h9 => h9) hown hK hP (lo_in hL t_M (by decide)) e58 rfl 15 (by decide) (wd_962 hB _) rfl d_M_statement_105 ?_
            refine lv_aload_n hx hb d_M_statement_108 rfl (lv_at hl 1 rfl) ?_
            refine pf_get (v := .int (nI mop)) (C := "BigRunnerModel") (T := FT10) (N := 45) hx hb (hw10 hB _) (fun _ h9 => h9) hown hK hP (lo_in hL t_M (by decide)) e58 rfl 16 (by decide) (wd_963 hB _) rfl d_M_statement_109 ?_
            refine lv_iload_n hx hb d_M_statement_112 rfl (lv_at hl 0 rfl) ?_
            have hI61 := iv_1 hI1_21 hL t_M (by decide) hk60 (oc_11.mk t_M (⟨mth, mn, n_24, msz, (a_23 + 1), mdp, 0, mop, mtp, mwa, mgi, mpc, mst, mtr, msp, mma, mlg, ((nI 0)), e58, (by omega), (by omega), (by omega), (by omega), (by omega), (by omega), (by omega), (by omega), (by omega), (by omega), (by omega), (by omega), (by omega), (by omega), (Or.inl rfl)⟩))
            refine pf_iast (i := mop) hx hb hK hP hD hS (lo_in hL (lo_k11_15 hL _ t_M) (by decide)) eK (lo_t48 hL _ (lo_k11_15 hL _ t_M)) (by omega) (by decide) d_M_statement_113 (fun f62 H locs e63 k64 hP hD hS => ?_)
            have eT := (k64 (g.lk M 1) (tg_ne (lo_k11_1 hL _ t_M) (lo_k11_15 hL _ t_M) (by decide))).trans eT
            have e13 := (k64 (g.lk M 14) (tg_ne (lo_k11_14 hL _ t_M) (lo_k11_15 hL _ t_M) (by decide))).trans e13
            have e39 := (k64 (g.lk M 3) (tg_ne (lo_k11_3 hL _ t_M) (lo_k11_15 hL _ t_M) (by decide))).trans e39
            have e40 := (k64 (g.lk M 4) (tg_ne (lo_k11_4 hL _ t_M) (lo_k11_15 hL _ t_M) (by decide))).trans e40
            have e58 := (k64 M (tg_ne t_M (lo_k11_15 hL _ t_M) (by decide))).trans e58
            have hu := hu.st k64 (lo_k11_15 hL _ t_M) (by decide)
            have hk65 : ∀ b, b ≠ (g.lk M 15) → f62 b = f57 b := k64
            refine lv_aload_n hx hb d_M_statement_114 rfl (lv_at hl 1 rfl) ?_
            refine lv_bipush (v := nI 11) hx hb d_M_statement_115 (by decide) ?_
            refine lv_aload_n hx hb d_M_statement_117 rfl (lv_at hl 1 rfl) ?_
            refine pf_get (v := .ref (g.lk M 14)) (C := "BigRunnerModel") (T := FT10) (N := 45) hx hb (hw10 hB _) (fun _ h9 => h9) hown hK hP (lo_in hL t_M (by decide)) e58 rfl 14 (by decide) (wd_961 hB _) rfl d_M_statement_118 ?_
            refine lv_aload_n hx hb d_M_statement_121 rfl (lv_at hl 1 rfl) ?_
            refine pf_get (v := .int (nI mop)) (C := "BigRunnerModel") (T := FT10) (N := 45) hx hb (hw10 hB _) (fun _ h9 => h9) hown hK hP (lo_in hL t_M (by decide)) e58 rfl 16 (by decide) (wd_963 hB _) rfl d_M_statement_122 ?_
            refine pf_iald (i := mop) hx hb hK hP (lo_in hL (lo_k11_14 hL _ t_M) (by decide)) e13 (lo_t47 hL _ (lo_k11_14 hL _ t_M)) (by omega) (by decide) d_M_statement_125 ?_
            refine lv_topi (fun z_ hz_ => ?_)
            obtain rfl : z_ = nI mdr := hz_.trans (upd_at _ _ _)
            have hI66 := iv_1 hI61 hL (lo_k11_15 hL _ t_M) (by decide) hk65 (oc_48.mk (lo_k11_15 hL _ t_M) (⟨_, e63⟩))
            refine pcc_v (va_runV (C := "BigRunnerModel") (As := [.int (nI 11), .int (nI mdr)]) (rest := []) ⟨hx, hb, hml, hown, tb_nil⟩ (m_put l g H.size f62 M mth mn n_24 msz ((a_23 + 1)) mdp 0 mop mtp mwa mgi mpc mst mtr msp mma mlg ((nI 0)) d_25 g_26 11 ((nI mdr)) hL t_M hI66 e58 ⟨(by omega), (by omega), (by omega), (by omega), (by omega), (by omega), (by omega), (by omega), (by omega), (by omega), (by omega), (by omega), (by omega), (by omega), (Or.inl rfl)⟩ e39 e40 (by omega)) ⟨(callB_of 2 (tb_one (wd_1115 hB _)) tb_good1 rfl rfl rfl (wd_82 hB _) (wd_1112 hB _) (by decide +kernel) ⟨Nat.le_of_ble_eq_true rfl, Nat.le_of_ble_eq_true rfl⟩), (wd_1114 hB _), (wd_44 hB _)⟩ ⟨pe_bl, pg_recv (ci := 10) hK hP (lo_in hL t_M (by decide)) e58 rfl, pe_pre hB hK hP hD⟩ rfl rfl hl.1 rfl (lv_room (Nat.le_of_ble_eq_true rfl)) d_M_statement_126 ⟨Nat.le_of_ble_eq_true rfl, Nat.le_of_ble_eq_true rfl⟩) hS (fun f68 H locs hq69 hP hD hS => ?_)
            obtain ⟨x1_70, xd_71, xg_72, hI1_73, hu1_74⟩ := hq69
            have hu := hu.tr hu1_74 (by decide)
            have eT := hu1_74.at (lo_k11_1 hL _ t_M) (by decide) eT
            have e13 := hu1_74.at (lo_k11_14 hL _ t_M) (by decide) e13
            have e63 := hu1_74.at (lo_k11_15 hL _ t_M) (by decide) e63
            refine lv_aload_n hx hb d_M_statement_129 rfl (lv_at hl 1 rfl) ?_
            refine pf_get (v := .ref (g.lk M 14)) (C := "BigRunnerModel") (T := FT10) (N := 45) hx hb (hw10 hB _) (fun _ h9 => h9) hown hK hP (lo_in hL t_M (by decide)) x1_70 rfl 14 (by decide) (wd_961 hB _) rfl d_M_statement_130 ?_
            refine lv_aload_n hx hb d_M_statement_133 rfl (lv_at hl 1 rfl) ?_
            refine pf_get (v := .int (nI mop)) (C := "BigRunnerModel") (T := FT10) (N := 45) hx hb (hw10 hB _) (fun _ h9 => h9) hown hK hP (lo_in hL t_M (by decide)) x1_70 rfl 16 (by decide) (wd_963 hB _) rfl d_M_statement_134 ?_
            refine lv_aload_n hx hb d_M_statement_137 rfl (lv_at hl 1 rfl) ?_
            refine pf_get (v := .int (nI (n_24 + 1))) (C := "BigRunnerModel") (T := FT10) (N := 45) hx hb (hw10 hB _) (fun _ h9 => h9) hown hK hP (lo_in hL t_M (by decide)) x1_70 rfl 5 (by decide) (wd_952 hB _) rfl d_M_statement_138 ?_
            refine lv_iconst (v := nI 1) hx hb d_M_statement_141 (by decide) ?_
            refine pf_isubN (x := n_24 + 1) (y := 1) hx hb (by omega) d_M_statement_142 ?_
            refine lv_topi (fun z_ hz_ => ?_)
            obtain rfl : z_ = nI (n_24) := hz_.trans (congrArg nI (show (n_24 + 1) - 1 = n_24 by omega))
            refine pf_iast (i := mop) hx hb hK hP hD hS (lo_in hL (lo_k11_14 hL _ t_M) (by decide)) e13 (lo_t47 hL _ (lo_k11_14 hL _ t_M)) (by omega) (by decide) d_M_statement_143 (fun f75 H locs e76 k77 hP hD hS => ?_)
            have eT := (k77 (g.lk M 1) (tg_ne (lo_k11_1 hL _ t_M) (lo_k11_14 hL _ t_M) (by decide))).trans eT
            have e63 := (k77 (g.lk M 15) (tg_ne (lo_k11_15 hL _ t_M) (lo_k11_14 hL _ t_M) (by decide))).trans e63
            have x1_70 := (k77 M (tg_ne t_M (lo_k11_14 hL _ t_M) (by decide))).trans x1_70
            have xd_71 := (k77 (g.lk M 3) (tg_ne (lo_k11_3 hL _ t_M) (lo_k11_14 hL _ t_M) (by decide))).trans xd_71
            have xg_72 := (k77 (g.lk M 4) (tg_ne (lo_k11_4 hL _ t_M) (lo_k11_14 hL _ t_M) (by decide))).trans xg_72
            have hu := hu.st k77 (lo_k11_14 hL _ t_M) (by decide)
            have hk78 : ∀ b, b ≠ (g.lk M 14) → f75 b = f68 b := k77
            refine lv_aload_n hx hb d_M_statement_144 rfl (lv_at hl 1 rfl) ?_
            refine lv_dup hx hb d_M_statement_145 rfl ?_
            refine pf_get (v := .int (nI mop)) (C := "BigRunnerModel") (T := FT10) (N := 45) hx hb (hw10 hB _) (fun _ h9 => h9) hown hK hP (lo_in hL t_M (by decide)) x1_70 rfl 16 (by decide) (wd_963 hB _) rfl d_M_statement_146 ?_
            refine lv_iconst (v := nI 1) hx hb d_M_statement_149 (by decide) ?_
            refine pf_iaddN (x := mop) (y := 1) hx hb d_M_statement_150 ?_
            have hI79 := iv_1 hI1_73 hL (lo_k11_14 hL _ t_M) (by decide) hk78 (oc_47.mk (lo_k11_14 hL _ t_M) (⟨_, e76⟩))
            refine pf_put (v := .int (nI (mop + 1))) (ty := .int) (fs' := [.int mth, .ref (g.lk M 1), .int (nI mn), .ref (g.lk M 3), .ref (g.lk M 4), .int (nI (n_24 + 1)), .ref (g.lk M 6), .ref (g.lk M 7), .ref (g.lk M 8), .int (nI msz), .int (nI (a_23 + 1)), .int (nI mdp), .ref (g.lk M 12), .int (nI 0), .ref (g.lk M 14), .ref (g.lk M 15), .int (nI (mop + 1)), .ref (g.lk M 17), .ref (g.lk M 18), .ref (g.lk M 19), .ref (g.lk M 20), .ref (g.lk M 21), .ref (g.lk M 22), .ref (g.lk M 23), .ref (g.lk M 24), .ref (g.lk M 25), .ref (g.lk M 26), .ref (g.lk M 27), .ref (g.lk M 28), .ref (g.lk M 29), .ref (g.lk M 30), .ref (g.lk M 31), .int (nI mtp), .ref (g.lk M 33), .ref (g.lk M 34), .ref (g.lk M 35), .int (nI mwa), .int (nI mgi), .int (nI mpc), .int (nI mst), .int (nI mtr), .int (nI msp), .int mma, .int mlg, .int (nI 0)]) (C := "BigRunnerModel") (T := FT10) (N := 45) hx hb (hw10 hB _) (fun _ h9 => h9) TY10 ok10 nm10 hown hK hP hD hS (lo_in hL t_M (by decide)) x1_70 rfl 16 (by decide) (wd_963 hB _) rfl (by decide +kernel) rfl rfl (Nat.le_of_ble_eq_true rfl) rfl d_M_statement_151 (fun f80 H locs e81 k82 hP hD hS => ?_)
            have eT := (k82 (g.lk M 1) (tg_ne (lo_k11_1 hL _ t_M) t_M (by decide))).trans eT
            have e63 := (k82 (g.lk M 15) (tg_ne (lo_k11_15 hL _ t_M) t_M (by decide))).trans e63
            have xd_71 := (k82 (g.lk M 3) (tg_ne (lo_k11_3 hL _ t_M) t_M (by decide))).trans xd_71
            have xg_72 := (k82 (g.lk M 4) (tg_ne (lo_k11_4 hL _ t_M) t_M (by decide))).trans xg_72
            have e76 := (k82 (g.lk M 14) (tg_ne (lo_k11_14 hL _ t_M) t_M (by decide))).trans e76
            have hu := hu.st k82 t_M (by decide)
            have hk83 : ∀ b, b ≠ M → f80 b = f75 b := k82
            refine lv_aload_n hx hb d_M_statement_154 rfl (lv_at hl 1 rfl) ?_
            refine lv_dup hx hb d_M_statement_155 rfl ?_
            refine pf_get (v := .int (nI mdp)) (C := "BigRunnerModel") (T := FT10) (N := 45) hx hb (hw10 hB _) (fun _ h9 => h9) hown hK hP (lo_in hL t_M (by decide)) e81 rfl 11 (by decide) (wd_958 hB _) rfl d_M_statement_156 ?_
            refine lv_iconst (v := nI 1) hx hb d_M_statement_159 (by decide) ?_
            refine pf_iaddN (x := mdp) (y := 1) hx hb d_M_statement_160 ?_
            refine pf_put (v := .int (nI (mdp + 1))) (ty := .int) (fs' := [.int mth, .ref (g.lk M 1), .int (nI mn), .ref (g.lk M 3), .ref (g.lk M 4), .int (nI (n_24 + 1)), .ref (g.lk M 6), .ref (g.lk M 7), .ref (g.lk M 8), .int (nI msz), .int (nI (a_23 + 1)), .int (nI (mdp + 1)), .ref (g.lk M 12), .int (nI 0), .ref (g.lk M 14), .ref (g.lk M 15), .int (nI (mop + 1)), .ref (g.lk M 17), .ref (g.lk M 18), .ref (g.lk M 19), .ref (g.lk M 20), .ref (g.lk M 21), .ref (g.lk M 22), .ref (g.lk M 23), .ref (g.lk M 24), .ref (g.lk M 25), .ref (g.lk M 26), .ref (g.lk M 27), .ref (g.lk M 28), .ref (g.lk M 29), .ref (g.lk M 30), .ref (g.lk M 31), .int (nI mtp), .ref (g.lk M 33), .ref (g.lk M 34), .ref (g.lk M 35), .int (nI mwa), .int (nI mgi), .int (nI mpc), .int (nI mst), .int (nI mtr), .int (nI msp), .int mma, .int mlg, .int (nI 0)]) (C := "BigRunnerModel") (T := FT10) (N := 45) hx hb (hw10 hB _) (fun _ h9 => h9) TY10 ok10 nm10 hown hK hP hD hS (lo_in hL t_M (by decide)) e81 rfl 11 (by decide) (wd_958 hB _) rfl (by decide +kernel) rfl rfl (Nat.le_of_ble_eq_true rfl) rfl d_M_statement_161 (fun f84 H locs e85 k86 hP hD hS => ?_)
            have eT := (k86 (g.lk M 1) (tg_ne (lo_k11_1 hL _ t_M) t_M (by decide))).trans eT
            have e63 := (k86 (g.lk M 15) (tg_ne (lo_k11_15 hL _ t_M) t_M (by decide))).trans e63
            have xd_71 := (k86 (g.lk M 3) (tg_ne (lo_k11_3 hL _ t_M) t_M (by decide))).trans xd_71
            have xg_72 := (k86 (g.lk M 4) (tg_ne (lo_k11_4 hL _ t_M) t_M (by decide))).trans xg_72
            have e76 := (k86 (g.lk M 14) (tg_ne (lo_k11_14 hL _ t_M) t_M (by decide))).trans e76
            have hu := hu.st k86 t_M (by decide)
            have hk87 : ∀ b, b ≠ M → f84 b = f75 b := fun b q0 => (k86 b q0).trans (hk83 b q0)
            refine lv_aload_n hx hb d_M_statement_164 rfl (lv_at hl 1 rfl) ?_
            refine lv_iconst (v := nI 1) hx hb d_M_statement_165 (by decide) ?_
            refine pf_put (v := .int (nI 1)) (ty := .boolean) (fs' := [.int mth, .ref (g.lk M 1), .int (nI mn), .ref (g.lk M 3), .ref (g.lk M 4), .int (nI (n_24 + 1)), .ref (g.lk M 6), .ref (g.lk M 7), .ref (g.lk M 8), .int (nI msz), .int (nI (a_23 + 1)), .int (nI (mdp + 1)), .ref (g.lk M 12), .int (nI 0), .ref (g.lk M 14), .ref (g.lk M 15), .int (nI (mop + 1)), .ref (g.lk M 17), .ref (g.lk M 18), .ref (g.lk M 19), .ref (g.lk M 20), .ref (g.lk M 21), .ref (g.lk M 22), .ref (g.lk M 23), .ref (g.lk M 24), .ref (g.lk M 25), .ref (g.lk M 26), .ref (g.lk M 27), .ref (g.lk M 28), .ref (g.lk M 29), .ref (g.lk M 30), .ref (g.lk M 31), .int (nI mtp), .ref (g.lk M 33), .ref (g.lk M 34), .ref (g.lk M 35), .int (nI mwa), .int (nI mgi), .int (nI mpc), .int (nI mst), .int (nI mtr), .int (nI msp), .int mma, .int mlg, .int (nI 1)]) (C := "BigRunnerModel") (T := FT10) (N := 45) hx hb (hw10 hB _) (fun _ h9 => h9) TY10 ok10 nm10 hown hK hP hD hS (lo_in hL t_M (by decide)) e85 rfl 44 (by decide) (wd_991 hB _) rfl (by decide +kernel) rfl rfl (Nat.le_of_ble_eq_true rfl) rfl d_M_statement_166 (fun f88 H locs e89 k90 hP hD hS => ?_)
            have eT := (k90 (g.lk M 1) (tg_ne (lo_k11_1 hL _ t_M) t_M (by decide))).trans eT
            have e63 := (k90 (g.lk M 15) (tg_ne (lo_k11_15 hL _ t_M) t_M (by decide))).trans e63
            have xd_71 := (k90 (g.lk M 3) (tg_ne (lo_k11_3 hL _ t_M) t_M (by decide))).trans xd_71
            have xg_72 := (k90 (g.lk M 4) (tg_ne (lo_k11_4 hL _ t_M) t_M (by decide))).trans xg_72
            have e76 := (k90 (g.lk M 14) (tg_ne (lo_k11_14 hL _ t_M) t_M (by decide))).trans e76
            have hu := hu.st k90 t_M (by decide)
            have hk91 : ∀ b, b ≠ M → f88 b = f75 b := fun b q0 => (k90 b q0).trans (hk87 b q0)
            refine lv_aload_n hx hb d_M_statement_169 rfl (lv_at hl 1 rfl) ?_
            refine pf_get (v := .int (nI (mdp + 1))) (C := "BigRunnerModel") (T := FT10) (N := 45) hx hb (hw10 hB _) (fun _ h9 => h9) hown hK hP (lo_in hL t_M (by decide)) e89 rfl 11 (by decide) (wd_958 hB _) rfl d_M_statement_170 ?_
            refine lv_bipush (v := nI 10) hx hb d_M_statement_173 (by decide) ?_
            refine lv_icmp_gt (tgt := 182) hx hb d_M_statement_175 (by decide) (fun b92 => ?_) (fun b92 => ?_)
            · skip
              replace b92 := (nI_ltI (a := 10) (b := mdp + 1) (by omega) (by omega)).mp b92
              refine lv_iconst (v := nI 0) hx hb d_M_statement_182 (by decide) ?_
              have hI93 := iv_1 hI79 hL t_M (by decide) hk91 (oc_11.mk t_M (⟨mth, mn, (n_24 + 1), msz, (a_23 + 1), (mdp + 1), 0, (mop + 1), mtp, mwa, mgi, mpc, mst, mtr, msp, mma, mlg, ((nI 1)), e89, (by omega), (by omega), (by omega), (by omega), (by omega), (by omega), (by omega), (by omega), (by omega), (by omega), (by omega), (by omega), (by omega), (by omega), (Or.inr rfl)⟩))
              exact pe_zret hx hb hr hlocks hK hP hD hS d_M_statement_183 rfl ⟨(Or.inr ⟨(fun F => by rw [py_rT, if_neg (by omega), if_pos (Or.inl tq10), c27]; show (if _ then (if _ then _ else _) else _) = _; rw [if_pos tq15, if_neg (by omega)]), ⟨1, a_23 + 1, mop + 1, mdp + 1, n_24 + 1, 0, by omega, by omega, by omega, by omega, by omega, by omega, e89⟩, rfl⟩), hI93, hu⟩
            · skip
              replace b92 := mt (nI_ltI (a := 10) (b := mdp + 1) (by omega) (by omega)).mpr b92
              refine lv_iconst (v := nI 1) hx hb d_M_statement_178 (by decide) ?_
              refine lv_goto (tgt := 183) hx hb d_M_statement_179 (by decide) ?_
              have hI94 := iv_1 hI79 hL t_M (by decide) hk91 (oc_11.mk t_M (⟨mth, mn, (n_24 + 1), msz, (a_23 + 1), (mdp + 1), 0, (mop + 1), mtp, mwa, mgi, mpc, mst, mtr, msp, mma, mlg, ((nI 1)), e89, (by omega), (by omega), (by omega), (by omega), (by omega), (by omega), (by omega), (by omega), (by omega), (by omega), (by omega), (by omega), (by omega), (by omega), (Or.inr rfl)⟩))
              have hkl : kl (upd hK9 mop (nxm hT mn mix)) (mop + 1) = tk hT mn mix :: kl hK9 mop := by rw [kl_upd, tkm]
              have hkl2 : klx (upd hK9 mop (nxm hT mn mix)) (upd (upd hB9 mop (nI mdr)) mop (nI n_24)) (mop + 1) = (tk hT mn mix, D9.length + (oy_e (tk hT mn) (vc hT mn) 400 (mix + 1) [] true).length) :: klx hK9 hB9 mop := by rw [upd_upd, klx_u2 _ _ _ _ (by omega), tkm, hDl, ← c36]
              exact pe_zret hx hb hr hlocks hK hP hD hS d_M_statement_183 rfl ⟨(Or.inl ⟨1, a_23 + 1, mop + 1, mdp + 1, n_24 + 1, 0, _, _, _, _, (fun F => by rw [py_rT, if_neg (by omega), if_pos (Or.inl tq10), c27]; show (if _ then (if _ then _ else _) else _) = _; rw [if_pos tq15, if_pos (by omega), hkl]; rfl), by omega, by omega, by omega, by omega, by omega, by omega, by omega, by omega, (DI_open hDI (smd_tr (fun i hi => upd_ne _ _ (by omega)) c34) (smd_tr (fun i hi => upd_ne _ _ (by omega)) c35) (GC_smd c32 (fun i hi => upd_ne _ _ (by omega)) (fun i hi => upd_ne _ _ (by omega))) (by omega) (by omega) (by omega) (by rw [dpc_u (Nat.le_refl _)]; exact c33) (upd_at _ _ _) (upd_at _ _ _) (fun i hi => (upd_ne _ _ (by omega)).trans (upd_ne _ _ (by omega))) (upd_at _ _ _) (fun i hi => upd_ne _ _ (by omega)) (upd_at _ _ _) (Or.inl b10)), ⟨D9 ++ oy_e (tk hT mn) (vc hT mn) 400 (mix + 1) [] true ++ [(11, D9.length)], (by rw [List.length_append, List.length_append, List.length_singleton]; omega), (by rw [hDl]; exact (DS_put (DS_cat hDS (by omega) c34 c35 c37) (by rw [List.length_append]; omega))), E8_put (E8_ex hE8 c34 c32) (by decide) (by decide), (fun F => by rw [oy_rT, if_neg (by omega), if_pos (Or.inl tq10), c27]; show oy_r _ _ _ _ _ _ _ _ _ = _; rw [hkl2]; rfl)⟩, e89, xd_71, xg_72, e76, e63, rfl⟩), hI94, hu⟩
          · skip
            have tq15 : tk hT mn a_23 ≠ 15 := fun z => b56 (kc_15.mp ((tkm hT mn a_23).trans z))
            refine lv_iconst (v := nI 0) hx hb d_M_statement_92 (by decide) ?_
            exact pe_zret hx hb hr hlocks hK hP hD hS d_M_statement_93 rfl ⟨(Or.inr ⟨(fun F => by rw [py_rT, if_neg (by omega), if_pos (Or.inl tq10), c27]; show (if _ then (if _ then _ else _) else _) = _; rw [if_neg tq15]), ⟨0, a_23, mop, mdp, n_24, 0, by omega, by omega, by omega, by omega, by omega, by omega, e38⟩, rfl⟩), hI1_21, hu⟩
      · skip
        refine lv_if_eq (tgt := 92) hx hb d_M_statement_80 (by decide) (fun b95 => ?_) (fun b95 => ?_)
        · skip
          replace b95 := (nI_eq (a := 0) (b := 0) (by omega) (by omega)).mp b95
          refine lv_iconst (v := nI 0) hx hb d_M_statement_92 (by decide) ?_
          obtain ⟨h_97, e96⟩ := oc_41.of (lo_k11_3 hL _ t_M) (hI1_21.1 (g.lk M 3))
          obtain ⟨h_100, e99⟩ := oc_42.of (lo_k11_4 hL _ t_M) (hI1_21.1 (g.lk M 4))
          exact pe_zret hx hb hr hlocks hK hP hD hS d_M_statement_93 rfl ⟨(Or.inr ⟨(fun F => by rw [py_rT, if_neg (by omega), if_pos (Or.inl tq10), c45]), ⟨0, ix_41, mop, dp_42, dr_43, wt_44, by omega, by omega, by omega, by omega, by omega, by omega, e50⟩, rfl⟩), hI1_21, hu⟩
        · skip
          replace b95 := mt (nI_eq (a := 0) (b := 0) (by omega) (by omega)).mpr b95
          exfalso; omega
    · skip
      have tq10 : tk hT mn mix ≠ 10 := fun z => b10 (kc_10.mp ((tkm hT mn mix).trans z))
      refine lv_iload_n hx hb d_M_statement_57 rfl (lv_at hl 0 rfl) ?_
      refine lv_bipush (v := nI 123) hx hb d_M_statement_58 (by decide) ?_
      refine lv_icmp_ne (tgt := 184) hx hb d_M_statement_60 (by decide) (fun b102 => ?_) (fun b102 => ?_)
      · skip
        have tq12 : tk hT mn mix ≠ 12 := fun z => b102 (kc_12.mp ((tkm hT mn mix).trans z))
        refine lv_iload_n hx hb d_M_statement_184 rfl (lv_at hl 0 rfl) ?_
        refine lv_bipush (v := nI 33) hx hb d_M_statement_185 (by decide) ?_
        refine lv_icmp_ne (tgt := 204) hx hb d_M_statement_187 (by decide) (fun b103 => ?_) (fun b103 => ?_)
        · skip
          have tq9 : tk hT mn mix ≠ 9 := fun z => b103 (kc_9.mp ((tkm hT mn mix).trans z))
          refine lv_iload_n hx hb d_M_statement_204 rfl (lv_at hl 0 rfl) ?_
          have hI104 := iv_1 hI hL t_M (by decide) hk8 (oc_11.mk t_M (⟨mth, mn, mdr, msz, (mix + 1), mdp, mwt, mop, mtp, mwa, mgi, mpc, mst, mtr, msp, mma, mlg, ((nI 0)), e6, (by omega), (by omega), (by omega), (by omega), (by omega), (by omega), (by omega), (by omega), (by omega), (by omega), (by omega), (by omega), (by omega), (by omega), (Or.inl rfl)⟩))
          refine pcc_i (va_runS (As := [.int (nxm hT mn mix)]) (rest := []) ⟨hx, hb, hml, hown, tb_nil⟩ (m_isName l g H.size f5 ((nxm hT mn mix)) hL hI104.1) ⟨(callB_of 1 (tb_one (wd_1118 hB _)) tb_good1 rfl rfl rfl (wd_82 hB _) (wd_1116 hB _) (by decide +kernel) ⟨Nat.le_of_ble_eq_true rfl, Nat.le_of_ble_eq_true rfl⟩), (wd_1117 hB _)⟩ ⟨pe_bl, pe_pre hB hK hP hD⟩ rfl rfl hl.1 rfl (lv_room (Nat.le_of_ble_eq_true rfl)) d_M_statement_205 ⟨Nat.le_of_ble_eq_true rfl, Nat.le_of_ble_eq_true rfl⟩) hS (fun r105 f106 H locs hq107 hP hD hS => ?_)
          obtain ⟨bo_108, i0_109, i1_110, rfl⟩ := hq107
          refine lv_if_eq (tgt := 220) hx hb d_M_statement_208 (by decide) (fun b111 => ?_) (fun b111 => ?_)
          · skip
            have hr112 : r105 = nI 0 := b111
            have hi113 := i0_109 hr112
            have tq6 : tk hT mn mix ≠ 6 := fun z => hi113 ((tkm hT mn mix).trans z)
            refine lv_iconst (v := nI 0) hx hb d_M_statement_220 (by decide) ?_
            exact pe_zret hx hb hr hlocks hK hP hD hS d_M_statement_221 rfl ⟨(Or.inr ⟨(fun F => by rw [py_rT, if_neg tq8, if_neg (fun z => z.elim tq10 tq12), if_neg tq9, if_neg (fun z => tq6 z.1)]), ⟨0, mix + 1, mop, mdp, mdr, mwt, by omega, by omega, by omega, by omega, by omega, by omega, e6⟩, rfl⟩), hI104, hu⟩
          · skip
            have hr114 : r105 = nI 1 := (bl_1 bo_108 b111)
            have hi115 := i1_110 hr114
            have hkc6 := hi115
            have tq6 : tk hT mn mix = 6 := (tkm hT mn mix).symm.trans hkc6
            have hl9 : mix < mn := tk_in (h := hT) (by omega)
            obtain ⟨vn, hvn, qvn⟩ := nm_of (kc_6.mp hkc6).1 (kc_6.mp hkc6).2
            refine lv_aload_n hx hb d_M_statement_211 rfl (lv_at hl 1 rfl) ?_
            refine pcc_i (va_runV (C := "BigRunnerModel") (As := []) (rest := []) ⟨hx, hb, hml, hown, tb_nil⟩ (m_here l g H.size f5 M mth mn mdr msz ((mix + 1)) mdp mwt mop mtp mwa mgi mpc mst mtr msp mma mlg ((nI 0)) hT hL t_M hI104.1 e6 ⟨(by omega), (by omega), (by omega), (by omega), (by omega), (by omega), (by omega), (by omega), (by omega), (by omega), (by omega), (by omega), (by omega), (by omega), (Or.inl rfl)⟩ eT cT) ⟨(callB_of 0 (tb_one (wd_1111 hB _)) tb_good1 rfl rfl rfl (wd_82 hB _) (wd_1108 hB _) (by decide +kernel) ⟨Nat.le_of_ble_eq_true rfl, Nat.le_of_ble_eq_true rfl⟩), (wd_1110 hB _), (wd_43 hB _)⟩ ⟨pe_bl, pg_recv (ci := 10) hK hP (lo_in hL t_M (by decide)) e6 rfl, pe_pre hB hK hP hD⟩ rfl rfl hl.1 rfl (lv_room (Nat.le_of_ble_eq_true rfl)) d_M_statement_212 ⟨Nat.le_of_ble_eq_true rfl, Nat.le_of_ble_eq_true rfl⟩) hS (fun r116 f117 H locs hq118 hP hD hS => ?_)
            obtain ⟨nx_119, rfl⟩ := hq118
            subst nx_119
            refine lv_bipush (v := nI 61) hx hb d_M_statement_215 (by decide) ?_
            refine lv_icmp_eq (tgt := 222) hx hb d_M_statement_217 (by decide) (fun b120 => ?_) (fun b120 => ?_)
            · skip
              have tq17 : tk hT mn (mix + 1) = 17 := (tkm hT mn (mix + 1)).symm.trans (kc_17.mpr b120)
              have hl8 : mix + 1 < mn := tk_in (h := hT) (by omega)
              refine lv_aload_n hx hb d_M_statement_222 rfl (lv_at hl 1 rfl) ?_
              refine lv_dup hx hb d_M_statement_223 rfl ?_
              refine pf_get (v := .int (nI (mix + 1))) (C := "BigRunnerModel") (T := FT10) (N := 45) hx hb (hw10 hB _) (fun _ h9 => h9) hown hK hP (lo_in hL t_M (by decide)) e6 rfl 10 (by decide) (wd_957 hB _) rfl d_M_statement_224 ?_
              refine lv_iconst (v := nI 1) hx hb d_M_statement_227 (by decide) ?_
              refine pf_iaddN (x := mix + 1) (y := 1) hx hb d_M_statement_228 ?_
              refine pf_put (v := .int (nI ((mix + 1) + 1))) (ty := .int) (fs' := [.int mth, .ref (g.lk M 1), .int (nI mn), .ref (g.lk M 3), .ref (g.lk M 4), .int (nI mdr), .ref (g.lk M 6), .ref (g.lk M 7), .ref (g.lk M 8), .int (nI msz), .int (nI ((mix + 1) + 1)), .int (nI mdp), .ref (g.lk M 12), .int (nI mwt), .ref (g.lk M 14), .ref (g.lk M 15), .int (nI mop), .ref (g.lk M 17), .ref (g.lk M 18), .ref (g.lk M 19), .ref (g.lk M 20), .ref (g.lk M 21), .ref (g.lk M 22), .ref (g.lk M 23), .ref (g.lk M 24), .ref (g.lk M 25), .ref (g.lk M 26), .ref (g.lk M 27), .ref (g.lk M 28), .ref (g.lk M 29), .ref (g.lk M 30), .ref (g.lk M 31), .int (nI mtp), .ref (g.lk M 33), .ref (g.lk M 34), .ref (g.lk M 35), .int (nI mwa), .int (nI mgi), .int (nI mpc), .int (nI mst), .int (nI mtr), .int (nI msp), .int mma, .int mlg, .int (nI 0)]) (C := "BigRunnerModel") (T := FT10) (N := 45) hx hb (hw10 hB _) (fun _ h9 => h9) TY10 ok10 nm10 hown hK hP hD hS (lo_in hL t_M (by decide)) e6 rfl 10 (by decide) (wd_957 hB _) rfl (by decide +kernel) rfl rfl (Nat.le_of_ble_eq_true rfl) rfl d_M_statement_229 (fun f121 H locs e122 k123 hP hD hS => ?_)
              have eT := (k123 (g.lk M 1) (tg_ne (lo_k11_1 hL _ t_M) t_M (by decide))).trans eT
              have eD := (k123 (g.lk M 3) (tg_ne (lo_k11_3 hL _ t_M) t_M (by decide))).trans eD
              have eG := (k123 (g.lk M 4) (tg_ne (lo_k11_4 hL _ t_M) t_M (by decide))).trans eG
              have eB := (k123 (g.lk M 14) (tg_ne (lo_k11_14 hL _ t_M) t_M (by decide))).trans eB
              have eK := (k123 (g.lk M 15) (tg_ne (lo_k11_15 hL _ t_M) t_M (by decide))).trans eK
              have hu := hu.st k123 t_M (by decide)
              have hk124 : ∀ b, b ≠ M → f121 b = f5 b := k123
              refine lv_aload_n hx hb d_M_statement_232 rfl (lv_at hl 1 rfl) ?_
              have hI125 := iv_1 hI104 hL t_M (by decide) hk124 (oc_11.mk t_M (⟨mth, mn, mdr, msz, ((mix + 1) + 1), mdp, mwt, mop, mtp, mwa, mgi, mpc, mst, mtr, msp, mma, mlg, ((nI 0)), e122, (by omega), (by omega), (by omega), (by omega), (by omega), (by omega), (by omega), (by omega), (by omega), (by omega), (by omega), (by omega), (by omega), (by omega), (Or.inl rfl)⟩))
              refine pcc_i (va_runV (C := "BigRunnerModel") (As := []) (rest := []) ⟨hx, hb, hml, hown, tb_nil⟩ (m2_expr l g H.size f121 M mth mn mdr msz (((mix + 1) + 1)) mdp mwt mop mtp mwa mgi mpc mst mtr msp mma mlg ((nI 0)) hT hQ hG hL t_M hI125 e122 ⟨(by omega), (by omega), (by omega), (by omega), (by omega), (by omega), (by omega), (by omega), (by omega), (by omega), (by omega), (by omega), (by omega), (by omega), (Or.inl rfl)⟩ eT cT eD eG (by omega) (by omega) (by omega) hDI.2.1) ⟨(callB_of 0 (tb_one (wd_1122 hB _)) tb_good1 rfl rfl rfl (wd_82 hB _) (wd_1119 hB _) (by decide +kernel) ⟨Nat.le_of_ble_eq_true rfl, Nat.le_of_ble_eq_true rfl⟩), (wd_1121 hB _), (wd_45 hB _)⟩ ⟨pe_bl, pg_recv (ci := 10) hK hP (lo_in hL t_M (by decide)) e122 rfl, pe_pre hB hK hP hD⟩ rfl rfl hl.1 rfl (lv_room (Nat.le_of_ble_eq_true rfl)) d_M_statement_233 ⟨Nat.le_of_ble_eq_true rfl, Nat.le_of_ble_eq_true rfl⟩) hS (fun r126 f127 H locs hq128 hP hD hS => ?_)
              obtain ⟨rs_129, hI1_130, hu1_131⟩ := hq128
              have hu := hu.tr hu1_131 (by decide)
              have eT := hu1_131.at (lo_k11_1 hL _ t_M) (by decide) eT
              have eB := hu1_131.at (lo_k11_14 hL _ t_M) (by decide) eB
              have eK := hu1_131.at (lo_k11_15 hL _ t_M) (by decide) eK
              rcases rs_129 with ⟨a_132, n_133, d_134, g_135, c136, c137, c138, c139, c140, c141, c142, c143, c144, c145, c146, e147, e148, e149, rfl⟩ | ⟨c154, ⟨ix_150, dp_151, dr_152, wt_153, c155, c156, c157, c158, e159⟩, rfl⟩
              · skip
                refine lv_istore_n (lv' := [(2, .int (nI 1)), (1, .int (nxm hT mn mix)), (0, .ref M)]) hx hb d_M_statement_236 rfl hl (by decide) rfl (fun ls hl => ?_)
                refine lv_aload_n hx hb d_M_statement_237 rfl (lv_at hl 2 rfl) ?_
                refine lv_bipush (v := nI 8) hx hb d_M_statement_238 (by decide) ?_
                refine lv_iload_n hx hb d_M_statement_240 rfl (lv_at hl 1 rfl) ?_
                refine lv_bipush (v := nI 97) hx hb d_M_statement_241 (by decide) ?_
                refine lv_isub hx hb d_M_statement_243 ?_
                refine lv_topi (fun z_ hz_ => ?_)
                obtain rfl : z_ = nI vn := hz_.trans qvn
                refine pcc_v (va_runV (C := "BigRunnerModel") (As := [.int (nI 8), .int (nI vn)]) (rest := []) ⟨hx, hb, hml, hown, tb_nil⟩ (m_put l g H.size f127 M mth mn n_133 msz a_132 mdp 0 mop mtp mwa mgi mpc mst mtr msp mma mlg ((nI 0)) d_134 g_135 8 ((nI vn)) hL t_M hI1_130 e147 ⟨(by omega), (by omega), (by omega), (by omega), (by omega), (by omega), (by omega), (by omega), (by omega), (by omega), (by omega), (by omega), (by omega), (by omega), (Or.inl rfl)⟩ e148 e149 (by omega)) ⟨(callB_of 2 (tb_one (wd_1115 hB _)) tb_good1 rfl rfl rfl (wd_82 hB _) (wd_1112 hB _) (by decide +kernel) ⟨Nat.le_of_ble_eq_true rfl, Nat.le_of_ble_eq_true rfl⟩), (wd_1114 hB _), (wd_44 hB _)⟩ ⟨pe_bl, pg_recv (ci := 10) hK hP (lo_in hL t_M (by decide)) e147 rfl, pe_pre hB hK hP hD⟩ rfl rfl hl.1 rfl (lv_room (Nat.le_of_ble_eq_true rfl)) d_M_statement_244 ⟨Nat.le_of_ble_eq_true rfl, Nat.le_of_ble_eq_true rfl⟩) hS (fun f161 H locs hq162 hP hD hS => ?_)
                obtain ⟨x1_163, xd_164, xg_165, hI1_166, hu1_167⟩ := hq162
                have hu := hu.tr hu1_167 (by decide)
                have eT := hu1_167.at (lo_k11_1 hL _ t_M) (by decide) eT
                have eB := hu1_167.at (lo_k11_14 hL _ t_M) (by decide) eB
                have eK := hu1_167.at (lo_k11_15 hL _ t_M) (by decide) eK
                refine lv_iload_n hx hb d_M_statement_247 rfl (lv_at hl 0 rfl) ?_
                have hvv9 : (vc hT mn) mix - 97 = vn := by rw [vcm hl9]; exact vc_nm (kc_6.mp hkc6).1 (kc_6.mp hkc6).2 hvn qvn
                exact pe_zret hx hb hr hlocks hK hP hD hS d_M_statement_248 rfl ⟨(Or.inl ⟨0, a_132, mop, mdp, n_133 + 1, 0, _, _, _, _, (fun F => by rw [py_rT, if_neg tq8, if_neg (fun z => z.elim tq10 tq12), if_neg tq9, if_pos ⟨tq6, tq17⟩, c136]; rfl), by omega, by omega, by omega, by omega, by omega, by omega, by omega, by omega, (DI_st hDI c143 c144 c141 (by omega) (by omega) (by omega) c142 (Or.inl rfl) hvn), ⟨D9 ++ oy_e (tk hT mn) (vc hT mn) 400 (mix + 1 + 1) [] true ++ [(8, (vc hT mn) mix - 97)], (by rw [List.length_append, List.length_append, List.length_singleton]; omega), (by rw [hvv9]; exact (DS_put (DS_cat hDS (by omega) c143 c144 c146) (by rw [List.length_append]; omega))), E8_put8 (E8_ex hE8 c143 c141) c142, (fun F => by rw [oy_rT, if_neg tq8, if_neg (fun z => z.elim tq10 tq12), if_neg tq9, if_pos ⟨tq6, tq17⟩, c136]; rfl)⟩, x1_163, xd_164, xg_165, eB, eK, rfl⟩), hI1_166, hu⟩
              · skip
                refine lv_istore_n (lv' := [(2, .int (nI 0)), (1, .int (nxm hT mn mix)), (0, .ref M)]) hx hb d_M_statement_236 rfl hl (by decide) rfl (fun ls hl => ?_)
                refine lv_aload_n hx hb d_M_statement_237 rfl (lv_at hl 2 rfl) ?_
                refine lv_bipush (v := nI 8) hx hb d_M_statement_238 (by decide) ?_
                refine lv_iload_n hx hb d_M_statement_240 rfl (lv_at hl 1 rfl) ?_
                refine lv_bipush (v := nI 97) hx hb d_M_statement_241 (by decide) ?_
                refine lv_isub hx hb d_M_statement_243 ?_
                refine lv_topi (fun z_ hz_ => ?_)
                obtain rfl : z_ = nI vn := hz_.trans qvn
                obtain ⟨h_169, e168⟩ := oc_41.of (lo_k11_3 hL _ t_M) (hI1_130.1 (g.lk M 3))
                obtain ⟨h_172, e171⟩ := oc_42.of (lo_k11_4 hL _ t_M) (hI1_130.1 (g.lk M 4))
                refine pcc_v (va_runV (C := "BigRunnerModel") (As := [.int (nI 8), .int (nI vn)]) (rest := []) ⟨hx, hb, hml, hown, tb_nil⟩ (m_put l g H.size f127 M mth mn dr_152 msz ix_150 dp_151 wt_153 mop mtp mwa mgi mpc mst mtr msp mma mlg ((nI 0)) h_169 h_172 8 ((nI vn)) hL t_M hI1_130 e159 ⟨(by omega), (by omega), (by omega), (by omega), (by omega), (by omega), (by omega), (by omega), (by omega), (by omega), (by omega), (by omega), (by omega), (by omega), (Or.inl rfl)⟩ e168 e171 (by omega)) ⟨(callB_of 2 (tb_one (wd_1115 hB _)) tb_good1 rfl rfl rfl (wd_82 hB _) (wd_1112 hB _) (by decide +kernel) ⟨Nat.le_of_ble_eq_true rfl, Nat.le_of_ble_eq_true rfl⟩), (wd_1114 hB _), (wd_44 hB _)⟩ ⟨pe_bl, pg_recv (ci := 10) hK hP (lo_in hL t_M (by decide)) e159 rfl, pe_pre hB hK hP hD⟩ rfl rfl hl.1 rfl (lv_room (Nat.le_of_ble_eq_true rfl)) d_M_statement_244 ⟨Nat.le_of_ble_eq_true rfl, Nat.le_of_ble_eq_true rfl⟩) hS (fun f175 H locs hq176 hP hD hS => ?_)
                obtain ⟨x1_177, xd_178, xg_179, hI1_180, hu1_181⟩ := hq176
                have hu := hu.tr hu1_181 (by decide)
                have eT := hu1_181.at (lo_k11_1 hL _ t_M) (by decide) eT
                have eB := hu1_181.at (lo_k11_14 hL _ t_M) (by decide) eB
                have eK := hu1_181.at (lo_k11_15 hL _ t_M) (by decide) eK
                refine lv_iload_n hx hb d_M_statement_247 rfl (lv_at hl 0 rfl) ?_
                exact pe_zret hx hb hr hlocks hK hP hD hS d_M_statement_248 rfl ⟨(Or.inr ⟨(fun F => by rw [py_rT, if_neg tq8, if_neg (fun z => z.elim tq10 tq12), if_neg tq9, if_pos ⟨tq6, tq17⟩, c154]), ⟨0, ix_150, mop, dp_151, dr_152 + 1, wt_153, by omega, by omega, by omega, by omega, by omega, by omega, x1_177⟩, rfl⟩), hI1_180, hu⟩
            · skip
              have tq17 : tk hT mn (mix + 1) ≠ 17 := fun z => b120 (kc_17.mp ((tkm hT mn (mix + 1)).trans z))
              refine lv_iconst (v := nI 0) hx hb d_M_statement_220 (by decide) ?_
              exact pe_zret hx hb hr hlocks hK hP hD hS d_M_statement_221 rfl ⟨(Or.inr ⟨(fun F => by rw [py_rT, if_neg tq8, if_neg (fun z => z.elim tq10 tq12), if_neg tq9, if_neg (fun z => tq17 z.2)]), ⟨0, mix + 1, mop, mdp, mdr, mwt, by omega, by omega, by omega, by omega, by omega, by omega, e6⟩, rfl⟩), hI104, hu⟩
        · skip
          have tq9 : tk hT mn mix = 9 := (tkm hT mn mix).symm.trans (kc_9.mpr b103)
          have hl9 : mix < mn := tk_in (h := hT) (by omega)
          refine lv_aload_n hx hb d_M_statement_190 rfl (lv_at hl 1 rfl) ?_
          have hI182 := iv_1 hI hL t_M (by decide) hk8 (oc_11.mk t_M (⟨mth, mn, mdr, msz, (mix + 1), mdp, mwt, mop, mtp, mwa, mgi, mpc, mst, mtr, msp, mma, mlg, ((nI 0)), e6, (by omega), (by omega), (by omega), (by omega), (by omega), (by omega), (by omega), (by omega), (by omega), (by omega), (by omega), (by omega), (by omega), (by omega), (Or.inl rfl)⟩))
          refine pcc_i (va_runV (C := "BigRunnerModel") (As := []) (rest := []) ⟨hx, hb, hml, hown, tb_nil⟩ (m2_expr l g H.size f5 M mth mn mdr msz ((mix + 1)) mdp mwt mop mtp mwa mgi mpc mst mtr msp mma mlg ((nI 0)) hT hQ hG hL t_M hI182 e6 ⟨(by omega), (by omega), (by omega), (by omega), (by omega), (by omega), (by omega), (by omega), (by omega), (by omega), (by omega), (by omega), (by omega), (by omega), (Or.inl rfl)⟩ eT cT eD eG (by omega) (by omega) (by omega) hDI.2.1) ⟨(callB_of 0 (tb_one (wd_1122 hB _)) tb_good1 rfl rfl rfl (wd_82 hB _) (wd_1119 hB _) (by decide +kernel) ⟨Nat.le_of_ble_eq_true rfl, Nat.le_of_ble_eq_true rfl⟩), (wd_1121 hB _), (wd_45 hB _)⟩ ⟨pe_bl, pg_recv (ci := 10) hK hP (lo_in hL t_M (by decide)) e6 rfl, pe_pre hB hK hP hD⟩ rfl rfl hl.1 rfl (lv_room (Nat.le_of_ble_eq_true rfl)) d_M_statement_191 ⟨Nat.le_of_ble_eq_true rfl, Nat.le_of_ble_eq_true rfl⟩) hS (fun r183 f184 H locs hq185 hP hD hS => ?_)
          obtain ⟨rs_186, hI1_187, hu1_188⟩ := hq185
          have hu := hu.tr hu1_188 (by decide)
          have eT := hu1_188.at (lo_k11_1 hL _ t_M) (by decide) eT
          have eB := hu1_188.at (lo_k11_14 hL _ t_M) (by decide) eB
          have eK := hu1_188.at (lo_k11_15 hL _ t_M) (by decide) eK
          rcases rs_186 with ⟨a_189, n_190, d_191, g_192, c193, c194, c195, c196, c197, c198, c199, c200, c201, c202, c203, e204, e205, e206, rfl⟩ | ⟨c211, ⟨ix_207, dp_208, dr_209, wt_210, c212, c213, c214, c215, e216⟩, rfl⟩
          · skip
            refine lv_istore_n (lv' := [(2, .int (nI 1)), (1, .int (nxm hT mn mix)), (0, .ref M)]) hx hb d_M_statement_194 rfl hl (by decide) rfl (fun ls hl => ?_)
            refine lv_aload_n hx hb d_M_statement_195 rfl (lv_at hl 2 rfl) ?_
            refine lv_bipush (v := nI 10) hx hb d_M_statement_196 (by decide) ?_
            refine lv_iconst (v := nI 0) hx hb d_M_statement_198 (by decide) ?_
            refine pcc_v (va_runV (C := "BigRunnerModel") (As := [.int (nI 10), .int (nI 0)]) (rest := []) ⟨hx, hb, hml, hown, tb_nil⟩ (m_put l g H.size f184 M mth mn n_190 msz a_189 mdp 0 mop mtp mwa mgi mpc mst mtr msp mma mlg ((nI 0)) d_191 g_192 10 ((nI 0)) hL t_M hI1_187 e204 ⟨(by omega), (by omega), (by omega), (by omega), (by omega), (by omega), (by omega), (by omega), (by omega), (by omega), (by omega), (by omega), (by omega), (by omega), (Or.inl rfl)⟩ e205 e206 (by omega)) ⟨(callB_of 2 (tb_one (wd_1115 hB _)) tb_good1 rfl rfl rfl (wd_82 hB _) (wd_1112 hB _) (by decide +kernel) ⟨Nat.le_of_ble_eq_true rfl, Nat.le_of_ble_eq_true rfl⟩), (wd_1114 hB _), (wd_44 hB _)⟩ ⟨pe_bl, pg_recv (ci := 10) hK hP (lo_in hL t_M (by decide)) e204 rfl, pe_pre hB hK hP hD⟩ rfl rfl hl.1 rfl (lv_room (Nat.le_of_ble_eq_true rfl)) d_M_statement_199 ⟨Nat.le_of_ble_eq_true rfl, Nat.le_of_ble_eq_true rfl⟩) hS (fun f218 H locs hq219 hP hD hS => ?_)
            obtain ⟨x1_220, xd_221, xg_222, hI1_223, hu1_224⟩ := hq219
            have hu := hu.tr hu1_224 (by decide)
            have eT := hu1_224.at (lo_k11_1 hL _ t_M) (by decide) eT
            have eB := hu1_224.at (lo_k11_14 hL _ t_M) (by decide) eB
            have eK := hu1_224.at (lo_k11_15 hL _ t_M) (by decide) eK
            refine lv_iload_n hx hb d_M_statement_202 rfl (lv_at hl 0 rfl) ?_
            exact pe_zret hx hb hr hlocks hK hP hD hS d_M_statement_203 rfl ⟨(Or.inl ⟨0, a_189, mop, mdp, n_190 + 1, 0, _, _, _, _, (fun F => by rw [py_rT, if_neg tq8, if_neg (fun z => z.elim tq10 tq12), if_pos tq9, c193]; rfl), by omega, by omega, by omega, by omega, by omega, by omega, by omega, by omega, (DI_st hDI c200 c201 c198 (by omega) (by omega) (by omega) c199 (Or.inr rfl) (by decide)), ⟨D9 ++ oy_e (tk hT mn) (vc hT mn) 400 (mix + 1) [] true ++ [(10, 0)], (by rw [List.length_append, List.length_append, List.length_singleton]; omega), (DS_put (DS_cat hDS (by omega) c200 c201 c203) (by rw [List.length_append]; omega)), E8_put (E8_ex hE8 c200 c198) (by decide) (by decide), (fun F => by rw [oy_rT, if_neg tq8, if_neg (fun z => z.elim tq10 tq12), if_pos tq9, c193]; rfl)⟩, x1_220, xd_221, xg_222, eB, eK, rfl⟩), hI1_223, hu⟩
          · skip
            refine lv_istore_n (lv' := [(2, .int (nI 0)), (1, .int (nxm hT mn mix)), (0, .ref M)]) hx hb d_M_statement_194 rfl hl (by decide) rfl (fun ls hl => ?_)
            refine lv_aload_n hx hb d_M_statement_195 rfl (lv_at hl 2 rfl) ?_
            refine lv_bipush (v := nI 10) hx hb d_M_statement_196 (by decide) ?_
            refine lv_iconst (v := nI 0) hx hb d_M_statement_198 (by decide) ?_
            obtain ⟨h_226, e225⟩ := oc_41.of (lo_k11_3 hL _ t_M) (hI1_187.1 (g.lk M 3))
            obtain ⟨h_229, e228⟩ := oc_42.of (lo_k11_4 hL _ t_M) (hI1_187.1 (g.lk M 4))
            refine pcc_v (va_runV (C := "BigRunnerModel") (As := [.int (nI 10), .int (nI 0)]) (rest := []) ⟨hx, hb, hml, hown, tb_nil⟩ (m_put l g H.size f184 M mth mn dr_209 msz ix_207 dp_208 wt_210 mop mtp mwa mgi mpc mst mtr msp mma mlg ((nI 0)) h_226 h_229 10 ((nI 0)) hL t_M hI1_187 e216 ⟨(by omega), (by omega), (by omega), (by omega), (by omega), (by omega), (by omega), (by omega), (by omega), (by omega), (by omega), (by omega), (by omega), (by omega), (Or.inl rfl)⟩ e225 e228 (by omega)) ⟨(callB_of 2 (tb_one (wd_1115 hB _)) tb_good1 rfl rfl rfl (wd_82 hB _) (wd_1112 hB _) (by decide +kernel) ⟨Nat.le_of_ble_eq_true rfl, Nat.le_of_ble_eq_true rfl⟩), (wd_1114 hB _), (wd_44 hB _)⟩ ⟨pe_bl, pg_recv (ci := 10) hK hP (lo_in hL t_M (by decide)) e216 rfl, pe_pre hB hK hP hD⟩ rfl rfl hl.1 rfl (lv_room (Nat.le_of_ble_eq_true rfl)) d_M_statement_199 ⟨Nat.le_of_ble_eq_true rfl, Nat.le_of_ble_eq_true rfl⟩) hS (fun f232 H locs hq233 hP hD hS => ?_)
            obtain ⟨x1_234, xd_235, xg_236, hI1_237, hu1_238⟩ := hq233
            have hu := hu.tr hu1_238 (by decide)
            have eT := hu1_238.at (lo_k11_1 hL _ t_M) (by decide) eT
            have eB := hu1_238.at (lo_k11_14 hL _ t_M) (by decide) eB
            have eK := hu1_238.at (lo_k11_15 hL _ t_M) (by decide) eK
            refine lv_iload_n hx hb d_M_statement_202 rfl (lv_at hl 0 rfl) ?_
            exact pe_zret hx hb hr hlocks hK hP hD hS d_M_statement_203 rfl ⟨(Or.inr ⟨(fun F => by rw [py_rT, if_neg tq8, if_neg (fun z => z.elim tq10 tq12), if_pos tq9, c211]), ⟨0, ix_207, mop, dp_208, dr_209 + 1, wt_210, by omega, by omega, by omega, by omega, by omega, by omega, x1_234⟩, rfl⟩), hI1_237, hu⟩
      · skip
        have tq12 : tk hT mn mix = 12 := (tkm hT mn mix).symm.trans (kc_12.mpr b102)
        have hl9 : mix < mn := tk_in (h := hT) (by omega)
        refine lv_aload_n hx hb d_M_statement_63 rfl (lv_at hl 1 rfl) ?_
        refine pf_get (v := .ref (g.lk M 14)) (C := "BigRunnerModel") (T := FT10) (N := 45) hx hb (hw10 hB _) (fun _ h9 => h9) hown hK hP (lo_in hL t_M (by decide)) e6 rfl 14 (by decide) (wd_961 hB _) rfl d_M_statement_64 ?_
        refine lv_aload_n hx hb d_M_statement_67 rfl (lv_at hl 1 rfl) ?_
        refine pf_get (v := .int (nI mop)) (C := "BigRunnerModel") (T := FT10) (N := 45) hx hb (hw10 hB _) (fun _ h9 => h9) hown hK hP (lo_in hL t_M (by decide)) e6 rfl 16 (by decide) (wd_963 hB _) rfl d_M_statement_68 ?_
        refine lv_aload_n hx hb d_M_statement_71 rfl (lv_at hl 1 rfl) ?_
        refine pf_get (v := .int (nI mdr)) (C := "BigRunnerModel") (T := FT10) (N := 45) hx hb (hw10 hB _) (fun _ h9 => h9) hown hK hP (lo_in hL t_M (by decide)) e6 rfl 5 (by decide) (wd_952 hB _) rfl d_M_statement_72 ?_
        have hI239 := iv_1 hI hL t_M (by decide) hk8 (oc_11.mk t_M (⟨mth, mn, mdr, msz, (mix + 1), mdp, mwt, mop, mtp, mwa, mgi, mpc, mst, mtr, msp, mma, mlg, ((nI 0)), e6, (by omega), (by omega), (by omega), (by omega), (by omega), (by omega), (by omega), (by omega), (by omega), (by omega), (by omega), (by omega), (by omega), (by omega), (Or.inl rfl)⟩))
        refine pf_iast (i := mop) hx hb hK hP hD hS (lo_in hL (lo_k11_14 hL _ t_M) (by decide)) eB (lo_t47 hL _ (lo_k11_14 hL _ t_M)) (by omega) (by decide) d_M_statement_75 (fun f240 H locs e241 k242 hP hD hS => ?_)
        have eT := (k242 (g.lk M 1) (tg_ne (lo_k11_1 hL _ t_M) (lo_k11_14 hL _ t_M) (by decide))).trans eT
        have eD := (k242 (g.lk M 3) (tg_ne (lo_k11_3 hL _ t_M) (lo_k11_14 hL _ t_M) (by decide))).trans eD
        have eG := (k242 (g.lk M 4) (tg_ne (lo_k11_4 hL _ t_M) (lo_k11_14 hL _ t_M) (by decide))).trans eG
        have eK := (k242 (g.lk M 15) (tg_ne (lo_k11_15 hL _ t_M) (lo_k11_14 hL _ t_M) (by decide))).trans eK
        have e6 := (k242 M (tg_ne t_M (lo_k11_14 hL _ t_M) (by decide))).trans e6
        have hu := hu.st k242 (lo_k11_14 hL _ t_M) (by decide)
        have hk243 : ∀ b, b ≠ (g.lk M 14) → f240 b = f5 b := k242
        refine lv_aload_n hx hb d_M_statement_76 rfl (lv_at hl 1 rfl) ?_
        have hI244 := iv_1 hI239 hL (lo_k11_14 hL _ t_M) (by decide) hk243 (oc_47.mk (lo_k11_14 hL _ t_M) (⟨_, e241⟩))
        refine pcc_i (va_runV (C := "BigRunnerModel") (As := []) (rest := []) ⟨hx, hb, hml, hown, tb_nil⟩ (m2_expr l g H.size f240 M mth mn mdr msz ((mix + 1)) mdp mwt mop mtp mwa mgi mpc mst mtr msp mma mlg ((nI 0)) hT hQ hG hL t_M hI244 e6 ⟨(by omega), (by omega), (by omega), (by omega), (by omega), (by omega), (by omega), (by omega), (by omega), (by omega), (by omega), (by omega), (by omega), (by omega), (Or.inl rfl)⟩ eT cT eD eG (by omega) (by omega) (by omega) hDI.2.1) ⟨(callB_of 0 (tb_one (wd_1122 hB _)) tb_good1 rfl rfl rfl (wd_82 hB _) (wd_1119 hB _) (by decide +kernel) ⟨Nat.le_of_ble_eq_true rfl, Nat.le_of_ble_eq_true rfl⟩), (wd_1121 hB _), (wd_45 hB _)⟩ ⟨pe_bl, pg_recv (ci := 10) hK hP (lo_in hL t_M (by decide)) e6 rfl, pe_pre hB hK hP hD⟩ rfl rfl hl.1 rfl (lv_room (Nat.le_of_ble_eq_true rfl)) d_M_statement_77 ⟨Nat.le_of_ble_eq_true rfl, Nat.le_of_ble_eq_true rfl⟩) hS (fun r245 f246 H locs hq247 hP hD hS => ?_)
        obtain ⟨rs_248, hI1_249, hu1_250⟩ := hq247
        have hu := hu.tr hu1_250 (by decide)
        have eT := hu1_250.at (lo_k11_1 hL _ t_M) (by decide) eT
        have eK := hu1_250.at (lo_k11_15 hL _ t_M) (by decide) eK
        have e241 := hu1_250.at (lo_k11_14 hL _ t_M) (by decide) e241
        rcases rs_248 with ⟨a_251, n_252, d_253, g_254, c255, c256, c257, c258, c259, c260, c261, c262, c263, c264, c265, e266, e267, e268, rfl⟩ | ⟨c273, ⟨ix_269, dp_270, dr_271, wt_272, c274, c275, c276, c277, e278⟩, rfl⟩
        · skip
          refine lv_if_eq (tgt := 92) hx hb d_M_statement_80 (by decide) (fun b279 => ?_) (fun b279 => ?_)
          · skip
            replace b279 := (nI_eq (a := 1) (b := 0) (by omega) (by omega)).mp b279
            exfalso; omega
          · skip
            replace b279 := mt (nI_eq (a := 1) (b := 0) (by omega) (by omega)).mpr b279
            refine lv_aload_n hx hb d_M_statement_83 rfl (lv_at hl 1 rfl) ?_
            refine pcc_i (va_runV (C := "BigRunnerModel") (As := []) (rest := []) ⟨hx, hb, hml, hown, tb_nil⟩ (m_here l g H.size f246 M mth mn n_252 msz a_251 mdp 0 mop mtp mwa mgi mpc mst mtr msp mma mlg ((nI 0)) hT hL t_M hI1_249.1 e266 ⟨(by omega), (by omega), (by omega), (by omega), (by omega), (by omega), (by omega), (by omega), (by omega), (by omega), (by omega), (by omega), (by omega), (by omega), (Or.inl rfl)⟩ eT cT) ⟨(callB_of 0 (tb_one (wd_1111 hB _)) tb_good1 rfl rfl rfl (wd_82 hB _) (wd_1108 hB _) (by decide +kernel) ⟨Nat.le_of_ble_eq_true rfl, Nat.le_of_ble_eq_true rfl⟩), (wd_1110 hB _), (wd_43 hB _)⟩ ⟨pe_bl, pg_recv (ci := 10) hK hP (lo_in hL t_M (by decide)) e266 rfl, pe_pre hB hK hP hD⟩ rfl rfl hl.1 rfl (lv_room (Nat.le_of_ble_eq_true rfl)) d_M_statement_84 ⟨Nat.le_of_ble_eq_true rfl, Nat.le_of_ble_eq_true rfl⟩) hS (fun r280 f281 H locs hq282 hP hD hS => ?_)
            obtain ⟨nx_283, rfl⟩ := hq282
            subst nx_283
            refine lv_bipush (v := nI 58) hx hb d_M_statement_87 (by decide) ?_
            refine lv_icmp_eq (tgt := 94) hx hb d_M_statement_89 (by decide) (fun b284 => ?_) (fun b284 => ?_)
            · skip
              have tq15 : tk hT mn a_251 = 15 := (tkm hT mn a_251).symm.trans (kc_15.mpr b284)
              have hl8 : a_251 < mn := tk_in (h := hT) (by omega)
              refine lv_aload_n hx hb d_M_statement_94 rfl (lv_at hl 1 rfl) ?_
              refine lv_dup hx hb d_M_statement_95 rfl ?_
              refine pf_get (v := .int (nI a_251)) (C := "BigRunnerModel") (T := FT10) (N := 45) hx hb (hw10 hB _) (fun _ h9 => h9) hown hK hP (lo_in hL t_M (by decide)) e266 rfl 10 (by decide) (wd_957 hB _) rfl d_M_statement_96 ?_
              refine lv_iconst (v := nI 1) hx hb d_M_statement_99 (by decide) ?_
              refine pf_iaddN (x := a_251) (y := 1) hx hb d_M_statement_100 ?_
              refine pf_put (v := .int (nI (a_251 + 1))) (ty := .int) (fs' := [.int mth, .ref (g.lk M 1), .int (nI mn), .ref (g.lk M 3), .ref (g.lk M 4), .int (nI n_252), .ref (g.lk M 6), .ref (g.lk M 7), .ref (g.lk M 8), .int (nI msz), .int (nI (a_251 + 1)), .int (nI mdp), .ref (g.lk M 12), .int (nI 0), .ref (g.lk M 14), .ref (g.lk M 15), .int (nI mop), .ref (g.lk M 17), .ref (g.lk M 18), .ref (g.lk M 19), .ref (g.lk M 20), .ref (g.lk M 21), .ref (g.lk M 22), .ref (g.lk M 23), .ref (g.lk M 24), .ref (g.lk M 25), .ref (g.lk M 26), .ref (g.lk M 27), .ref (g.lk M 28), .ref (g.lk M 29), .ref (g.lk M 30), .ref (g.lk M 31), .int (nI mtp), .ref (g.lk M 33), .ref (g.lk M 34), .ref (g.lk M 35), .int (nI mwa), .int (nI mgi), .int (nI mpc), .int (nI mst), .int (nI mtr), .int (nI msp), .int mma, .int mlg, .int (nI 0)]) (C := "BigRunnerModel") (T := FT10) (N := 45) hx hb (hw10 hB _) (fun _ h9 => h9) TY10 ok10 nm10 hown hK hP hD hS (lo_in hL t_M (by decide)) e266 rfl 10 (by decide) (wd_957 hB _) rfl (by decide +kernel) rfl rfl (Nat.le_of_ble_eq_true rfl) rfl d_M_statement_101 (fun f285 H locs e286 k287 hP hD hS => ?_)
              have eT := (k287 (g.lk M 1) (tg_ne (lo_k11_1 hL _ t_M) t_M (by decide))).trans eT
              have eK := (k287 (g.lk M 15) (tg_ne (lo_k11_15 hL _ t_M) t_M (by decide))).trans eK
              have e241 := (k287 (g.lk M 14) (tg_ne (lo_k11_14 hL _ t_M) t_M (by decide))).trans e241
              have e267 := (k287 (g.lk M 3) (tg_ne (lo_k11_3 hL _ t_M) t_M (by decide))).trans e267
              have e268 := (k287 (g.lk M 4) (tg_ne (lo_k11_4 hL _ t_M) t_M (by decide))).trans e268
              have hu := hu.st k287 t_M (by decide)
              have hk288 : ∀ b, b ≠ M → f285 b = f246 b := k287
              refine lv_aload_n hx hb d_M_statement_104 rfl (lv_at hl 1 rfl) ?_
              refine pf_get (v := .ref (g.lk M 15)) (C := "BigRunnerModel") (T := FT10) (N := 45) hx hb (hw10 hB _) (fun _ h9 => h9) hown hK hP (lo_in hL t_M (by decide)) e286 rfl 15 (by decide) (wd_962 hB _) rfl d_M_statement_105 ?_
              refine lv_aload_n hx hb d_M_statement_108 rfl (lv_at hl 1 rfl) ?_
              refine pf_get (v := .int (nI mop)) (C := "BigRunnerModel") (T := FT10) (N := 45) hx hb (hw10 hB _) (fun _ h9 => h9) hown hK hP (lo_in hL t_M (by decide)) e286 rfl 16 (by decide) (wd_963 hB _) rfl d_M_statement_109 ?_
              refine lv_iload_n hx hb d_M_statement_112 rfl (lv_at hl 0 rfl) ?_
              have hI289 := iv_1 hI1_249 hL t_M (by decide) hk288 (oc_11.mk t_M (⟨mth, mn, n_252, msz, (a_251 + 1), mdp, 0, mop, mtp, mwa, mgi, mpc, mst, mtr, msp, mma, mlg, ((nI 0)), e286, (by omega), (by omega), (by omega), (by omega), (by omega), (by omega), (by omega), (by omega), (by omega), (by omega), (by omega), (by omega), (by omega), (by omega), (Or.inl rfl)⟩))
              refine pf_iast (i := mop) hx hb hK hP hD hS (lo_in hL (lo_k11_15 hL _ t_M) (by decide)) eK (lo_t48 hL _ (lo_k11_15 hL _ t_M)) (by omega) (by decide) d_M_statement_113 (fun f290 H locs e291 k292 hP hD hS => ?_)
              have eT := (k292 (g.lk M 1) (tg_ne (lo_k11_1 hL _ t_M) (lo_k11_15 hL _ t_M) (by decide))).trans eT
              have e241 := (k292 (g.lk M 14) (tg_ne (lo_k11_14 hL _ t_M) (lo_k11_15 hL _ t_M) (by decide))).trans e241
              have e267 := (k292 (g.lk M 3) (tg_ne (lo_k11_3 hL _ t_M) (lo_k11_15 hL _ t_M) (by decide))).trans e267
              have e268 := (k292 (g.lk M 4) (tg_ne (lo_k11_4 hL _ t_M) (lo_k11_15 hL _ t_M) (by decide))).trans e268
              have e286 := (k292 M (tg_ne t_M (lo_k11_15 hL _ t_M) (by decide))).trans e286
              have hu := hu.st k292 (lo_k11_15 hL _ t_M) (by decide)
              have hk293 : ∀ b, b ≠ (g.lk M 15) → f290 b = f285 b := k292
              refine lv_aload_n hx hb d_M_statement_114 rfl (lv_at hl 1 rfl) ?_
              refine lv_bipush (v := nI 11) hx hb d_M_statement_115 (by decide) ?_
              refine lv_aload_n hx hb d_M_statement_117 rfl (lv_at hl 1 rfl) ?_
              refine pf_get (v := .ref (g.lk M 14)) (C := "BigRunnerModel") (T := FT10) (N := 45) hx hb (hw10 hB _) (fun _ h9 => h9) hown hK hP (lo_in hL t_M (by decide)) e286 rfl 14 (by decide) (wd_961 hB _) rfl d_M_statement_118 ?_
              refine lv_aload_n hx hb d_M_statement_121 rfl (lv_at hl 1 rfl) ?_
              refine pf_get (v := .int (nI mop)) (C := "BigRunnerModel") (T := FT10) (N := 45) hx hb (hw10 hB _) (fun _ h9 => h9) hown hK hP (lo_in hL t_M (by decide)) e286 rfl 16 (by decide) (wd_963 hB _) rfl d_M_statement_122 ?_
              refine pf_iald (i := mop) hx hb hK hP (lo_in hL (lo_k11_14 hL _ t_M) (by decide)) e241 (lo_t47 hL _ (lo_k11_14 hL _ t_M)) (by omega) (by decide) d_M_statement_125 ?_
              refine lv_topi (fun z_ hz_ => ?_)
              obtain rfl : z_ = nI mdr := hz_.trans (upd_at _ _ _)
              have hI294 := iv_1 hI289 hL (lo_k11_15 hL _ t_M) (by decide) hk293 (oc_48.mk (lo_k11_15 hL _ t_M) (⟨_, e291⟩))
              refine pcc_v (va_runV (C := "BigRunnerModel") (As := [.int (nI 11), .int (nI mdr)]) (rest := []) ⟨hx, hb, hml, hown, tb_nil⟩ (m_put l g H.size f290 M mth mn n_252 msz ((a_251 + 1)) mdp 0 mop mtp mwa mgi mpc mst mtr msp mma mlg ((nI 0)) d_253 g_254 11 ((nI mdr)) hL t_M hI294 e286 ⟨(by omega), (by omega), (by omega), (by omega), (by omega), (by omega), (by omega), (by omega), (by omega), (by omega), (by omega), (by omega), (by omega), (by omega), (Or.inl rfl)⟩ e267 e268 (by omega)) ⟨(callB_of 2 (tb_one (wd_1115 hB _)) tb_good1 rfl rfl rfl (wd_82 hB _) (wd_1112 hB _) (by decide +kernel) ⟨Nat.le_of_ble_eq_true rfl, Nat.le_of_ble_eq_true rfl⟩), (wd_1114 hB _), (wd_44 hB _)⟩ ⟨pe_bl, pg_recv (ci := 10) hK hP (lo_in hL t_M (by decide)) e286 rfl, pe_pre hB hK hP hD⟩ rfl rfl hl.1 rfl (lv_room (Nat.le_of_ble_eq_true rfl)) d_M_statement_126 ⟨Nat.le_of_ble_eq_true rfl, Nat.le_of_ble_eq_true rfl⟩) hS (fun f296 H locs hq297 hP hD hS => ?_)
              obtain ⟨x1_298, xd_299, xg_300, hI1_301, hu1_302⟩ := hq297
              have hu := hu.tr hu1_302 (by decide)
              have eT := hu1_302.at (lo_k11_1 hL _ t_M) (by decide) eT
              have e241 := hu1_302.at (lo_k11_14 hL _ t_M) (by decide) e241
              have e291 := hu1_302.at (lo_k11_15 hL _ t_M) (by decide) e291
              refine lv_aload_n hx hb d_M_statement_129 rfl (lv_at hl 1 rfl) ?_
              refine pf_get (v := .ref (g.lk M 14)) (C := "BigRunnerModel") (T := FT10) (N := 45) hx hb (hw10 hB _) (fun _ h9 => h9) hown hK hP (lo_in hL t_M (by decide)) x1_298 rfl 14 (by decide) (wd_961 hB _) rfl d_M_statement_130 ?_
              refine lv_aload_n hx hb d_M_statement_133 rfl (lv_at hl 1 rfl) ?_
              refine pf_get (v := .int (nI mop)) (C := "BigRunnerModel") (T := FT10) (N := 45) hx hb (hw10 hB _) (fun _ h9 => h9) hown hK hP (lo_in hL t_M (by decide)) x1_298 rfl 16 (by decide) (wd_963 hB _) rfl d_M_statement_134 ?_
              refine lv_aload_n hx hb d_M_statement_137 rfl (lv_at hl 1 rfl) ?_
              refine pf_get (v := .int (nI (n_252 + 1))) (C := "BigRunnerModel") (T := FT10) (N := 45) hx hb (hw10 hB _) (fun _ h9 => h9) hown hK hP (lo_in hL t_M (by decide)) x1_298 rfl 5 (by decide) (wd_952 hB _) rfl d_M_statement_138 ?_
              refine lv_iconst (v := nI 1) hx hb d_M_statement_141 (by decide) ?_
              refine pf_isubN (x := n_252 + 1) (y := 1) hx hb (by omega) d_M_statement_142 ?_
              refine lv_topi (fun z_ hz_ => ?_)
              obtain rfl : z_ = nI (n_252) := hz_.trans (congrArg nI (show (n_252 + 1) - 1 = n_252 by omega))
              refine pf_iast (i := mop) hx hb hK hP hD hS (lo_in hL (lo_k11_14 hL _ t_M) (by decide)) e241 (lo_t47 hL _ (lo_k11_14 hL _ t_M)) (by omega) (by decide) d_M_statement_143 (fun f303 H locs e304 k305 hP hD hS => ?_)
              have eT := (k305 (g.lk M 1) (tg_ne (lo_k11_1 hL _ t_M) (lo_k11_14 hL _ t_M) (by decide))).trans eT
              have e291 := (k305 (g.lk M 15) (tg_ne (lo_k11_15 hL _ t_M) (lo_k11_14 hL _ t_M) (by decide))).trans e291
              have x1_298 := (k305 M (tg_ne t_M (lo_k11_14 hL _ t_M) (by decide))).trans x1_298
              have xd_299 := (k305 (g.lk M 3) (tg_ne (lo_k11_3 hL _ t_M) (lo_k11_14 hL _ t_M) (by decide))).trans xd_299
              have xg_300 := (k305 (g.lk M 4) (tg_ne (lo_k11_4 hL _ t_M) (lo_k11_14 hL _ t_M) (by decide))).trans xg_300
              have hu := hu.st k305 (lo_k11_14 hL _ t_M) (by decide)
              have hk306 : ∀ b, b ≠ (g.lk M 14) → f303 b = f296 b := k305
              refine lv_aload_n hx hb d_M_statement_144 rfl (lv_at hl 1 rfl) ?_
              refine lv_dup hx hb d_M_statement_145 rfl ?_
              refine pf_get (v := .int (nI mop)) (C := "BigRunnerModel") (T := FT10) (N := 45) hx hb (hw10 hB _) (fun _ h9 => h9) hown hK hP (lo_in hL t_M (by decide)) x1_298 rfl 16 (by decide) (wd_963 hB _) rfl d_M_statement_146 ?_
              refine lv_iconst (v := nI 1) hx hb d_M_statement_149 (by decide) ?_
              refine pf_iaddN (x := mop) (y := 1) hx hb d_M_statement_150 ?_
              have hI307 := iv_1 hI1_301 hL (lo_k11_14 hL _ t_M) (by decide) hk306 (oc_47.mk (lo_k11_14 hL _ t_M) (⟨_, e304⟩))
              refine pf_put (v := .int (nI (mop + 1))) (ty := .int) (fs' := [.int mth, .ref (g.lk M 1), .int (nI mn), .ref (g.lk M 3), .ref (g.lk M 4), .int (nI (n_252 + 1)), .ref (g.lk M 6), .ref (g.lk M 7), .ref (g.lk M 8), .int (nI msz), .int (nI (a_251 + 1)), .int (nI mdp), .ref (g.lk M 12), .int (nI 0), .ref (g.lk M 14), .ref (g.lk M 15), .int (nI (mop + 1)), .ref (g.lk M 17), .ref (g.lk M 18), .ref (g.lk M 19), .ref (g.lk M 20), .ref (g.lk M 21), .ref (g.lk M 22), .ref (g.lk M 23), .ref (g.lk M 24), .ref (g.lk M 25), .ref (g.lk M 26), .ref (g.lk M 27), .ref (g.lk M 28), .ref (g.lk M 29), .ref (g.lk M 30), .ref (g.lk M 31), .int (nI mtp), .ref (g.lk M 33), .ref (g.lk M 34), .ref (g.lk M 35), .int (nI mwa), .int (nI mgi), .int (nI mpc), .int (nI mst), .int (nI mtr), .int (nI msp), .int mma, .int mlg, .int (nI 0)]) (C := "BigRunnerModel") (T := FT10) (N := 45) hx hb (hw10 hB _) (fun _ h9 => h9) TY10 ok10 nm10 hown hK hP hD hS (lo_in hL t_M (by decide)) x1_298 rfl 16 (by decide) (wd_963 hB _) rfl (by decide +kernel) rfl rfl (Nat.le_of_ble_eq_true rfl) rfl d_M_statement_151 (fun f308 H locs e309 k310 hP hD hS => ?_)
              have eT := (k310 (g.lk M 1) (tg_ne (lo_k11_1 hL _ t_M) t_M (by decide))).trans eT
              have e291 := (k310 (g.lk M 15) (tg_ne (lo_k11_15 hL _ t_M) t_M (by decide))).trans e291
              have xd_299 := (k310 (g.lk M 3) (tg_ne (lo_k11_3 hL _ t_M) t_M (by decide))).trans xd_299
              have xg_300 := (k310 (g.lk M 4) (tg_ne (lo_k11_4 hL _ t_M) t_M (by decide))).trans xg_300
              have e304 := (k310 (g.lk M 14) (tg_ne (lo_k11_14 hL _ t_M) t_M (by decide))).trans e304
              have hu := hu.st k310 t_M (by decide)
              have hk311 : ∀ b, b ≠ M → f308 b = f303 b := k310
              refine lv_aload_n hx hb d_M_statement_154 rfl (lv_at hl 1 rfl) ?_
              refine lv_dup hx hb d_M_statement_155 rfl ?_
              refine pf_get (v := .int (nI mdp)) (C := "BigRunnerModel") (T := FT10) (N := 45) hx hb (hw10 hB _) (fun _ h9 => h9) hown hK hP (lo_in hL t_M (by decide)) e309 rfl 11 (by decide) (wd_958 hB _) rfl d_M_statement_156 ?_
              refine lv_iconst (v := nI 1) hx hb d_M_statement_159 (by decide) ?_
              refine pf_iaddN (x := mdp) (y := 1) hx hb d_M_statement_160 ?_
              refine pf_put (v := .int (nI (mdp + 1))) (ty := .int) (fs' := [.int mth, .ref (g.lk M 1), .int (nI mn), .ref (g.lk M 3), .ref (g.lk M 4), .int (nI (n_252 + 1)), .ref (g.lk M 6), .ref (g.lk M 7), .ref (g.lk M 8), .int (nI msz), .int (nI (a_251 + 1)), .int (nI (mdp + 1)), .ref (g.lk M 12), .int (nI 0), .ref (g.lk M 14), .ref (g.lk M 15), .int (nI (mop + 1)), .ref (g.lk M 17), .ref (g.lk M 18), .ref (g.lk M 19), .ref (g.lk M 20), .ref (g.lk M 21), .ref (g.lk M 22), .ref (g.lk M 23), .ref (g.lk M 24), .ref (g.lk M 25), .ref (g.lk M 26), .ref (g.lk M 27), .ref (g.lk M 28), .ref (g.lk M 29), .ref (g.lk M 30), .ref (g.lk M 31), .int (nI mtp), .ref (g.lk M 33), .ref (g.lk M 34), .ref (g.lk M 35), .int (nI mwa), .int (nI mgi), .int (nI mpc), .int (nI mst), .int (nI mtr), .int (nI msp), .int mma, .int mlg, .int (nI 0)]) (C := "BigRunnerModel") (T := FT10) (N := 45) hx hb (hw10 hB _) (fun _ h9 => h9) TY10 ok10 nm10 hown hK hP hD hS (lo_in hL t_M (by decide)) e309 rfl 11 (by decide) (wd_958 hB _) rfl (by decide +kernel) rfl rfl (Nat.le_of_ble_eq_true rfl) rfl d_M_statement_161 (fun f312 H locs e313 k314 hP hD hS => ?_)
              have eT := (k314 (g.lk M 1) (tg_ne (lo_k11_1 hL _ t_M) t_M (by decide))).trans eT
              have e291 := (k314 (g.lk M 15) (tg_ne (lo_k11_15 hL _ t_M) t_M (by decide))).trans e291
              have xd_299 := (k314 (g.lk M 3) (tg_ne (lo_k11_3 hL _ t_M) t_M (by decide))).trans xd_299
              have xg_300 := (k314 (g.lk M 4) (tg_ne (lo_k11_4 hL _ t_M) t_M (by decide))).trans xg_300
              have e304 := (k314 (g.lk M 14) (tg_ne (lo_k11_14 hL _ t_M) t_M (by decide))).trans e304
              have hu := hu.st k314 t_M (by decide)
              have hk315 : ∀ b, b ≠ M → f312 b = f303 b := fun b q0 => (k314 b q0).trans (hk311 b q0)
              refine lv_aload_n hx hb d_M_statement_164 rfl (lv_at hl 1 rfl) ?_
              refine lv_iconst (v := nI 1) hx hb d_M_statement_165 (by decide) ?_
              refine pf_put (v := .int (nI 1)) (ty := .boolean) (fs' := [.int mth, .ref (g.lk M 1), .int (nI mn), .ref (g.lk M 3), .ref (g.lk M 4), .int (nI (n_252 + 1)), .ref (g.lk M 6), .ref (g.lk M 7), .ref (g.lk M 8), .int (nI msz), .int (nI (a_251 + 1)), .int (nI (mdp + 1)), .ref (g.lk M 12), .int (nI 0), .ref (g.lk M 14), .ref (g.lk M 15), .int (nI (mop + 1)), .ref (g.lk M 17), .ref (g.lk M 18), .ref (g.lk M 19), .ref (g.lk M 20), .ref (g.lk M 21), .ref (g.lk M 22), .ref (g.lk M 23), .ref (g.lk M 24), .ref (g.lk M 25), .ref (g.lk M 26), .ref (g.lk M 27), .ref (g.lk M 28), .ref (g.lk M 29), .ref (g.lk M 30), .ref (g.lk M 31), .int (nI mtp), .ref (g.lk M 33), .ref (g.lk M 34), .ref (g.lk M 35), .int (nI mwa), .int (nI mgi), .int (nI mpc), .int (nI mst), .int (nI mtr), .int (nI msp), .int mma, .int mlg, .int (nI 1)]) (C := "BigRunnerModel") (T := FT10) (N := 45) hx hb (hw10 hB _) (fun _ h9 => h9) TY10 ok10 nm10 hown hK hP hD hS (lo_in hL t_M (by decide)) e313 rfl 44 (by decide) (wd_991 hB _) rfl (by decide +kernel) rfl rfl (Nat.le_of_ble_eq_true rfl) rfl d_M_statement_166 (fun f316 H locs e317 k318 hP hD hS => ?_)
              have eT := (k318 (g.lk M 1) (tg_ne (lo_k11_1 hL _ t_M) t_M (by decide))).trans eT
              have e291 := (k318 (g.lk M 15) (tg_ne (lo_k11_15 hL _ t_M) t_M (by decide))).trans e291
              have xd_299 := (k318 (g.lk M 3) (tg_ne (lo_k11_3 hL _ t_M) t_M (by decide))).trans xd_299
              have xg_300 := (k318 (g.lk M 4) (tg_ne (lo_k11_4 hL _ t_M) t_M (by decide))).trans xg_300
              have e304 := (k318 (g.lk M 14) (tg_ne (lo_k11_14 hL _ t_M) t_M (by decide))).trans e304
              have hu := hu.st k318 t_M (by decide)
              have hk319 : ∀ b, b ≠ M → f316 b = f303 b := fun b q0 => (k318 b q0).trans (hk315 b q0)
              refine lv_aload_n hx hb d_M_statement_169 rfl (lv_at hl 1 rfl) ?_
              refine pf_get (v := .int (nI (mdp + 1))) (C := "BigRunnerModel") (T := FT10) (N := 45) hx hb (hw10 hB _) (fun _ h9 => h9) hown hK hP (lo_in hL t_M (by decide)) e317 rfl 11 (by decide) (wd_958 hB _) rfl d_M_statement_170 ?_
              refine lv_bipush (v := nI 10) hx hb d_M_statement_173 (by decide) ?_
              refine lv_icmp_gt (tgt := 182) hx hb d_M_statement_175 (by decide) (fun b320 => ?_) (fun b320 => ?_)
              · skip
                replace b320 := (nI_ltI (a := 10) (b := mdp + 1) (by omega) (by omega)).mp b320
                refine lv_iconst (v := nI 0) hx hb d_M_statement_182 (by decide) ?_
                have hI321 := iv_1 hI307 hL t_M (by decide) hk319 (oc_11.mk t_M (⟨mth, mn, (n_252 + 1), msz, (a_251 + 1), (mdp + 1), 0, (mop + 1), mtp, mwa, mgi, mpc, mst, mtr, msp, mma, mlg, ((nI 1)), e317, (by omega), (by omega), (by omega), (by omega), (by omega), (by omega), (by omega), (by omega), (by omega), (by omega), (by omega), (by omega), (by omega), (by omega), (Or.inr rfl)⟩))
                exact pe_zret hx hb hr hlocks hK hP hD hS d_M_statement_183 rfl ⟨(Or.inr ⟨(fun F => by rw [py_rT, if_neg (by omega), if_pos (Or.inr tq12), c255]; show (if _ then (if _ then _ else _) else _) = _; rw [if_pos tq15, if_neg (by omega)]), ⟨1, a_251 + 1, mop + 1, mdp + 1, n_252 + 1, 0, by omega, by omega, by omega, by omega, by omega, by omega, e317⟩, rfl⟩), hI321, hu⟩
              · skip
                replace b320 := mt (nI_ltI (a := 10) (b := mdp + 1) (by omega) (by omega)).mpr b320
                refine lv_iconst (v := nI 1) hx hb d_M_statement_178 (by decide) ?_
                refine lv_goto (tgt := 183) hx hb d_M_statement_179 (by decide) ?_
                have hI322 := iv_1 hI307 hL t_M (by decide) hk319 (oc_11.mk t_M (⟨mth, mn, (n_252 + 1), msz, (a_251 + 1), (mdp + 1), 0, (mop + 1), mtp, mwa, mgi, mpc, mst, mtr, msp, mma, mlg, ((nI 1)), e317, (by omega), (by omega), (by omega), (by omega), (by omega), (by omega), (by omega), (by omega), (by omega), (by omega), (by omega), (by omega), (by omega), (by omega), (Or.inr rfl)⟩))
                have hkl : kl (upd hK9 mop (nxm hT mn mix)) (mop + 1) = tk hT mn mix :: kl hK9 mop := by rw [kl_upd, tkm]
                have hkl2 : klx (upd hK9 mop (nxm hT mn mix)) (upd (upd hB9 mop (nI mdr)) mop (nI n_252)) (mop + 1) = (tk hT mn mix, D9.length + (oy_e (tk hT mn) (vc hT mn) 400 (mix + 1) [] true).length) :: klx hK9 hB9 mop := by rw [upd_upd, klx_u2 _ _ _ _ (by omega), tkm, hDl, ← c264]
                exact pe_zret hx hb hr hlocks hK hP hD hS d_M_statement_183 rfl ⟨(Or.inl ⟨1, a_251 + 1, mop + 1, mdp + 1, n_252 + 1, 0, _, _, _, _, (fun F => by rw [py_rT, if_neg (by omega), if_pos (Or.inr tq12), c255]; show (if _ then (if _ then _ else _) else _) = _; rw [if_pos tq15, if_pos (by omega), hkl]; rfl), by omega, by omega, by omega, by omega, by omega, by omega, by omega, by omega, (DI_open hDI (smd_tr (fun i hi => upd_ne _ _ (by omega)) c262) (smd_tr (fun i hi => upd_ne _ _ (by omega)) c263) (GC_smd c260 (fun i hi => upd_ne _ _ (by omega)) (fun i hi => upd_ne _ _ (by omega))) (by omega) (by omega) (by omega) (by rw [dpc_u (Nat.le_refl _)]; exact c261) (upd_at _ _ _) (upd_at _ _ _) (fun i hi => (upd_ne _ _ (by omega)).trans (upd_ne _ _ (by omega))) (upd_at _ _ _) (fun i hi => upd_ne _ _ (by omega)) (upd_at _ _ _) (Or.inr b102)), ⟨D9 ++ oy_e (tk hT mn) (vc hT mn) 400 (mix + 1) [] true ++ [(11, D9.length)], (by rw [List.length_append, List.length_append, List.length_singleton]; omega), (by rw [hDl]; exact (DS_put (DS_cat hDS (by omega) c262 c263 c265) (by rw [List.length_append]; omega))), E8_put (E8_ex hE8 c262 c260) (by decide) (by decide), (fun F => by rw [oy_rT, if_neg (by omega), if_pos (Or.inr tq12), c255]; show oy_r _ _ _ _ _ _ _ _ _ = _; rw [hkl2]; rfl)⟩, e317, xd_299, xg_300, e304, e291, rfl⟩), hI322, hu⟩
            · skip
              have tq15 : tk hT mn a_251 ≠ 15 := fun z => b284 (kc_15.mp ((tkm hT mn a_251).trans z))
              refine lv_iconst (v := nI 0) hx hb d_M_statement_92 (by decide) ?_
              exact pe_zret hx hb hr hlocks hK hP hD hS d_M_statement_93 rfl ⟨(Or.inr ⟨(fun F => by rw [py_rT, if_neg (by omega), if_pos (Or.inr tq12), c255]; show (if _ then (if _ then _ else _) else _) = _; rw [if_neg tq15]), ⟨0, a_251, mop, mdp, n_252, 0, by omega, by omega, by omega, by omega, by omega, by omega, e266⟩, rfl⟩), hI1_249, hu⟩
        · skip
          refine lv_if_eq (tgt := 92) hx hb d_M_statement_80 (by decide) (fun b323 => ?_) (fun b323 => ?_)
          · skip
            replace b323 := (nI_eq (a := 0) (b := 0) (by omega) (by omega)).mp b323
            refine lv_iconst (v := nI 0) hx hb d_M_statement_92 (by decide) ?_
            obtain ⟨h_325, e324⟩ := oc_41.of (lo_k11_3 hL _ t_M) (hI1_249.1 (g.lk M 3))
            obtain ⟨h_328, e327⟩ := oc_42.of (lo_k11_4 hL _ t_M) (hI1_249.1 (g.lk M 4))
            exact pe_zret hx hb hr hlocks hK hP hD hS d_M_statement_93 rfl ⟨(Or.inr ⟨(fun F => by rw [py_rT, if_neg (by omega), if_pos (Or.inr tq12), c273]), ⟨0, ix_269, mop, dp_270, dr_271, wt_272, by omega, by omega, by omega, by omega, by omega, by omega, e278⟩, rfl⟩), hI1_249, hu⟩
          · skip
            replace b323 := mt (nI_eq (a := 0) (b := 0) (by omega) (by omega)).mpr b323
            exfalso; omega
  · skip
    have tq8 : tk hT mn mix = 8 := (tkm hT mn mix).symm.trans (kc_8.mpr b9)
    have hl9 : mix < mn := tk_in (h := hT) (by omega)
    refine lv_aload_n hx hb d_M_statement_21 rfl (lv_at hl 1 rfl) ?_
    have hI330 := iv_1 hI hL t_M (by decide) hk8 (oc_11.mk t_M (⟨mth, mn, mdr, msz, (mix + 1), mdp, mwt, mop, mtp, mwa, mgi, mpc, mst, mtr, msp, mma, mlg, ((nI 0)), e6, (by omega), (by omega), (by omega), (by omega), (by omega), (by omega), (by omega), (by omega), (by omega), (by omega), (by omega), (by omega), (by omega), (by omega), (Or.inl rfl)⟩))
    refine pcc_i (va_runV (C := "BigRunnerModel") (As := []) (rest := []) ⟨hx, hb, hml, hown, tb_nil⟩ (m_here l g H.size f5 M mth mn mdr msz ((mix + 1)) mdp mwt mop mtp mwa mgi mpc mst mtr msp mma mlg ((nI 0)) hT hL t_M hI330.1 e6 ⟨(by omega), (by omega), (by omega), (by omega), (by omega), (by omega), (by omega), (by omega), (by omega), (by omega), (by omega), (by omega), (by omega), (by omega), (Or.inl rfl)⟩ eT cT) ⟨(callB_of 0 (tb_one (wd_1111 hB _)) tb_good1 rfl rfl rfl (wd_82 hB _) (wd_1108 hB _) (by decide +kernel) ⟨Nat.le_of_ble_eq_true rfl, Nat.le_of_ble_eq_true rfl⟩), (wd_1110 hB _), (wd_43 hB _)⟩ ⟨pe_bl, pg_recv (ci := 10) hK hP (lo_in hL t_M (by decide)) e6 rfl, pe_pre hB hK hP hD⟩ rfl rfl hl.1 rfl (lv_room (Nat.le_of_ble_eq_true rfl)) d_M_statement_22 ⟨Nat.le_of_ble_eq_true rfl, Nat.le_of_ble_eq_true rfl⟩) hS (fun r331 f332 H locs hq333 hP hD hS => ?_)
    obtain ⟨nx_334, rfl⟩ := hq333
    subst nx_334
    refine lv_istore_n (lv' := [(2, .int (nxm hT mn (mix + 1))), (1, .int (nxm hT mn mix)), (0, .ref M)]) hx hb d_M_statement_25 rfl hl (by decide) rfl (fun ls hl => ?_)
    refine lv_aload_n hx hb d_M_statement_26 rfl (lv_at hl 2 rfl) ?_
    refine lv_dup hx hb d_M_statement_27 rfl ?_
    refine pf_get (v := .int (nI (mix + 1))) (C := "BigRunnerModel") (T := FT10) (N := 45) hx hb (hw10 hB _) (fun _ h9 => h9) hown hK hP (lo_in hL t_M (by decide)) e6 rfl 10 (by decide) (wd_957 hB _) rfl d_M_statement_28 ?_
    refine lv_iconst (v := nI 1) hx hb d_M_statement_31 (by decide) ?_
    refine pf_iaddN (x := mix + 1) (y := 1) hx hb d_M_statement_32 ?_
    refine pf_put (v := .int (nI ((mix + 1) + 1))) (ty := .int) (fs' := [.int mth, .ref (g.lk M 1), .int (nI mn), .ref (g.lk M 3), .ref (g.lk M 4), .int (nI mdr), .ref (g.lk M 6), .ref (g.lk M 7), .ref (g.lk M 8), .int (nI msz), .int (nI ((mix + 1) + 1)), .int (nI mdp), .ref (g.lk M 12), .int (nI mwt), .ref (g.lk M 14), .ref (g.lk M 15), .int (nI mop), .ref (g.lk M 17), .ref (g.lk M 18), .ref (g.lk M 19), .ref (g.lk M 20), .ref (g.lk M 21), .ref (g.lk M 22), .ref (g.lk M 23), .ref (g.lk M 24), .ref (g.lk M 25), .ref (g.lk M 26), .ref (g.lk M 27), .ref (g.lk M 28), .ref (g.lk M 29), .ref (g.lk M 30), .ref (g.lk M 31), .int (nI mtp), .ref (g.lk M 33), .ref (g.lk M 34), .ref (g.lk M 35), .int (nI mwa), .int (nI mgi), .int (nI mpc), .int (nI mst), .int (nI mtr), .int (nI msp), .int mma, .int mlg, .int (nI 0)]) (C := "BigRunnerModel") (T := FT10) (N := 45) hx hb (hw10 hB _) (fun _ h9 => h9) TY10 ok10 nm10 hown hK hP hD hS (lo_in hL t_M (by decide)) e6 rfl 10 (by decide) (wd_957 hB _) rfl (by decide +kernel) rfl rfl (Nat.le_of_ble_eq_true rfl) rfl d_M_statement_33 (fun f335 H locs e336 k337 hP hD hS => ?_)
    have eT := (k337 (g.lk M 1) (tg_ne (lo_k11_1 hL _ t_M) t_M (by decide))).trans eT
    have eD := (k337 (g.lk M 3) (tg_ne (lo_k11_3 hL _ t_M) t_M (by decide))).trans eD
    have eG := (k337 (g.lk M 4) (tg_ne (lo_k11_4 hL _ t_M) t_M (by decide))).trans eG
    have eB := (k337 (g.lk M 14) (tg_ne (lo_k11_14 hL _ t_M) t_M (by decide))).trans eB
    have eK := (k337 (g.lk M 15) (tg_ne (lo_k11_15 hL _ t_M) t_M (by decide))).trans eK
    have hu := hu.st k337 t_M (by decide)
    have hk338 : ∀ b, b ≠ M → f335 b = f5 b := k337
    refine lv_aload_n hx hb d_M_statement_36 rfl (lv_at hl 2 rfl) ?_
    refine lv_bipush (v := nI 9) hx hb d_M_statement_37 (by decide) ?_
    refine lv_iload_n hx hb d_M_statement_39 rfl (lv_at hl 0 rfl) ?_
    refine lv_bipush (v := nI 97) hx hb d_M_statement_40 (by decide) ?_
    refine lv_isub hx hb d_M_statement_42 ?_
    have hI339 := iv_1 hI330 hL t_M (by decide) hk338 (oc_11.mk t_M (⟨mth, mn, mdr, msz, ((mix + 1) + 1), mdp, mwt, mop, mtp, mwa, mgi, mpc, mst, mtr, msp, mma, mlg, ((nI 0)), e336, (by omega), (by omega), (by omega), (by omega), (by omega), (by omega), (by omega), (by omega), (by omega), (by omega), (by omega), (by omega), (by omega), (by omega), (Or.inl rfl)⟩))
    refine pcc_v (va_runV (C := "BigRunnerModel") (As := [.int (nI 9), .int (((nxm hT mn (mix + 1))) - ((nI 97)))]) (rest := []) ⟨hx, hb, hml, hown, tb_nil⟩ (m_put l g H.size f335 M mth mn mdr msz (((mix + 1) + 1)) mdp mwt mop mtp mwa mgi mpc mst mtr msp mma mlg ((nI 0)) hQ hG 9 ((((nxm hT mn (mix + 1))) - ((nI 97)))) hL t_M hI339 e336 ⟨(by omega), (by omega), (by omega), (by omega), (by omega), (by omega), (by omega), (by omega), (by omega), (by omega), (by omega), (by omega), (by omega), (by omega), (Or.inl rfl)⟩ eD eG (by omega)) ⟨(callB_of 2 (tb_one (wd_1115 hB _)) tb_good1 rfl rfl rfl (wd_82 hB _) (wd_1112 hB _) (by decide +kernel) ⟨Nat.le_of_ble_eq_true rfl, Nat.le_of_ble_eq_true rfl⟩), (wd_1114 hB _), (wd_44 hB _)⟩ ⟨pe_bl, pg_recv (ci := 10) hK hP (lo_in hL t_M (by decide)) e336 rfl, pe_pre hB hK hP hD⟩ rfl rfl hl.1 rfl (lv_room (Nat.le_of_ble_eq_true rfl)) d_M_statement_43 ⟨Nat.le_of_ble_eq_true rfl, Nat.le_of_ble_eq_true rfl⟩) hS (fun f341 H locs hq342 hP hD hS => ?_)
    obtain ⟨x1_343, xd_344, xg_345, hI1_346, hu1_347⟩ := hq342
    have hu := hu.tr hu1_347 (by decide)
    have eT := hu1_347.at (lo_k11_1 hL _ t_M) (by decide) eT
    have eB := hu1_347.at (lo_k11_14 hL _ t_M) (by decide) eB
    have eK := hu1_347.at (lo_k11_15 hL _ t_M) (by decide) eK
    refine lv_iload_n hx hb d_M_statement_46 rfl (lv_at hl 0 rfl) ?_
    refine pcc_i (va_runS (As := [.int (nxm hT mn (mix + 1))]) (rest := []) ⟨hx, hb, hml, hown, tb_nil⟩ (m_isName l g H.size f341 ((nxm hT mn (mix + 1))) hL hI1_346.1) ⟨(callB_of 1 (tb_one (wd_1118 hB _)) tb_good1 rfl rfl rfl (wd_82 hB _) (wd_1116 hB _) (by decide +kernel) ⟨Nat.le_of_ble_eq_true rfl, Nat.le_of_ble_eq_true rfl⟩), (wd_1117 hB _)⟩ ⟨pe_bl, pe_pre hB hK hP hD⟩ rfl rfl hl.1 rfl (lv_room (Nat.le_of_ble_eq_true rfl)) d_M_statement_47 ⟨Nat.le_of_ble_eq_true rfl, Nat.le_of_ble_eq_true rfl⟩) hS (fun r348 f349 H locs hq350 hP hD hS => ?_)
    obtain ⟨bo_351, i0_352, i1_353, rfl⟩ := hq350
    rcases bo_351 with hb9 | hb9
    · skip
      have hkx := i0_352 hb9
      have tq6 : tk hT mn (mix + 1) ≠ 6 := fun z => hkx ((tkm hT mn (mix + 1)).trans z)
      subst hb9
      exact pe_zret hx hb hr hlocks hK hP hD hS d_M_statement_50 rfl ⟨(Or.inr ⟨(fun F => by rw [py_rT, if_pos tq8, if_neg tq6]), ⟨0, (mix + 1) + 1, mop, mdp, mdr + 1, mwt, by omega, by omega, by omega, by omega, by omega, by omega, x1_343⟩, rfl⟩), hI1_346, hu⟩
    · skip
      have hkx := i1_353 hb9
      have tq6 : tk hT mn (mix + 1) = 6 := (tkm hT mn (mix + 1)).symm.trans hkx
      have hl8 : mix + 1 < mn := tk_in (h := hT) (by omega)
      obtain ⟨vn, hvn, qvn⟩ := nm_of (kc_6.mp hkx).1 (kc_6.mp hkx).2
      subst hb9
      have hvv9 : (vc hT mn) (mix + 1) - 97 = vn := by rw [vcm hl8]; exact vc_nm (kc_6.mp hkx).1 (kc_6.mp hkx).2 hvn qvn
      exact pe_zret hx hb hr hlocks hK hP hD hS d_M_statement_50 rfl ⟨(Or.inl ⟨0, (mix + 1) + 1, mop, mdp, mdr + 1, mwt, _, _, _, _, (fun F => by rw [py_rT, if_pos tq8, if_pos tq6]; rfl), by omega, by omega, by omega, by omega, by omega, by omega, by omega, by omega, (by have z := DI_in (v := vn) hDI (by omega) hvn; rw [← qvn] at z; exact z), ⟨D9 ++ [(9, (vc hT mn) (mix + 1) - 97)], (by rw [List.length_append, List.length_singleton, hDl]), (by rw [hvv9, qvn]; exact DS_put hDS (by omega)), E8_put hE8 (by decide) (by decide), (fun F => by rw [oy_rT, if_pos tq8]; rfl)⟩, x1_343, xd_344, xg_345, eB, eK, rfl⟩), hI1_346, hu⟩

