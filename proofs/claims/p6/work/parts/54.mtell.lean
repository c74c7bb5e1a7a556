theorem ix_on {x : Int32} {n : Nat} (hn : n < 2 ^ 31) (h1 : ¬ x < 0) (h2 : x < nI n) : ∃ k, k < n ∧ x = nI k := by
  obtain ⟨j, hj, rfl⟩ := nI_of h1
  exact ⟨j, (nI_ltI hj hn).mp h2, rfl⟩
set_option maxHeartbeats 4000000 in
set_option maxRecDepth 100000 in
theorem m_type (l : Launch) (g : Lay) (sz : Nat) (f : Nat → va_E) (M : Nat) (mth : Int32) (mn : Nat) (mdr : Nat) (msz : Nat) (mix : Nat) (mdp : Nat) (mwt : Nat) (mop : Nat) (mtp : Nat) (mwa : Nat) (mgi : Nat) (mpc : Nat) (mst : Nat) (mtr : Nat) (msp : Nat) (mma : Int32) (mlg : Int32) (mdu : Int32) (hT : Nat → Int32) (c9 : Int32) (hL : LO g) (t_M : g.tg M = 11) (hI : IV g f) (eM : f M = .inr (10, [.int mth, .ref (g.lk M 1), .int (nI mn), .ref (g.lk M 3), .ref (g.lk M 4), .int (nI mdr), .ref (g.lk M 6), .ref (g.lk M 7), .ref (g.lk M 8), .int (nI msz), .int (nI mix), .int (nI mdp), .ref (g.lk M 12), .int (nI mwt), .ref (g.lk M 14), .ref (g.lk M 15), .int (nI mop), .ref (g.lk M 17), .ref (g.lk M 18), .ref (g.lk M 19), .ref (g.lk M 20), .ref (g.lk M 21), .ref (g.lk M 22), .ref (g.lk M 23), .ref (g.lk M 24), .ref (g.lk M 25), .ref (g.lk M 26), .ref (g.lk M 27), .ref (g.lk M 28), .ref (g.lk M 29), .ref (g.lk M 30), .ref (g.lk M 31), .int (nI mtp), .ref (g.lk M 33), .ref (g.lk M 34), .ref (g.lk M 35), .int (nI mwa), .int (nI mgi), .int (nI mpc), .int (nI mst), .int (nI mtr), .int (nI msp), .int mma, .int mlg, .int mdu])) (hMB : mn ≤ 72 ∧ mdr ≤ 100 ∧ msz ≤ 100 ∧ mix ≤ 100 ∧ mdp ≤ 20 ∧ mwt ≤ 72 ∧ mop ≤ 40 ∧ mtp ≤ 80 ∧ mwa ≤ 20 ∧ mgi ≤ msp ∧ mpc ≤ 100 ∧ mst ≤ 4 ∧ mtr ≤ 3 ∧ msp ≤ 3000 ∧ (mdu = 0 ∨ mdu = 1)) (eT : f (g.lk M 1) = .inl (g.ac (g.lk M 1), 72, .inl hT)) (cT : ∀ i, i < 72 → vp_nar .char (hT i) = hT i) : Met l ⟨"BigRunnerModel", "type", "(C)Z"⟩ [Cond.code ⟨"BigRunnerModel", "type", "(C)Z"⟩ prog_12_method_38_code 2 (some .boolean)] ({ frames := 0, cells := 0, slots := 0, locals := 0 }) (va_Pc [.ref M, .int c9] (pc_in g sz f)) (va_Qi (fun r f1 => ((r = nI 0 ∧ ¬ (nI 33 ≤ c9 ∧ c9 ≤ nI 126 ∧ mn < 72) ∧ f1 M = .inr (10, [.int (nI 0), .ref (g.lk M 1), .int (nI mn), .ref (g.lk M 3), .ref (g.lk M 4), .int (nI mdr), .ref (g.lk M 6), .ref (g.lk M 7), .ref (g.lk M 8), .int (nI msz), .int (nI mix), .int (nI mdp), .ref (g.lk M 12), .int (nI mwt), .ref (g.lk M 14), .ref (g.lk M 15), .int (nI mop), .ref (g.lk M 17), .ref (g.lk M 18), .ref (g.lk M 19), .ref (g.lk M 20), .ref (g.lk M 21), .ref (g.lk M 22), .ref (g.lk M 23), .ref (g.lk M 24), .ref (g.lk M 25), .ref (g.lk M 26), .ref (g.lk M 27), .ref (g.lk M 28), .ref (g.lk M 29), .ref (g.lk M 30), .ref (g.lk M 31), .int (nI mtp), .ref (g.lk M 33), .ref (g.lk M 34), .ref (g.lk M 35), .int (nI mwa), .int (nI mgi), .int (nI mpc), .int (nI mst), .int (nI mtr), .int (nI msp), .int mma, .int mlg, .int mdu]) ∧ f1 (g.lk M 1) = .inl (g.ac (g.lk M 1), 72, .inl hT)) ∨ (r = nI 1 ∧ (nI 33 ≤ c9 ∧ c9 ≤ nI 126 ∧ mn < 72) ∧ f1 M = .inr (10, [.int (nI 0), .ref (g.lk M 1), .int (nI (mn + 1)), .ref (g.lk M 3), .ref (g.lk M 4), .int (nI mdr), .ref (g.lk M 6), .ref (g.lk M 7), .ref (g.lk M 8), .int (nI msz), .int (nI mix), .int (nI mdp), .ref (g.lk M 12), .int (nI mwt), .ref (g.lk M 14), .ref (g.lk M 15), .int (nI mop), .ref (g.lk M 17), .ref (g.lk M 18), .ref (g.lk M 19), .ref (g.lk M 20), .ref (g.lk M 21), .ref (g.lk M 22), .ref (g.lk M 23), .ref (g.lk M 24), .ref (g.lk M 25), .ref (g.lk M 26), .ref (g.lk M 27), .ref (g.lk M 28), .ref (g.lk M 29), .ref (g.lk M 30), .ref (g.lk M 31), .int (nI mtp), .ref (g.lk M 33), .ref (g.lk M 34), .ref (g.lk M 35), .int (nI mwa), .int (nI mgi), .int (nI mpc), .int (nI mst), .int (nI mtr), .int (nI msp), .int mma, .int mlg, .int mdu]) ∧ f1 (g.lk M 1) = .inl (g.ac (g.lk M 1), 72, .inl (upd hT mn (vp_nar .char c9))))) ∧ (IV g f1) ∧ (un [11, 40] g f f1)) (pc_out g sz) (pc_A g sz)) 0 0 (pc_A g sz) := by
  refine pe_ofW (cc := prog_12_method_38_code) (maxL := 2) (ret := (some .boolean)) (lv := [(0, .ref M), (1, .int c9)]) (by decide) (Nat.le_of_ble_eq_true rfl) rfl ?_
  intro p e s m args below meth c ls hx hb hr hml hlocks hown hB hP hK hD hsz hS hl
  subst hsz
  have hu : un [11, 40] g f f := un.rf
  obtain ⟨hmb0, hmb1, hmb2, hmb3, hmb4, hmb5, hmb6, hmb7, hmb8, hmb9, hmb10, hmb11, hmb12, hmb13, hmb14⟩ := hMB
  refine lv_aload_n hx hb d_M_type_0 rfl (lv_at hl 0 rfl) ?_
  refine lv_iconst (v := nI 0) hx hb d_M_type_1 (by decide) ?_
  refine pf_put (v := .int (nI 0)) (ty := .int) (fs' := [.int (nI 0), .ref (g.lk M 1), .int (nI mn), .ref (g.lk M 3), .ref (g.lk M 4), .int (nI mdr), .ref (g.lk M 6), .ref (g.lk M 7), .ref (g.lk M 8), .int (nI msz), .int (nI mix), .int (nI mdp), .ref (g.lk M 12), .int (nI mwt), .ref (g.lk M 14), .ref (g.lk M 15), .int (nI mop), .ref (g.lk M 17), .ref (g.lk M 18), .ref (g.lk M 19), .ref (g.lk M 20), .ref (g.lk M 21), .ref (g.lk M 22), .ref (g.lk M 23), .ref (g.lk M 24), .ref (g.lk M 25), .ref (g.lk M 26), .ref (g.lk M 27), .ref (g.lk M 28), .ref (g.lk M 29), .ref (g.lk M 30), .ref (g.lk M 31), .int (nI mtp), .ref (g.lk M 33), .ref (g.lk M 34), .ref (g.lk M 35), .int (nI mwa), .int (nI mgi), .int (nI mpc), .int (nI mst), .int (nI mtr), .int (nI msp), .int mma, .int mlg, .int mdu]) (C := "BigRunnerModel") (T := FT10) (N := 45) hx hb (hw10 hB _) (fun _ h9 => h9) TY10 ok10 nm10 hown hK hP hD hS (lo_in hL t_M (by decide)) eM rfl 0 (by decide) (wd_947 hB _) rfl (by decide +kernel) rfl rfl (Nat.le_of_ble_eq_true rfl) rfl d_M_type_2 (fun f1 H locs e2 k3 hP hD hS => ?_)
  have eT := (k3 (g.lk M 1) (tg_ne (lo_k11_1 hL _ t_M) t_M (by decide))).trans eT
  have hu := hu.st k3 t_M (by decide)
  have hk4 : ∀ b, b ≠ M → f1 b = f b := k3
  refine lv_iload_n hx hb d_M_type_5 rfl (lv_at hl 1 rfl) ?_
  refine lv_bipush (v := nI 33) hx hb d_M_type_6 (by decide) ?_
  refine lv_icmp_lt (tgt := 26) hx hb d_M_type_8 (by decide) (fun b5 => ?_) (fun b5 => ?_)
  · skip
    refine lv_iconst (v := nI 0) hx hb d_M_type_26 (by decide) ?_
    have hI6 := iv_1 hI hL t_M (by decide) hk4 (oc_11.mk t_M (⟨((nI 0)), mn, mdr, msz, mix, mdp, mwt, mop, mtp, mwa, mgi, mpc, mst, mtr, msp, mma, mlg, mdu, e2, (by omega), (by omega), (by omega), (by omega), (by omega), (by omega), (by omega), (by omega), (by omega), (by omega), (by omega), (by omega), (by omega), (by omega), hmb14⟩))
    exact pe_zret hx hb hr hlocks hK hP hD hS d_M_type_27 rfl ⟨(Or.inl ⟨rfl, (fun z => by first | exact absurd z.1 (Int32.not_le.mpr (by assumption)) | exact absurd z.2.1 (Int32.not_le.mpr (by assumption)) | omega), e2, eT⟩), hI6, hu⟩
  · skip
    refine lv_iload_n hx hb d_M_type_11 rfl (lv_at hl 1 rfl) ?_
    refine lv_bipush (v := nI 126) hx hb d_M_type_12 (by decide) ?_
    refine lv_icmp_gt (tgt := 26) hx hb d_M_type_14 (by decide) (fun b7 => ?_) (fun b7 => ?_)
    · skip
      refine lv_iconst (v := nI 0) hx hb d_M_type_26 (by decide) ?_
      have hI8 := iv_1 hI hL t_M (by decide) hk4 (oc_11.mk t_M (⟨((nI 0)), mn, mdr, msz, mix, mdp, mwt, mop, mtp, mwa, mgi, mpc, mst, mtr, msp, mma, mlg, mdu, e2, (by omega), (by omega), (by omega), (by omega), (by omega), (by omega), (by omega), (by omega), (by omega), (by omega), (by omega), (by omega), (by omega), (by omega), hmb14⟩))
      exact pe_zret hx hb hr hlocks hK hP hD hS d_M_type_27 rfl ⟨(Or.inl ⟨rfl, (fun z => by first | exact absurd z.1 (Int32.not_le.mpr (by assumption)) | exact absurd z.2.1 (Int32.not_le.mpr (by assumption)) | omega), e2, eT⟩), hI8, hu⟩
    · skip
      refine lv_aload_n hx hb d_M_type_17 rfl (lv_at hl 0 rfl) ?_
      refine pf_get (v := .int (nI mn)) (C := "BigRunnerModel") (T := FT10) (N := 45) hx hb (hw10 hB _) (fun _ h9 => h9) hown hK hP (lo_in hL t_M (by decide)) e2 rfl 2 (by decide) (wd_949 hB _) rfl d_M_type_18 ?_
      refine lv_bipush (v := nI 72) hx hb d_M_type_21 (by decide) ?_
      refine lv_icmp_ne (tgt := 28) hx hb d_M_type_23 (by decide) (fun b9 => ?_) (fun b9 => ?_)
      · skip
        replace b9 := mt (nI_eq (a := mn) (b := 72) (by omega) (by omega)).mpr b9
        refine lv_aload_n hx hb d_M_type_28 rfl (lv_at hl 0 rfl) ?_
        refine pf_get (v := .ref (g.lk M 1)) (C := "BigRunnerModel") (T := FT10) (N := 45) hx hb (hw10 hB _) (fun _ h9 => h9) hown hK hP (lo_in hL t_M (by decide)) e2 rfl 1 (by decide) (wd_948 hB _) rfl d_M_type_29 ?_
        refine lv_aload_n hx hb d_M_type_32 rfl (lv_at hl 0 rfl) ?_
        refine pf_get (v := .int (nI mn)) (C := "BigRunnerModel") (T := FT10) (N := 45) hx hb (hw10 hB _) (fun _ h9 => h9) hown hK hP (lo_in hL t_M (by decide)) e2 rfl 2 (by decide) (wd_949 hB _) rfl d_M_type_33 ?_
        refine lv_iload_n hx hb d_M_type_36 rfl (lv_at hl 1 rfl) ?_
        have hI10 := iv_1 hI hL t_M (by decide) hk4 (oc_11.mk t_M (⟨((nI 0)), mn, mdr, msz, mix, mdp, mwt, mop, mtp, mwa, mgi, mpc, mst, mtr, msp, mma, mlg, mdu, e2, (by omega), (by omega), (by omega), (by omega), (by omega), (by omega), (by omega), (by omega), (by omega), (by omega), (by omega), (by omega), (by omega), (by omega), hmb14⟩))
        refine pf_cast (i := mn) hx hb hK hP hD hS (lo_in hL (lo_k11_1 hL _ t_M) (by decide)) eT (lo_t40 hL _ (lo_k11_1 hL _ t_M)) (by omega) (by decide) d_M_type_37 (fun f11 H locs e12 k13 hP hD hS => ?_)
        have e2 := (k13 M (tg_ne t_M (lo_k11_1 hL _ t_M) (by decide))).trans e2
        have hu := hu.st k13 (lo_k11_1 hL _ t_M) (by decide)
        have hk14 : ∀ b, b ≠ (g.lk M 1) → f11 b = f1 b := k13
        have c15 := nc_upd (i := mn) (x := c9) cT
        refine lv_aload_n hx hb d_M_type_38 rfl (lv_at hl 0 rfl) ?_
        refine lv_dup hx hb d_M_type_39 rfl ?_
        refine pf_get (v := .int (nI mn)) (C := "BigRunnerModel") (T := FT10) (N := 45) hx hb (hw10 hB _) (fun _ h9 => h9) hown hK hP (lo_in hL t_M (by decide)) e2 rfl 2 (by decide) (wd_949 hB _) rfl d_M_type_40 ?_
        refine lv_iconst (v := nI 1) hx hb d_M_type_43 (by decide) ?_
        refine pf_iaddN (x := mn) (y := 1) hx hb d_M_type_44 ?_
        have hI16 := iv_1 hI10 hL (lo_k11_1 hL _ t_M) (by decide) hk14 (oc_40.mk (lo_k11_1 hL _ t_M) (⟨_, e12, c15⟩))
        refine pf_put (v := .int (nI (mn + 1))) (ty := .int) (fs' := [.int (nI 0), .ref (g.lk M 1), .int (nI (mn + 1)), .ref (g.lk M 3), .ref (g.lk M 4), .int (nI mdr), .ref (g.lk M 6), .ref (g.lk M 7), .ref (g.lk M 8), .int (nI msz), .int (nI mix), .int (nI mdp), .ref (g.lk M 12), .int (nI mwt), .ref (g.lk M 14), .ref (g.lk M 15), .int (nI mop), .ref (g.lk M 17), .ref (g.lk M 18), .ref (g.lk M 19), .ref (g.lk M 20), .ref (g.lk M 21), .ref (g.lk M 22), .ref (g.lk M 23), .ref (g.lk M 24), .ref (g.lk M 25), .ref (g.lk M 26), .ref (g.lk M 27), .ref (g.lk M 28), .ref (g.lk M 29), .ref (g.lk M 30), .ref (g.lk M 31), .int (nI mtp), .ref (g.lk M 33), .ref (g.lk M 34), .ref (g.lk M 35), .int (nI mwa), .int (nI mgi), .int (nI mpc), .int (nI mst), .int (nI mtr), .int (nI msp), .int mma, .int mlg, .int mdu]) (C := "BigRunnerModel") (T := FT10) (N := 45) hx hb (hw10 hB _) (fun _ h9 => h9) TY10 ok10 nm10 hown hK hP hD hS (lo_in hL t_M (by decide)) e2 rfl 2 (by decide) (wd_949 hB _) rfl (by decide +kernel) rfl rfl (Nat.le_of_ble_eq_true rfl) rfl d_M_type_45 (fun f17 H locs e18 k19 hP hD hS => ?_)
        have e12 := (k19 (g.lk M 1) (tg_ne (lo_k11_1 hL _ t_M) t_M (by decide))).trans e12
        have hu := hu.st k19 t_M (by decide)
        have hk20 : ∀ b, b ≠ M → f17 b = f11 b := k19
        refine lv_iconst (v := nI 1) hx hb d_M_type_48 (by decide) ?_
        have hI21 := iv_1 hI16 hL t_M (by decide) hk20 (oc_11.mk t_M (⟨((nI 0)), (mn + 1), mdr, msz, mix, mdp, mwt, mop, mtp, mwa, mgi, mpc, mst, mtr, msp, mma, mlg, mdu, e18, (by omega), (by omega), (by omega), (by omega), (by omega), (by omega), (by omega), (by omega), (by omega), (by omega), (by omega), (by omega), (by omega), (by omega), hmb14⟩))
        exact pe_zret hx hb hr hlocks hK hP hD hS d_M_type_49 rfl ⟨(Or.inr ⟨rfl, ⟨Int32.not_lt.mp (by assumption), Int32.not_lt.mp (by assumption), by omega⟩, e18, e12⟩), hI21, hu⟩
      · skip
        replace b9 := (nI_eq (a := mn) (b := 72) (by omega) (by omega)).mp b9
        refine lv_iconst (v := nI 0) hx hb d_M_type_26 (by decide) ?_
        have hI22 := iv_1 hI hL t_M (by decide) hk4 (oc_11.mk t_M (⟨((nI 0)), mn, mdr, msz, mix, mdp, mwt, mop, mtp, mwa, mgi, mpc, mst, mtr, msp, mma, mlg, mdu, e2, (by omega), (by omega), (by omega), (by omega), (by omega), (by omega), (by omega), (by omega), (by omega), (by omega), (by omega), (by omega), (by omega), (by omega), hmb14⟩))
        exact pe_zret hx hb hr hlocks hK hP hD hS d_M_type_27 rfl ⟨(Or.inl ⟨rfl, (fun z => by first | exact absurd z.1 (Int32.not_le.mpr (by assumption)) | exact absurd z.2.1 (Int32.not_le.mpr (by assumption)) | omega), e2, eT⟩), hI22, hu⟩
set_option maxHeartbeats 4000000 in
set_option maxRecDepth 100000 in
theorem m_wipe (l : Launch) (g : Lay) (sz : Nat) (f : Nat → va_E) (M : Nat) (mth : Int32) (mn : Nat) (mdr : Nat) (msz : Nat) (mix : Nat) (mdp : Nat) (mwt : Nat) (mop : Nat) (mtp : Nat) (mwa : Nat) (mgi : Nat) (mpc : Nat) (mst : Nat) (mtr : Nat) (msp : Nat) (mma : Int32) (mlg : Int32) (mdu : Int32) (hL : LO g) (t_M : g.tg M = 11) (hI : IV g f) (eM : f M = .inr (10, [.int mth, .ref (g.lk M 1), .int (nI mn), .ref (g.lk M 3), .ref (g.lk M 4), .int (nI mdr), .ref (g.lk M 6), .ref (g.lk M 7), .ref (g.lk M 8), .int (nI msz), .int (nI mix), .int (nI mdp), .ref (g.lk M 12), .int (nI mwt), .ref (g.lk M 14), .ref (g.lk M 15), .int (nI mop), .ref (g.lk M 17), .ref (g.lk M 18), .ref (g.lk M 19), .ref (g.lk M 20), .ref (g.lk M 21), .ref (g.lk M 22), .ref (g.lk M 23), .ref (g.lk M 24), .ref (g.lk M 25), .ref (g.lk M 26), .ref (g.lk M 27), .ref (g.lk M 28), .ref (g.lk M 29), .ref (g.lk M 30), .ref (g.lk M 31), .int (nI mtp), .ref (g.lk M 33), .ref (g.lk M 34), .ref (g.lk M 35), .int (nI mwa), .int (nI mgi), .int (nI mpc), .int (nI mst), .int (nI mtr), .int (nI msp), .int mma, .int mlg, .int mdu])) (hMB : mn ≤ 72 ∧ mdr ≤ 100 ∧ msz ≤ 100 ∧ mix ≤ 100 ∧ mdp ≤ 20 ∧ mwt ≤ 72 ∧ mop ≤ 40 ∧ mtp ≤ 80 ∧ mwa ≤ 20 ∧ mgi ≤ msp ∧ mpc ≤ 100 ∧ mst ≤ 4 ∧ mtr ≤ 3 ∧ msp ≤ 3000 ∧ (mdu = 0 ∨ mdu = 1)) : Met l ⟨"BigRunnerModel", "wipe", "()V"⟩ [Cond.code ⟨"BigRunnerModel", "wipe", "()V"⟩ prog_12_method_39_code 1 none] ({ frames := 0, cells := 0, slots := 0, locals := 0 }) (va_Pc [.ref M] (pc_in g sz f)) (va_Qv (fun f1 => (f1 M = .inr (10, [.int (nI 0), .ref (g.lk M 1), .int (nI 0), .ref (g.lk M 3), .ref (g.lk M 4), .int (nI mdr), .ref (g.lk M 6), .ref (g.lk M 7), .ref (g.lk M 8), .int (nI msz), .int (nI mix), .int (nI mdp), .ref (g.lk M 12), .int (nI mwt), .ref (g.lk M 14), .ref (g.lk M 15), .int (nI mop), .ref (g.lk M 17), .ref (g.lk M 18), .ref (g.lk M 19), .ref (g.lk M 20), .ref (g.lk M 21), .ref (g.lk M 22), .ref (g.lk M 23), .ref (g.lk M 24), .ref (g.lk M 25), .ref (g.lk M 26), .ref (g.lk M 27), .ref (g.lk M 28), .ref (g.lk M 29), .ref (g.lk M 30), .ref (g.lk M 31), .int (nI mtp), .ref (g.lk M 33), .ref (g.lk M 34), .ref (g.lk M 35), .int (nI mwa), .int (nI mgi), .int (nI mpc), .int (nI mst), .int (nI mtr), .int (nI msp), .int mma, .int mlg, .int mdu])) ∧ (IV g f1) ∧ (un [11] g f f1)) (pc_out g sz) (pc_A g sz)) 0 0 (pc_A g sz) := by
  refine pe_ofW (cc := prog_12_method_39_code) (maxL := 1) (ret := none) (lv := [(0, .ref M)]) (by decide) (Nat.le_of_ble_eq_true rfl) rfl ?_
  intro p e s m args below meth c ls hx hb hr hml hlocks hown hB hP hK hD hsz hS hl
  subst hsz
  have hu : un [11] g f f := un.rf
  obtain ⟨hmb0, hmb1, hmb2, hmb3, hmb4, hmb5, hmb6, hmb7, hmb8, hmb9, hmb10, hmb11, hmb12, hmb13, hmb14⟩ := hMB
  refine lv_aload_n hx hb d_M_wipe_0 rfl (lv_at hl 0 rfl) ?_
  refine lv_iconst (v := nI 0) hx hb d_M_wipe_1 (by decide) ?_
  refine pf_put (v := .int (nI 0)) (ty := .int) (fs' := [.int (nI 0), .ref (g.lk M 1), .int (nI mn), .ref (g.lk M 3), .ref (g.lk M 4), .int (nI mdr), .ref (g.lk M 6), .ref (g.lk M 7), .ref (g.lk M 8), .int (nI msz), .int (nI mix), .int (nI mdp), .ref (g.lk M 12), .int (nI mwt), .ref (g.lk M 14), .ref (g.lk M 15), .int (nI mop), .ref (g.lk M 17), .ref (g.lk M 18), .ref (g.lk M 19), .ref (g.lk M 20), .ref (g.lk M 21), .ref (g.lk M 22), .ref (g.lk M 23), .ref (g.lk M 24), .ref (g.lk M 25), .ref (g.lk M 26), .ref (g.lk M 27), .ref (g.lk M 28), .ref (g.lk M 29), .ref (g.lk M 30), .ref (g.lk M 31), .int (nI mtp), .ref (g.lk M 33), .ref (g.lk M 34), .ref (g.lk M 35), .int (nI mwa), .int (nI mgi), .int (nI mpc), .int (nI mst), .int (nI mtr), .int (nI msp), .int mma, .int mlg, .int mdu]) (C := "BigRunnerModel") (T := FT10) (N := 45) hx hb (hw10 hB _) (fun _ h9 => h9) TY10 ok10 nm10 hown hK hP hD hS (lo_in hL t_M (by decide)) eM rfl 0 (by decide) (wd_947 hB _) rfl (by decide +kernel) rfl rfl (Nat.le_of_ble_eq_true rfl) rfl d_M_wipe_2 (fun f1 H locs e2 k3 hP hD hS => ?_)
  have hu := hu.st k3 t_M (by decide)
  have hk4 : ∀ b, b ≠ M → f1 b = f b := k3
  refine lv_aload_n hx hb d_M_wipe_5 rfl (lv_at hl 0 rfl) ?_
  refine lv_iconst (v := nI 0) hx hb d_M_wipe_6 (by decide) ?_
  refine pf_put (v := .int (nI 0)) (ty := .int) (fs' := [.int (nI 0), .ref (g.lk M 1), .int (nI 0), .ref (g.lk M 3), .ref (g.lk M 4), .int (nI mdr), .ref (g.lk M 6), .ref (g.lk M 7), .ref (g.lk M 8), .int (nI msz), .int (nI mix), .int (nI mdp), .ref (g.lk M 12), .int (nI mwt), .ref (g.lk M 14), .ref (g.lk M 15), .int (nI mop), .ref (g.lk M 17), .ref (g.lk M 18), .ref (g.lk M 19), .ref (g.lk M 20), .ref (g.lk M 21), .ref (g.lk M 22), .ref (g.lk M 23), .ref (g.lk M 24), .ref (g.lk M 25), .ref (g.lk M 26), .ref (g.lk M 27), .ref (g.lk M 28), .ref (g.lk M 29), .ref (g.lk M 30), .ref (g.lk M 31), .int (nI mtp), .ref (g.lk M 33), .ref (g.lk M 34), .ref (g.lk M 35), .int (nI mwa), .int (nI mgi), .int (nI mpc), .int (nI mst), .int (nI mtr), .int (nI msp), .int mma, .int mlg, .int mdu]) (C := "BigRunnerModel") (T := FT10) (N := 45) hx hb (hw10 hB _) (fun _ h9 => h9) TY10 ok10 nm10 hown hK hP hD hS (lo_in hL t_M (by decide)) e2 rfl 2 (by decide) (wd_949 hB _) rfl (by decide +kernel) rfl rfl (Nat.le_of_ble_eq_true rfl) rfl d_M_wipe_7 (fun f5 H locs e6 k7 hP hD hS => ?_)
  have hu := hu.st k7 t_M (by decide)
  have hk8 : ∀ b, b ≠ M → f5 b = f b := fun b q0 => (k7 b q0).trans (hk4 b q0)
  have hI9 := iv_1 hI hL t_M (by decide) hk8 (oc_11.mk t_M (⟨((nI 0)), 0, mdr, msz, mix, mdp, mwt, mop, mtp, mwa, mgi, mpc, mst, mtr, msp, mma, mlg, mdu, e6, (by omega), (by omega), (by omega), (by omega), (by omega), (by omega), (by omega), (by omega), (by omega), (by omega), (by omega), (by omega), (by omega), (by omega), hmb14⟩))
  exact pe_vret hx hb hr hlocks hK hP hD hS d_M_wipe_10 ⟨e6, hI9, hu⟩
set_option maxHeartbeats 4000000 in
set_option maxRecDepth 100000 in
theorem m_look (l : Launch) (g : Lay) (sz : Nat) (f : Nat → va_E) (M : Nat) (mth : Int32) (mn : Nat) (mdr : Nat) (msz : Nat) (mix : Nat) (mdp : Nat) (mwt : Nat) (mop : Nat) (mtp : Nat) (mwa : Nat) (mgi : Nat) (mpc : Nat) (mst : Nat) (mtr : Nat) (msp : Nat) (mma : Int32) (mlg : Int32) (mdu : Int32) (v : Int32) (hL : LO g) (t_M : g.tg M = 11) (hI : IV g f) (eM : f M = .inr (10, [.int mth, .ref (g.lk M 1), .int (nI mn), .ref (g.lk M 3), .ref (g.lk M 4), .int (nI mdr), .ref (g.lk M 6), .ref (g.lk M 7), .ref (g.lk M 8), .int (nI msz), .int (nI mix), .int (nI mdp), .ref (g.lk M 12), .int (nI mwt), .ref (g.lk M 14), .ref (g.lk M 15), .int (nI mop), .ref (g.lk M 17), .ref (g.lk M 18), .ref (g.lk M 19), .ref (g.lk M 20), .ref (g.lk M 21), .ref (g.lk M 22), .ref (g.lk M 23), .ref (g.lk M 24), .ref (g.lk M 25), .ref (g.lk M 26), .ref (g.lk M 27), .ref (g.lk M 28), .ref (g.lk M 29), .ref (g.lk M 30), .ref (g.lk M 31), .int (nI mtp), .ref (g.lk M 33), .ref (g.lk M 34), .ref (g.lk M 35), .int (nI mwa), .int (nI mgi), .int (nI mpc), .int (nI mst), .int (nI mtr), .int (nI msp), .int mma, .int mlg, .int mdu])) (hMB : mn ≤ 72 ∧ mdr ≤ 100 ∧ msz ≤ 100 ∧ mix ≤ 100 ∧ mdp ≤ 20 ∧ mwt ≤ 72 ∧ mop ≤ 40 ∧ mtp ≤ 80 ∧ mwa ≤ 20 ∧ mgi ≤ msp ∧ mpc ≤ 100 ∧ mst ≤ 4 ∧ mtr ≤ 3 ∧ msp ≤ 3000 ∧ (mdu = 0 ∨ mdu = 1)) : Met l ⟨"BigRunnerModel", "look", "(I)I"⟩ [Cond.code ⟨"BigRunnerModel", "look", "(I)I"⟩ prog_12_method_46_code 2 (some .int)] ({ frames := 0, cells := 0, slots := 0, locals := 0 }) (va_Pc [.ref M, .int v] (pc_in g sz f)) (va_Qi (fun r f1 => (∃ (th1 : Int32), f1 M = .inr (10, [.int th1, .ref (g.lk M 1), .int (nI mn), .ref (g.lk M 3), .ref (g.lk M 4), .int (nI mdr), .ref (g.lk M 6), .ref (g.lk M 7), .ref (g.lk M 8), .int (nI msz), .int (nI mix), .int (nI mdp), .ref (g.lk M 12), .int (nI mwt), .ref (g.lk M 14), .ref (g.lk M 15), .int (nI mop), .ref (g.lk M 17), .ref (g.lk M 18), .ref (g.lk M 19), .ref (g.lk M 20), .ref (g.lk M 21), .ref (g.lk M 22), .ref (g.lk M 23), .ref (g.lk M 24), .ref (g.lk M 25), .ref (g.lk M 26), .ref (g.lk M 27), .ref (g.lk M 28), .ref (g.lk M 29), .ref (g.lk M 30), .ref (g.lk M 31), .int (nI mtp), .ref (g.lk M 33), .ref (g.lk M 34), .ref (g.lk M 35), .int (nI mwa), .int (nI mgi), .int (nI mpc), .int (nI mst), .int (nI mtr), .int (nI msp), .int mma, .int mlg, .int mdu])) ∧ (IV g f1) ∧ (un [11] g f f1)) (pc_out g sz) (pc_A g sz)) 0 0 (pc_A g sz) := by
  refine pe_ofW (cc := prog_12_method_46_code) (maxL := 2) (ret := (some .int)) (lv := [(0, .ref M), (1, .int v)]) (by decide) (Nat.le_of_ble_eq_true rfl) rfl ?_
  intro p e s m args below meth c ls hx hb hr hml hlocks hown hB hP hK hD hsz hS hl
  subst hsz
  have hu : un [11] g f f := un.rf
  obtain ⟨hmb0, hmb1, hmb2, hmb3, hmb4, hmb5, hmb6, hmb7, hmb8, hmb9, hmb10, hmb11, hmb12, hmb13, hmb14⟩ := hMB
  refine lv_aload_n hx hb d_M_look_0 rfl (lv_at hl 0 rfl) ?_
  refine lv_iconst (v := nI 0) hx hb d_M_look_1 (by decide) ?_
  refine pf_put (v := .int (nI 0)) (ty := .int) (fs' := [.int (nI 0), .ref (g.lk M 1), .int (nI mn), .ref (g.lk M 3), .ref (g.lk M 4), .int (nI mdr), .ref (g.lk M 6), .ref (g.lk M 7), .ref (g.lk M 8), .int (nI msz), .int (nI mix), .int (nI mdp), .ref (g.lk M 12), .int (nI mwt), .ref (g.lk M 14), .ref (g.lk M 15), .int (nI mop), .ref (g.lk M 17), .ref (g.lk M 18), .ref (g.lk M 19), .ref (g.lk M 20), .ref (g.lk M 21), .ref (g.lk M 22), .ref (g.lk M 23), .ref (g.lk M 24), .ref (g.lk M 25), .ref (g.lk M 26), .ref (g.lk M 27), .ref (g.lk M 28), .ref (g.lk M 29), .ref (g.lk M 30), .ref (g.lk M 31), .int (nI mtp), .ref (g.lk M 33), .ref (g.lk M 34), .ref (g.lk M 35), .int (nI mwa), .int (nI mgi), .int (nI mpc), .int (nI mst), .int (nI mtr), .int (nI msp), .int mma, .int mlg, .int mdu]) (C := "BigRunnerModel") (T := FT10) (N := 45) hx hb (hw10 hB _) (fun _ h9 => h9) TY10 ok10 nm10 hown hK hP hD hS (lo_in hL t_M (by decide)) eM rfl 0 (by decide) (wd_947 hB _) rfl (by decide +kernel) rfl rfl (Nat.le_of_ble_eq_true rfl) rfl d_M_look_2 (fun f1 H locs e2 k3 hP hD hS => ?_)
  have hu := hu.st k3 t_M (by decide)
  have hk4 : ∀ b, b ≠ M → f1 b = f b := k3
  refine lv_iload_n hx hb d_M_look_5 rfl (lv_at hl 1 rfl) ?_
  refine lv_iconst (v := nI 4) hx hb d_M_look_6 (by decide) ?_
  refine lv_icmp_ge (tgt := 59) hx hb d_M_look_7 (by decide) (fun b5 => ?_) (fun b5 => ?_)
  · skip
    refine lv_iload_n hx hb d_M_look_59 rfl (lv_at hl 1 rfl) ?_
    refine lv_iconst (v := nI 4) hx hb d_M_look_60 (by decide) ?_
    refine lv_icmp_ne (tgt := 71) hx hb d_M_look_61 (by decide) (fun b6 => ?_) (fun b6 => ?_)
    · skip
      refine lv_iload_n hx hb d_M_look_71 rfl (lv_at hl 1 rfl) ?_
      refine lv_iconst (v := nI 5) hx hb d_M_look_72 (by decide) ?_
      refine lv_icmp_ne (tgt := 83) hx hb d_M_look_73 (by decide) (fun b7 => ?_) (fun b7 => ?_)
      · skip
        refine lv_iload_n hx hb d_M_look_83 rfl (lv_at hl 1 rfl) ?_
        refine lv_bipush (v := nI 6) hx hb d_M_look_84 (by decide) ?_
        refine lv_icmp_ne (tgt := 96) hx hb d_M_look_86 (by decide) (fun b8 => ?_) (fun b8 => ?_)
        · skip
          refine lv_iconst (v := (-1)) hx hb d_M_look_96 (by decide) ?_
          have hI9 := iv_1 hI hL t_M (by decide) hk4 (oc_11.mk t_M (⟨((nI 0)), mn, mdr, msz, mix, mdp, mwt, mop, mtp, mwa, mgi, mpc, mst, mtr, msp, mma, mlg, mdu, e2, (by omega), (by omega), (by omega), (by omega), (by omega), (by omega), (by omega), (by omega), (by omega), (by omega), (by omega), (by omega), (by omega), (by omega), hmb14⟩))
          exact pe_iret hx hb hr hlocks hK hP hD hS d_M_look_97 ⟨⟨(nI 0), e2⟩, hI9, hu⟩
        · skip
          refine lv_aload_n hx hb d_M_look_89 rfl (lv_at hl 0 rfl) ?_
          refine pf_get (v := .int (nI mwa)) (C := "BigRunnerModel") (T := FT10) (N := 45) hx hb (hw10 hB _) (fun _ h9 => h9) hown hK hP (lo_in hL t_M (by decide)) e2 rfl 36 (by decide) (wd_983 hB _) rfl d_M_look_90 ?_
          refine lv_goto (tgt := 97) hx hb d_M_look_93 (by decide) ?_
          have hI10 := iv_1 hI hL t_M (by decide) hk4 (oc_11.mk t_M (⟨((nI 0)), mn, mdr, msz, mix, mdp, mwt, mop, mtp, mwa, mgi, mpc, mst, mtr, msp, mma, mlg, mdu, e2, (by omega), (by omega), (by omega), (by omega), (by omega), (by omega), (by omega), (by omega), (by omega), (by omega), (by omega), (by omega), (by omega), (by omega), hmb14⟩))
          exact pe_iret hx hb hr hlocks hK hP hD hS d_M_look_97 ⟨⟨(nI 0), e2⟩, hI10, hu⟩
      · skip
        refine lv_aload_n hx hb d_M_look_76 rfl (lv_at hl 0 rfl) ?_
        refine pf_get (v := .int (nI mgi)) (C := "BigRunnerModel") (T := FT10) (N := 45) hx hb (hw10 hB _) (fun _ h9 => h9) hown hK hP (lo_in hL t_M (by decide)) e2 rfl 37 (by decide) (wd_984 hB _) rfl d_M_look_77 ?_
        refine lv_goto (tgt := 97) hx hb d_M_look_80 (by decide) ?_
        have hI11 := iv_1 hI hL t_M (by decide) hk4 (oc_11.mk t_M (⟨((nI 0)), mn, mdr, msz, mix, mdp, mwt, mop, mtp, mwa, mgi, mpc, mst, mtr, msp, mma, mlg, mdu, e2, (by omega), (by omega), (by omega), (by omega), (by omega), (by omega), (by omega), (by omega), (by omega), (by omega), (by omega), (by omega), (by omega), (by omega), hmb14⟩))
        exact pe_iret hx hb hr hlocks hK hP hD hS d_M_look_97 ⟨⟨(nI 0), e2⟩, hI11, hu⟩
    · skip
      refine lv_aload_n hx hb d_M_look_64 rfl (lv_at hl 0 rfl) ?_
      refine pf_get (v := .int mlg) (C := "BigRunnerModel") (T := FT10) (N := 45) hx hb (hw10 hB _) (fun _ h9 => h9) hown hK hP (lo_in hL t_M (by decide)) e2 rfl 43 (by decide) (wd_990 hB _) rfl d_M_look_65 ?_
      refine lv_goto (tgt := 97) hx hb d_M_look_68 (by decide) ?_
      have hI12 := iv_1 hI hL t_M (by decide) hk4 (oc_11.mk t_M (⟨((nI 0)), mn, mdr, msz, mix, mdp, mwt, mop, mtp, mwa, mgi, mpc, mst, mtr, msp, mma, mlg, mdu, e2, (by omega), (by omega), (by omega), (by omega), (by omega), (by omega), (by omega), (by omega), (by omega), (by omega), (by omega), (by omega), (by omega), (by omega), hmb14⟩))
      exact pe_iret hx hb hr hlocks hK hP hD hS d_M_look_97 ⟨⟨(nI 0), e2⟩, hI12, hu⟩
  · skip
    refine lv_iload_n hx hb d_M_look_10 rfl (lv_at hl 1 rfl) ?_
    refine lv_if_ne (tgt := 21) hx hb d_M_look_11 (by decide) (fun b13 => ?_) (fun b13 => ?_)
    · skip
      refine lv_iload_n hx hb d_M_look_21 rfl (lv_at hl 1 rfl) ?_
      refine lv_iconst (v := nI 1) hx hb d_M_look_22 (by decide) ?_
      refine lv_icmp_ne (tgt := 33) hx hb d_M_look_23 (by decide) (fun b14 => ?_) (fun b14 => ?_)
      · skip
        refine lv_iload_n hx hb d_M_look_33 rfl (lv_at hl 1 rfl) ?_
        refine lv_iconst (v := nI 2) hx hb d_M_look_34 (by decide) ?_
        refine lv_icmp_ne (tgt := 45) hx hb d_M_look_35 (by decide) (fun b15 => ?_) (fun b15 => ?_)
        · skip
          refine lv_iload_n hx hb d_M_look_45 rfl (lv_at hl 1 rfl) ?_
          refine lv_iconst (v := nI 3) hx hb d_M_look_46 (by decide) ?_
          refine lv_icmp_ne (tgt := 57) hx hb d_M_look_47 (by decide) (fun b16 => ?_) (fun b16 => ?_)
          · skip
            refine lv_iconst (v := (-1)) hx hb d_M_look_57 (by decide) ?_
            have hI17 := iv_1 hI hL t_M (by decide) hk4 (oc_11.mk t_M (⟨((nI 0)), mn, mdr, msz, mix, mdp, mwt, mop, mtp, mwa, mgi, mpc, mst, mtr, msp, mma, mlg, mdu, e2, (by omega), (by omega), (by omega), (by omega), (by omega), (by omega), (by omega), (by omega), (by omega), (by omega), (by omega), (by omega), (by omega), (by omega), hmb14⟩))
            exact pe_iret hx hb hr hlocks hK hP hD hS d_M_look_58 ⟨⟨(nI 0), e2⟩, hI17, hu⟩
          · skip
            refine lv_aload_n hx hb d_M_look_50 rfl (lv_at hl 0 rfl) ?_
            refine pf_get (v := .int mma) (C := "BigRunnerModel") (T := FT10) (N := 45) hx hb (hw10 hB _) (fun _ h9 => h9) hown hK hP (lo_in hL t_M (by decide)) e2 rfl 42 (by decide) (wd_989 hB _) rfl d_M_look_51 ?_
            refine lv_goto (tgt := 58) hx hb d_M_look_54 (by decide) ?_
            have hI18 := iv_1 hI hL t_M (by decide) hk4 (oc_11.mk t_M (⟨((nI 0)), mn, mdr, msz, mix, mdp, mwt, mop, mtp, mwa, mgi, mpc, mst, mtr, msp, mma, mlg, mdu, e2, (by omega), (by omega), (by omega), (by omega), (by omega), (by omega), (by omega), (by omega), (by omega), (by omega), (by omega), (by omega), (by omega), (by omega), hmb14⟩))
            exact pe_iret hx hb hr hlocks hK hP hD hS d_M_look_58 ⟨⟨(nI 0), e2⟩, hI18, hu⟩
        · skip
          refine lv_aload_n hx hb d_M_look_38 rfl (lv_at hl 0 rfl) ?_
          refine pf_get (v := .int (nI msp)) (C := "BigRunnerModel") (T := FT10) (N := 45) hx hb (hw10 hB _) (fun _ h9 => h9) hown hK hP (lo_in hL t_M (by decide)) e2 rfl 41 (by decide) (wd_988 hB _) rfl d_M_look_39 ?_
          refine lv_goto (tgt := 58) hx hb d_M_look_42 (by decide) ?_
          have hI19 := iv_1 hI hL t_M (by decide) hk4 (oc_11.mk t_M (⟨((nI 0)), mn, mdr, msz, mix, mdp, mwt, mop, mtp, mwa, mgi, mpc, mst, mtr, msp, mma, mlg, mdu, e2, (by omega), (by omega), (by omega), (by omega), (by omega), (by omega), (by omega), (by omega), (by omega), (by omega), (by omega), (by omega), (by omega), (by omega), hmb14⟩))
          exact pe_iret hx hb hr hlocks hK hP hD hS d_M_look_58 ⟨⟨(nI 0), e2⟩, hI19, hu⟩
      · skip
        refine lv_aload_n hx hb d_M_look_26 rfl (lv_at hl 0 rfl) ?_
        refine pf_get (v := .int (nI mtr)) (C := "BigRunnerModel") (T := FT10) (N := 45) hx hb (hw10 hB _) (fun _ h9 => h9) hown hK hP (lo_in hL t_M (by decide)) e2 rfl 40 (by decide) (wd_987 hB _) rfl d_M_look_27 ?_
        refine lv_goto (tgt := 58) hx hb d_M_look_30 (by decide) ?_
        have hI20 := iv_1 hI hL t_M (by decide) hk4 (oc_11.mk t_M (⟨((nI 0)), mn, mdr, msz, mix, mdp, mwt, mop, mtp, mwa, mgi, mpc, mst, mtr, msp, mma, mlg, mdu, e2, (by omega), (by omega), (by omega), (by omega), (by omega), (by omega), (by omega), (by omega), (by omega), (by omega), (by omega), (by omega), (by omega), (by omega), hmb14⟩))
        exact pe_iret hx hb hr hlocks hK hP hD hS d_M_look_58 ⟨⟨(nI 0), e2⟩, hI20, hu⟩
    · skip
      refine lv_aload_n hx hb d_M_look_14 rfl (lv_at hl 0 rfl) ?_
      refine pf_get (v := .int (nI mst)) (C := "BigRunnerModel") (T := FT10) (N := 45) hx hb (hw10 hB _) (fun _ h9 => h9) hown hK hP (lo_in hL t_M (by decide)) e2 rfl 39 (by decide) (wd_986 hB _) rfl d_M_look_15 ?_
      refine lv_goto (tgt := 58) hx hb d_M_look_18 (by decide) ?_
      have hI21 := iv_1 hI hL t_M (by decide) hk4 (oc_11.mk t_M (⟨((nI 0)), mn, mdr, msz, mix, mdp, mwt, mop, mtp, mwa, mgi, mpc, mst, mtr, msp, mma, mlg, mdu, e2, (by omega), (by omega), (by omega), (by omega), (by omega), (by omega), (by omega), (by omega), (by omega), (by omega), (by omega), (by omega), (by omega), (by omega), hmb14⟩))
      exact pe_iret hx hb hr hlocks hK hP hD hS d_M_look_58 ⟨⟨(nI 0), e2⟩, hI21, hu⟩
set_option maxHeartbeats 4000000 in
set_option maxRecDepth 100000 in
theorem m_bound (l : Launch) (g : Lay) (sz : Nat) (f : Nat → va_E) (M : Nat) (mth : Int32) (mn : Nat) (mdr : Nat) (msz : Nat) (mix : Nat) (mdp : Nat) (mwt : Nat) (mop : Nat) (mtp : Nat) (mwa : Nat) (mgi : Nat) (mpc : Nat) (mst : Nat) (mtr : Nat) (msp : Nat) (mma : Int32) (mlg : Int32) (mdu : Int32) (v : Int32) (gr : Int32) (hL : LO g) (t_M : g.tg M = 11) (hI : IV g f) (eM : f M = .inr (10, [.int mth, .ref (g.lk M 1), .int (nI mn), .ref (g.lk M 3), .ref (g.lk M 4), .int (nI mdr), .ref (g.lk M 6), .ref (g.lk M 7), .ref (g.lk M 8), .int (nI msz), .int (nI mix), .int (nI mdp), .ref (g.lk M 12), .int (nI mwt), .ref (g.lk M 14), .ref (g.lk M 15), .int (nI mop), .ref (g.lk M 17), .ref (g.lk M 18), .ref (g.lk M 19), .ref (g.lk M 20), .ref (g.lk M 21), .ref (g.lk M 22), .ref (g.lk M 23), .ref (g.lk M 24), .ref (g.lk M 25), .ref (g.lk M 26), .ref (g.lk M 27), .ref (g.lk M 28), .ref (g.lk M 29), .ref (g.lk M 30), .ref (g.lk M 31), .int (nI mtp), .ref (g.lk M 33), .ref (g.lk M 34), .ref (g.lk M 35), .int (nI mwa), .int (nI mgi), .int (nI mpc), .int (nI mst), .int (nI mtr), .int (nI msp), .int mma, .int mlg, .int mdu])) (hMB : mn ≤ 72 ∧ mdr ≤ 100 ∧ msz ≤ 100 ∧ mix ≤ 100 ∧ mdp ≤ 20 ∧ mwt ≤ 72 ∧ mop ≤ 40 ∧ mtp ≤ 80 ∧ mwa ≤ 20 ∧ mgi ≤ msp ∧ mpc ≤ 100 ∧ mst ≤ 4 ∧ mtr ≤ 3 ∧ msp ≤ 3000 ∧ (mdu = 0 ∨ mdu = 1)) : Met l ⟨"BigRunnerModel", "bound", "(IZ)J"⟩ [Cond.code ⟨"BigRunnerModel", "bound", "(IZ)J"⟩ prog_12_method_47_code 4 (some .long)] ({ frames := 0, cells := 0, slots := 0, locals := 0 }) (va_Pc [.ref M, .int v, .int gr] (pc_in g sz f)) (va_Ql (fun r f1 => (∃ (th1 : Int32), f1 M = .inr (10, [.int th1, .ref (g.lk M 1), .int (nI mn), .ref (g.lk M 3), .ref (g.lk M 4), .int (nI mdr), .ref (g.lk M 6), .ref (g.lk M 7), .ref (g.lk M 8), .int (nI msz), .int (nI mix), .int (nI mdp), .ref (g.lk M 12), .int (nI mwt), .ref (g.lk M 14), .ref (g.lk M 15), .int (nI mop), .ref (g.lk M 17), .ref (g.lk M 18), .ref (g.lk M 19), .ref (g.lk M 20), .ref (g.lk M 21), .ref (g.lk M 22), .ref (g.lk M 23), .ref (g.lk M 24), .ref (g.lk M 25), .ref (g.lk M 26), .ref (g.lk M 27), .ref (g.lk M 28), .ref (g.lk M 29), .ref (g.lk M 30), .ref (g.lk M 31), .int (nI mtp), .ref (g.lk M 33), .ref (g.lk M 34), .ref (g.lk M 35), .int (nI mwa), .int (nI mgi), .int (nI mpc), .int (nI mst), .int (nI mtr), .int (nI msp), .int mma, .int mlg, .int mdu])) ∧ (IV g f1) ∧ (un [11] g f f1)) (pc_out g sz) (pc_A g sz)) 0 0 (pc_A g sz) := by
  refine pe_ofW (cc := prog_12_method_47_code) (maxL := 4) (ret := (some .long)) (lv := [(0, .ref M), (1, .int v), (2, .int gr)]) (by decide) (Nat.le_of_ble_eq_true rfl) rfl ?_
  intro p e s m args below meth c ls hx hb hr hml hlocks hown hB hP hK hD hsz hS hl
  subst hsz
  have hu : un [11] g f f := un.rf
  obtain ⟨hmb0, hmb1, hmb2, hmb3, hmb4, hmb5, hmb6, hmb7, hmb8, hmb9, hmb10, hmb11, hmb12, hmb13, hmb14⟩ := hMB
  refine lv_iload_n hx hb d_M_bound_0 rfl (lv_at hl 1 rfl) ?_
  refine lv_if_lt (tgt := 21) hx hb d_M_bound_1 (by decide) (fun b1 => ?_) (fun b1 => ?_)
  · skip
    refine lv_iconst (v := nI 0) hx hb d_M_bound_21 (by decide) ?_
    refine lv_istore_n (lv' := [(3, .int (nI 0)), (0, .ref M), (1, .int v), (2, .int gr)]) hx hb d_M_bound_22 rfl hl (by decide) rfl (fun ls hl => ?_)
    refine lv_aload_n hx hb d_M_bound_23 rfl (lv_at hl 1 rfl) ?_
    refine lv_iload_n hx hb d_M_bound_24 rfl (lv_at hl 0 rfl) ?_
    refine lv_if_eq (tgt := 32) hx hb d_M_bound_25 (by decide) (fun b2 => ?_) (fun b2 => ?_)
    · skip
      replace b2 := (nI_eq (a := 0) (b := 0) (by omega) (by omega)).mp b2
      refine lv_iconst (v := nI 1) hx hb d_M_bound_32 (by decide) ?_
      refine pf_put (v := .int (nI 1)) (ty := .int) (fs' := [.int (nI 1), .ref (g.lk M 1), .int (nI mn), .ref (g.lk M 3), .ref (g.lk M 4), .int (nI mdr), .ref (g.lk M 6), .ref (g.lk M 7), .ref (g.lk M 8), .int (nI msz), .int (nI mix), .int (nI mdp), .ref (g.lk M 12), .int (nI mwt), .ref (g.lk M 14), .ref (g.lk M 15), .int (nI mop), .ref (g.lk M 17), .ref (g.lk M 18), .ref (g.lk M 19), .ref (g.lk M 20), .ref (g.lk M 21), .ref (g.lk M 22), .ref (g.lk M 23), .ref (g.lk M 24), .ref (g.lk M 25), .ref (g.lk M 26), .ref (g.lk M 27), .ref (g.lk M 28), .ref (g.lk M 29), .ref (g.lk M 30), .ref (g.lk M 31), .int (nI mtp), .ref (g.lk M 33), .ref (g.lk M 34), .ref (g.lk M 35), .int (nI mwa), .int (nI mgi), .int (nI mpc), .int (nI mst), .int (nI mtr), .int (nI msp), .int mma, .int mlg, .int mdu]) (C := "BigRunnerModel") (T := FT10) (N := 45) hx hb (hw10 hB _) (fun _ h9 => h9) TY10 ok10 nm10 hown hK hP hD hS (lo_in hL t_M (by decide)) eM rfl 0 (by decide) (wd_947 hB _) rfl (by decide +kernel) rfl rfl (Nat.le_of_ble_eq_true rfl) rfl d_M_bound_33 (fun f3 H locs e4 k5 hP hD hS => ?_)
      have hu := hu.st k5 t_M (by decide)
      have hk6 : ∀ b, b ≠ M → f3 b = f b := k5
      refine lv_iload_n hx hb d_M_bound_36 rfl (lv_at hl 0 rfl) ?_
      refine lv_if_ne (tgt := 42) hx hb d_M_bound_37 (by decide) (fun b7 => ?_) (fun b7 => ?_)
      · skip
        replace b7 := mt (nI_eq (a := 0) (b := 0) (by omega) (by omega)).mpr b7
        exfalso; omega
      · skip
        replace b7 := (nI_eq (a := 0) (b := 0) (by omega) (by omega)).mp b7
        refine lv_lconst (v := nL 0) hx hb d_M_bound_40 (by decide) ?_
        have hI8 := iv_1 hI hL t_M (by decide) hk6 (oc_11.mk t_M (⟨((nI 1)), mn, mdr, msz, mix, mdp, mwt, mop, mtp, mwa, mgi, mpc, mst, mtr, msp, mma, mlg, mdu, e4, (by omega), (by omega), (by omega), (by omega), (by omega), (by omega), (by omega), (by omega), (by omega), (by omega), (by omega), (by omega), (by omega), (by omega), hmb14⟩))
        exact pe_lret hx hb hr hlocks hK hP hD hS d_M_bound_41 ⟨⟨(nI 1), e4⟩, hI8, hu⟩
    · skip
      replace b2 := mt (nI_eq (a := 0) (b := 0) (by omega) (by omega)).mpr b2
      exfalso; omega
  · skip
    refine lv_iload_n hx hb d_M_bound_4 rfl (lv_at hl 1 rfl) ?_
    refine lv_bipush (v := nI 10) hx hb d_M_bound_5 (by decide) ?_
    refine lv_icmp_ge (tgt := 21) hx hb d_M_bound_7 (by decide) (fun b9 => ?_) (fun b9 => ?_)
    · skip
      refine lv_iconst (v := nI 0) hx hb d_M_bound_21 (by decide) ?_
      refine lv_istore_n (lv' := [(3, .int (nI 0)), (0, .ref M), (1, .int v), (2, .int gr)]) hx hb d_M_bound_22 rfl hl (by decide) rfl (fun ls hl => ?_)
      refine lv_aload_n hx hb d_M_bound_23 rfl (lv_at hl 1 rfl) ?_
      refine lv_iload_n hx hb d_M_bound_24 rfl (lv_at hl 0 rfl) ?_
      refine lv_if_eq (tgt := 32) hx hb d_M_bound_25 (by decide) (fun b10 => ?_) (fun b10 => ?_)
      · skip
        replace b10 := (nI_eq (a := 0) (b := 0) (by omega) (by omega)).mp b10
        refine lv_iconst (v := nI 1) hx hb d_M_bound_32 (by decide) ?_
        refine pf_put (v := .int (nI 1)) (ty := .int) (fs' := [.int (nI 1), .ref (g.lk M 1), .int (nI mn), .ref (g.lk M 3), .ref (g.lk M 4), .int (nI mdr), .ref (g.lk M 6), .ref (g.lk M 7), .ref (g.lk M 8), .int (nI msz), .int (nI mix), .int (nI mdp), .ref (g.lk M 12), .int (nI mwt), .ref (g.lk M 14), .ref (g.lk M 15), .int (nI mop), .ref (g.lk M 17), .ref (g.lk M 18), .ref (g.lk M 19), .ref (g.lk M 20), .ref (g.lk M 21), .ref (g.lk M 22), .ref (g.lk M 23), .ref (g.lk M 24), .ref (g.lk M 25), .ref (g.lk M 26), .ref (g.lk M 27), .ref (g.lk M 28), .ref (g.lk M 29), .ref (g.lk M 30), .ref (g.lk M 31), .int (nI mtp), .ref (g.lk M 33), .ref (g.lk M 34), .ref (g.lk M 35), .int (nI mwa), .int (nI mgi), .int (nI mpc), .int (nI mst), .int (nI mtr), .int (nI msp), .int mma, .int mlg, .int mdu]) (C := "BigRunnerModel") (T := FT10) (N := 45) hx hb (hw10 hB _) (fun _ h9 => h9) TY10 ok10 nm10 hown hK hP hD hS (lo_in hL t_M (by decide)) eM rfl 0 (by decide) (wd_947 hB _) rfl (by decide +kernel) rfl rfl (Nat.le_of_ble_eq_true rfl) rfl d_M_bound_33 (fun f11 H locs e12 k13 hP hD hS => ?_)
        have hu := hu.st k13 t_M (by decide)
        have hk14 : ∀ b, b ≠ M → f11 b = f b := k13
        refine lv_iload_n hx hb d_M_bound_36 rfl (lv_at hl 0 rfl) ?_
        refine lv_if_ne (tgt := 42) hx hb d_M_bound_37 (by decide) (fun b15 => ?_) (fun b15 => ?_)
        · skip
          replace b15 := mt (nI_eq (a := 0) (b := 0) (by omega) (by omega)).mpr b15
          exfalso; omega
        · skip
          replace b15 := (nI_eq (a := 0) (b := 0) (by omega) (by omega)).mp b15
          refine lv_lconst (v := nL 0) hx hb d_M_bound_40 (by decide) ?_
          have hI16 := iv_1 hI hL t_M (by decide) hk14 (oc_11.mk t_M (⟨((nI 1)), mn, mdr, msz, mix, mdp, mwt, mop, mtp, mwa, mgi, mpc, mst, mtr, msp, mma, mlg, mdu, e12, (by omega), (by omega), (by omega), (by omega), (by omega), (by omega), (by omega), (by omega), (by omega), (by omega), (by omega), (by omega), (by omega), (by omega), hmb14⟩))
          exact pe_lret hx hb hr hlocks hK hP hD hS d_M_bound_41 ⟨⟨(nI 1), e12⟩, hI16, hu⟩
      · skip
        replace b10 := mt (nI_eq (a := 0) (b := 0) (by omega) (by omega)).mpr b10
        exfalso; omega
    · skip
      obtain ⟨vk17, hvk17, rfl⟩ := ix_on (n := 10) (by decide) b1 (Int32.not_le.mp b9)
      refine lv_aload_n hx hb d_M_bound_10 rfl (lv_at hl 0 rfl) ?_
      refine pf_get (v := .int (nI mst)) (C := "BigRunnerModel") (T := FT10) (N := 45) hx hb (hw10 hB _) (fun _ h9 => h9) hown hK hP (lo_in hL t_M (by decide)) eM rfl 39 (by decide) (wd_986 hB _) rfl d_M_bound_11 ?_
      refine lv_if_le (tgt := 21) hx hb d_M_bound_14 (by decide) (fun b18 => ?_) (fun b18 => ?_)
      · skip
        replace b18 := (nI_leI (a := mst) (b := 0) (by omega) (by omega)).mp b18
        refine lv_iconst (v := nI 0) hx hb d_M_bound_21 (by decide) ?_
        refine lv_istore_n (lv' := [(3, .int (nI 0)), (0, .ref M), (1, .int (nI vk17)), (2, .int gr)]) hx hb d_M_bound_22 rfl hl (by decide) rfl (fun ls hl => ?_)
        refine lv_aload_n hx hb d_M_bound_23 rfl (lv_at hl 1 rfl) ?_
        refine lv_iload_n hx hb d_M_bound_24 rfl (lv_at hl 0 rfl) ?_
        refine lv_if_eq (tgt := 32) hx hb d_M_bound_25 (by decide) (fun b19 => ?_) (fun b19 => ?_)
        · skip
          replace b19 := (nI_eq (a := 0) (b := 0) (by omega) (by omega)).mp b19
          refine lv_iconst (v := nI 1) hx hb d_M_bound_32 (by decide) ?_
          refine pf_put (v := .int (nI 1)) (ty := .int) (fs' := [.int (nI 1), .ref (g.lk M 1), .int (nI mn), .ref (g.lk M 3), .ref (g.lk M 4), .int (nI mdr), .ref (g.lk M 6), .ref (g.lk M 7), .ref (g.lk M 8), .int (nI msz), .int (nI mix), .int (nI mdp), .ref (g.lk M 12), .int (nI mwt), .ref (g.lk M 14), .ref (g.lk M 15), .int (nI mop), .ref (g.lk M 17), .ref (g.lk M 18), .ref (g.lk M 19), .ref (g.lk M 20), .ref (g.lk M 21), .ref (g.lk M 22), .ref (g.lk M 23), .ref (g.lk M 24), .ref (g.lk M 25), .ref (g.lk M 26), .ref (g.lk M 27), .ref (g.lk M 28), .ref (g.lk M 29), .ref (g.lk M 30), .ref (g.lk M 31), .int (nI mtp), .ref (g.lk M 33), .ref (g.lk M 34), .ref (g.lk M 35), .int (nI mwa), .int (nI mgi), .int (nI mpc), .int (nI mst), .int (nI mtr), .int (nI msp), .int mma, .int mlg, .int mdu]) (C := "BigRunnerModel") (T := FT10) (N := 45) hx hb (hw10 hB _) (fun _ h9 => h9) TY10 ok10 nm10 hown hK hP hD hS (lo_in hL t_M (by decide)) eM rfl 0 (by decide) (wd_947 hB _) rfl (by decide +kernel) rfl rfl (Nat.le_of_ble_eq_true rfl) rfl d_M_bound_33 (fun f20 H locs e21 k22 hP hD hS => ?_)
          have hu := hu.st k22 t_M (by decide)
          have hk23 : ∀ b, b ≠ M → f20 b = f b := k22
          refine lv_iload_n hx hb d_M_bound_36 rfl (lv_at hl 0 rfl) ?_
          refine lv_if_ne (tgt := 42) hx hb d_M_bound_37 (by decide) (fun b24 => ?_) (fun b24 => ?_)
          · skip
            replace b24 := mt (nI_eq (a := 0) (b := 0) (by omega) (by omega)).mpr b24
            exfalso; omega
          · skip
            replace b24 := (nI_eq (a := 0) (b := 0) (by omega) (by omega)).mp b24
            refine lv_lconst (v := nL 0) hx hb d_M_bound_40 (by decide) ?_
            have hI25 := iv_1 hI hL t_M (by decide) hk23 (oc_11.mk t_M (⟨((nI 1)), mn, mdr, msz, mix, mdp, mwt, mop, mtp, mwa, mgi, mpc, mst, mtr, msp, mma, mlg, mdu, e21, (by omega), (by omega), (by omega), (by omega), (by omega), (by omega), (by omega), (by omega), (by omega), (by omega), (by omega), (by omega), (by omega), (by omega), hmb14⟩))
            exact pe_lret hx hb hr hlocks hK hP hD hS d_M_bound_41 ⟨⟨(nI 1), e21⟩, hI25, hu⟩
        · skip
          replace b19 := mt (nI_eq (a := 0) (b := 0) (by omega) (by omega)).mpr b19
          exfalso; omega
      · skip
        replace b18 := mt (nI_leI (a := mst) (b := 0) (by omega) (by omega)).mpr b18
        refine lv_iconst (v := nI 1) hx hb d_M_bound_17 (by decide) ?_
        refine lv_goto (tgt := 22) hx hb d_M_bound_18 (by decide) ?_
        refine lv_istore_n (lv' := [(3, .int (nI 1)), (0, .ref M), (1, .int (nI vk17)), (2, .int gr)]) hx hb d_M_bound_22 rfl hl (by decide) rfl (fun ls hl => ?_)
        refine lv_aload_n hx hb d_M_bound_23 rfl (lv_at hl 1 rfl) ?_
        refine lv_iload_n hx hb d_M_bound_24 rfl (lv_at hl 0 rfl) ?_
        refine lv_if_eq (tgt := 32) hx hb d_M_bound_25 (by decide) (fun b26 => ?_) (fun b26 => ?_)
        · skip
          replace b26 := (nI_eq (a := 1) (b := 0) (by omega) (by omega)).mp b26
          exfalso; omega
        · skip
          replace b26 := mt (nI_eq (a := 1) (b := 0) (by omega) (by omega)).mpr b26
          refine lv_iconst (v := nI 0) hx hb d_M_bound_28 (by decide) ?_
          refine lv_goto (tgt := 33) hx hb d_M_bound_29 (by decide) ?_
          refine pf_put (v := .int (nI 0)) (ty := .int) (fs' := [.int (nI 0), .ref (g.lk M 1), .int (nI mn), .ref (g.lk M 3), .ref (g.lk M 4), .int (nI mdr), .ref (g.lk M 6), .ref (g.lk M 7), .ref (g.lk M 8), .int (nI msz), .int (nI mix), .int (nI mdp), .ref (g.lk M 12), .int (nI mwt), .ref (g.lk M 14), .ref (g.lk M 15), .int (nI mop), .ref (g.lk M 17), .ref (g.lk M 18), .ref (g.lk M 19), .ref (g.lk M 20), .ref (g.lk M 21), .ref (g.lk M 22), .ref (g.lk M 23), .ref (g.lk M 24), .ref (g.lk M 25), .ref (g.lk M 26), .ref (g.lk M 27), .ref (g.lk M 28), .ref (g.lk M 29), .ref (g.lk M 30), .ref (g.lk M 31), .int (nI mtp), .ref (g.lk M 33), .ref (g.lk M 34), .ref (g.lk M 35), .int (nI mwa), .int (nI mgi), .int (nI mpc), .int (nI mst), .int (nI mtr), .int (nI msp), .int mma, .int mlg, .int mdu]) (C := "BigRunnerModel") (T := FT10) (N := 45) hx hb (hw10 hB _) (fun _ h9 => h9) TY10 ok10 nm10 hown hK hP hD hS (lo_in hL t_M (by decide)) eM rfl 0 (by decide) (wd_947 hB _) rfl (by decide +kernel) rfl rfl (Nat.le_of_ble_eq_true rfl) rfl d_M_bound_33 (fun f27 H locs e28 k29 hP hD hS => ?_)
          have hu := hu.st k29 t_M (by decide)
          have hk30 : ∀ b, b ≠ M → f27 b = f b := k29
          refine lv_iload_n hx hb d_M_bound_36 rfl (lv_at hl 0 rfl) ?_
          refine lv_if_ne (tgt := 42) hx hb d_M_bound_37 (by decide) (fun b31 => ?_) (fun b31 => ?_)
          · skip
            replace b31 := mt (nI_eq (a := 1) (b := 0) (by omega) (by omega)).mpr b31
            refine lv_aload_n hx hb d_M_bound_42 rfl (lv_at hl 1 rfl) ?_
            refine lv_iload_n hx hb d_M_bound_43 rfl (lv_at hl 3 rfl) ?_
            refine lv_if_eq (tgt := 59) hx hb d_M_bound_44 (by decide) (fun b32 => ?_) (fun b32 => ?_)
            · skip
              refine lv_aload_n hx hb d_M_bound_59 rfl (lv_at hl 1 rfl) ?_
              refine pf_get (v := .ref (g.lk M 19)) (C := "BigRunnerModel") (T := FT10) (N := 45) hx hb (hw10 hB _) (fun _ h9 => h9) hown hK hP (lo_in hL t_M (by decide)) e28 rfl 19 (by decide) (wd_966 hB _) rfl d_M_bound_60 ?_
              refine lv_iload_n hx hb d_M_bound_63 rfl (lv_at hl 2 rfl) ?_
              obtain ⟨h_34, e33⟩ := oc_51.of (lo_k11_19 hL _ t_M) (hI.1 (g.lk M 19))
              replace e33 := (hk30 (g.lk M 19) (tg_ne (lo_k11_19 hL _ t_M) t_M (by decide))).trans e33
              refine pf_zald (i := vk17) hx hb hK hP (lo_in hL (lo_k11_19 hL _ t_M) (by decide)) e33 (lo_t51 hL _ (lo_k11_19 hL _ t_M)) (by omega) (by decide) d_M_bound_64 ?_
              refine lv_topi (fun iv36 _ => ?_)
              refine lv_if_eq (tgt := 72) hx hb d_M_bound_65 (by decide) (fun b37 => ?_) (fun b37 => ?_)
              · skip
                refine lv_iconst (v := nI 0) hx hb d_M_bound_72 (by decide) ?_
                refine pf_put (v := .int (nI 0)) (ty := .int) (fs' := [.int (nI 0), .ref (g.lk M 1), .int (nI mn), .ref (g.lk M 3), .ref (g.lk M 4), .int (nI mdr), .ref (g.lk M 6), .ref (g.lk M 7), .ref (g.lk M 8), .int (nI msz), .int (nI mix), .int (nI mdp), .ref (g.lk M 12), .int (nI mwt), .ref (g.lk M 14), .ref (g.lk M 15), .int (nI mop), .ref (g.lk M 17), .ref (g.lk M 18), .ref (g.lk M 19), .ref (g.lk M 20), .ref (g.lk M 21), .ref (g.lk M 22), .ref (g.lk M 23), .ref (g.lk M 24), .ref (g.lk M 25), .ref (g.lk M 26), .ref (g.lk M 27), .ref (g.lk M 28), .ref (g.lk M 29), .ref (g.lk M 30), .ref (g.lk M 31), .int (nI mtp), .ref (g.lk M 33), .ref (g.lk M 34), .ref (g.lk M 35), .int (nI mwa), .int (nI mgi), .int (nI mpc), .int (nI mst), .int (nI mtr), .int (nI msp), .int mma, .int mlg, .int mdu]) (C := "BigRunnerModel") (T := FT10) (N := 45) hx hb (hw10 hB _) (fun _ h9 => h9) TY10 ok10 nm10 hown hK hP hD hS (lo_in hL t_M (by decide)) e28 rfl 0 (by decide) (wd_947 hB _) rfl (by decide +kernel) rfl rfl (Nat.le_of_ble_eq_true rfl) rfl d_M_bound_73 (fun f38 H locs e39 k40 hP hD hS => ?_)
                have e33 := (k40 (g.lk M 19) (tg_ne (lo_k11_19 hL _ t_M) t_M (by decide))).trans e33
                have hu := hu.st k40 t_M (by decide)
                have hk41 : ∀ b, b ≠ M → f38 b = f b := fun b q0 => (k40 b q0).trans (hk30 b q0)
                refine lv_aload_n hx hb d_M_bound_76 rfl (lv_at hl 1 rfl) ?_
                refine pf_get (v := .int (nI 0)) (C := "BigRunnerModel") (T := FT10) (N := 45) hx hb (hw10 hB _) (fun _ h9 => h9) hown hK hP (lo_in hL t_M (by decide)) e39 rfl 0 (by decide) (wd_947 hB _) rfl d_M_bound_77 ?_
                refine lv_if_le (tgt := 87) hx hb d_M_bound_80 (by decide) (fun b42 => ?_) (fun b42 => ?_)
                · skip
                  replace b42 := (nI_leI (a := 0) (b := 0) (by omega) (by omega)).mp b42
                  refine lv_iload_n hx hb d_M_bound_87 rfl (lv_at hl 3 rfl) ?_
                  refine lv_if_eq (tgt := 100) hx hb d_M_bound_88 (by decide) (fun b43 => ?_) (fun b43 => ?_)
                  · skip
                    refine lv_aload_n hx hb d_M_bound_100 rfl (lv_at hl 1 rfl) ?_
                    refine pf_get (v := .ref (g.lk M 17)) (C := "BigRunnerModel") (T := FT10) (N := 45) hx hb (hw10 hB _) (fun _ h9 => h9) hown hK hP (lo_in hL t_M (by decide)) e39 rfl 17 (by decide) (wd_964 hB _) rfl d_M_bound_101 ?_
                    refine lv_iload_n hx hb d_M_bound_104 rfl (lv_at hl 2 rfl) ?_
                    obtain ⟨h_45, e44⟩ := oc_49.of (lo_k11_17 hL _ t_M) (hI.1 (g.lk M 17))
                    replace e44 := (hk41 (g.lk M 17) (tg_ne (lo_k11_17 hL _ t_M) t_M (by decide))).trans e44
                    refine pf_lald (i := vk17) hx hb hK hP (lo_in hL (lo_k11_17 hL _ t_M) (by decide)) e44 (lo_t49 hL _ (lo_k11_17 hL _ t_M)) (by omega) (by decide) d_M_bound_105 ?_
                    refine lv_topl (fun lv47 _ => ?_)
                    have hI48 := iv_1 hI hL t_M (by decide) hk41 (oc_11.mk t_M (⟨((nI 0)), mn, mdr, msz, mix, mdp, mwt, mop, mtp, mwa, mgi, mpc, mst, mtr, msp, mma, mlg, mdu, e39, (by omega), (by omega), (by omega), (by omega), (by omega), (by omega), (by omega), (by omega), (by omega), (by omega), (by omega), (by omega), (by omega), (by omega), hmb14⟩))
                    exact pe_lret hx hb hr hlocks hK hP hD hS d_M_bound_106 ⟨⟨(nI 0), e39⟩, hI48, hu⟩
                  · skip
                    refine lv_aload_n hx hb d_M_bound_91 rfl (lv_at hl 1 rfl) ?_
                    refine pf_get (v := .ref (g.lk M 18)) (C := "BigRunnerModel") (T := FT10) (N := 45) hx hb (hw10 hB _) (fun _ h9 => h9) hown hK hP (lo_in hL t_M (by decide)) e39 rfl 18 (by decide) (wd_965 hB _) rfl d_M_bound_92 ?_
                    refine lv_iload_n hx hb d_M_bound_95 rfl (lv_at hl 2 rfl) ?_
                    obtain ⟨h_50, e49⟩ := oc_50.of (lo_k11_18 hL _ t_M) (hI.1 (g.lk M 18))
                    replace e49 := (hk41 (g.lk M 18) (tg_ne (lo_k11_18 hL _ t_M) t_M (by decide))).trans e49
                    refine pf_lald (i := vk17) hx hb hK hP (lo_in hL (lo_k11_18 hL _ t_M) (by decide)) e49 (lo_t50 hL _ (lo_k11_18 hL _ t_M)) (by omega) (by decide) d_M_bound_96 ?_
                    refine lv_topl (fun lv52 _ => ?_)
                    refine lv_goto (tgt := 106) hx hb d_M_bound_97 (by decide) ?_
                    have hI53 := iv_1 hI hL t_M (by decide) hk41 (oc_11.mk t_M (⟨((nI 0)), mn, mdr, msz, mix, mdp, mwt, mop, mtp, mwa, mgi, mpc, mst, mtr, msp, mma, mlg, mdu, e39, (by omega), (by omega), (by omega), (by omega), (by omega), (by omega), (by omega), (by omega), (by omega), (by omega), (by omega), (by omega), (by omega), (by omega), hmb14⟩))
                    exact pe_lret hx hb hr hlocks hK hP hD hS d_M_bound_106 ⟨⟨(nI 0), e39⟩, hI53, hu⟩
                · skip
                  replace b42 := mt (nI_leI (a := 0) (b := 0) (by omega) (by omega)).mpr b42
                  exfalso; omega
              · skip
                refine lv_iconst (v := nI 2) hx hb d_M_bound_68 (by decide) ?_
                refine lv_goto (tgt := 73) hx hb d_M_bound_69 (by decide) ?_
                refine pf_put (v := .int (nI 2)) (ty := .int) (fs' := [.int (nI 2), .ref (g.lk M 1), .int (nI mn), .ref (g.lk M 3), .ref (g.lk M 4), .int (nI mdr), .ref (g.lk M 6), .ref (g.lk M 7), .ref (g.lk M 8), .int (nI msz), .int (nI mix), .int (nI mdp), .ref (g.lk M 12), .int (nI mwt), .ref (g.lk M 14), .ref (g.lk M 15), .int (nI mop), .ref (g.lk M 17), .ref (g.lk M 18), .ref (g.lk M 19), .ref (g.lk M 20), .ref (g.lk M 21), .ref (g.lk M 22), .ref (g.lk M 23), .ref (g.lk M 24), .ref (g.lk M 25), .ref (g.lk M 26), .ref (g.lk M 27), .ref (g.lk M 28), .ref (g.lk M 29), .ref (g.lk M 30), .ref (g.lk M 31), .int (nI mtp), .ref (g.lk M 33), .ref (g.lk M 34), .ref (g.lk M 35), .int (nI mwa), .int (nI mgi), .int (nI mpc), .int (nI mst), .int (nI mtr), .int (nI msp), .int mma, .int mlg, .int mdu]) (C := "BigRunnerModel") (T := FT10) (N := 45) hx hb (hw10 hB _) (fun _ h9 => h9) TY10 ok10 nm10 hown hK hP hD hS (lo_in hL t_M (by decide)) e28 rfl 0 (by decide) (wd_947 hB _) rfl (by decide +kernel) rfl rfl (Nat.le_of_ble_eq_true rfl) rfl d_M_bound_73 (fun f54 H locs e55 k56 hP hD hS => ?_)
                have e33 := (k56 (g.lk M 19) (tg_ne (lo_k11_19 hL _ t_M) t_M (by decide))).trans e33
                have hu := hu.st k56 t_M (by decide)
                have hk57 : ∀ b, b ≠ M → f54 b = f b := fun b q0 => (k56 b q0).trans (hk30 b q0)
                refine lv_aload_n hx hb d_M_bound_76 rfl (lv_at hl 1 rfl) ?_
                refine pf_get (v := .int (nI 2)) (C := "BigRunnerModel") (T := FT10) (N := 45) hx hb (hw10 hB _) (fun _ h9 => h9) hown hK hP (lo_in hL t_M (by decide)) e55 rfl 0 (by decide) (wd_947 hB _) rfl d_M_bound_77 ?_
                refine lv_if_le (tgt := 87) hx hb d_M_bound_80 (by decide) (fun b58 => ?_) (fun b58 => ?_)
                · skip
                  replace b58 := (nI_leI (a := 2) (b := 0) (by omega) (by omega)).mp b58
                  exfalso; omega
                · skip
                  replace b58 := mt (nI_leI (a := 2) (b := 0) (by omega) (by omega)).mpr b58
                  refine lv_lconst (v := nL 0) hx hb d_M_bound_83 (by decide) ?_
                  refine lv_goto (tgt := 106) hx hb d_M_bound_84 (by decide) ?_
                  have hI59 := iv_1 hI hL t_M (by decide) hk57 (oc_11.mk t_M (⟨((nI 2)), mn, mdr, msz, mix, mdp, mwt, mop, mtp, mwa, mgi, mpc, mst, mtr, msp, mma, mlg, mdu, e55, (by omega), (by omega), (by omega), (by omega), (by omega), (by omega), (by omega), (by omega), (by omega), (by omega), (by omega), (by omega), (by omega), (by omega), hmb14⟩))
                  exact pe_lret hx hb hr hlocks hK hP hD hS d_M_bound_106 ⟨⟨(nI 2), e55⟩, hI59, hu⟩
            · skip
              refine lv_aload_n hx hb d_M_bound_47 rfl (lv_at hl 1 rfl) ?_
              refine pf_get (v := .ref (g.lk M 20)) (C := "BigRunnerModel") (T := FT10) (N := 45) hx hb (hw10 hB _) (fun _ h9 => h9) hown hK hP (lo_in hL t_M (by decide)) e28 rfl 20 (by decide) (wd_967 hB _) rfl d_M_bound_48 ?_
              refine lv_iload_n hx hb d_M_bound_51 rfl (lv_at hl 2 rfl) ?_
              obtain ⟨h_61, e60⟩ := oc_52.of (lo_k11_20 hL _ t_M) (hI.1 (g.lk M 20))
              replace e60 := (hk30 (g.lk M 20) (tg_ne (lo_k11_20 hL _ t_M) t_M (by decide))).trans e60
              refine pf_zald (i := vk17) hx hb hK hP (lo_in hL (lo_k11_20 hL _ t_M) (by decide)) e60 (lo_t52 hL _ (lo_k11_20 hL _ t_M)) (by omega) (by decide) d_M_bound_52 ?_
              refine lv_topi (fun iv63 _ => ?_)
              refine lv_if_eq (tgt := 72) hx hb d_M_bound_53 (by decide) (fun b64 => ?_) (fun b64 => ?_)
              · skip
                refine lv_iconst (v := nI 0) hx hb d_M_bound_72 (by decide) ?_
                refine pf_put (v := .int (nI 0)) (ty := .int) (fs' := [.int (nI 0), .ref (g.lk M 1), .int (nI mn), .ref (g.lk M 3), .ref (g.lk M 4), .int (nI mdr), .ref (g.lk M 6), .ref (g.lk M 7), .ref (g.lk M 8), .int (nI msz), .int (nI mix), .int (nI mdp), .ref (g.lk M 12), .int (nI mwt), .ref (g.lk M 14), .ref (g.lk M 15), .int (nI mop), .ref (g.lk M 17), .ref (g.lk M 18), .ref (g.lk M 19), .ref (g.lk M 20), .ref (g.lk M 21), .ref (g.lk M 22), .ref (g.lk M 23), .ref (g.lk M 24), .ref (g.lk M 25), .ref (g.lk M 26), .ref (g.lk M 27), .ref (g.lk M 28), .ref (g.lk M 29), .ref (g.lk M 30), .ref (g.lk M 31), .int (nI mtp), .ref (g.lk M 33), .ref (g.lk M 34), .ref (g.lk M 35), .int (nI mwa), .int (nI mgi), .int (nI mpc), .int (nI mst), .int (nI mtr), .int (nI msp), .int mma, .int mlg, .int mdu]) (C := "BigRunnerModel") (T := FT10) (N := 45) hx hb (hw10 hB _) (fun _ h9 => h9) TY10 ok10 nm10 hown hK hP hD hS (lo_in hL t_M (by decide)) e28 rfl 0 (by decide) (wd_947 hB _) rfl (by decide +kernel) rfl rfl (Nat.le_of_ble_eq_true rfl) rfl d_M_bound_73 (fun f65 H locs e66 k67 hP hD hS => ?_)
                have e60 := (k67 (g.lk M 20) (tg_ne (lo_k11_20 hL _ t_M) t_M (by decide))).trans e60
                have hu := hu.st k67 t_M (by decide)
                have hk68 : ∀ b, b ≠ M → f65 b = f b := fun b q0 => (k67 b q0).trans (hk30 b q0)
                refine lv_aload_n hx hb d_M_bound_76 rfl (lv_at hl 1 rfl) ?_
                refine pf_get (v := .int (nI 0)) (C := "BigRunnerModel") (T := FT10) (N := 45) hx hb (hw10 hB _) (fun _ h9 => h9) hown hK hP (lo_in hL t_M (by decide)) e66 rfl 0 (by decide) (wd_947 hB _) rfl d_M_bound_77 ?_
                refine lv_if_le (tgt := 87) hx hb d_M_bound_80 (by decide) (fun b69 => ?_) (fun b69 => ?_)
                · skip
                  replace b69 := (nI_leI (a := 0) (b := 0) (by omega) (by omega)).mp b69
                  refine lv_iload_n hx hb d_M_bound_87 rfl (lv_at hl 3 rfl) ?_
                  refine lv_if_eq (tgt := 100) hx hb d_M_bound_88 (by decide) (fun b70 => ?_) (fun b70 => ?_)
                  · skip
                    refine lv_aload_n hx hb d_M_bound_100 rfl (lv_at hl 1 rfl) ?_
                    refine pf_get (v := .ref (g.lk M 17)) (C := "BigRunnerModel") (T := FT10) (N := 45) hx hb (hw10 hB _) (fun _ h9 => h9) hown hK hP (lo_in hL t_M (by decide)) e66 rfl 17 (by decide) (wd_964 hB _) rfl d_M_bound_101 ?_
                    refine lv_iload_n hx hb d_M_bound_104 rfl (lv_at hl 2 rfl) ?_
                    obtain ⟨h_72, e71⟩ := oc_49.of (lo_k11_17 hL _ t_M) (hI.1 (g.lk M 17))
                    replace e71 := (hk68 (g.lk M 17) (tg_ne (lo_k11_17 hL _ t_M) t_M (by decide))).trans e71
                    refine pf_lald (i := vk17) hx hb hK hP (lo_in hL (lo_k11_17 hL _ t_M) (by decide)) e71 (lo_t49 hL _ (lo_k11_17 hL _ t_M)) (by omega) (by decide) d_M_bound_105 ?_
                    refine lv_topl (fun lv74 _ => ?_)
                    have hI75 := iv_1 hI hL t_M (by decide) hk68 (oc_11.mk t_M (⟨((nI 0)), mn, mdr, msz, mix, mdp, mwt, mop, mtp, mwa, mgi, mpc, mst, mtr, msp, mma, mlg, mdu, e66, (by omega), (by omega), (by omega), (by omega), (by omega), (by omega), (by omega), (by omega), (by omega), (by omega), (by omega), (by omega), (by omega), (by omega), hmb14⟩))
                    exact pe_lret hx hb hr hlocks hK hP hD hS d_M_bound_106 ⟨⟨(nI 0), e66⟩, hI75, hu⟩
                  · skip
                    refine lv_aload_n hx hb d_M_bound_91 rfl (lv_at hl 1 rfl) ?_
                    refine pf_get (v := .ref (g.lk M 18)) (C := "BigRunnerModel") (T := FT10) (N := 45) hx hb (hw10 hB _) (fun _ h9 => h9) hown hK hP (lo_in hL t_M (by decide)) e66 rfl 18 (by decide) (wd_965 hB _) rfl d_M_bound_92 ?_
                    refine lv_iload_n hx hb d_M_bound_95 rfl (lv_at hl 2 rfl) ?_
                    obtain ⟨h_77, e76⟩ := oc_50.of (lo_k11_18 hL _ t_M) (hI.1 (g.lk M 18))
                    replace e76 := (hk68 (g.lk M 18) (tg_ne (lo_k11_18 hL _ t_M) t_M (by decide))).trans e76
                    refine pf_lald (i := vk17) hx hb hK hP (lo_in hL (lo_k11_18 hL _ t_M) (by decide)) e76 (lo_t50 hL _ (lo_k11_18 hL _ t_M)) (by omega) (by decide) d_M_bound_96 ?_
                    refine lv_topl (fun lv79 _ => ?_)
                    refine lv_goto (tgt := 106) hx hb d_M_bound_97 (by decide) ?_
                    have hI80 := iv_1 hI hL t_M (by decide) hk68 (oc_11.mk t_M (⟨((nI 0)), mn, mdr, msz, mix, mdp, mwt, mop, mtp, mwa, mgi, mpc, mst, mtr, msp, mma, mlg, mdu, e66, (by omega), (by omega), (by omega), (by omega), (by omega), (by omega), (by omega), (by omega), (by omega), (by omega), (by omega), (by omega), (by omega), (by omega), hmb14⟩))
                    exact pe_lret hx hb hr hlocks hK hP hD hS d_M_bound_106 ⟨⟨(nI 0), e66⟩, hI80, hu⟩
                · skip
                  replace b69 := mt (nI_leI (a := 0) (b := 0) (by omega) (by omega)).mpr b69
                  exfalso; omega
              · skip
                refine lv_goto (tgt := 68) hx hb d_M_bound_56 (by decide) ?_
                refine lv_iconst (v := nI 2) hx hb d_M_bound_68 (by decide) ?_
                refine lv_goto (tgt := 73) hx hb d_M_bound_69 (by decide) ?_
                refine pf_put (v := .int (nI 2)) (ty := .int) (fs' := [.int (nI 2), .ref (g.lk M 1), .int (nI mn), .ref (g.lk M 3), .ref (g.lk M 4), .int (nI mdr), .ref (g.lk M 6), .ref (g.lk M 7), .ref (g.lk M 8), .int (nI msz), .int (nI mix), .int (nI mdp), .ref (g.lk M 12), .int (nI mwt), .ref (g.lk M 14), .ref (g.lk M 15), .int (nI mop), .ref (g.lk M 17), .ref (g.lk M 18), .ref (g.lk M 19), .ref (g.lk M 20), .ref (g.lk M 21), .ref (g.lk M 22), .ref (g.lk M 23), .ref (g.lk M 24), .ref (g.lk M 25), .ref (g.lk M 26), .ref (g.lk M 27), .ref (g.lk M 28), .ref (g.lk M 29), .ref (g.lk M 30), .ref (g.lk M 31), .int (nI mtp), .ref (g.lk M 33), .ref (g.lk M 34), .ref (g.lk M 35), .int (nI mwa), .int (nI mgi), .int (nI mpc), .int (nI mst), .int (nI mtr), .int (nI msp), .int mma, .int mlg, .int mdu]) (C := "BigRunnerModel") (T := FT10) (N := 45) hx hb (hw10 hB _) (fun _ h9 => h9) TY10 ok10 nm10 hown hK hP hD hS (lo_in hL t_M (by decide)) e28 rfl 0 (by decide) (wd_947 hB _) rfl (by decide +kernel) rfl rfl (Nat.le_of_ble_eq_true rfl) rfl d_M_bound_73 (fun f81 H locs e82 k83 hP hD hS => ?_)
                have e60 := (k83 (g.lk M 20) (tg_ne (lo_k11_20 hL _ t_M) t_M (by decide))).trans e60
                have hu := hu.st k83 t_M (by decide)
                have hk84 : ∀ b, b ≠ M → f81 b = f b := fun b q0 => (k83 b q0).trans (hk30 b q0)
                refine lv_aload_n hx hb d_M_bound_76 rfl (lv_at hl 1 rfl) ?_
                refine pf_get (v := .int (nI 2)) (C := "BigRunnerModel") (T := FT10) (N := 45) hx hb (hw10 hB _) (fun _ h9 => h9) hown hK hP (lo_in hL t_M (by decide)) e82 rfl 0 (by decide) (wd_947 hB _) rfl d_M_bound_77 ?_
                refine lv_if_le (tgt := 87) hx hb d_M_bound_80 (by decide) (fun b85 => ?_) (fun b85 => ?_)
                · skip
                  replace b85 := (nI_leI (a := 2) (b := 0) (by omega) (by omega)).mp b85
                  exfalso; omega
                · skip
                  replace b85 := mt (nI_leI (a := 2) (b := 0) (by omega) (by omega)).mpr b85
                  refine lv_lconst (v := nL 0) hx hb d_M_bound_83 (by decide) ?_
                  refine lv_goto (tgt := 106) hx hb d_M_bound_84 (by decide) ?_
                  have hI86 := iv_1 hI hL t_M (by decide) hk84 (oc_11.mk t_M (⟨((nI 2)), mn, mdr, msz, mix, mdp, mwt, mop, mtp, mwa, mgi, mpc, mst, mtr, msp, mma, mlg, mdu, e82, (by omega), (by omega), (by omega), (by omega), (by omega), (by omega), (by omega), (by omega), (by omega), (by omega), (by omega), (by omega), (by omega), (by omega), hmb14⟩))
                  exact pe_lret hx hb hr hlocks hK hP hD hS d_M_bound_106 ⟨⟨(nI 2), e82⟩, hI86, hu⟩
          · skip
            replace b31 := (nI_eq (a := 1) (b := 0) (by omega) (by omega)).mp b31
            exfalso; omega
set_option maxHeartbeats 4000000 in
set_option maxRecDepth 100000 in
theorem m_small (l : Launch) (g : Lay) (sz : Nat) (f : Nat → va_E) (M : Nat) (mth : Int32) (mn : Nat) (mdr : Nat) (msz : Nat) (mix : Nat) (mdp : Nat) (mwt : Nat) (mop : Nat) (mtp : Nat) (mwa : Nat) (mgi : Nat) (mpc : Nat) (mst : Nat) (mtr : Nat) (msp : Nat) (mma : Int32) (mlg : Int32) (mdu : Int32) (v : Int32) (hL : LO g) (t_M : g.tg M = 11) (hI : IV g f) (eM : f M = .inr (10, [.int mth, .ref (g.lk M 1), .int (nI mn), .ref (g.lk M 3), .ref (g.lk M 4), .int (nI mdr), .ref (g.lk M 6), .ref (g.lk M 7), .ref (g.lk M 8), .int (nI msz), .int (nI mix), .int (nI mdp), .ref (g.lk M 12), .int (nI mwt), .ref (g.lk M 14), .ref (g.lk M 15), .int (nI mop), .ref (g.lk M 17), .ref (g.lk M 18), .ref (g.lk M 19), .ref (g.lk M 20), .ref (g.lk M 21), .ref (g.lk M 22), .ref (g.lk M 23), .ref (g.lk M 24), .ref (g.lk M 25), .ref (g.lk M 26), .ref (g.lk M 27), .ref (g.lk M 28), .ref (g.lk M 29), .ref (g.lk M 30), .ref (g.lk M 31), .int (nI mtp), .ref (g.lk M 33), .ref (g.lk M 34), .ref (g.lk M 35), .int (nI mwa), .int (nI mgi), .int (nI mpc), .int (nI mst), .int (nI mtr), .int (nI msp), .int mma, .int mlg, .int mdu])) (hMB : mn ≤ 72 ∧ mdr ≤ 100 ∧ msz ≤ 100 ∧ mix ≤ 100 ∧ mdp ≤ 20 ∧ mwt ≤ 72 ∧ mop ≤ 40 ∧ mtp ≤ 80 ∧ mwa ≤ 20 ∧ mgi ≤ msp ∧ mpc ≤ 100 ∧ mst ≤ 4 ∧ mtr ≤ 3 ∧ msp ≤ 3000 ∧ (mdu = 0 ∨ mdu = 1)) : Met l ⟨"BigRunnerModel", "small", "(I)Z"⟩ [Cond.code ⟨"BigRunnerModel", "small", "(I)Z"⟩ prog_12_method_48_code 2 (some .boolean)] ({ frames := 0, cells := 0, slots := 0, locals := 0 }) (va_Pc [.ref M, .int v] (pc_in g sz f)) (va_Qi (fun r f1 => (r = nI 0 ∨ r = nI 1) ∧ (∃ (th1 : Int32), f1 M = .inr (10, [.int th1, .ref (g.lk M 1), .int (nI mn), .ref (g.lk M 3), .ref (g.lk M 4), .int (nI mdr), .ref (g.lk M 6), .ref (g.lk M 7), .ref (g.lk M 8), .int (nI msz), .int (nI mix), .int (nI mdp), .ref (g.lk M 12), .int (nI mwt), .ref (g.lk M 14), .ref (g.lk M 15), .int (nI mop), .ref (g.lk M 17), .ref (g.lk M 18), .ref (g.lk M 19), .ref (g.lk M 20), .ref (g.lk M 21), .ref (g.lk M 22), .ref (g.lk M 23), .ref (g.lk M 24), .ref (g.lk M 25), .ref (g.lk M 26), .ref (g.lk M 27), .ref (g.lk M 28), .ref (g.lk M 29), .ref (g.lk M 30), .ref (g.lk M 31), .int (nI mtp), .ref (g.lk M 33), .ref (g.lk M 34), .ref (g.lk M 35), .int (nI mwa), .int (nI mgi), .int (nI mpc), .int (nI mst), .int (nI mtr), .int (nI msp), .int mma, .int mlg, .int mdu])) ∧ (IV g f1) ∧ (un [11] g f f1)) (pc_out g sz) (pc_A g sz)) 0 0 (pc_A g sz) := by
  refine pe_ofW (cc := prog_12_method_48_code) (maxL := 2) (ret := (some .boolean)) (lv := [(0, .ref M), (1, .int v)]) (by decide) (Nat.le_of_ble_eq_true rfl) rfl ?_
  intro p e s m args below meth c ls hx hb hr hml hlocks hown hB hP hK hD hsz hS hl
  subst hsz
  have hu : un [11] g f f := un.rf
  obtain ⟨hmb0, hmb1, hmb2, hmb3, hmb4, hmb5, hmb6, hmb7, hmb8, hmb9, hmb10, hmb11, hmb12, hmb13, hmb14⟩ := hMB
  refine lv_aload_n hx hb d_M_small_0 rfl (lv_at hl 0 rfl) ?_
  refine lv_iconst (v := nI 0) hx hb d_M_small_1 (by decide) ?_
  refine pf_put (v := .int (nI 0)) (ty := .int) (fs' := [.int (nI 0), .ref (g.lk M 1), .int (nI mn), .ref (g.lk M 3), .ref (g.lk M 4), .int (nI mdr), .ref (g.lk M 6), .ref (g.lk M 7), .ref (g.lk M 8), .int (nI msz), .int (nI mix), .int (nI mdp), .ref (g.lk M 12), .int (nI mwt), .ref (g.lk M 14), .ref (g.lk M 15), .int (nI mop), .ref (g.lk M 17), .ref (g.lk M 18), .ref (g.lk M 19), .ref (g.lk M 20), .ref (g.lk M 21), .ref (g.lk M 22), .ref (g.lk M 23), .ref (g.lk M 24), .ref (g.lk M 25), .ref (g.lk M 26), .ref (g.lk M 27), .ref (g.lk M 28), .ref (g.lk M 29), .ref (g.lk M 30), .ref (g.lk M 31), .int (nI mtp), .ref (g.lk M 33), .ref (g.lk M 34), .ref (g.lk M 35), .int (nI mwa), .int (nI mgi), .int (nI mpc), .int (nI mst), .int (nI mtr), .int (nI msp), .int mma, .int mlg, .int mdu]) (C := "BigRunnerModel") (T := FT10) (N := 45) hx hb (hw10 hB _) (fun _ h9 => h9) TY10 ok10 nm10 hown hK hP hD hS (lo_in hL t_M (by decide)) eM rfl 0 (by decide) (wd_947 hB _) rfl (by decide +kernel) rfl rfl (Nat.le_of_ble_eq_true rfl) rfl d_M_small_2 (fun f1 H locs e2 k3 hP hD hS => ?_)
  have hu := hu.st k3 t_M (by decide)
  have hk4 : ∀ b, b ≠ M → f1 b = f b := k3
  refine lv_iload_n hx hb d_M_small_5 rfl (lv_at hl 1 rfl) ?_
  refine lv_if_lt (tgt := 44) hx hb d_M_small_6 (by decide) (fun b5 => ?_) (fun b5 => ?_)
  · skip
    refine lv_iconst (v := nI 0) hx hb d_M_small_44 (by decide) ?_
    have hI6 := iv_1 hI hL t_M (by decide) hk4 (oc_11.mk t_M (⟨((nI 0)), mn, mdr, msz, mix, mdp, mwt, mop, mtp, mwa, mgi, mpc, mst, mtr, msp, mma, mlg, mdu, e2, (by omega), (by omega), (by omega), (by omega), (by omega), (by omega), (by omega), (by omega), (by omega), (by omega), (by omega), (by omega), (by omega), (by omega), hmb14⟩))
    exact pe_zret hx hb hr hlocks hK hP hD hS d_M_small_45 rfl ⟨(Or.inl rfl), ⟨(nI 0), e2⟩, hI6, hu⟩
  · skip
    refine lv_iload_n hx hb d_M_small_9 rfl (lv_at hl 1 rfl) ?_
    refine lv_bipush (v := nI 10) hx hb d_M_small_10 (by decide) ?_
    refine lv_icmp_ge (tgt := 44) hx hb d_M_small_12 (by decide) (fun b7 => ?_) (fun b7 => ?_)
    · skip
      refine lv_iconst (v := nI 0) hx hb d_M_small_44 (by decide) ?_
      have hI8 := iv_1 hI hL t_M (by decide) hk4 (oc_11.mk t_M (⟨((nI 0)), mn, mdr, msz, mix, mdp, mwt, mop, mtp, mwa, mgi, mpc, mst, mtr, msp, mma, mlg, mdu, e2, (by omega), (by omega), (by omega), (by omega), (by omega), (by omega), (by omega), (by omega), (by omega), (by omega), (by omega), (by omega), (by omega), (by omega), hmb14⟩))
      exact pe_zret hx hb hr hlocks hK hP hD hS d_M_small_45 rfl ⟨(Or.inl rfl), ⟨(nI 0), e2⟩, hI8, hu⟩
    · skip
      obtain ⟨vk9, hvk9, rfl⟩ := ix_on (n := 10) (by decide) b5 (Int32.not_le.mp b7)
      refine lv_aload_n hx hb d_M_small_15 rfl (lv_at hl 0 rfl) ?_
      refine pf_get (v := .int (nI mst)) (C := "BigRunnerModel") (T := FT10) (N := 45) hx hb (hw10 hB _) (fun _ h9 => h9) hown hK hP (lo_in hL t_M (by decide)) e2 rfl 39 (by decide) (wd_986 hB _) rfl d_M_small_16 ?_
      refine lv_if_le (tgt := 44) hx hb d_M_small_19 (by decide) (fun b10 => ?_) (fun b10 => ?_)
      · skip
        replace b10 := (nI_leI (a := mst) (b := 0) (by omega) (by omega)).mp b10
        refine lv_iconst (v := nI 0) hx hb d_M_small_44 (by decide) ?_
        have hI11 := iv_1 hI hL t_M (by decide) hk4 (oc_11.mk t_M (⟨((nI 0)), mn, mdr, msz, mix, mdp, mwt, mop, mtp, mwa, mgi, mpc, mst, mtr, msp, mma, mlg, mdu, e2, (by omega), (by omega), (by omega), (by omega), (by omega), (by omega), (by omega), (by omega), (by omega), (by omega), (by omega), (by omega), (by omega), (by omega), hmb14⟩))
        exact pe_zret hx hb hr hlocks hK hP hD hS d_M_small_45 rfl ⟨(Or.inl rfl), ⟨(nI 0), e2⟩, hI11, hu⟩
      · skip
        replace b10 := mt (nI_leI (a := mst) (b := 0) (by omega) (by omega)).mpr b10
        refine lv_aload_n hx hb d_M_small_22 rfl (lv_at hl 0 rfl) ?_
        refine pf_get (v := .ref (g.lk M 19)) (C := "BigRunnerModel") (T := FT10) (N := 45) hx hb (hw10 hB _) (fun _ h9 => h9) hown hK hP (lo_in hL t_M (by decide)) e2 rfl 19 (by decide) (wd_966 hB _) rfl d_M_small_23 ?_
        refine lv_iload_n hx hb d_M_small_26 rfl (lv_at hl 1 rfl) ?_
        obtain ⟨h_13, e12⟩ := oc_51.of (lo_k11_19 hL _ t_M) (hI.1 (g.lk M 19))
        replace e12 := (hk4 (g.lk M 19) (tg_ne (lo_k11_19 hL _ t_M) t_M (by decide))).trans e12
        refine pf_zald (i := vk9) hx hb hK hP (lo_in hL (lo_k11_19 hL _ t_M) (by decide)) e12 (lo_t51 hL _ (lo_k11_19 hL _ t_M)) (by omega) (by decide) d_M_small_27 ?_
        refine lv_topi (fun iv15 _ => ?_)
        refine lv_if_ne (tgt := 44) hx hb d_M_small_28 (by decide) (fun b16 => ?_) (fun b16 => ?_)
        · skip
          refine lv_iconst (v := nI 0) hx hb d_M_small_44 (by decide) ?_
          have hI17 := iv_1 hI hL t_M (by decide) hk4 (oc_11.mk t_M (⟨((nI 0)), mn, mdr, msz, mix, mdp, mwt, mop, mtp, mwa, mgi, mpc, mst, mtr, msp, mma, mlg, mdu, e2, (by omega), (by omega), (by omega), (by omega), (by omega), (by omega), (by omega), (by omega), (by omega), (by omega), (by omega), (by omega), (by omega), (by omega), hmb14⟩))
          exact pe_zret hx hb hr hlocks hK hP hD hS d_M_small_45 rfl ⟨(Or.inl rfl), ⟨(nI 0), e2⟩, hI17, hu⟩
        · skip
          refine lv_aload_n hx hb d_M_small_31 rfl (lv_at hl 0 rfl) ?_
          refine pf_get (v := .ref (g.lk M 20)) (C := "BigRunnerModel") (T := FT10) (N := 45) hx hb (hw10 hB _) (fun _ h9 => h9) hown hK hP (lo_in hL t_M (by decide)) e2 rfl 20 (by decide) (wd_967 hB _) rfl d_M_small_32 ?_
          refine lv_iload_n hx hb d_M_small_35 rfl (lv_at hl 1 rfl) ?_
          obtain ⟨h_19, e18⟩ := oc_52.of (lo_k11_20 hL _ t_M) (hI.1 (g.lk M 20))
          replace e18 := (hk4 (g.lk M 20) (tg_ne (lo_k11_20 hL _ t_M) t_M (by decide))).trans e18
          refine pf_zald (i := vk9) hx hb hK hP (lo_in hL (lo_k11_20 hL _ t_M) (by decide)) e18 (lo_t52 hL _ (lo_k11_20 hL _ t_M)) (by omega) (by decide) d_M_small_36 ?_
          refine lv_topi (fun iv21 _ => ?_)
          refine lv_if_ne (tgt := 44) hx hb d_M_small_37 (by decide) (fun b22 => ?_) (fun b22 => ?_)
          · skip
            refine lv_iconst (v := nI 0) hx hb d_M_small_44 (by decide) ?_
            have hI23 := iv_1 hI hL t_M (by decide) hk4 (oc_11.mk t_M (⟨((nI 0)), mn, mdr, msz, mix, mdp, mwt, mop, mtp, mwa, mgi, mpc, mst, mtr, msp, mma, mlg, mdu, e2, (by omega), (by omega), (by omega), (by omega), (by omega), (by omega), (by omega), (by omega), (by omega), (by omega), (by omega), (by omega), (by omega), (by omega), hmb14⟩))
            exact pe_zret hx hb hr hlocks hK hP hD hS d_M_small_45 rfl ⟨(Or.inl rfl), ⟨(nI 0), e2⟩, hI23, hu⟩
          · skip
            refine lv_iconst (v := nI 1) hx hb d_M_small_40 (by decide) ?_
            refine lv_goto (tgt := 45) hx hb d_M_small_41 (by decide) ?_
            have hI24 := iv_1 hI hL t_M (by decide) hk4 (oc_11.mk t_M (⟨((nI 0)), mn, mdr, msz, mix, mdp, mwt, mop, mtp, mwa, mgi, mpc, mst, mtr, msp, mma, mlg, mdu, e2, (by omega), (by omega), (by omega), (by omega), (by omega), (by omega), (by omega), (by omega), (by omega), (by omega), (by omega), (by omega), (by omega), (by omega), hmb14⟩))
            exact pe_zret hx hb hr hlocks hK hP hD hS d_M_small_45 rfl ⟨(Or.inr rfl), ⟨(nI 0), e2⟩, hI24, hu⟩
set_option maxHeartbeats 4000000 in
set_option maxRecDepth 100000 in
theorem m_told58 (l : Launch) (g : Lay) (sz : Nat) (f : Nat → va_E) (A : Nat) (fr9 : Nat) (sg : Int32) (kk : Int32) (hL : LO g) (t_A : g.tg A = 58) (hI : OC g f) (hfn : fr9 + 20 ≤ 200) : Met l ⟨"BigRunnerModel", "told", "([IIII)I"⟩ [Cond.code ⟨"BigRunnerModel", "told", "([IIII)I"⟩ prog_12_method_49_code 6 (some .int)] ({ frames := 1, cells := 0, slots := 0, locals := 26 }) (va_Pc [.ref A, .int (nI fr9), .int sg, .int kk] (pc_in g sz f)) (va_Qi (fun r f1 => (f = f1)) (pc_out g sz) (pc_A g sz)) 0 0 (pc_A g sz) := by
  refine pe_ofW (cc := prog_12_method_49_code) (maxL := 6) (ret := (some .int)) (lv := [(0, .ref A), (1, .int (nI fr9)), (2, .int sg), (3, .int kk)]) (by decide) (Nat.le_of_ble_eq_true rfl) rfl ?_
  intro p e s m args below meth c ls hx hb hr hml hlocks hown hB hP hK hD hsz hS hl
  subst hsz
  refine lv_iload_n hx hb d_M_told_0 rfl (lv_at hl 3 rfl) ?_
  refine lv_if_ge (tgt := 21) hx hb d_M_told_1 (by decide) (fun b1 => ?_) (fun b1 => ?_)
  · skip
    obtain ⟨q, hq, rfl⟩ := nI_of (Int32.not_lt.mpr b1)
    refine lv_iload_n hx hb d_M_told_21 rfl (lv_at hl 3 rfl) ?_
    refine lv_bipush (v := nI 120) hx hb d_M_told_22 (by decide) ?_
    refine lv_icmp_ge (tgt := 38) hx hb d_M_told_24 (by decide) (fun b2 => ?_) (fun b2 => ?_)
    · skip
      replace b2 := (nI_leI (a := 120) (b := q) (by omega) (by omega)).mp b2
      refine lv_iconst (v := nI 0) hx hb d_M_told_38 (by decide) ?_
      refine lv_istore (lv' := [(4, .int (nI 0)), (0, .ref A), (1, .int (nI fr9)), (2, .int sg), (3, .int (nI q))]) hx hb d_M_told_39 hl (by decide) rfl (fun ls hl => ?_)
      refine lv_iconst (v := nI 0) hx hb d_M_told_41 (by decide) ?_
      refine lv_istore (lv' := [(5, .int (nI 0)), (4, .int (nI 0)), (0, .ref A), (1, .int (nI fr9)), (2, .int sg), (3, .int (nI q))]) hx hb d_M_told_42 hl (by decide) rfl (fun ls hl => ?_)
      have lp3 : ∀ (k5 : Nat) (xx : Int32) (i : Nat) (H : Heap) (locs : List Loc) (ls : Array Slot), (6 < i + k5) → (i ≤ 6) → lv_has ls 6 [(5, .int (nI i)), (4, .int xx), (0, .ref A), (1, .int (nI fr9)), (2, .int sg), (3, .int (nI q))] → va_P g.D vcl (va_pl g.LP f) H → va_D (pc_A g s.heap.size) (va_pl g.LP f) → va_S (pc_A g s.heap.size) s.heap H locs → W p l e ({ frames := 1, cells := 0, slots := 0, locals := 26 }) s m args below meth c H locs 0 0 (MQ below (va_Qi (fun r f1 => (f = f1)) (pc_out g s.heap.size) (pc_A g s.heap.size)) args s 0 0 (pc_A g s.heap.size)) (F0 m 44 ls []) := by
        intro k5
        induction k5 with
        | zero => intros; exfalso; omega
        | succ k5 ih6 =>
          intro xx i H locs ls hfu7 hi hl hP hD hS
          refine lv_iload hx hb d_M_told_44 (lv_at hl 0 rfl) ?_
          refine lv_iload_n hx hb d_M_told_46 rfl (lv_at hl 5 rfl) ?_
          refine lv_bipush (v := nI 6) hx hb d_M_told_47 (by decide) ?_
          refine pf_iremN (x := q) (y := 6) hx hb (by omega) (by omega) (by omega) d_M_told_49 ?_
          refine lv_icmp_ge (tgt := 66) hx hb d_M_told_50 (by decide) (fun b10 => ?_) (fun b10 => ?_)
          · skip
            replace b10 := (nI_leI (a := q % 6) (b := i) (by omega) (by omega)).mp b10
            refine lv_iload hx hb d_M_told_66 (lv_at hl 1 rfl) ?_
            refine lv_bipush (v := nI 10) hx hb d_M_told_68 (by decide) ?_
            refine lv_irem hx hb d_M_told_70 (by decide) ?_
            refine lv_topi (fun iv11 _ => ?_)
            exact pe_iret hx hb hr hlocks hK hP hD hS d_M_told_71 rfl
          · skip
            replace b10 := mt (nI_leI (a := q % 6) (b := i) (by omega) (by omega)).mpr b10
            refine lv_iload hx hb d_M_told_53 (lv_at hl 1 rfl) ?_
            refine lv_bipush (v := nI 10) hx hb d_M_told_55 (by decide) ?_
            refine lv_idiv hx hb d_M_told_57 (by decide) ?_
            refine lv_topi (fun iv12 _ => ?_)
            refine lv_istore (lv' := [(4, .int iv12), (5, .int (nI i)), (0, .ref A), (1, .int (nI fr9)), (2, .int sg), (3, .int (nI q))]) hx hb d_M_told_58 hl (by decide) rfl (fun ls hl => ?_)
            refine lv_iinc (k := 1) (v := nI (i + 1)) (lv' := [(5, .int (nI (i + 1))), (4, .int iv12), (0, .ref A), (1, .int (nI fr9)), (2, .int sg), (3, .int (nI q))]) hx hb d_M_told_60 hl rfl (by rw [nI_succ]; rfl) (by decide) rfl (fun ls hl => ?_)
            refine lv_goto (tgt := 44) hx hb d_M_told_63 (by decide) ?_
            exact ih6 iv12 (i + 1) H locs ls (by omega) (by omega) hl hP hD hS
      exact lp3 7 (nI 0) 0 s.heap [] ls (by omega) (by omega) hl hP hD hS
    · skip
      replace b2 := mt (nI_leI (a := 120) (b := q) (by omega) (by omega)).mpr b2
      refine lv_aload_n hx hb d_M_told_27 rfl (lv_at hl 0 rfl) ?_
      refine lv_iload_n hx hb d_M_told_28 rfl (lv_at hl 1 rfl) ?_
      refine lv_iload_n hx hb d_M_told_29 rfl (lv_at hl 3 rfl) ?_
      refine lv_bipush (v := nI 6) hx hb d_M_told_30 (by decide) ?_
      refine pf_idivN (x := q) (y := 6) hx hb (by omega) (by omega) (by omega) d_M_told_32 ?_
      refine pf_iaddN (x := fr9) (y := q / 6) hx hb d_M_told_33 ?_
      obtain ⟨h_14, e13⟩ := oc_58.of t_A (hI A)
      refine pf_iald (i := fr9 + (q / 6)) hx hb hK hP (lo_in hL t_A (by decide)) e13 (lo_t58 hL _ t_A) (by omega) (by decide) d_M_told_34 ?_
      refine lv_topi (fun iv16 _ => ?_)
      refine lv_goto (tgt := 39) hx hb d_M_told_35 (by decide) ?_
      refine lv_istore (lv' := [(4, .int iv16), (0, .ref A), (1, .int (nI fr9)), (2, .int sg), (3, .int (nI q))]) hx hb d_M_told_39 hl (by decide) rfl (fun ls hl => ?_)
      refine lv_iconst (v := nI 0) hx hb d_M_told_41 (by decide) ?_
      refine lv_istore (lv' := [(5, .int (nI 0)), (4, .int iv16), (0, .ref A), (1, .int (nI fr9)), (2, .int sg), (3, .int (nI q))]) hx hb d_M_told_42 hl (by decide) rfl (fun ls hl => ?_)
      have lp17 : ∀ (k19 : Nat) (xx : Int32) (i : Nat) (H : Heap) (locs : List Loc) (ls : Array Slot), (6 < i + k19) → (i ≤ 6) → lv_has ls 6 [(5, .int (nI i)), (4, .int xx), (0, .ref A), (1, .int (nI fr9)), (2, .int sg), (3, .int (nI q))] → va_P g.D vcl (va_pl g.LP f) H → va_D (pc_A g s.heap.size) (va_pl g.LP f) → va_S (pc_A g s.heap.size) s.heap H locs → W p l e ({ frames := 1, cells := 0, slots := 0, locals := 26 }) s m args below meth c H locs 0 0 (MQ below (va_Qi (fun r f1 => (f = f1)) (pc_out g s.heap.size) (pc_A g s.heap.size)) args s 0 0 (pc_A g s.heap.size)) (F0 m 44 ls []) := by
        intro k19
        induction k19 with
        | zero => intros; exfalso; omega
        | succ k19 ih20 =>
          intro xx i H locs ls hfu21 hi hl hP hD hS
          refine lv_iload hx hb d_M_told_44 (lv_at hl 0 rfl) ?_
          refine lv_iload_n hx hb d_M_told_46 rfl (lv_at hl 5 rfl) ?_
          refine lv_bipush (v := nI 6) hx hb d_M_told_47 (by decide) ?_
          refine pf_iremN (x := q) (y := 6) hx hb (by omega) (by omega) (by omega) d_M_told_49 ?_
          refine lv_icmp_ge (tgt := 66) hx hb d_M_told_50 (by decide) (fun b24 => ?_) (fun b24 => ?_)
          · skip
            replace b24 := (nI_leI (a := q % 6) (b := i) (by omega) (by omega)).mp b24
            refine lv_iload hx hb d_M_told_66 (lv_at hl 1 rfl) ?_
            refine lv_bipush (v := nI 10) hx hb d_M_told_68 (by decide) ?_
            refine lv_irem hx hb d_M_told_70 (by decide) ?_
            refine lv_topi (fun iv25 _ => ?_)
            exact pe_iret hx hb hr hlocks hK hP hD hS d_M_told_71 rfl
          · skip
            replace b24 := mt (nI_leI (a := q % 6) (b := i) (by omega) (by omega)).mpr b24
            refine lv_iload hx hb d_M_told_53 (lv_at hl 1 rfl) ?_
            refine lv_bipush (v := nI 10) hx hb d_M_told_55 (by decide) ?_
            refine lv_idiv hx hb d_M_told_57 (by decide) ?_
            refine lv_topi (fun iv26 _ => ?_)
            refine lv_istore (lv' := [(4, .int iv26), (5, .int (nI i)), (0, .ref A), (1, .int (nI fr9)), (2, .int sg), (3, .int (nI q))]) hx hb d_M_told_58 hl (by decide) rfl (fun ls hl => ?_)
            refine lv_iinc (k := 1) (v := nI (i + 1)) (lv' := [(5, .int (nI (i + 1))), (4, .int iv26), (0, .ref A), (1, .int (nI fr9)), (2, .int sg), (3, .int (nI q))]) hx hb d_M_told_60 hl rfl (by rw [nI_succ]; rfl) (by decide) rfl (fun ls hl => ?_)
            refine lv_goto (tgt := 44) hx hb d_M_told_63 (by decide) ?_
            exact ih20 iv26 (i + 1) H locs ls (by omega) (by omega) hl hP hD hS
      exact lp17 7 iv16 0 s.heap [] ls (by omega) (by omega) hl hP hD hS
  · skip
    refine lv_iload_n hx hb d_M_told_4 rfl (lv_at hl 3 rfl) ?_
    refine lv_iconst (v := (-1)) hx hb d_M_told_5 (by decide) ?_
    refine lv_icmp_ne (tgt := 13) hx hb d_M_told_6 (by decide) (fun b27 => ?_) (fun b27 => ?_)
    · skip
      refine lv_aload_n hx hb d_M_told_13 rfl (lv_at hl 0 rfl) ?_
      refine lv_iload_n hx hb d_M_told_14 rfl (lv_at hl 1 rfl) ?_
      refine lv_bipush (v := nI 20) hx hb d_M_told_15 (by decide) ?_
      refine pcc_i (va_runS (As := [.ref A, .int (nI fr9), .int (nI 20)]) (rest := []) ⟨hx, hb, hml, hown, tb_nil⟩ (m_digitsOf58 l g s.heap.size f A fr9 20 hL t_A hI (by omega)) ⟨(callB_of 3 (tb_one (wd_1257 hB _)) tb_good1 rfl rfl rfl (wd_82 hB _) (wd_1255 hB _) (by decide +kernel) ⟨Nat.le_of_ble_eq_true rfl, Nat.le_of_ble_eq_true rfl⟩), (wd_1256 hB _)⟩ ⟨pe_bl, pe_pre hB hK hP hD⟩ rfl rfl hl.1 rfl (lv_room (Nat.le_of_ble_eq_true rfl)) d_M_told_17 ⟨Nat.le_of_ble_eq_true rfl, Nat.le_of_ble_eq_true rfl⟩) hS (fun r28 f29 H locs hq30 hP hD hS => ?_)
      subst hq30
      exact pe_iret hx hb hr hlocks hK hP hD hS d_M_told_20 rfl
    · skip
      refine lv_iload_n hx hb d_M_told_9 rfl (lv_at hl 2 rfl) ?_
      refine lv_goto (tgt := 20) hx hb d_M_told_10 (by decide) ?_
      exact pe_iret hx hb hr hlocks hK hP hD hS d_M_told_20 rfl
set_option maxHeartbeats 4000000 in
set_option maxRecDepth 100000 in
theorem m_told60 (l : Launch) (g : Lay) (sz : Nat) (f : Nat → va_E) (A : Nat) (fr9 : Nat) (sg : Int32) (kk : Int32) (hL : LO g) (t_A : g.tg A = 60) (hI : OC g f) (hfn : fr9 + 20 ≤ 240) : Met l ⟨"BigRunnerModel", "told", "([IIII)I"⟩ [Cond.code ⟨"BigRunnerModel", "told", "([IIII)I"⟩ prog_12_method_49_code 6 (some .int)] ({ frames := 1, cells := 0, slots := 0, locals := 26 }) (va_Pc [.ref A, .int (nI fr9), .int sg, .int kk] (pc_in g sz f)) (va_Qi (fun r f1 => (f = f1)) (pc_out g sz) (pc_A g sz)) 0 0 (pc_A g sz) := by
  refine pe_ofW (cc := prog_12_method_49_code) (maxL := 6) (ret := (some .int)) (lv := [(0, .ref A), (1, .int (nI fr9)), (2, .int sg), (3, .int kk)]) (by decide) (Nat.le_of_ble_eq_true rfl) rfl ?_
  intro p e s m args below meth c ls hx hb hr hml hlocks hown hB hP hK hD hsz hS hl
  subst hsz
  refine lv_iload_n hx hb d_M_told_0 rfl (lv_at hl 3 rfl) ?_
  refine lv_if_ge (tgt := 21) hx hb d_M_told_1 (by decide) (fun b1 => ?_) (fun b1 => ?_)
  · skip
    obtain ⟨q, hq, rfl⟩ := nI_of (Int32.not_lt.mpr b1)
    refine lv_iload_n hx hb d_M_told_21 rfl (lv_at hl 3 rfl) ?_
    refine lv_bipush (v := nI 120) hx hb d_M_told_22 (by decide) ?_
    refine lv_icmp_ge (tgt := 38) hx hb d_M_told_24 (by decide) (fun b2 => ?_) (fun b2 => ?_)
    · skip
      replace b2 := (nI_leI (a := 120) (b := q) (by omega) (by omega)).mp b2
      refine lv_iconst (v := nI 0) hx hb d_M_told_38 (by decide) ?_
      refine lv_istore (lv' := [(4, .int (nI 0)), (0, .ref A), (1, .int (nI fr9)), (2, .int sg), (3, .int (nI q))]) hx hb d_M_told_39 hl (by decide) rfl (fun ls hl => ?_)
      refine lv_iconst (v := nI 0) hx hb d_M_told_41 (by decide) ?_
      refine lv_istore (lv' := [(5, .int (nI 0)), (4, .int (nI 0)), (0, .ref A), (1, .int (nI fr9)), (2, .int sg), (3, .int (nI q))]) hx hb d_M_told_42 hl (by decide) rfl (fun ls hl => ?_)
      have lp3 : ∀ (k5 : Nat) (xx : Int32) (i : Nat) (H : Heap) (locs : List Loc) (ls : Array Slot), (6 < i + k5) → (i ≤ 6) → lv_has ls 6 [(5, .int (nI i)), (4, .int xx), (0, .ref A), (1, .int (nI fr9)), (2, .int sg), (3, .int (nI q))] → va_P g.D vcl (va_pl g.LP f) H → va_D (pc_A g s.heap.size) (va_pl g.LP f) → va_S (pc_A g s.heap.size) s.heap H locs → W p l e ({ frames := 1, cells := 0, slots := 0, locals := 26 }) s m args below meth c H locs 0 0 (MQ below (va_Qi (fun r f1 => (f = f1)) (pc_out g s.heap.size) (pc_A g s.heap.size)) args s 0 0 (pc_A g s.heap.size)) (F0 m 44 ls []) := by
        intro k5
        induction k5 with
        | zero => intros; exfalso; omega
        | succ k5 ih6 =>
          intro xx i H locs ls hfu7 hi hl hP hD hS
          refine lv_iload hx hb d_M_told_44 (lv_at hl 0 rfl) ?_
          refine lv_iload_n hx hb d_M_told_46 rfl (lv_at hl 5 rfl) ?_
          refine lv_bipush (v := nI 6) hx hb d_M_told_47 (by decide) ?_
          refine pf_iremN (x := q) (y := 6) hx hb (by omega) (by omega) (by omega) d_M_told_49 ?_
          refine lv_icmp_ge (tgt := 66) hx hb d_M_told_50 (by decide) (fun b10 => ?_) (fun b10 => ?_)
          · skip
            replace b10 := (nI_leI (a := q % 6) (b := i) (by omega) (by omega)).mp b10
            refine lv_iload hx hb d_M_told_66 (lv_at hl 1 rfl) ?_
            refine lv_bipush (v := nI 10) hx hb d_M_told_68 (by decide) ?_
            refine lv_irem hx hb d_M_told_70 (by decide) ?_
            refine lv_topi (fun iv11 _ => ?_)
            exact pe_iret hx hb hr hlocks hK hP hD hS d_M_told_71 rfl
          · skip
            replace b10 := mt (nI_leI (a := q % 6) (b := i) (by omega) (by omega)).mpr b10
            refine lv_iload hx hb d_M_told_53 (lv_at hl 1 rfl) ?_
            refine lv_bipush (v := nI 10) hx hb d_M_told_55 (by decide) ?_
            refine lv_idiv hx hb d_M_told_57 (by decide) ?_
            refine lv_topi (fun iv12 _ => ?_)
            refine lv_istore (lv' := [(4, .int iv12), (5, .int (nI i)), (0, .ref A), (1, .int (nI fr9)), (2, .int sg), (3, .int (nI q))]) hx hb d_M_told_58 hl (by decide) rfl (fun ls hl => ?_)
            refine lv_iinc (k := 1) (v := nI (i + 1)) (lv' := [(5, .int (nI (i + 1))), (4, .int iv12), (0, .ref A), (1, .int (nI fr9)), (2, .int sg), (3, .int (nI q))]) hx hb d_M_told_60 hl rfl (by rw [nI_succ]; rfl) (by decide) rfl (fun ls hl => ?_)
            refine lv_goto (tgt := 44) hx hb d_M_told_63 (by decide) ?_
            exact ih6 iv12 (i + 1) H locs ls (by omega) (by omega) hl hP hD hS
      exact lp3 7 (nI 0) 0 s.heap [] ls (by omega) (by omega) hl hP hD hS
    · skip
      replace b2 := mt (nI_leI (a := 120) (b := q) (by omega) (by omega)).mpr b2
      refine lv_aload_n hx hb d_M_told_27 rfl (lv_at hl 0 rfl) ?_
      refine lv_iload_n hx hb d_M_told_28 rfl (lv_at hl 1 rfl) ?_
      refine lv_iload_n hx hb d_M_told_29 rfl (lv_at hl 3 rfl) ?_
      refine lv_bipush (v := nI 6) hx hb d_M_told_30 (by decide) ?_
      refine pf_idivN (x := q) (y := 6) hx hb (by omega) (by omega) (by omega) d_M_told_32 ?_
      refine pf_iaddN (x := fr9) (y := q / 6) hx hb d_M_told_33 ?_
      obtain ⟨h_14, e13⟩ := oc_60.of t_A (hI A)
      refine pf_iald (i := fr9 + (q / 6)) hx hb hK hP (lo_in hL t_A (by decide)) e13 (lo_t60 hL _ t_A) (by omega) (by decide) d_M_told_34 ?_
      refine lv_topi (fun iv16 _ => ?_)
      refine lv_goto (tgt := 39) hx hb d_M_told_35 (by decide) ?_
      refine lv_istore (lv' := [(4, .int iv16), (0, .ref A), (1, .int (nI fr9)), (2, .int sg), (3, .int (nI q))]) hx hb d_M_told_39 hl (by decide) rfl (fun ls hl => ?_)
      refine lv_iconst (v := nI 0) hx hb d_M_told_41 (by decide) ?_
      refine lv_istore (lv' := [(5, .int (nI 0)), (4, .int iv16), (0, .ref A), (1, .int (nI fr9)), (2, .int sg), (3, .int (nI q))]) hx hb d_M_told_42 hl (by decide) rfl (fun ls hl => ?_)
      have lp17 : ∀ (k19 : Nat) (xx : Int32) (i : Nat) (H : Heap) (locs : List Loc) (ls : Array Slot), (6 < i + k19) → (i ≤ 6) → lv_has ls 6 [(5, .int (nI i)), (4, .int xx), (0, .ref A), (1, .int (nI fr9)), (2, .int sg), (3, .int (nI q))] → va_P g.D vcl (va_pl g.LP f) H → va_D (pc_A g s.heap.size) (va_pl g.LP f) → va_S (pc_A g s.heap.size) s.heap H locs → W p l e ({ frames := 1, cells := 0, slots := 0, locals := 26 }) s m args below meth c H locs 0 0 (MQ below (va_Qi (fun r f1 => (f = f1)) (pc_out g s.heap.size) (pc_A g s.heap.size)) args s 0 0 (pc_A g s.heap.size)) (F0 m 44 ls []) := by
        intro k19
        induction k19 with
        | zero => intros; exfalso; omega
        | succ k19 ih20 =>
          intro xx i H locs ls hfu21 hi hl hP hD hS
          refine lv_iload hx hb d_M_told_44 (lv_at hl 0 rfl) ?_
          refine lv_iload_n hx hb d_M_told_46 rfl (lv_at hl 5 rfl) ?_
          refine lv_bipush (v := nI 6) hx hb d_M_told_47 (by decide) ?_
          refine pf_iremN (x := q) (y := 6) hx hb (by omega) (by omega) (by omega) d_M_told_49 ?_
          refine lv_icmp_ge (tgt := 66) hx hb d_M_told_50 (by decide) (fun b24 => ?_) (fun b24 => ?_)
          · skip
            replace b24 := (nI_leI (a := q % 6) (b := i) (by omega) (by omega)).mp b24
            refine lv_iload hx hb d_M_told_66 (lv_at hl 1 rfl) ?_
            refine lv_bipush (v := nI 10) hx hb d_M_told_68 (by decide) ?_
            refine lv_irem hx hb d_M_told_70 (by decide) ?_
            refine lv_topi (fun iv25 _ => ?_)
            exact pe_iret hx hb hr hlocks hK hP hD hS d_M_told_71 rfl
          · skip
            replace b24 := mt (nI_leI (a := q % 6) (b := i) (by omega) (by omega)).mpr b24
            refine lv_iload hx hb d_M_told_53 (lv_at hl 1 rfl) ?_
            refine lv_bipush (v := nI 10) hx hb d_M_told_55 (by decide) ?_
            refine lv_idiv hx hb d_M_told_57 (by decide) ?_
            refine lv_topi (fun iv26 _ => ?_)
            refine lv_istore (lv' := [(4, .int iv26), (5, .int (nI i)), (0, .ref A), (1, .int (nI fr9)), (2, .int sg), (3, .int (nI q))]) hx hb d_M_told_58 hl (by decide) rfl (fun ls hl => ?_)
            refine lv_iinc (k := 1) (v := nI (i + 1)) (lv' := [(5, .int (nI (i + 1))), (4, .int iv26), (0, .ref A), (1, .int (nI fr9)), (2, .int sg), (3, .int (nI q))]) hx hb d_M_told_60 hl rfl (by rw [nI_succ]; rfl) (by decide) rfl (fun ls hl => ?_)
            refine lv_goto (tgt := 44) hx hb d_M_told_63 (by decide) ?_
            exact ih20 iv26 (i + 1) H locs ls (by omega) (by omega) hl hP hD hS
      exact lp17 7 iv16 0 s.heap [] ls (by omega) (by omega) hl hP hD hS
  · skip
    refine lv_iload_n hx hb d_M_told_4 rfl (lv_at hl 3 rfl) ?_
    refine lv_iconst (v := (-1)) hx hb d_M_told_5 (by decide) ?_
    refine lv_icmp_ne (tgt := 13) hx hb d_M_told_6 (by decide) (fun b27 => ?_) (fun b27 => ?_)
    · skip
      refine lv_aload_n hx hb d_M_told_13 rfl (lv_at hl 0 rfl) ?_
      refine lv_iload_n hx hb d_M_told_14 rfl (lv_at hl 1 rfl) ?_
      refine lv_bipush (v := nI 20) hx hb d_M_told_15 (by decide) ?_
      refine pcc_i (va_runS (As := [.ref A, .int (nI fr9), .int (nI 20)]) (rest := []) ⟨hx, hb, hml, hown, tb_nil⟩ (m_digitsOf60 l g s.heap.size f A fr9 20 hL t_A hI (by omega)) ⟨(callB_of 3 (tb_one (wd_1257 hB _)) tb_good1 rfl rfl rfl (wd_82 hB _) (wd_1255 hB _) (by decide +kernel) ⟨Nat.le_of_ble_eq_true rfl, Nat.le_of_ble_eq_true rfl⟩), (wd_1256 hB _)⟩ ⟨pe_bl, pe_pre hB hK hP hD⟩ rfl rfl hl.1 rfl (lv_room (Nat.le_of_ble_eq_true rfl)) d_M_told_17 ⟨Nat.le_of_ble_eq_true rfl, Nat.le_of_ble_eq_true rfl⟩) hS (fun r28 f29 H locs hq30 hP hD hS => ?_)
      subst hq30
      exact pe_iret hx hb hr hlocks hK hP hD hS d_M_told_20 rfl
    · skip
      refine lv_iload_n hx hb d_M_told_9 rfl (lv_at hl 2 rfl) ?_
      refine lv_goto (tgt := 20) hx hb d_M_told_10 (by decide) ?_
      exact pe_iret hx hb hr hlocks hK hP hD hS d_M_told_20 rfl
set_option maxHeartbeats 4000000 in
set_option maxRecDepth 100000 in
theorem m_variable (l : Launch) (g : Lay) (sz : Nat) (f : Nat → va_E) (M : Nat) (mth : Int32) (mn : Nat) (mdr : Nat) (msz : Nat) (mix : Nat) (mdp : Nat) (mwt : Nat) (mop : Nat) (mtp : Nat) (mwa : Nat) (mgi : Nat) (mpc : Nat) (mst : Nat) (mtr : Nat) (msp : Nat) (mma : Int32) (mlg : Int32) (mdu : Int32) (v : Int32) (kk : Int32) (hL : LO g) (t_M : g.tg M = 11) (hI : IV g f) (eM : f M = .inr (10, [.int mth, .ref (g.lk M 1), .int (nI mn), .ref (g.lk M 3), .ref (g.lk M 4), .int (nI mdr), .ref (g.lk M 6), .ref (g.lk M 7), .ref (g.lk M 8), .int (nI msz), .int (nI mix), .int (nI mdp), .ref (g.lk M 12), .int (nI mwt), .ref (g.lk M 14), .ref (g.lk M 15), .int (nI mop), .ref (g.lk M 17), .ref (g.lk M 18), .ref (g.lk M 19), .ref (g.lk M 20), .ref (g.lk M 21), .ref (g.lk M 22), .ref (g.lk M 23), .ref (g.lk M 24), .ref (g.lk M 25), .ref (g.lk M 26), .ref (g.lk M 27), .ref (g.lk M 28), .ref (g.lk M 29), .ref (g.lk M 30), .ref (g.lk M 31), .int (nI mtp), .ref (g.lk M 33), .ref (g.lk M 34), .ref (g.lk M 35), .int (nI mwa), .int (nI mgi), .int (nI mpc), .int (nI mst), .int (nI mtr), .int (nI msp), .int mma, .int mlg, .int mdu])) (hMB : mn ≤ 72 ∧ mdr ≤ 100 ∧ msz ≤ 100 ∧ mix ≤ 100 ∧ mdp ≤ 20 ∧ mwt ≤ 72 ∧ mop ≤ 40 ∧ mtp ≤ 80 ∧ mwa ≤ 20 ∧ mgi ≤ msp ∧ mpc ≤ 100 ∧ mst ≤ 4 ∧ mtr ≤ 3 ∧ msp ≤ 3000 ∧ (mdu = 0 ∨ mdu = 1)) : Met l ⟨"BigRunnerModel", "variable", "(II)I"⟩ [Cond.code ⟨"BigRunnerModel", "variable", "(II)I"⟩ prog_12_method_50_code 4 (some .int)] ({ frames := 2, cells := 0, slots := 0, locals := 51 }) (va_Pc [.ref M, .int v, .int kk] (pc_in g sz f)) (va_Qi (fun r f1 => (∃ (th1 : Int32), f1 M = .inr (10, [.int th1, .ref (g.lk M 1), .int (nI mn), .ref (g.lk M 3), .ref (g.lk M 4), .int (nI mdr), .ref (g.lk M 6), .ref (g.lk M 7), .ref (g.lk M 8), .int (nI msz), .int (nI mix), .int (nI mdp), .ref (g.lk M 12), .int (nI mwt), .ref (g.lk M 14), .ref (g.lk M 15), .int (nI mop), .ref (g.lk M 17), .ref (g.lk M 18), .ref (g.lk M 19), .ref (g.lk M 20), .ref (g.lk M 21), .ref (g.lk M 22), .ref (g.lk M 23), .ref (g.lk M 24), .ref (g.lk M 25), .ref (g.lk M 26), .ref (g.lk M 27), .ref (g.lk M 28), .ref (g.lk M 29), .ref (g.lk M 30), .ref (g.lk M 31), .int (nI mtp), .ref (g.lk M 33), .ref (g.lk M 34), .ref (g.lk M 35), .int (nI mwa), .int (nI mgi), .int (nI mpc), .int (nI mst), .int (nI mtr), .int (nI msp), .int mma, .int mlg, .int mdu])) ∧ (IV g f1) ∧ (un [11] g f f1)) (pc_out g sz) (pc_A g sz)) 0 0 (pc_A g sz) := by
  refine pe_ofW (cc := prog_12_method_50_code) (maxL := 4) (ret := (some .int)) (lv := [(0, .ref M), (1, .int v), (2, .int kk)]) (by decide) (Nat.le_of_ble_eq_true rfl) rfl ?_
  intro p e s m args below meth c ls hx hb hr hml hlocks hown hB hP hK hD hsz hS hl
  subst hsz
  have hu : un [11] g f f := un.rf
  obtain ⟨hmb0, hmb1, hmb2, hmb3, hmb4, hmb5, hmb6, hmb7, hmb8, hmb9, hmb10, hmb11, hmb12, hmb13, hmb14⟩ := hMB
  refine lv_iload_n hx hb d_M_variable_0 rfl (lv_at hl 1 rfl) ?_
  refine lv_if_lt (tgt := 27) hx hb d_M_variable_1 (by decide) (fun b1 => ?_) (fun b1 => ?_)
  · skip
    refine lv_iconst (v := nI 0) hx hb d_M_variable_27 (by decide) ?_
    refine lv_istore_n (lv' := [(3, .int (nI 0)), (0, .ref M), (1, .int v), (2, .int kk)]) hx hb d_M_variable_28 rfl hl (by decide) rfl (fun ls hl => ?_)
    refine lv_aload_n hx hb d_M_variable_29 rfl (lv_at hl 1 rfl) ?_
    refine lv_iload_n hx hb d_M_variable_30 rfl (lv_at hl 0 rfl) ?_
    refine lv_if_eq (tgt := 38) hx hb d_M_variable_31 (by decide) (fun b2 => ?_) (fun b2 => ?_)
    · skip
      replace b2 := (nI_eq (a := 0) (b := 0) (by omega) (by omega)).mp b2
      refine lv_iconst (v := nI 1) hx hb d_M_variable_38 (by decide) ?_
      refine pf_put (v := .int (nI 1)) (ty := .int) (fs' := [.int (nI 1), .ref (g.lk M 1), .int (nI mn), .ref (g.lk M 3), .ref (g.lk M 4), .int (nI mdr), .ref (g.lk M 6), .ref (g.lk M 7), .ref (g.lk M 8), .int (nI msz), .int (nI mix), .int (nI mdp), .ref (g.lk M 12), .int (nI mwt), .ref (g.lk M 14), .ref (g.lk M 15), .int (nI mop), .ref (g.lk M 17), .ref (g.lk M 18), .ref (g.lk M 19), .ref (g.lk M 20), .ref (g.lk M 21), .ref (g.lk M 22), .ref (g.lk M 23), .ref (g.lk M 24), .ref (g.lk M 25), .ref (g.lk M 26), .ref (g.lk M 27), .ref (g.lk M 28), .ref (g.lk M 29), .ref (g.lk M 30), .ref (g.lk M 31), .int (nI mtp), .ref (g.lk M 33), .ref (g.lk M 34), .ref (g.lk M 35), .int (nI mwa), .int (nI mgi), .int (nI mpc), .int (nI mst), .int (nI mtr), .int (nI msp), .int mma, .int mlg, .int mdu]) (C := "BigRunnerModel") (T := FT10) (N := 45) hx hb (hw10 hB _) (fun _ h9 => h9) TY10 ok10 nm10 hown hK hP hD hS (lo_in hL t_M (by decide)) eM rfl 0 (by decide) (wd_947 hB _) rfl (by decide +kernel) rfl rfl (Nat.le_of_ble_eq_true rfl) rfl d_M_variable_39 (fun f3 H locs e4 k5 hP hD hS => ?_)
      have hu := hu.st k5 t_M (by decide)
      have hk6 : ∀ b, b ≠ M → f3 b = f b := k5
      refine lv_iload_n hx hb d_M_variable_42 rfl (lv_at hl 0 rfl) ?_
      refine lv_if_eq (tgt := 67) hx hb d_M_variable_43 (by decide) (fun b7 => ?_) (fun b7 => ?_)
      · skip
        replace b7 := (nI_eq (a := 0) (b := 0) (by omega) (by omega)).mp b7
        refine lv_iconst (v := nI 0) hx hb d_M_variable_67 (by decide) ?_
        have hI8 := iv_1 hI hL t_M (by decide) hk6 (oc_11.mk t_M (⟨((nI 1)), mn, mdr, msz, mix, mdp, mwt, mop, mtp, mwa, mgi, mpc, mst, mtr, msp, mma, mlg, mdu, e4, (by omega), (by omega), (by omega), (by omega), (by omega), (by omega), (by omega), (by omega), (by omega), (by omega), (by omega), (by omega), (by omega), (by omega), hmb14⟩))
        exact pe_iret hx hb hr hlocks hK hP hD hS d_M_variable_68 ⟨⟨(nI 1), e4⟩, hI8, hu⟩
      · skip
        replace b7 := mt (nI_eq (a := 0) (b := 0) (by omega) (by omega)).mpr b7
        exfalso; omega
    · skip
      replace b2 := mt (nI_eq (a := 0) (b := 0) (by omega) (by omega)).mpr b2
      exfalso; omega
  · skip
    refine lv_iload_n hx hb d_M_variable_4 rfl (lv_at hl 1 rfl) ?_
    refine lv_bipush (v := nI 10) hx hb d_M_variable_5 (by decide) ?_
    refine lv_icmp_ge (tgt := 27) hx hb d_M_variable_7 (by decide) (fun b9 => ?_) (fun b9 => ?_)
    · skip
      refine lv_iconst (v := nI 0) hx hb d_M_variable_27 (by decide) ?_
      refine lv_istore_n (lv' := [(3, .int (nI 0)), (0, .ref M), (1, .int v), (2, .int kk)]) hx hb d_M_variable_28 rfl hl (by decide) rfl (fun ls hl => ?_)
      refine lv_aload_n hx hb d_M_variable_29 rfl (lv_at hl 1 rfl) ?_
      refine lv_iload_n hx hb d_M_variable_30 rfl (lv_at hl 0 rfl) ?_
      refine lv_if_eq (tgt := 38) hx hb d_M_variable_31 (by decide) (fun b10 => ?_) (fun b10 => ?_)
      · skip
        replace b10 := (nI_eq (a := 0) (b := 0) (by omega) (by omega)).mp b10
        refine lv_iconst (v := nI 1) hx hb d_M_variable_38 (by decide) ?_
        refine pf_put (v := .int (nI 1)) (ty := .int) (fs' := [.int (nI 1), .ref (g.lk M 1), .int (nI mn), .ref (g.lk M 3), .ref (g.lk M 4), .int (nI mdr), .ref (g.lk M 6), .ref (g.lk M 7), .ref (g.lk M 8), .int (nI msz), .int (nI mix), .int (nI mdp), .ref (g.lk M 12), .int (nI mwt), .ref (g.lk M 14), .ref (g.lk M 15), .int (nI mop), .ref (g.lk M 17), .ref (g.lk M 18), .ref (g.lk M 19), .ref (g.lk M 20), .ref (g.lk M 21), .ref (g.lk M 22), .ref (g.lk M 23), .ref (g.lk M 24), .ref (g.lk M 25), .ref (g.lk M 26), .ref (g.lk M 27), .ref (g.lk M 28), .ref (g.lk M 29), .ref (g.lk M 30), .ref (g.lk M 31), .int (nI mtp), .ref (g.lk M 33), .ref (g.lk M 34), .ref (g.lk M 35), .int (nI mwa), .int (nI mgi), .int (nI mpc), .int (nI mst), .int (nI mtr), .int (nI msp), .int mma, .int mlg, .int mdu]) (C := "BigRunnerModel") (T := FT10) (N := 45) hx hb (hw10 hB _) (fun _ h9 => h9) TY10 ok10 nm10 hown hK hP hD hS (lo_in hL t_M (by decide)) eM rfl 0 (by decide) (wd_947 hB _) rfl (by decide +kernel) rfl rfl (Nat.le_of_ble_eq_true rfl) rfl d_M_variable_39 (fun f11 H locs e12 k13 hP hD hS => ?_)
        have hu := hu.st k13 t_M (by decide)
        have hk14 : ∀ b, b ≠ M → f11 b = f b := k13
        refine lv_iload_n hx hb d_M_variable_42 rfl (lv_at hl 0 rfl) ?_
        refine lv_if_eq (tgt := 67) hx hb d_M_variable_43 (by decide) (fun b15 => ?_) (fun b15 => ?_)
        · skip
          replace b15 := (nI_eq (a := 0) (b := 0) (by omega) (by omega)).mp b15
          refine lv_iconst (v := nI 0) hx hb d_M_variable_67 (by decide) ?_
          have hI16 := iv_1 hI hL t_M (by decide) hk14 (oc_11.mk t_M (⟨((nI 1)), mn, mdr, msz, mix, mdp, mwt, mop, mtp, mwa, mgi, mpc, mst, mtr, msp, mma, mlg, mdu, e12, (by omega), (by omega), (by omega), (by omega), (by omega), (by omega), (by omega), (by omega), (by omega), (by omega), (by omega), (by omega), (by omega), (by omega), hmb14⟩))
          exact pe_iret hx hb hr hlocks hK hP hD hS d_M_variable_68 ⟨⟨(nI 1), e12⟩, hI16, hu⟩
        · skip
          replace b15 := mt (nI_eq (a := 0) (b := 0) (by omega) (by omega)).mpr b15
          exfalso; omega
      · skip
        replace b10 := mt (nI_eq (a := 0) (b := 0) (by omega) (by omega)).mpr b10
        exfalso; omega
    · skip
      obtain ⟨vk17, hvk17, rfl⟩ := ix_on (n := 10) (by decide) b1 (Int32.not_le.mp b9)
      refine lv_aload_n hx hb d_M_variable_10 rfl (lv_at hl 0 rfl) ?_
      refine pf_get (v := .int (nI mst)) (C := "BigRunnerModel") (T := FT10) (N := 45) hx hb (hw10 hB _) (fun _ h9 => h9) hown hK hP (lo_in hL t_M (by decide)) eM rfl 39 (by decide) (wd_986 hB _) rfl d_M_variable_11 ?_
      refine lv_if_le (tgt := 27) hx hb d_M_variable_14 (by decide) (fun b18 => ?_) (fun b18 => ?_)
      · skip
        replace b18 := (nI_leI (a := mst) (b := 0) (by omega) (by omega)).mp b18
        refine lv_iconst (v := nI 0) hx hb d_M_variable_27 (by decide) ?_
        refine lv_istore_n (lv' := [(3, .int (nI 0)), (0, .ref M), (1, .int (nI vk17)), (2, .int kk)]) hx hb d_M_variable_28 rfl hl (by decide) rfl (fun ls hl => ?_)
        refine lv_aload_n hx hb d_M_variable_29 rfl (lv_at hl 1 rfl) ?_
        refine lv_iload_n hx hb d_M_variable_30 rfl (lv_at hl 0 rfl) ?_
        refine lv_if_eq (tgt := 38) hx hb d_M_variable_31 (by decide) (fun b19 => ?_) (fun b19 => ?_)
        · skip
          replace b19 := (nI_eq (a := 0) (b := 0) (by omega) (by omega)).mp b19
          refine lv_iconst (v := nI 1) hx hb d_M_variable_38 (by decide) ?_
          refine pf_put (v := .int (nI 1)) (ty := .int) (fs' := [.int (nI 1), .ref (g.lk M 1), .int (nI mn), .ref (g.lk M 3), .ref (g.lk M 4), .int (nI mdr), .ref (g.lk M 6), .ref (g.lk M 7), .ref (g.lk M 8), .int (nI msz), .int (nI mix), .int (nI mdp), .ref (g.lk M 12), .int (nI mwt), .ref (g.lk M 14), .ref (g.lk M 15), .int (nI mop), .ref (g.lk M 17), .ref (g.lk M 18), .ref (g.lk M 19), .ref (g.lk M 20), .ref (g.lk M 21), .ref (g.lk M 22), .ref (g.lk M 23), .ref (g.lk M 24), .ref (g.lk M 25), .ref (g.lk M 26), .ref (g.lk M 27), .ref (g.lk M 28), .ref (g.lk M 29), .ref (g.lk M 30), .ref (g.lk M 31), .int (nI mtp), .ref (g.lk M 33), .ref (g.lk M 34), .ref (g.lk M 35), .int (nI mwa), .int (nI mgi), .int (nI mpc), .int (nI mst), .int (nI mtr), .int (nI msp), .int mma, .int mlg, .int mdu]) (C := "BigRunnerModel") (T := FT10) (N := 45) hx hb (hw10 hB _) (fun _ h9 => h9) TY10 ok10 nm10 hown hK hP hD hS (lo_in hL t_M (by decide)) eM rfl 0 (by decide) (wd_947 hB _) rfl (by decide +kernel) rfl rfl (Nat.le_of_ble_eq_true rfl) rfl d_M_variable_39 (fun f20 H locs e21 k22 hP hD hS => ?_)
          have hu := hu.st k22 t_M (by decide)
          have hk23 : ∀ b, b ≠ M → f20 b = f b := k22
          refine lv_iload_n hx hb d_M_variable_42 rfl (lv_at hl 0 rfl) ?_
          refine lv_if_eq (tgt := 67) hx hb d_M_variable_43 (by decide) (fun b24 => ?_) (fun b24 => ?_)
          · skip
            replace b24 := (nI_eq (a := 0) (b := 0) (by omega) (by omega)).mp b24
            refine lv_iconst (v := nI 0) hx hb d_M_variable_67 (by decide) ?_
            have hI25 := iv_1 hI hL t_M (by decide) hk23 (oc_11.mk t_M (⟨((nI 1)), mn, mdr, msz, mix, mdp, mwt, mop, mtp, mwa, mgi, mpc, mst, mtr, msp, mma, mlg, mdu, e21, (by omega), (by omega), (by omega), (by omega), (by omega), (by omega), (by omega), (by omega), (by omega), (by omega), (by omega), (by omega), (by omega), (by omega), hmb14⟩))
            exact pe_iret hx hb hr hlocks hK hP hD hS d_M_variable_68 ⟨⟨(nI 1), e21⟩, hI25, hu⟩
          · skip
            replace b24 := mt (nI_eq (a := 0) (b := 0) (by omega) (by omega)).mpr b24
            exfalso; omega
        · skip
          replace b19 := mt (nI_eq (a := 0) (b := 0) (by omega) (by omega)).mpr b19
          exfalso; omega
      · skip
        replace b18 := mt (nI_leI (a := mst) (b := 0) (by omega) (by omega)).mpr b18
        refine lv_iload_n hx hb d_M_variable_17 rfl (lv_at hl 2 rfl) ?_
        refine lv_bipush (v := (-2)) hx hb d_M_variable_18 (by decide) ?_
        refine lv_icmp_lt (tgt := 27) hx hb d_M_variable_20 (by decide) (fun b26 => ?_) (fun b26 => ?_)
        · skip
          refine lv_iconst (v := nI 0) hx hb d_M_variable_27 (by decide) ?_
          refine lv_istore_n (lv' := [(3, .int (nI 0)), (0, .ref M), (1, .int (nI vk17)), (2, .int kk)]) hx hb d_M_variable_28 rfl hl (by decide) rfl (fun ls hl => ?_)
          refine lv_aload_n hx hb d_M_variable_29 rfl (lv_at hl 1 rfl) ?_
          refine lv_iload_n hx hb d_M_variable_30 rfl (lv_at hl 0 rfl) ?_
          refine lv_if_eq (tgt := 38) hx hb d_M_variable_31 (by decide) (fun b27 => ?_) (fun b27 => ?_)
          · skip
            replace b27 := (nI_eq (a := 0) (b := 0) (by omega) (by omega)).mp b27
            refine lv_iconst (v := nI 1) hx hb d_M_variable_38 (by decide) ?_
            refine pf_put (v := .int (nI 1)) (ty := .int) (fs' := [.int (nI 1), .ref (g.lk M 1), .int (nI mn), .ref (g.lk M 3), .ref (g.lk M 4), .int (nI mdr), .ref (g.lk M 6), .ref (g.lk M 7), .ref (g.lk M 8), .int (nI msz), .int (nI mix), .int (nI mdp), .ref (g.lk M 12), .int (nI mwt), .ref (g.lk M 14), .ref (g.lk M 15), .int (nI mop), .ref (g.lk M 17), .ref (g.lk M 18), .ref (g.lk M 19), .ref (g.lk M 20), .ref (g.lk M 21), .ref (g.lk M 22), .ref (g.lk M 23), .ref (g.lk M 24), .ref (g.lk M 25), .ref (g.lk M 26), .ref (g.lk M 27), .ref (g.lk M 28), .ref (g.lk M 29), .ref (g.lk M 30), .ref (g.lk M 31), .int (nI mtp), .ref (g.lk M 33), .ref (g.lk M 34), .ref (g.lk M 35), .int (nI mwa), .int (nI mgi), .int (nI mpc), .int (nI mst), .int (nI mtr), .int (nI msp), .int mma, .int mlg, .int mdu]) (C := "BigRunnerModel") (T := FT10) (N := 45) hx hb (hw10 hB _) (fun _ h9 => h9) TY10 ok10 nm10 hown hK hP hD hS (lo_in hL t_M (by decide)) eM rfl 0 (by decide) (wd_947 hB _) rfl (by decide +kernel) rfl rfl (Nat.le_of_ble_eq_true rfl) rfl d_M_variable_39 (fun f28 H locs e29 k30 hP hD hS => ?_)
            have hu := hu.st k30 t_M (by decide)
            have hk31 : ∀ b, b ≠ M → f28 b = f b := k30
            refine lv_iload_n hx hb d_M_variable_42 rfl (lv_at hl 0 rfl) ?_
            refine lv_if_eq (tgt := 67) hx hb d_M_variable_43 (by decide) (fun b32 => ?_) (fun b32 => ?_)
            · skip
              replace b32 := (nI_eq (a := 0) (b := 0) (by omega) (by omega)).mp b32
              refine lv_iconst (v := nI 0) hx hb d_M_variable_67 (by decide) ?_
              have hI33 := iv_1 hI hL t_M (by decide) hk31 (oc_11.mk t_M (⟨((nI 1)), mn, mdr, msz, mix, mdp, mwt, mop, mtp, mwa, mgi, mpc, mst, mtr, msp, mma, mlg, mdu, e29, (by omega), (by omega), (by omega), (by omega), (by omega), (by omega), (by omega), (by omega), (by omega), (by omega), (by omega), (by omega), (by omega), (by omega), hmb14⟩))
              exact pe_iret hx hb hr hlocks hK hP hD hS d_M_variable_68 ⟨⟨(nI 1), e29⟩, hI33, hu⟩
            · skip
              replace b32 := mt (nI_eq (a := 0) (b := 0) (by omega) (by omega)).mpr b32
              exfalso; omega
          · skip
            replace b27 := mt (nI_eq (a := 0) (b := 0) (by omega) (by omega)).mpr b27
            exfalso; omega
        · skip
          refine lv_iconst (v := nI 1) hx hb d_M_variable_23 (by decide) ?_
          refine lv_goto (tgt := 28) hx hb d_M_variable_24 (by decide) ?_
          refine lv_istore_n (lv' := [(3, .int (nI 1)), (0, .ref M), (1, .int (nI vk17)), (2, .int kk)]) hx hb d_M_variable_28 rfl hl (by decide) rfl (fun ls hl => ?_)
          refine lv_aload_n hx hb d_M_variable_29 rfl (lv_at hl 1 rfl) ?_
          refine lv_iload_n hx hb d_M_variable_30 rfl (lv_at hl 0 rfl) ?_
          refine lv_if_eq (tgt := 38) hx hb d_M_variable_31 (by decide) (fun b34 => ?_) (fun b34 => ?_)
          · skip
            replace b34 := (nI_eq (a := 1) (b := 0) (by omega) (by omega)).mp b34
            exfalso; omega
          · skip
            replace b34 := mt (nI_eq (a := 1) (b := 0) (by omega) (by omega)).mpr b34
            refine lv_iconst (v := nI 0) hx hb d_M_variable_34 (by decide) ?_
            refine lv_goto (tgt := 39) hx hb d_M_variable_35 (by decide) ?_
            refine pf_put (v := .int (nI 0)) (ty := .int) (fs' := [.int (nI 0), .ref (g.lk M 1), .int (nI mn), .ref (g.lk M 3), .ref (g.lk M 4), .int (nI mdr), .ref (g.lk M 6), .ref (g.lk M 7), .ref (g.lk M 8), .int (nI msz), .int (nI mix), .int (nI mdp), .ref (g.lk M 12), .int (nI mwt), .ref (g.lk M 14), .ref (g.lk M 15), .int (nI mop), .ref (g.lk M 17), .ref (g.lk M 18), .ref (g.lk M 19), .ref (g.lk M 20), .ref (g.lk M 21), .ref (g.lk M 22), .ref (g.lk M 23), .ref (g.lk M 24), .ref (g.lk M 25), .ref (g.lk M 26), .ref (g.lk M 27), .ref (g.lk M 28), .ref (g.lk M 29), .ref (g.lk M 30), .ref (g.lk M 31), .int (nI mtp), .ref (g.lk M 33), .ref (g.lk M 34), .ref (g.lk M 35), .int (nI mwa), .int (nI mgi), .int (nI mpc), .int (nI mst), .int (nI mtr), .int (nI msp), .int mma, .int mlg, .int mdu]) (C := "BigRunnerModel") (T := FT10) (N := 45) hx hb (hw10 hB _) (fun _ h9 => h9) TY10 ok10 nm10 hown hK hP hD hS (lo_in hL t_M (by decide)) eM rfl 0 (by decide) (wd_947 hB _) rfl (by decide +kernel) rfl rfl (Nat.le_of_ble_eq_true rfl) rfl d_M_variable_39 (fun f35 H locs e36 k37 hP hD hS => ?_)
            have hu := hu.st k37 t_M (by decide)
            have hk38 : ∀ b, b ≠ M → f35 b = f b := k37
            refine lv_iload_n hx hb d_M_variable_42 rfl (lv_at hl 0 rfl) ?_
            refine lv_if_eq (tgt := 67) hx hb d_M_variable_43 (by decide) (fun b39 => ?_) (fun b39 => ?_)
            · skip
              replace b39 := (nI_eq (a := 1) (b := 0) (by omega) (by omega)).mp b39
              exfalso; omega
            · skip
              replace b39 := mt (nI_eq (a := 1) (b := 0) (by omega) (by omega)).mpr b39
              refine lv_aload_n hx hb d_M_variable_46 rfl (lv_at hl 1 rfl) ?_
              refine pf_get (v := .ref (g.lk M 26)) (C := "BigRunnerModel") (T := FT10) (N := 45) hx hb (hw10 hB _) (fun _ h9 => h9) hown hK hP (lo_in hL t_M (by decide)) e36 rfl 26 (by decide) (wd_973 hB _) rfl d_M_variable_47 ?_
              refine lv_bipush (v := nI 20) hx hb d_M_variable_50 (by decide) ?_
              refine lv_iload_n hx hb d_M_variable_52 rfl (lv_at hl 2 rfl) ?_
              refine pf_imulN (x := 20) (y := vk17) hx hb d_M_variable_53 ?_
              refine lv_aload_n hx hb d_M_variable_54 rfl (lv_at hl 1 rfl) ?_
              refine pf_get (v := .ref (g.lk M 27)) (C := "BigRunnerModel") (T := FT10) (N := 45) hx hb (hw10 hB _) (fun _ h9 => h9) hown hK hP (lo_in hL t_M (by decide)) e36 rfl 27 (by decide) (wd_974 hB _) rfl d_M_variable_55 ?_
              refine lv_iload_n hx hb d_M_variable_58 rfl (lv_at hl 2 rfl) ?_
              obtain ⟨h_41, e40⟩ := oc_59.of (lo_k11_27 hL _ t_M) (hI.1 (g.lk M 27))
              replace e40 := (hk38 (g.lk M 27) (tg_ne (lo_k11_27 hL _ t_M) t_M (by decide))).trans e40
              refine pf_iald (i := vk17) hx hb hK hP (lo_in hL (lo_k11_27 hL _ t_M) (by decide)) e40 (lo_t59 hL _ (lo_k11_27 hL _ t_M)) (by omega) (by decide) d_M_variable_59 ?_
              refine lv_topi (fun iv43 _ => ?_)
              refine lv_iload_n hx hb d_M_variable_60 rfl (lv_at hl 3 rfl) ?_
              have hI44 := iv_1 hI hL t_M (by decide) hk38 (oc_11.mk t_M (⟨((nI 0)), mn, mdr, msz, mix, mdp, mwt, mop, mtp, mwa, mgi, mpc, mst, mtr, msp, mma, mlg, mdu, e36, (by omega), (by omega), (by omega), (by omega), (by omega), (by omega), (by omega), (by omega), (by omega), (by omega), (by omega), (by omega), (by omega), (by omega), hmb14⟩))
              refine pcc_i (va_runS (As := [.ref (g.lk M 26), .int (nI (20 * vk17)), .int iv43, .int kk]) (rest := []) ⟨hx, hb, hml, hown, tb_nil⟩ (m_told58 l g H.size f35 ((g.lk M 26)) ((20 * vk17)) iv43 kk hL (lo_k11_26 hL _ t_M) hI44.1 (by omega)) ⟨(callB_of 4 (tb_one (wd_1280 hB _)) tb_good1 rfl rfl rfl (wd_82 hB _) (wd_1278 hB _) (by decide +kernel) ⟨Nat.le_of_ble_eq_true rfl, Nat.le_of_ble_eq_true rfl⟩), (wd_1279 hB _)⟩ ⟨pe_bl, pe_pre hB hK hP hD⟩ rfl rfl hl.1 rfl (lv_room (Nat.le_of_ble_eq_true rfl)) d_M_variable_61 ⟨Nat.le_of_ble_eq_true rfl, Nat.le_of_ble_eq_true rfl⟩) hS (fun r45 f46 H locs hq47 hP hD hS => ?_)
              subst hq47
              refine lv_goto (tgt := 68) hx hb d_M_variable_64 (by decide) ?_
              exact pe_iret hx hb hr hlocks hK hP hD hS d_M_variable_68 ⟨⟨(nI 0), e36⟩, hI44, hu⟩
set_option maxHeartbeats 4000000 in
set_option maxRecDepth 100000 in
theorem m_output (l : Launch) (g : Lay) (sz : Nat) (f : Nat → va_E) (M : Nat) (mth : Int32) (mn : Nat) (mdr : Nat) (msz : Nat) (mix : Nat) (mdp : Nat) (mwt : Nat) (mop : Nat) (mtp : Nat) (mwa : Nat) (mgi : Nat) (mpc : Nat) (mst : Nat) (mtr : Nat) (msp : Nat) (mma : Int32) (mlg : Int32) (mdu : Int32) (v : Int32) (kk : Int32) (hL : LO g) (t_M : g.tg M = 11) (hI : IV g f) (eM : f M = .inr (10, [.int mth, .ref (g.lk M 1), .int (nI mn), .ref (g.lk M 3), .ref (g.lk M 4), .int (nI mdr), .ref (g.lk M 6), .ref (g.lk M 7), .ref (g.lk M 8), .int (nI msz), .int (nI mix), .int (nI mdp), .ref (g.lk M 12), .int (nI mwt), .ref (g.lk M 14), .ref (g.lk M 15), .int (nI mop), .ref (g.lk M 17), .ref (g.lk M 18), .ref (g.lk M 19), .ref (g.lk M 20), .ref (g.lk M 21), .ref (g.lk M 22), .ref (g.lk M 23), .ref (g.lk M 24), .ref (g.lk M 25), .ref (g.lk M 26), .ref (g.lk M 27), .ref (g.lk M 28), .ref (g.lk M 29), .ref (g.lk M 30), .ref (g.lk M 31), .int (nI mtp), .ref (g.lk M 33), .ref (g.lk M 34), .ref (g.lk M 35), .int (nI mwa), .int (nI mgi), .int (nI mpc), .int (nI mst), .int (nI mtr), .int (nI msp), .int mma, .int mlg, .int mdu])) (hMB : mn ≤ 72 ∧ mdr ≤ 100 ∧ msz ≤ 100 ∧ mix ≤ 100 ∧ mdp ≤ 20 ∧ mwt ≤ 72 ∧ mop ≤ 40 ∧ mtp ≤ 80 ∧ mwa ≤ 20 ∧ mgi ≤ msp ∧ mpc ≤ 100 ∧ mst ≤ 4 ∧ mtr ≤ 3 ∧ msp ≤ 3000 ∧ (mdu = 0 ∨ mdu = 1)) : Met l ⟨"BigRunnerModel", "output", "(II)I"⟩ [Cond.code ⟨"BigRunnerModel", "output", "(II)I"⟩ prog_12_method_51_code 4 (some .int)] ({ frames := 2, cells := 0, slots := 0, locals := 51 }) (va_Pc [.ref M, .int v, .int kk] (pc_in g sz f)) (va_Qi (fun r f1 => (∃ (th1 : Int32), f1 M = .inr (10, [.int th1, .ref (g.lk M 1), .int (nI mn), .ref (g.lk M 3), .ref (g.lk M 4), .int (nI mdr), .ref (g.lk M 6), .ref (g.lk M 7), .ref (g.lk M 8), .int (nI msz), .int (nI mix), .int (nI mdp), .ref (g.lk M 12), .int (nI mwt), .ref (g.lk M 14), .ref (g.lk M 15), .int (nI mop), .ref (g.lk M 17), .ref (g.lk M 18), .ref (g.lk M 19), .ref (g.lk M 20), .ref (g.lk M 21), .ref (g.lk M 22), .ref (g.lk M 23), .ref (g.lk M 24), .ref (g.lk M 25), .ref (g.lk M 26), .ref (g.lk M 27), .ref (g.lk M 28), .ref (g.lk M 29), .ref (g.lk M 30), .ref (g.lk M 31), .int (nI mtp), .ref (g.lk M 33), .ref (g.lk M 34), .ref (g.lk M 35), .int (nI mwa), .int (nI mgi), .int (nI mpc), .int (nI mst), .int (nI mtr), .int (nI msp), .int mma, .int mlg, .int mdu])) ∧ (IV g f1) ∧ (un [11] g f f1)) (pc_out g sz) (pc_A g sz)) 0 0 (pc_A g sz) := by
  refine pe_ofW (cc := prog_12_method_51_code) (maxL := 4) (ret := (some .int)) (lv := [(0, .ref M), (1, .int v), (2, .int kk)]) (by decide) (Nat.le_of_ble_eq_true rfl) rfl ?_
  intro p e s m args below meth c ls hx hb hr hml hlocks hown hB hP hK hD hsz hS hl
  subst hsz
  have hu : un [11] g f f := un.rf
  obtain ⟨hmb0, hmb1, hmb2, hmb3, hmb4, hmb5, hmb6, hmb7, hmb8, hmb9, hmb10, hmb11, hmb12, hmb13, hmb14⟩ := hMB
  refine lv_iload_n hx hb d_M_output_0 rfl (lv_at hl 1 rfl) ?_
  refine lv_if_lt (tgt := 28) hx hb d_M_output_1 (by decide) (fun b1 => ?_) (fun b1 => ?_)
  · skip
    refine lv_iconst (v := nI 0) hx hb d_M_output_28 (by decide) ?_
    refine lv_istore_n (lv' := [(3, .int (nI 0)), (0, .ref M), (1, .int v), (2, .int kk)]) hx hb d_M_output_29 rfl hl (by decide) rfl (fun ls hl => ?_)
    refine lv_aload_n hx hb d_M_output_30 rfl (lv_at hl 1 rfl) ?_
    refine lv_iload_n hx hb d_M_output_31 rfl (lv_at hl 0 rfl) ?_
    refine lv_if_eq (tgt := 39) hx hb d_M_output_32 (by decide) (fun b2 => ?_) (fun b2 => ?_)
    · skip
      replace b2 := (nI_eq (a := 0) (b := 0) (by omega) (by omega)).mp b2
      refine lv_iconst (v := nI 1) hx hb d_M_output_39 (by decide) ?_
      refine pf_put (v := .int (nI 1)) (ty := .int) (fs' := [.int (nI 1), .ref (g.lk M 1), .int (nI mn), .ref (g.lk M 3), .ref (g.lk M 4), .int (nI mdr), .ref (g.lk M 6), .ref (g.lk M 7), .ref (g.lk M 8), .int (nI msz), .int (nI mix), .int (nI mdp), .ref (g.lk M 12), .int (nI mwt), .ref (g.lk M 14), .ref (g.lk M 15), .int (nI mop), .ref (g.lk M 17), .ref (g.lk M 18), .ref (g.lk M 19), .ref (g.lk M 20), .ref (g.lk M 21), .ref (g.lk M 22), .ref (g.lk M 23), .ref (g.lk M 24), .ref (g.lk M 25), .ref (g.lk M 26), .ref (g.lk M 27), .ref (g.lk M 28), .ref (g.lk M 29), .ref (g.lk M 30), .ref (g.lk M 31), .int (nI mtp), .ref (g.lk M 33), .ref (g.lk M 34), .ref (g.lk M 35), .int (nI mwa), .int (nI mgi), .int (nI mpc), .int (nI mst), .int (nI mtr), .int (nI msp), .int mma, .int mlg, .int mdu]) (C := "BigRunnerModel") (T := FT10) (N := 45) hx hb (hw10 hB _) (fun _ h9 => h9) TY10 ok10 nm10 hown hK hP hD hS (lo_in hL t_M (by decide)) eM rfl 0 (by decide) (wd_947 hB _) rfl (by decide +kernel) rfl rfl (Nat.le_of_ble_eq_true rfl) rfl d_M_output_40 (fun f3 H locs e4 k5 hP hD hS => ?_)
      have hu := hu.st k5 t_M (by decide)
      have hk6 : ∀ b, b ≠ M → f3 b = f b := k5
      refine lv_iload_n hx hb d_M_output_43 rfl (lv_at hl 0 rfl) ?_
      refine lv_if_eq (tgt := 68) hx hb d_M_output_44 (by decide) (fun b7 => ?_) (fun b7 => ?_)
      · skip
        replace b7 := (nI_eq (a := 0) (b := 0) (by omega) (by omega)).mp b7
        refine lv_iconst (v := nI 0) hx hb d_M_output_68 (by decide) ?_
        have hI8 := iv_1 hI hL t_M (by decide) hk6 (oc_11.mk t_M (⟨((nI 1)), mn, mdr, msz, mix, mdp, mwt, mop, mtp, mwa, mgi, mpc, mst, mtr, msp, mma, mlg, mdu, e4, (by omega), (by omega), (by omega), (by omega), (by omega), (by omega), (by omega), (by omega), (by omega), (by omega), (by omega), (by omega), (by omega), (by omega), hmb14⟩))
        exact pe_iret hx hb hr hlocks hK hP hD hS d_M_output_69 ⟨⟨(nI 1), e4⟩, hI8, hu⟩
      · skip
        replace b7 := mt (nI_eq (a := 0) (b := 0) (by omega) (by omega)).mpr b7
        exfalso; omega
    · skip
      replace b2 := mt (nI_eq (a := 0) (b := 0) (by omega) (by omega)).mpr b2
      exfalso; omega
  · skip
    refine lv_iload_n hx hb d_M_output_4 rfl (lv_at hl 1 rfl) ?_
    refine lv_aload_n hx hb d_M_output_5 rfl (lv_at hl 0 rfl) ?_
    refine pf_get (v := .int (nI mgi)) (C := "BigRunnerModel") (T := FT10) (N := 45) hx hb (hw10 hB _) (fun _ h9 => h9) hown hK hP (lo_in hL t_M (by decide)) eM rfl 37 (by decide) (wd_984 hB _) rfl d_M_output_6 ?_
    refine lv_icmp_ge (tgt := 28) hx hb d_M_output_9 (by decide) (fun b9 => ?_) (fun b9 => ?_)
    · skip
      refine lv_iconst (v := nI 0) hx hb d_M_output_28 (by decide) ?_
      refine lv_istore_n (lv' := [(3, .int (nI 0)), (0, .ref M), (1, .int v), (2, .int kk)]) hx hb d_M_output_29 rfl hl (by decide) rfl (fun ls hl => ?_)
      refine lv_aload_n hx hb d_M_output_30 rfl (lv_at hl 1 rfl) ?_
      refine lv_iload_n hx hb d_M_output_31 rfl (lv_at hl 0 rfl) ?_
      refine lv_if_eq (tgt := 39) hx hb d_M_output_32 (by decide) (fun b10 => ?_) (fun b10 => ?_)
      · skip
        replace b10 := (nI_eq (a := 0) (b := 0) (by omega) (by omega)).mp b10
        refine lv_iconst (v := nI 1) hx hb d_M_output_39 (by decide) ?_
        refine pf_put (v := .int (nI 1)) (ty := .int) (fs' := [.int (nI 1), .ref (g.lk M 1), .int (nI mn), .ref (g.lk M 3), .ref (g.lk M 4), .int (nI mdr), .ref (g.lk M 6), .ref (g.lk M 7), .ref (g.lk M 8), .int (nI msz), .int (nI mix), .int (nI mdp), .ref (g.lk M 12), .int (nI mwt), .ref (g.lk M 14), .ref (g.lk M 15), .int (nI mop), .ref (g.lk M 17), .ref (g.lk M 18), .ref (g.lk M 19), .ref (g.lk M 20), .ref (g.lk M 21), .ref (g.lk M 22), .ref (g.lk M 23), .ref (g.lk M 24), .ref (g.lk M 25), .ref (g.lk M 26), .ref (g.lk M 27), .ref (g.lk M 28), .ref (g.lk M 29), .ref (g.lk M 30), .ref (g.lk M 31), .int (nI mtp), .ref (g.lk M 33), .ref (g.lk M 34), .ref (g.lk M 35), .int (nI mwa), .int (nI mgi), .int (nI mpc), .int (nI mst), .int (nI mtr), .int (nI msp), .int mma, .int mlg, .int mdu]) (C := "BigRunnerModel") (T := FT10) (N := 45) hx hb (hw10 hB _) (fun _ h9 => h9) TY10 ok10 nm10 hown hK hP hD hS (lo_in hL t_M (by decide)) eM rfl 0 (by decide) (wd_947 hB _) rfl (by decide +kernel) rfl rfl (Nat.le_of_ble_eq_true rfl) rfl d_M_output_40 (fun f11 H locs e12 k13 hP hD hS => ?_)
        have hu := hu.st k13 t_M (by decide)
        have hk14 : ∀ b, b ≠ M → f11 b = f b := k13
        refine lv_iload_n hx hb d_M_output_43 rfl (lv_at hl 0 rfl) ?_
        refine lv_if_eq (tgt := 68) hx hb d_M_output_44 (by decide) (fun b15 => ?_) (fun b15 => ?_)
        · skip
          replace b15 := (nI_eq (a := 0) (b := 0) (by omega) (by omega)).mp b15
          refine lv_iconst (v := nI 0) hx hb d_M_output_68 (by decide) ?_
          have hI16 := iv_1 hI hL t_M (by decide) hk14 (oc_11.mk t_M (⟨((nI 1)), mn, mdr, msz, mix, mdp, mwt, mop, mtp, mwa, mgi, mpc, mst, mtr, msp, mma, mlg, mdu, e12, (by omega), (by omega), (by omega), (by omega), (by omega), (by omega), (by omega), (by omega), (by omega), (by omega), (by omega), (by omega), (by omega), (by omega), hmb14⟩))
          exact pe_iret hx hb hr hlocks hK hP hD hS d_M_output_69 ⟨⟨(nI 1), e12⟩, hI16, hu⟩
        · skip
          replace b15 := mt (nI_eq (a := 0) (b := 0) (by omega) (by omega)).mpr b15
          exfalso; omega
      · skip
        replace b10 := mt (nI_eq (a := 0) (b := 0) (by omega) (by omega)).mpr b10
        exfalso; omega
    · skip
      refine lv_iload_n hx hb d_M_output_12 rfl (lv_at hl 1 rfl) ?_
      refine lv_bipush (v := nI 12) hx hb d_M_output_13 (by decide) ?_
      refine lv_icmp_ge (tgt := 28) hx hb d_M_output_15 (by decide) (fun b17 => ?_) (fun b17 => ?_)
      · skip
        refine lv_iconst (v := nI 0) hx hb d_M_output_28 (by decide) ?_
        refine lv_istore_n (lv' := [(3, .int (nI 0)), (0, .ref M), (1, .int v), (2, .int kk)]) hx hb d_M_output_29 rfl hl (by decide) rfl (fun ls hl => ?_)
        refine lv_aload_n hx hb d_M_output_30 rfl (lv_at hl 1 rfl) ?_
        refine lv_iload_n hx hb d_M_output_31 rfl (lv_at hl 0 rfl) ?_
        refine lv_if_eq (tgt := 39) hx hb d_M_output_32 (by decide) (fun b18 => ?_) (fun b18 => ?_)
        · skip
          replace b18 := (nI_eq (a := 0) (b := 0) (by omega) (by omega)).mp b18
          refine lv_iconst (v := nI 1) hx hb d_M_output_39 (by decide) ?_
          refine pf_put (v := .int (nI 1)) (ty := .int) (fs' := [.int (nI 1), .ref (g.lk M 1), .int (nI mn), .ref (g.lk M 3), .ref (g.lk M 4), .int (nI mdr), .ref (g.lk M 6), .ref (g.lk M 7), .ref (g.lk M 8), .int (nI msz), .int (nI mix), .int (nI mdp), .ref (g.lk M 12), .int (nI mwt), .ref (g.lk M 14), .ref (g.lk M 15), .int (nI mop), .ref (g.lk M 17), .ref (g.lk M 18), .ref (g.lk M 19), .ref (g.lk M 20), .ref (g.lk M 21), .ref (g.lk M 22), .ref (g.lk M 23), .ref (g.lk M 24), .ref (g.lk M 25), .ref (g.lk M 26), .ref (g.lk M 27), .ref (g.lk M 28), .ref (g.lk M 29), .ref (g.lk M 30), .ref (g.lk M 31), .int (nI mtp), .ref (g.lk M 33), .ref (g.lk M 34), .ref (g.lk M 35), .int (nI mwa), .int (nI mgi), .int (nI mpc), .int (nI mst), .int (nI mtr), .int (nI msp), .int mma, .int mlg, .int mdu]) (C := "BigRunnerModel") (T := FT10) (N := 45) hx hb (hw10 hB _) (fun _ h9 => h9) TY10 ok10 nm10 hown hK hP hD hS (lo_in hL t_M (by decide)) eM rfl 0 (by decide) (wd_947 hB _) rfl (by decide +kernel) rfl rfl (Nat.le_of_ble_eq_true rfl) rfl d_M_output_40 (fun f19 H locs e20 k21 hP hD hS => ?_)
          have hu := hu.st k21 t_M (by decide)
          have hk22 : ∀ b, b ≠ M → f19 b = f b := k21
          refine lv_iload_n hx hb d_M_output_43 rfl (lv_at hl 0 rfl) ?_
          refine lv_if_eq (tgt := 68) hx hb d_M_output_44 (by decide) (fun b23 => ?_) (fun b23 => ?_)
          · skip
            replace b23 := (nI_eq (a := 0) (b := 0) (by omega) (by omega)).mp b23
            refine lv_iconst (v := nI 0) hx hb d_M_output_68 (by decide) ?_
            have hI24 := iv_1 hI hL t_M (by decide) hk22 (oc_11.mk t_M (⟨((nI 1)), mn, mdr, msz, mix, mdp, mwt, mop, mtp, mwa, mgi, mpc, mst, mtr, msp, mma, mlg, mdu, e20, (by omega), (by omega), (by omega), (by omega), (by omega), (by omega), (by omega), (by omega), (by omega), (by omega), (by omega), (by omega), (by omega), (by omega), hmb14⟩))
            exact pe_iret hx hb hr hlocks hK hP hD hS d_M_output_69 ⟨⟨(nI 1), e20⟩, hI24, hu⟩
          · skip
            replace b23 := mt (nI_eq (a := 0) (b := 0) (by omega) (by omega)).mpr b23
            exfalso; omega
        · skip
          replace b18 := mt (nI_eq (a := 0) (b := 0) (by omega) (by omega)).mpr b18
          exfalso; omega
      · skip
        obtain ⟨vk25, hvk25, rfl⟩ := ix_on (n := 12) (by decide) b1 (Int32.not_le.mp b17)
        refine lv_iload_n hx hb d_M_output_18 rfl (lv_at hl 2 rfl) ?_
        refine lv_bipush (v := (-2)) hx hb d_M_output_19 (by decide) ?_
        refine lv_icmp_lt (tgt := 28) hx hb d_M_output_21 (by decide) (fun b26 => ?_) (fun b26 => ?_)
        · skip
          refine lv_iconst (v := nI 0) hx hb d_M_output_28 (by decide) ?_
          refine lv_istore_n (lv' := [(3, .int (nI 0)), (0, .ref M), (1, .int (nI vk25)), (2, .int kk)]) hx hb d_M_output_29 rfl hl (by decide) rfl (fun ls hl => ?_)
          refine lv_aload_n hx hb d_M_output_30 rfl (lv_at hl 1 rfl) ?_
          refine lv_iload_n hx hb d_M_output_31 rfl (lv_at hl 0 rfl) ?_
          refine lv_if_eq (tgt := 39) hx hb d_M_output_32 (by decide) (fun b27 => ?_) (fun b27 => ?_)
          · skip
            replace b27 := (nI_eq (a := 0) (b := 0) (by omega) (by omega)).mp b27
            refine lv_iconst (v := nI 1) hx hb d_M_output_39 (by decide) ?_
            refine pf_put (v := .int (nI 1)) (ty := .int) (fs' := [.int (nI 1), .ref (g.lk M 1), .int (nI mn), .ref (g.lk M 3), .ref (g.lk M 4), .int (nI mdr), .ref (g.lk M 6), .ref (g.lk M 7), .ref (g.lk M 8), .int (nI msz), .int (nI mix), .int (nI mdp), .ref (g.lk M 12), .int (nI mwt), .ref (g.lk M 14), .ref (g.lk M 15), .int (nI mop), .ref (g.lk M 17), .ref (g.lk M 18), .ref (g.lk M 19), .ref (g.lk M 20), .ref (g.lk M 21), .ref (g.lk M 22), .ref (g.lk M 23), .ref (g.lk M 24), .ref (g.lk M 25), .ref (g.lk M 26), .ref (g.lk M 27), .ref (g.lk M 28), .ref (g.lk M 29), .ref (g.lk M 30), .ref (g.lk M 31), .int (nI mtp), .ref (g.lk M 33), .ref (g.lk M 34), .ref (g.lk M 35), .int (nI mwa), .int (nI mgi), .int (nI mpc), .int (nI mst), .int (nI mtr), .int (nI msp), .int mma, .int mlg, .int mdu]) (C := "BigRunnerModel") (T := FT10) (N := 45) hx hb (hw10 hB _) (fun _ h9 => h9) TY10 ok10 nm10 hown hK hP hD hS (lo_in hL t_M (by decide)) eM rfl 0 (by decide) (wd_947 hB _) rfl (by decide +kernel) rfl rfl (Nat.le_of_ble_eq_true rfl) rfl d_M_output_40 (fun f28 H locs e29 k30 hP hD hS => ?_)
            have hu := hu.st k30 t_M (by decide)
            have hk31 : ∀ b, b ≠ M → f28 b = f b := k30
            refine lv_iload_n hx hb d_M_output_43 rfl (lv_at hl 0 rfl) ?_
            refine lv_if_eq (tgt := 68) hx hb d_M_output_44 (by decide) (fun b32 => ?_) (fun b32 => ?_)
            · skip
              replace b32 := (nI_eq (a := 0) (b := 0) (by omega) (by omega)).mp b32
              refine lv_iconst (v := nI 0) hx hb d_M_output_68 (by decide) ?_
              have hI33 := iv_1 hI hL t_M (by decide) hk31 (oc_11.mk t_M (⟨((nI 1)), mn, mdr, msz, mix, mdp, mwt, mop, mtp, mwa, mgi, mpc, mst, mtr, msp, mma, mlg, mdu, e29, (by omega), (by omega), (by omega), (by omega), (by omega), (by omega), (by omega), (by omega), (by omega), (by omega), (by omega), (by omega), (by omega), (by omega), hmb14⟩))
              exact pe_iret hx hb hr hlocks hK hP hD hS d_M_output_69 ⟨⟨(nI 1), e29⟩, hI33, hu⟩
            · skip
              replace b32 := mt (nI_eq (a := 0) (b := 0) (by omega) (by omega)).mpr b32
              exfalso; omega
          · skip
            replace b27 := mt (nI_eq (a := 0) (b := 0) (by omega) (by omega)).mpr b27
            exfalso; omega
        · skip
          refine lv_iconst (v := nI 1) hx hb d_M_output_24 (by decide) ?_
          refine lv_goto (tgt := 29) hx hb d_M_output_25 (by decide) ?_
          refine lv_istore_n (lv' := [(3, .int (nI 1)), (0, .ref M), (1, .int (nI vk25)), (2, .int kk)]) hx hb d_M_output_29 rfl hl (by decide) rfl (fun ls hl => ?_)
          refine lv_aload_n hx hb d_M_output_30 rfl (lv_at hl 1 rfl) ?_
          refine lv_iload_n hx hb d_M_output_31 rfl (lv_at hl 0 rfl) ?_
          refine lv_if_eq (tgt := 39) hx hb d_M_output_32 (by decide) (fun b34 => ?_) (fun b34 => ?_)
          · skip
            replace b34 := (nI_eq (a := 1) (b := 0) (by omega) (by omega)).mp b34
            exfalso; omega
          · skip
            replace b34 := mt (nI_eq (a := 1) (b := 0) (by omega) (by omega)).mpr b34
            refine lv_iconst (v := nI 0) hx hb d_M_output_35 (by decide) ?_
            refine lv_goto (tgt := 40) hx hb d_M_output_36 (by decide) ?_
            refine pf_put (v := .int (nI 0)) (ty := .int) (fs' := [.int (nI 0), .ref (g.lk M 1), .int (nI mn), .ref (g.lk M 3), .ref (g.lk M 4), .int (nI mdr), .ref (g.lk M 6), .ref (g.lk M 7), .ref (g.lk M 8), .int (nI msz), .int (nI mix), .int (nI mdp), .ref (g.lk M 12), .int (nI mwt), .ref (g.lk M 14), .ref (g.lk M 15), .int (nI mop), .ref (g.lk M 17), .ref (g.lk M 18), .ref (g.lk M 19), .ref (g.lk M 20), .ref (g.lk M 21), .ref (g.lk M 22), .ref (g.lk M 23), .ref (g.lk M 24), .ref (g.lk M 25), .ref (g.lk M 26), .ref (g.lk M 27), .ref (g.lk M 28), .ref (g.lk M 29), .ref (g.lk M 30), .ref (g.lk M 31), .int (nI mtp), .ref (g.lk M 33), .ref (g.lk M 34), .ref (g.lk M 35), .int (nI mwa), .int (nI mgi), .int (nI mpc), .int (nI mst), .int (nI mtr), .int (nI msp), .int mma, .int mlg, .int mdu]) (C := "BigRunnerModel") (T := FT10) (N := 45) hx hb (hw10 hB _) (fun _ h9 => h9) TY10 ok10 nm10 hown hK hP hD hS (lo_in hL t_M (by decide)) eM rfl 0 (by decide) (wd_947 hB _) rfl (by decide +kernel) rfl rfl (Nat.le_of_ble_eq_true rfl) rfl d_M_output_40 (fun f35 H locs e36 k37 hP hD hS => ?_)
            have hu := hu.st k37 t_M (by decide)
            have hk38 : ∀ b, b ≠ M → f35 b = f b := k37
            refine lv_iload_n hx hb d_M_output_43 rfl (lv_at hl 0 rfl) ?_
            refine lv_if_eq (tgt := 68) hx hb d_M_output_44 (by decide) (fun b39 => ?_) (fun b39 => ?_)
            · skip
              replace b39 := (nI_eq (a := 1) (b := 0) (by omega) (by omega)).mp b39
              exfalso; omega
            · skip
              replace b39 := mt (nI_eq (a := 1) (b := 0) (by omega) (by omega)).mpr b39
              refine lv_aload_n hx hb d_M_output_47 rfl (lv_at hl 1 rfl) ?_
              refine pf_get (v := .ref (g.lk M 28)) (C := "BigRunnerModel") (T := FT10) (N := 45) hx hb (hw10 hB _) (fun _ h9 => h9) hown hK hP (lo_in hL t_M (by decide)) e36 rfl 28 (by decide) (wd_975 hB _) rfl d_M_output_48 ?_
              refine lv_bipush (v := nI 20) hx hb d_M_output_51 (by decide) ?_
              refine lv_iload_n hx hb d_M_output_53 rfl (lv_at hl 2 rfl) ?_
              refine pf_imulN (x := 20) (y := vk25) hx hb d_M_output_54 ?_
              refine lv_aload_n hx hb d_M_output_55 rfl (lv_at hl 1 rfl) ?_
              refine pf_get (v := .ref (g.lk M 29)) (C := "BigRunnerModel") (T := FT10) (N := 45) hx hb (hw10 hB _) (fun _ h9 => h9) hown hK hP (lo_in hL t_M (by decide)) e36 rfl 29 (by decide) (wd_976 hB _) rfl d_M_output_56 ?_
              refine lv_iload_n hx hb d_M_output_59 rfl (lv_at hl 2 rfl) ?_
              obtain ⟨h_41, e40⟩ := oc_61.of (lo_k11_29 hL _ t_M) (hI.1 (g.lk M 29))
              replace e40 := (hk38 (g.lk M 29) (tg_ne (lo_k11_29 hL _ t_M) t_M (by decide))).trans e40
              refine pf_iald (i := vk25) hx hb hK hP (lo_in hL (lo_k11_29 hL _ t_M) (by decide)) e40 (lo_t61 hL _ (lo_k11_29 hL _ t_M)) (by omega) (by decide) d_M_output_60 ?_
              refine lv_topi (fun iv43 _ => ?_)
              refine lv_iload_n hx hb d_M_output_61 rfl (lv_at hl 3 rfl) ?_
              have hI44 := iv_1 hI hL t_M (by decide) hk38 (oc_11.mk t_M (⟨((nI 0)), mn, mdr, msz, mix, mdp, mwt, mop, mtp, mwa, mgi, mpc, mst, mtr, msp, mma, mlg, mdu, e36, (by omega), (by omega), (by omega), (by omega), (by omega), (by omega), (by omega), (by omega), (by omega), (by omega), (by omega), (by omega), (by omega), (by omega), hmb14⟩))
              refine pcc_i (va_runS (As := [.ref (g.lk M 28), .int (nI (20 * vk25)), .int iv43, .int kk]) (rest := []) ⟨hx, hb, hml, hown, tb_nil⟩ (m_told60 l g H.size f35 ((g.lk M 28)) ((20 * vk25)) iv43 kk hL (lo_k11_28 hL _ t_M) hI44.1 (by omega)) ⟨(callB_of 4 (tb_one (wd_1280 hB _)) tb_good1 rfl rfl rfl (wd_82 hB _) (wd_1278 hB _) (by decide +kernel) ⟨Nat.le_of_ble_eq_true rfl, Nat.le_of_ble_eq_true rfl⟩), (wd_1279 hB _)⟩ ⟨pe_bl, pe_pre hB hK hP hD⟩ rfl rfl hl.1 rfl (lv_room (Nat.le_of_ble_eq_true rfl)) d_M_output_62 ⟨Nat.le_of_ble_eq_true rfl, Nat.le_of_ble_eq_true rfl⟩) hS (fun r45 f46 H locs hq47 hP hD hS => ?_)
              subst hq47
              refine lv_goto (tgt := 69) hx hb d_M_output_65 (by decide) ?_
              exact pe_iret hx hb hr hlocks hK hP hD hS d_M_output_69 ⟨⟨(nI 0), e36⟩, hI44, hu⟩

