set_option maxHeartbeats 4000000 in
set_option maxRecDepth 100000 in
theorem m_here (l : Launch) (g : Lay) (sz : Nat) (f : Nat → va_E) (M : Nat) (mth : Int32) (mn : Nat) (mdr : Nat) (msz : Nat) (mix : Nat) (mdp : Nat) (mwt : Nat) (mop : Nat) (mtp : Nat) (mwa : Nat) (mgi : Nat) (mpc : Nat) (mst : Nat) (mtr : Nat) (msp : Nat) (mma : Int32) (mlg : Int32) (mdu : Int32) (hT : Nat → Int32) (hL : LO g) (t_M : g.tg M = 11) (hI : OC g f) (eM : f M = .inr (10, [.int mth, .ref (g.lk M 1), .int (nI mn), .ref (g.lk M 3), .ref (g.lk M 4), .int (nI mdr), .ref (g.lk M 6), .ref (g.lk M 7), .ref (g.lk M 8), .int (nI msz), .int (nI mix), .int (nI mdp), .ref (g.lk M 12), .int (nI mwt), .ref (g.lk M 14), .ref (g.lk M 15), .int (nI mop), .ref (g.lk M 17), .ref (g.lk M 18), .ref (g.lk M 19), .ref (g.lk M 20), .ref (g.lk M 21), .ref (g.lk M 22), .ref (g.lk M 23), .ref (g.lk M 24), .ref (g.lk M 25), .ref (g.lk M 26), .ref (g.lk M 27), .ref (g.lk M 28), .ref (g.lk M 29), .ref (g.lk M 30), .ref (g.lk M 31), .int (nI mtp), .ref (g.lk M 33), .ref (g.lk M 34), .ref (g.lk M 35), .int (nI mwa), .int (nI mgi), .int (nI mpc), .int (nI mst), .int (nI mtr), .int (nI msp), .int mma, .int mlg, .int mdu])) (hMB : mn ≤ 72 ∧ mdr ≤ 100 ∧ msz ≤ 100 ∧ mix ≤ 100 ∧ mdp ≤ 20 ∧ mwt ≤ 72 ∧ mop ≤ 40 ∧ mtp ≤ 80 ∧ mwa ≤ 20 ∧ mgi ≤ msp ∧ mpc ≤ 100 ∧ mst ≤ 4 ∧ mtr ≤ 3 ∧ msp ≤ 3000 ∧ (mdu = 0 ∨ mdu = 1)) (eT : f (g.lk M 1) = .inl (g.ac (g.lk M 1), 72, .inl hT)) (cT : ∀ i, i < 72 → vp_nar .char (hT i) = hT i) : Met l ⟨"BigRunnerModel", "here", "()C"⟩ [Cond.code ⟨"BigRunnerModel", "here", "()C"⟩ prog_12_method_3_code 1 (some .char)] ({ frames := 0, cells := 0, slots := 0, locals := 0 }) (va_Pc [.ref M] (pc_in g sz f)) (va_Qi (fun r f1 => (r = nxm hT mn mix) ∧ (f = f1)) (pc_out g sz) (pc_A g sz)) 0 0 (pc_A g sz) := by
  refine pe_ofW (cc := prog_12_method_3_code) (maxL := 1) (ret := (some .char)) (lv := [(0, .ref M)]) (by decide) (Nat.le_of_ble_eq_true rfl) rfl ?_
  intro p e s m args below meth c ls hx hb hr hml hlocks hown hB hP hK hD hsz hS hl
  subst hsz
  obtain ⟨hmb0, hmb1, hmb2, hmb3, hmb4, hmb5, hmb6, hmb7, hmb8, hmb9, hmb10, hmb11, hmb12, hmb13, hmb14⟩ := hMB
  refine lv_aload_n hx hb d_M_here_0 rfl (lv_at hl 0 rfl) ?_
  refine pf_get (v := .int (nI mix)) (C := "BigRunnerModel") (T := FT10) (N := 45) hx hb (hw10 hB _) (fun _ h9 => h9) hown hK hP (lo_in hL t_M (by decide)) eM rfl 10 (by decide) (wd_957 hB _) rfl d_M_here_1 ?_
  refine lv_aload_n hx hb d_M_here_4 rfl (lv_at hl 0 rfl) ?_
  refine pf_get (v := .int (nI mn)) (C := "BigRunnerModel") (T := FT10) (N := 45) hx hb (hw10 hB _) (fun _ h9 => h9) hown hK hP (lo_in hL t_M (by decide)) eM rfl 2 (by decide) (wd_949 hB _) rfl d_M_here_5 ?_
  refine lv_icmp_ge (tgt := 23) hx hb d_M_here_8 (by decide) (fun b1 => ?_) (fun b1 => ?_)
  · skip
    replace b1 := (nI_leI (a := mn) (b := mix) (by omega) (by omega)).mp b1
    refine lv_bipush (v := nI 10) hx hb d_M_here_23 (by decide) ?_
    exact pe_zret hx hb hr hlocks hK hP hD hS d_M_here_25 rfl ⟨(if_neg (by omega)).symm, rfl⟩
  · skip
    replace b1 := mt (nI_leI (a := mn) (b := mix) (by omega) (by omega)).mpr b1
    refine lv_aload_n hx hb d_M_here_11 rfl (lv_at hl 0 rfl) ?_
    refine pf_get (v := .ref (g.lk M 1)) (C := "BigRunnerModel") (T := FT10) (N := 45) hx hb (hw10 hB _) (fun _ h9 => h9) hown hK hP (lo_in hL t_M (by decide)) eM rfl 1 (by decide) (wd_948 hB _) rfl d_M_here_12 ?_
    refine lv_aload_n hx hb d_M_here_15 rfl (lv_at hl 0 rfl) ?_
    refine pf_get (v := .int (nI mix)) (C := "BigRunnerModel") (T := FT10) (N := 45) hx hb (hw10 hB _) (fun _ h9 => h9) hown hK hP (lo_in hL t_M (by decide)) eM rfl 10 (by decide) (wd_957 hB _) rfl d_M_here_16 ?_
    refine pf_cald (i := mix) hx hb hK hP (lo_in hL (lo_k11_1 hL _ t_M) (by decide)) eT (lo_t40 hL _ (lo_k11_1 hL _ t_M)) (by omega) (by decide) d_M_here_19 ?_
    refine lv_goto (tgt := 25) hx hb d_M_here_20 (by decide) ?_
    exact pe_zret hx hb hr hlocks hK hP hD hS d_M_here_25 (nc_nar (cT mix (by omega))) ⟨(if_pos (by omega)).symm, rfl⟩
set_option maxHeartbeats 4000000 in
set_option maxRecDepth 100000 in
theorem m_put (l : Launch) (g : Lay) (sz : Nat) (f : Nat → va_E) (M : Nat) (mth : Int32) (mn : Nat) (mdr : Nat) (msz : Nat) (mix : Nat) (mdp : Nat) (mwt : Nat) (mop : Nat) (mtp : Nat) (mwa : Nat) (mgi : Nat) (mpc : Nat) (mst : Nat) (mtr : Nat) (msp : Nat) (mma : Int32) (mlg : Int32) (mdu : Int32) (hQ : Nat → Int32) (hG : Nat → Int32) (w9 : Nat) (x9 : Int32) (hL : LO g) (t_M : g.tg M = 11) (hI : IV g f) (eM : f M = .inr (10, [.int mth, .ref (g.lk M 1), .int (nI mn), .ref (g.lk M 3), .ref (g.lk M 4), .int (nI mdr), .ref (g.lk M 6), .ref (g.lk M 7), .ref (g.lk M 8), .int (nI msz), .int (nI mix), .int (nI mdp), .ref (g.lk M 12), .int (nI mwt), .ref (g.lk M 14), .ref (g.lk M 15), .int (nI mop), .ref (g.lk M 17), .ref (g.lk M 18), .ref (g.lk M 19), .ref (g.lk M 20), .ref (g.lk M 21), .ref (g.lk M 22), .ref (g.lk M 23), .ref (g.lk M 24), .ref (g.lk M 25), .ref (g.lk M 26), .ref (g.lk M 27), .ref (g.lk M 28), .ref (g.lk M 29), .ref (g.lk M 30), .ref (g.lk M 31), .int (nI mtp), .ref (g.lk M 33), .ref (g.lk M 34), .ref (g.lk M 35), .int (nI mwa), .int (nI mgi), .int (nI mpc), .int (nI mst), .int (nI mtr), .int (nI msp), .int mma, .int mlg, .int mdu])) (hMB : mn ≤ 72 ∧ mdr ≤ 100 ∧ msz ≤ 100 ∧ mix ≤ 100 ∧ mdp ≤ 20 ∧ mwt ≤ 72 ∧ mop ≤ 40 ∧ mtp ≤ 80 ∧ mwa ≤ 20 ∧ mgi ≤ msp ∧ mpc ≤ 100 ∧ mst ≤ 4 ∧ mtr ≤ 3 ∧ msp ≤ 3000 ∧ (mdu = 0 ∨ mdu = 1)) (eD : f (g.lk M 3) = .inl (g.ac (g.lk M 3), 100, .inl hQ)) (eG : f (g.lk M 4) = .inl (g.ac (g.lk M 4), 100, .inl hG)) (hdr : mdr < 100) : Met l ⟨"BigRunnerModel", "put", "(II)V"⟩ [Cond.code ⟨"BigRunnerModel", "put", "(II)V"⟩ prog_12_method_4_code 3 none] ({ frames := 0, cells := 0, slots := 0, locals := 0 }) (va_Pc [.ref M, .int (nI w9), .int x9] (pc_in g sz f)) (va_Qv (fun f1 => (f1 M = .inr (10, [.int mth, .ref (g.lk M 1), .int (nI mn), .ref (g.lk M 3), .ref (g.lk M 4), .int (nI (mdr + 1)), .ref (g.lk M 6), .ref (g.lk M 7), .ref (g.lk M 8), .int (nI msz), .int (nI mix), .int (nI mdp), .ref (g.lk M 12), .int (nI mwt), .ref (g.lk M 14), .ref (g.lk M 15), .int (nI mop), .ref (g.lk M 17), .ref (g.lk M 18), .ref (g.lk M 19), .ref (g.lk M 20), .ref (g.lk M 21), .ref (g.lk M 22), .ref (g.lk M 23), .ref (g.lk M 24), .ref (g.lk M 25), .ref (g.lk M 26), .ref (g.lk M 27), .ref (g.lk M 28), .ref (g.lk M 29), .ref (g.lk M 30), .ref (g.lk M 31), .int (nI mtp), .ref (g.lk M 33), .ref (g.lk M 34), .ref (g.lk M 35), .int (nI mwa), .int (nI mgi), .int (nI mpc), .int (nI mst), .int (nI mtr), .int (nI msp), .int mma, .int mlg, .int mdu])) ∧ (f1 (g.lk M 3) = .inl (g.ac (g.lk M 3), 100, .inl (upd hQ mdr (nI w9)))) ∧ (f1 (g.lk M 4) = .inl (g.ac (g.lk M 4), 100, .inl (upd hG mdr x9))) ∧ (IV g f1) ∧ (un [11, 41, 42] g f f1)) (pc_out g sz) (pc_A g sz)) 0 0 (pc_A g sz) := by
  refine pe_ofW (cc := prog_12_method_4_code) (maxL := 3) (ret := none) (lv := [(0, .ref M), (1, .int (nI w9)), (2, .int x9)]) (by decide) (Nat.le_of_ble_eq_true rfl) rfl ?_
  intro p e s m args below meth c ls hx hb hr hml hlocks hown hB hP hK hD hsz hS hl
  subst hsz
  have hu : un [11, 41, 42] g f f := un.rf
  obtain ⟨hmb0, hmb1, hmb2, hmb3, hmb4, hmb5, hmb6, hmb7, hmb8, hmb9, hmb10, hmb11, hmb12, hmb13, hmb14⟩ := hMB
  refine lv_aload_n hx hb d_M_put_0 rfl (lv_at hl 0 rfl) ?_
  refine pf_get (v := .ref (g.lk M 3)) (C := "BigRunnerModel") (T := FT10) (N := 45) hx hb (hw10 hB _) (fun _ h9 => h9) hown hK hP (lo_in hL t_M (by decide)) eM rfl 3 (by decide) (wd_950 hB _) rfl d_M_put_1 ?_
  refine lv_aload_n hx hb d_M_put_4 rfl (lv_at hl 0 rfl) ?_
  refine pf_get (v := .int (nI mdr)) (C := "BigRunnerModel") (T := FT10) (N := 45) hx hb (hw10 hB _) (fun _ h9 => h9) hown hK hP (lo_in hL t_M (by decide)) eM rfl 5 (by decide) (wd_952 hB _) rfl d_M_put_5 ?_
  refine lv_iload_n hx hb d_M_put_8 rfl (lv_at hl 1 rfl) ?_
  refine pf_iast (i := mdr) hx hb hK hP hD hS (lo_in hL (lo_k11_3 hL _ t_M) (by decide)) eD (lo_t41 hL _ (lo_k11_3 hL _ t_M)) (by omega) (by decide) d_M_put_9 (fun f1 H locs e2 k3 hP hD hS => ?_)
  have eM := (k3 M (tg_ne t_M (lo_k11_3 hL _ t_M) (by decide))).trans eM
  have eG := (k3 (g.lk M 4) (tg_ne (lo_k11_4 hL _ t_M) (lo_k11_3 hL _ t_M) (by decide))).trans eG
  have hu := hu.st k3 (lo_k11_3 hL _ t_M) (by decide)
  have hk4 : ∀ b, b ≠ (g.lk M 3) → f1 b = f b := k3
  refine lv_aload_n hx hb d_M_put_10 rfl (lv_at hl 0 rfl) ?_
  refine pf_get (v := .ref (g.lk M 4)) (C := "BigRunnerModel") (T := FT10) (N := 45) hx hb (hw10 hB _) (fun _ h9 => h9) hown hK hP (lo_in hL t_M (by decide)) eM rfl 4 (by decide) (wd_951 hB _) rfl d_M_put_11 ?_
  refine lv_aload_n hx hb d_M_put_14 rfl (lv_at hl 0 rfl) ?_
  refine pf_get (v := .int (nI mdr)) (C := "BigRunnerModel") (T := FT10) (N := 45) hx hb (hw10 hB _) (fun _ h9 => h9) hown hK hP (lo_in hL t_M (by decide)) eM rfl 5 (by decide) (wd_952 hB _) rfl d_M_put_15 ?_
  refine lv_iload_n hx hb d_M_put_18 rfl (lv_at hl 2 rfl) ?_
  have hI5 := iv_1 hI hL (lo_k11_3 hL _ t_M) (by decide) hk4 (oc_41.mk (lo_k11_3 hL _ t_M) (⟨_, e2⟩))
  refine pf_iast (i := mdr) hx hb hK hP hD hS (lo_in hL (lo_k11_4 hL _ t_M) (by decide)) eG (lo_t42 hL _ (lo_k11_4 hL _ t_M)) (by omega) (by decide) d_M_put_19 (fun f6 H locs e7 k8 hP hD hS => ?_)
  have eM := (k8 M (tg_ne t_M (lo_k11_4 hL _ t_M) (by decide))).trans eM
  have e2 := (k8 (g.lk M 3) (tg_ne (lo_k11_3 hL _ t_M) (lo_k11_4 hL _ t_M) (by decide))).trans e2
  have hu := hu.st k8 (lo_k11_4 hL _ t_M) (by decide)
  have hk9 : ∀ b, b ≠ (g.lk M 4) → f6 b = f1 b := k8
  refine lv_aload_n hx hb d_M_put_20 rfl (lv_at hl 0 rfl) ?_
  refine lv_dup hx hb d_M_put_21 rfl ?_
  refine pf_get (v := .int (nI mdr)) (C := "BigRunnerModel") (T := FT10) (N := 45) hx hb (hw10 hB _) (fun _ h9 => h9) hown hK hP (lo_in hL t_M (by decide)) eM rfl 5 (by decide) (wd_952 hB _) rfl d_M_put_22 ?_
  refine lv_iconst (v := nI 1) hx hb d_M_put_25 (by decide) ?_
  refine pf_iaddN (x := mdr) (y := 1) hx hb d_M_put_26 ?_
  have hI10 := iv_1 hI5 hL (lo_k11_4 hL _ t_M) (by decide) hk9 (oc_42.mk (lo_k11_4 hL _ t_M) (⟨_, e7⟩))
  refine pf_put (v := .int (nI (mdr + 1))) (ty := .int) (fs' := [.int mth, .ref (g.lk M 1), .int (nI mn), .ref (g.lk M 3), .ref (g.lk M 4), .int (nI (mdr + 1)), .ref (g.lk M 6), .ref (g.lk M 7), .ref (g.lk M 8), .int (nI msz), .int (nI mix), .int (nI mdp), .ref (g.lk M 12), .int (nI mwt), .ref (g.lk M 14), .ref (g.lk M 15), .int (nI mop), .ref (g.lk M 17), .ref (g.lk M 18), .ref (g.lk M 19), .ref (g.lk M 20), .ref (g.lk M 21), .ref (g.lk M 22), .ref (g.lk M 23), .ref (g.lk M 24), .ref (g.lk M 25), .ref (g.lk M 26), .ref (g.lk M 27), .ref (g.lk M 28), .ref (g.lk M 29), .ref (g.lk M 30), .ref (g.lk M 31), .int (nI mtp), .ref (g.lk M 33), .ref (g.lk M 34), .ref (g.lk M 35), .int (nI mwa), .int (nI mgi), .int (nI mpc), .int (nI mst), .int (nI mtr), .int (nI msp), .int mma, .int mlg, .int mdu]) (C := "BigRunnerModel") (T := FT10) (N := 45) hx hb (hw10 hB _) (fun _ h9 => h9) TY10 ok10 nm10 hown hK hP hD hS (lo_in hL t_M (by decide)) eM rfl 5 (by decide) (wd_952 hB _) rfl (by decide +kernel) rfl rfl (Nat.le_of_ble_eq_true rfl) rfl d_M_put_27 (fun f11 H locs e12 k13 hP hD hS => ?_)
  have e2 := (k13 (g.lk M 3) (tg_ne (lo_k11_3 hL _ t_M) t_M (by decide))).trans e2
  have e7 := (k13 (g.lk M 4) (tg_ne (lo_k11_4 hL _ t_M) t_M (by decide))).trans e7
  have hu := hu.st k13 t_M (by decide)
  have hk14 : ∀ b, b ≠ M → f11 b = f6 b := k13
  have hI15 := iv_1 hI10 hL t_M (by decide) hk14 (oc_11.mk t_M (⟨mth, mn, (mdr + 1), msz, mix, mdp, mwt, mop, mtp, mwa, mgi, mpc, mst, mtr, msp, mma, mlg, mdu, e12, (by omega), (by omega), (by omega), (by omega), (by omega), (by omega), (by omega), (by omega), (by omega), (by omega), (by omega), (by omega), (by omega), (by omega), hmb14⟩))
  exact pe_vret hx hb hr hlocks hK hP hD hS d_M_put_30 ⟨e12, e2, e7, hI15, hu⟩
set_option maxHeartbeats 4000000 in
set_option maxRecDepth 100000 in
theorem m_digit (l : Launch) (g : Lay) (sz : Nat) (f : Nat → va_E) (ch : Int32) (hL : LO g) (hI : OC g f) : Met l ⟨"BigRunnerModel", "digit", "(C)Z"⟩ [Cond.code ⟨"BigRunnerModel", "digit", "(C)Z"⟩ prog_12_method_5_code 1 (some .boolean)] ({ frames := 0, cells := 0, slots := 0, locals := 0 }) (va_Pc [.int ch] (pc_in g sz f)) (va_Qi (fun r f1 => (r = nI 0 ∨ r = nI 1) ∧ (r = nI 0 → kc ch ≠ 7) ∧ (r = nI 1 → kc ch = 7) ∧ (f = f1)) (pc_out g sz) (pc_A g sz)) 0 0 (pc_A g sz) := by
  refine pe_ofW (cc := prog_12_method_5_code) (maxL := 1) (ret := (some .boolean)) (lv := [(0, .int ch)]) (by decide) (Nat.le_of_ble_eq_true rfl) rfl ?_
  intro p e s m args below meth c ls hx hb hr hml hlocks hown hB hP hK hD hsz hS hl
  subst hsz
  refine lv_iload_n hx hb d_M_digit_0 rfl (lv_at hl 0 rfl) ?_
  refine lv_bipush (v := nI 48) hx hb d_M_digit_1 (by decide) ?_
  refine lv_icmp_lt (tgt := 16) hx hb d_M_digit_3 (by decide) (fun b1 => ?_) (fun b1 => ?_)
  · skip
    refine lv_iconst (v := nI 0) hx hb d_M_digit_16 (by decide) ?_
    exact pe_zret hx hb hr hlocks hK hP hD hS d_M_digit_17 rfl ⟨(Or.inl rfl), (fun _ z => by first | exact absurd (kc_7.mp z).1 (Int32.not_le.mpr (by assumption)) | exact absurd (kc_7.mp z).2 (Int32.not_le.mpr (by assumption))), (fun z9 => absurd z9 (by decide)), rfl⟩
  · skip
    refine lv_iload_n hx hb d_M_digit_6 rfl (lv_at hl 0 rfl) ?_
    refine lv_bipush (v := nI 57) hx hb d_M_digit_7 (by decide) ?_
    refine lv_icmp_gt (tgt := 16) hx hb d_M_digit_9 (by decide) (fun b2 => ?_) (fun b2 => ?_)
    · skip
      refine lv_iconst (v := nI 0) hx hb d_M_digit_16 (by decide) ?_
      exact pe_zret hx hb hr hlocks hK hP hD hS d_M_digit_17 rfl ⟨(Or.inl rfl), (fun _ z => by first | exact absurd (kc_7.mp z).1 (Int32.not_le.mpr (by assumption)) | exact absurd (kc_7.mp z).2 (Int32.not_le.mpr (by assumption))), (fun z9 => absurd z9 (by decide)), rfl⟩
    · skip
      refine lv_iconst (v := nI 1) hx hb d_M_digit_12 (by decide) ?_
      refine lv_goto (tgt := 17) hx hb d_M_digit_13 (by decide) ?_
      exact pe_zret hx hb hr hlocks hK hP hD hS d_M_digit_17 rfl ⟨(Or.inr rfl), (fun z9 => absurd z9 (by decide)), (fun _ => kc_7.mpr ⟨Int32.not_lt.mp (by assumption), Int32.not_lt.mp (by assumption)⟩), rfl⟩
theorem le_107 {c : Int32} (h : ¬ nI 106 < c) : c < nI 107 := by
  have := Int32.not_lt.mp h
  exact Int32.lt_of_le_of_lt this (by decide)
theorem ge_107 {c : Int32} (h : nI 106 < c) : ¬ c < nI 107 := by
  intro q
  have e1 : (nI 106).toInt = 106 := nI_toInt (by decide)
  have e2 : (nI 107).toInt = 107 := nI_toInt (by decide)
  rw [Int32.lt_iff_toInt_lt] at h q
  omega
set_option maxHeartbeats 4000000 in
set_option maxRecDepth 100000 in
theorem m_isName (l : Launch) (g : Lay) (sz : Nat) (f : Nat → va_E) (ch : Int32) (hL : LO g) (hI : OC g f) : Met l ⟨"BigRunnerModel", "isName", "(C)Z"⟩ [Cond.code ⟨"BigRunnerModel", "isName", "(C)Z"⟩ prog_12_method_6_code 1 (some .boolean)] ({ frames := 0, cells := 0, slots := 0, locals := 0 }) (va_Pc [.int ch] (pc_in g sz f)) (va_Qi (fun r f1 => (r = nI 0 ∨ r = nI 1) ∧ (r = nI 0 → kc ch ≠ 6) ∧ (r = nI 1 → kc ch = 6) ∧ (f = f1)) (pc_out g sz) (pc_A g sz)) 0 0 (pc_A g sz) := by
  refine pe_ofW (cc := prog_12_method_6_code) (maxL := 1) (ret := (some .boolean)) (lv := [(0, .int ch)]) (by decide) (Nat.le_of_ble_eq_true rfl) rfl ?_
  intro p e s m args below meth c ls hx hb hr hml hlocks hown hB hP hK hD hsz hS hl
  subst hsz
  refine lv_iload_n hx hb d_M_isName_0 rfl (lv_at hl 0 rfl) ?_
  refine lv_bipush (v := nI 97) hx hb d_M_isName_1 (by decide) ?_
  refine lv_icmp_lt (tgt := 16) hx hb d_M_isName_3 (by decide) (fun b1 => ?_) (fun b1 => ?_)
  · skip
    refine lv_iconst (v := nI 0) hx hb d_M_isName_16 (by decide) ?_
    exact pe_zret hx hb hr hlocks hK hP hD hS d_M_isName_17 rfl ⟨(Or.inl rfl), (fun _ z => by first | exact absurd (kc_6.mp z).1 (Int32.not_le.mpr (by assumption)) | exact absurd (kc_6.mp z).2 (ge_107 (by assumption))), (fun z9 => absurd z9 (by decide)), rfl⟩
  · skip
    refine lv_iload_n hx hb d_M_isName_6 rfl (lv_at hl 0 rfl) ?_
    refine lv_bipush (v := nI 106) hx hb d_M_isName_7 (by decide) ?_
    refine lv_icmp_gt (tgt := 16) hx hb d_M_isName_9 (by decide) (fun b2 => ?_) (fun b2 => ?_)
    · skip
      refine lv_iconst (v := nI 0) hx hb d_M_isName_16 (by decide) ?_
      exact pe_zret hx hb hr hlocks hK hP hD hS d_M_isName_17 rfl ⟨(Or.inl rfl), (fun _ z => by first | exact absurd (kc_6.mp z).1 (Int32.not_le.mpr (by assumption)) | exact absurd (kc_6.mp z).2 (ge_107 (by assumption))), (fun z9 => absurd z9 (by decide)), rfl⟩
    · skip
      refine lv_iconst (v := nI 1) hx hb d_M_isName_12 (by decide) ?_
      refine lv_goto (tgt := 17) hx hb d_M_isName_13 (by decide) ?_
      exact pe_zret hx hb hr hlocks hK hP hD hS d_M_isName_17 rfl ⟨(Or.inr rfl), (fun z9 => absurd z9 (by decide)), (fun _ => kc_6.mpr ⟨Int32.not_lt.mp (by assumption), le_107 (by assumption)⟩), rfl⟩
def KO (c : Int32) (k : Nat) : Prop := (k = 0 ∧ kc c ≠ 1 ∧ kc c ≠ 2 ∧ kc c ≠ 3) ∨ (2 ≤ k ∧ k ≤ 3 ∧ (kc c = 1 ∨ kc c = 2)) ∨ (4 ≤ k ∧ k ≤ 6 ∧ kc c = 3)
