set_option maxHeartbeats 4000000 in
set_option maxRecDepth 100000 in
theorem m_here (l : Launch) (g : Lay) (sz : Nat) (f : Nat → va_E) (M : Nat) (mth : Int32) (mn : Nat) (mdr : Nat) (msz : Nat) (mix : Nat) (mdp : Nat) (mwt : Nat) (mop : Nat) (mtp : Nat) (mwa : Nat) (mgi : Nat) (mpc : Nat) (mst : Nat) (mtr : Nat) (msp : Nat) (mma : Int32) (mlg : Int32) (mdu : Int32) (hT : Nat → Int32) (hL : LO g) (t_M : g.tg M = 11) (hI : OC g f) (eM : f M = .inr (10, [.int mth, .ref (g.lk M 1), .int (nI mn), .ref (g.lk M 3), .ref (g.lk M 4), .int (nI mdr), .ref (g.lk M 6), .ref (g.lk M 7), .ref (g.lk M 8), .int (nI msz), .int (nI mix), .int (nI mdp), .ref (g.lk M 12), .int (nI mwt), .ref (g.lk M 14), .ref (g.lk M 15), .int (nI mop), .ref (g.lk M 17), .ref (g.lk M 18), .ref (g.lk M 19), .ref (g.lk M 20), .ref (g.lk M 21), .ref (g.lk M 22), .ref (g.lk M 23), .ref (g.lk M 24), .ref (g.lk M 25), .ref (g.lk M 26), .ref (g.lk M 27), .ref (g.lk M 28), .ref (g.lk M 29), .ref (g.lk M 30), .ref (g.lk M 31), .int (nI mtp), .ref (g.lk M 33), .ref (g.lk M 34), .ref (g.lk M 35), .int (nI mwa), .int (nI mgi), .int (nI mpc), .int (nI mst), .int (nI mtr), .int (nI msp), .int mma, .int mlg, .int mdu])) (hMB : mn ≤ 72 ∧ mdr ≤ 100 ∧ msz ≤ 100 ∧ mix ≤ 100 ∧ mdp ≤ 20 ∧ mwt ≤ 72 ∧ mop ≤ 40 ∧ mtp ≤ 80 ∧ mwa ≤ 20 ∧ mgi ≤ msp ∧ mpc ≤ 100 ∧ mst ≤ 4 ∧ mtr ≤ 3 ∧ msp ≤ 3000 ∧ (mdu = 0 ∨ mdu = 1)) (eT : f (g.lk M 1) = .inl (g.ac (g.lk M 1), 72, .inl hT)) (cT : ∀ i, i < 72 → vp_nar .char (hT i) = hT i) : Met l ⟨"BigRunnerModel", "here", "()C"⟩ [Cond.code ⟨"BigRunnerModel", "here", "()C"⟩ prog_12_method_3_code 1 (some .char)] ({ frames := 0, cells := 0, slots := 0, locals := 0 }) (va_Pc [.ref M] (pc_in g sz f)) (va_Qi (fun r f1 => (r = nxm hT mn mix) ∧ (f = f1)) (pc_out g sz) (pc_A g sz)) 0 0 (pc_A g sz) := by
  refine pe_ofW (cc := prog_12_method_3_code) (maxL := 1) (ret := (some .char)) (lv := [(0, .ref M)]) (by decide) (Nat.le_of_ble_eq_true rfl) rfl ?_
  intro p e s m args below meth c ls hx hb hr hml hlocks hown hB hP hK hD hsz hS hl
  subst hsz
  obtain ⟨hmb0, hmb1, hmb2, hmb3, hmb4, hmb5, hmb6, hmb7, hmb8, hmb9, hmb10, hmb11, hmb12, hmb13, hmb14⟩ := hMB
  refine lv_aload_n hx hb d_M_here_0 rfl (lv_at hl 0 rfl) ?_
  refine pf_get (v := .int (nI mix)) (C := "BigRunnerModel") (T := FT10) (N := 45) hx hb (hw10 hB _) (fun _ h9 => h9) hown hK hP (lo_in hL t_M (by decide)) eM rfl 10 (by decide) (wd_957 hB _) rfl d_M_here_1 ?_
  refine lv_aload_n hx hb d_M_here_4 rfl (lv_at hl 0 rfl) ?_
  refine pf_get (v := .int (nI mn)) (C := "BigRunnerModel") (T := FT10) (N := 45) hx hb (hw10 hB _) (fun _ h9 => h9) hown hK hP (lo_in hL t_M (by decide)) eM rfl 2 (by decide) (wd_949 hB _) rfl d_M_here_5 ?_
  refine lv_icmp_ge (tgt := 23) hx hb d_M_here_8 (by decide) (fun b1 => ?_) (fun b1 => ?_)
  · skip
    replace b1 := (nI_leI (a := mn) (b := mix) (by omega) (by omega)).mp b1
    refine lv_bipush (v := nI 10) hx hb d_M_here_23 (by decide) ?_
    exact pe_zret hx hb hr hlocks hK hP hD hS d_M_here_25 rfl ⟨(if_neg (by omega)).symm, rfl⟩
  · skip
    replace b1 := mt (nI_leI (a := mn) (b := mix) (by omega) (by omega)).mpr b1
    refine lv_aload_n hx hb d_M_here_11 rfl (lv_at hl 0 rfl) ?_
    refine pf_get (v := .ref (g.lk M 1)) (C := "BigRunnerModel") (T := FT10) (N := 45) hx hb (hw10 hB _) (fun _ h9 => h9) hown hK hP (lo_in hL t_M (by decide)) eM rfl 1 (by decide) (wd_948 hB _) rfl d_M_here_12 ?_
    refine lv_aload_n hx hb d_M_here_15 rfl (lv_at hl 0 rfl) ?_
    refine pf_get (v := .int (nI mix)) (C := "BigRunnerModel") (T := FT10) (N := 45) hx hb (hw10 hB _) (fun _ h9 => h9) hown hK hP (lo_in hL t_M (by decide)) eM rfl 10 (by decide) (wd_957 hB _) rfl d_M_here_16 ?_
    refine pf_cald (i := mix) hx hb hK hP (lo_in hL (lo_k11_1 hL _ t_M) (by decide)) eT (lo_t40 hL _ (lo_k11_1 hL _ t_M)) (by omega) (by decide) d_M_here_19 ?_
    refine lv_goto (tgt := 25) hx hb d_M_here_20 (by decide) ?_
    exact pe_zret hx hb hr hlocks hK hP hD hS d_M_here_25 (nc_nar (cT mix (by omega))) ⟨(if_pos (by omega)).symm, rfl⟩
set_option maxHeartbeats 4000000 in
set_option maxRecDepth 100000 in
theorem m_put (l : Launch) (g : Lay) (sz : Nat) (f : Nat → va_E) (M : Nat) (mth : Int32) (mn : Nat) (mdr : Nat) (msz : Nat) (mix : Nat) (mdp : Nat) (mwt : Nat) (mop : Nat) (mtp : Nat) (mwa : Nat) (mgi : Nat) (mpc : Nat) (mst : Nat) (mtr : Nat) (msp : Nat) (mma : Int32) (mlg : Int32) (mdu : Int32) (hQ : Nat → Int32) (hG : Nat → Int32) (w9 : Nat) (x9 : Int32) (hL : LO g) (t_M : g.tg M = 11) (hI : IV g f) (eM : f M = .inr (10, [.int mth, .ref (g.lk M 1), .int (nI mn), .ref (g.lk M 3), .ref (g.lk M 4), .int (nI mdr), .ref (g.lk M 6), .ref (g.lk M 7), .ref (g.lk M 8), .int (nI msz), .int (nI mix), .int (nI mdp), .ref (g.lk M 12), .int (nI mwt), .ref (g.lk M 14), .ref (g.lk M 15), .int (nI mop), .ref (g.lk M 17), .ref (g.lk M 18), .ref (g.lk M 19), .ref (g.lk M 20), .ref (g.lk M 21), .ref (g.lk M 22), .ref (g.lk M 23), .ref (g.lk M 24), .ref (g.lk M 25), .ref (g.lk M 26), .ref (g.lk M 27), .ref (g.lk M 28), .ref (g.lk M 29), .ref (g.lk M 30), .ref (g.lk M 31), .int (nI mtp), .ref (g.lk M 33), .ref (g.lk M 34), .ref (g.lk M 35), .int (nI mwa), .int (nI mgi), .int (nI mpc), .int (nI mst), .int (nI mtr), .int (nI msp), .int mma, .int mlg, .int mdu])) (hMB : mn ≤ 72 ∧ mdr ≤ 100 ∧ msz ≤ 100 ∧ mix ≤ 100 ∧ mdp ≤ 20 ∧ mwt ≤ 72 ∧ mop ≤ 40 ∧ mtp ≤ 80 ∧ mwa ≤ 20 ∧ mgi ≤ msp ∧ mpc ≤ 100 ∧ mst ≤ 4 ∧ mtr ≤ 3 ∧ msp ≤ 3000 ∧ (mdu = 0 ∨ mdu = 1)) (eD : f (g.lk M 3) = .inl (g.ac (g.lk M 3), 100, .inl hQ)) (eG : f (g.lk M 4) = .inl (g.ac (g.lk M 4), 100, .inl hG)) (hdr : mdr < 100) : Met l ⟨"BigRunnerModel", "put", "(II)V"⟩ [Cond.code ⟨"BigRunnerModel", "put", "(II)V"⟩ prog_12_method_4_code 3 none] ({ frames := 0, cells := 0, slots := 0, locals := 0 }) (va_Pc [.ref M, .int (nI w9), .int x9] (pc_in g sz f)) (va_Qv (fun f1 => (f1 M = .inr (10, [.int mth, .ref (g.lk M 1), .int (nI mn), .ref (g.lk M 3), .ref (g.lk M 4), .int (nI (mdr + 1)), .ref (g.lk M 6), .ref (g.lk M 7), .ref (g.lk M 8), .int (nI msz), .int (nI mix), .int (nI mdp), .ref (g.lk M 12), .int (nI mwt), .ref (g.lk M 14), .ref (g.lk M 15), .int (nI mop), .ref (g.lk M 17), .ref (g.lk M 18), .ref (g.lk M 19), .ref (g.lk M 20), .ref (g.lk M 21), .ref (g.lk M 22), .ref (g.lk M 23), .ref (g.lk M 24), .ref (g.lk M 25), .ref (g.lk M 26), .ref (g.lk M 27), .ref (g.lk M 28), .ref (g.lk M 29), .ref (g.lk M 30), .ref (g.lk M 31), .int (nI mtp), .ref (g.lk M 33), .ref (g.lk M 34), .ref (g.lk M 35), .int (nI mwa), .int (nI mgi), .int (nI mpc), .int (nI mst), .int (nI mtr), .int (nI msp), .int mma, .int mlg, .int mdu])) ∧ (f1 (g.lk M 3) = .inl (g.ac (g.lk M 3), 100, .inl (upd hQ mdr (nI w9)))) ∧ (f1 (g.lk M 4) = .inl (g.ac (g.lk M 4), 100, .inl (upd hG mdr x9))) ∧ (IV g f1) ∧ (un [11, 41, 42] g f f1)) (pc_out g sz) (pc_A g sz)) 0 0 (pc_A g sz) := by
  refine pe_ofW (cc := prog_12_method_4_code) (maxL := 3) (ret := none) (lv := [(0, .ref M), (1, .int (nI w9)), (2, .int x9)]) (by decide) (Nat.le_of_ble_eq_true rfl) rfl ?_
  intro p e s m args below meth c ls hx hb hr hml hlocks hown hB hP hK hD hsz hS hl
  subst hsz
  have hu : un [11, 41, 42] g f f := un.rf
  obtain ⟨hmb0, hmb1, hmb2, hmb3, hmb4, hmb5, hmb6, hmb7, hmb8, hmb9, hmb10, hmb11, hmb12, hmb13, hmb14⟩ := hMB
  refine lv_aload_n hx hb d_M_put_0 rfl (lv_at hl 0 rfl) ?_
  refine pf_get (v := .ref (g.lk M 3)) (C := "BigRunnerModel") (T := FT10) (N := 45) hx hb (hw10 hB _) (fun _ h9 => h9) hown hK hP (lo_in hL t_M (by decide)) eM rfl 3 (by decide) (wd_950 hB _) rfl d_M_put_1 ?_
  refine lv_aload_n hx hb d_M_put_4 rfl (lv_at hl 0 rfl) ?_
  refine pf_get (v := .int (nI mdr)) (C := "BigRunnerModel") (T := FT10) (N := 45) hx hb (hw10 hB _) (fun _ h9 => h9) hown hK hP (lo_in hL t_M (by decide)) eM rfl 5 (by decide) (wd_952 hB _) rfl d_M_put_5 ?_
  refine lv_iload_n hx hb d_M_put_8 rfl (lv_at hl 1 rfl) ?_
  refine pf_iast (i := mdr) hx hb hK hP hD hS (lo_in hL (lo_k11_3 hL _ t_M) (by decide)) eD (lo_t41 hL _ (lo_k11_3 hL _ t_M)) (by omega) (by decide) d_M_put_9 (fun f1 H locs e2 k3 hP hD hS => ?_)
  have eM := (k3 M (tg_ne t_M (lo_k11_3 hL _ t_M) (by decide))).trans eM
  have eG := (k3 (g.lk M 4) (tg_ne (lo_k11_4 hL _ t_M) (lo_k11_3 hL _ t_M) (by decide))).trans eG
  have hu := hu.st k3 (lo_k11_3 hL _ t_M) (by decide)
  have hk4 : ∀ b, b ≠ (g.lk M 3) → f1 b = f b := k3
  refine lv_aload_n hx hb d_M_put_10 rfl (lv_at hl 0 rfl) ?_
  refine pf_get (v := .ref (g.lk M 4)) (C := "BigRunnerModel") (T := FT10) (N := 45) hx hb (hw10 hB _) (fun _ h9 => h9) hown hK hP (lo_in hL t_M (by decide)) eM rfl 4 (by decide) (wd_951 hB _) rfl d_M_put_11 ?_
  refine lv_aload_n hx hb d_M_put_14 rfl (lv_at hl 0 rfl) ?_
  refine pf_get (v := .int (nI mdr)) (C := "BigRunnerModel") (T := FT10) (N := 45) hx hb (hw10 hB _) (fun _ h9 => h9) hown hK hP (lo_in hL t_M (by decide)) eM rfl 5 (by decide) (wd_952 hB _) rfl d_M_put_15 ?_
  refine lv_iload_n hx hb d_M_put_18 rfl (lv_at hl 2 rfl) ?_
  have hI5 := iv_1 hI hL (lo_k11_3 hL _ t_M) (by decide) hk4 (oc_41.mk (lo_k11_3 hL _ t_M) (⟨_, e2⟩))
  refine pf_iast (i := mdr) hx hb hK hP hD hS (lo_in hL (lo_k11_4 hL _ t_M) (by decide)) eG (lo_t42 hL _ (lo_k11_4 hL _ t_M)) (by omega) (by decide) d_M_put_19 (fun f6 H locs e7 k8 hP hD hS => ?_)
  have eM := (k8 M (tg_ne t_M (lo_k11_4 hL _ t_M) (by decide))).trans eM
  have e2 := (k8 (g.lk M 3) (tg_ne (lo_k11_3 hL _ t_M) (lo_k11_4 hL _ t_M) (by decide))).trans e2
  have hu := hu.st k8 (lo_k11_4 hL _ t_M) (by decide)
  have hk9 : ∀ b, b ≠ (g.lk M 4) → f6 b = f1 b := k8
  refine lv_aload_n hx hb d_M_put_20 rfl (lv_at hl 0 rfl) ?_
  refine lv_dup hx hb d_M_put_21 rfl ?_
  refine pf_get (v := .int (nI mdr)) (C := "BigRunnerModel") (T := FT10) (N := 45) hx hb (hw10 hB _) (fun _ h9 => h9) hown hK hP (lo_in hL t_M (by decide)) eM rfl 5 (by decide) (wd_952 hB _) rfl d_M_put_22 ?_
  refine lv_iconst (v := nI 1) hx hb d_M_put_25 (by decide) ?_
  refine pf_iaddN (x := mdr) (y := 1) hx hb d_M_put_26 ?_
  have hI10 := iv_1 hI5 hL (lo_k11_4 hL _ t_M) (by decide) hk9 (oc_42.mk (lo_k11_4 hL _ t_M) (⟨_, e7⟩))
  refine pf_put (v := .int (nI (mdr + 1))) (ty := .int) (fs' := [.int mth, .ref (g.lk M 1), .int (nI mn), .ref (g.lk M 3), .ref (g.lk M 4), .int (nI (mdr + 1)), .ref (g.lk M 6), .ref (g.lk M 7), .ref (g.lk M 8), .int (nI msz), .int (nI mix), .int (nI mdp), .ref (g.lk M 12), .int (nI mwt), .ref (g.lk M 14), .ref (g.lk M 15), .int (nI mop), .ref (g.lk M 17), .ref (g.lk M 18), .ref (g.lk M 19), .ref (g.lk M 20), .ref (g.lk M 21), .ref (g.lk M 22), .ref (g.lk M 23), .ref (g.lk M 24), .ref (g.lk M 25), .ref (g.lk M 26), .ref (g.lk M 27), .ref (g.lk M 28), .ref (g.lk M 29), .ref (g.lk M 30), .ref (g.lk M 31), .int (nI mtp), .ref (g.lk M 33), .ref (g.lk M 34), .ref (g.lk M 35), .int (nI mwa), .int (nI mgi), .int (nI mpc), .int (nI mst), .int (nI mtr), .int (nI msp), .int mma, .int mlg, .int mdu]) (C := "BigRunnerModel") (T := FT10) (N := 45) hx hb (hw10 hB _) (fun _ h9 => h9) TY10 ok10 nm10 hown hK hP hD hS (lo_in hL t_M (by decide)) eM rfl 5 (by decide) (wd_952 hB _) rfl (by decide +kernel) rfl rfl (Nat.le_of_ble_eq_true rfl) rfl d_M_put_27 (fun f11 H locs e12 k13 hP hD hS => ?_)
  have e2 := (k13 (g.lk M 3) (tg_ne (lo_k11_3 hL _ t_M) t_M (by decide))).trans e2
  have e7 := (k13 (g.lk M 4) (tg_ne (lo_k11_4 hL _ t_M) t_M (by decide))).trans e7
  have hu := hu.st k13 t_M (by decide)
  have hk14 : ∀ b, b ≠ M → f11 b = f6 b := k13
  have hI15 := iv_1 hI10 hL t_M (by decide) hk14 (oc_11.mk t_M (⟨mth, mn, (mdr + 1), msz, mix, mdp, mwt, mop, mtp, mwa, mgi, mpc, mst, mtr, msp, mma, mlg, mdu, e12, (by omega), (by omega), (by omega), (by omega), (by omega), (by omega), (by omega), (by omega), (by omega), (by omega), (by omega), (by omega), (by omega), (by omega), hmb14⟩))
  exact pe_vret hx hb hr hlocks hK hP hD hS d_M_put_30 ⟨e12, e2, e7, hI15, hu⟩
set_option maxHeartbeats 4000000 in
set_option maxRecDepth 100000 in
theorem m_digit (l : Launch) (g : Lay) (sz : Nat) (f : Nat → va_E) (ch : Int32) (hL : LO g) (hI : OC g f) : Met l ⟨"BigRunnerModel", "digit", "(C)Z"⟩ [Cond.code ⟨"BigRunnerModel", "digit", "(C)Z"⟩ prog_12_method_5_code 1 (some .boolean)] ({ frames := 0, cells := 0, slots := 0, locals := 0 }) (va_Pc [.int ch] (pc_in g sz f)) (va_Qi (fun r f1 => (r = nI 0 ∨ r = nI 1) ∧ (r = nI 0 → kc ch ≠ 7) ∧ (r = nI 1 → kc ch = 7) ∧ (f = f1)) (pc_out g sz) (pc_A g sz)) 0 0 (pc_A g sz) := by
  refine pe_ofW (cc := prog_12_method_5_code) (maxL := 1) (ret := (some .boolean)) (lv := [(0, .int ch)]) (by decide) (Nat.le_of_ble_eq_true rfl) rfl ?_
  intro p e s m args below meth c ls hx hb hr hml hlocks hown hB hP hK hD hsz hS hl
  subst hsz
  refine lv_iload_n hx hb d_M_digit_0 rfl (lv_at hl 0 rfl) ?_
  refine lv_bipush (v := nI 48) hx hb d_M_digit_1 (by decide) ?_
  refine lv_icmp_lt (tgt := 16) hx hb d_M_digit_3 (by decide) (fun b1 => ?_) (fun b1 => ?_)
  · skip
    refine lv_iconst (v := nI 0) hx hb d_M_digit_16 (by decide) ?_
    exact pe_zret hx hb hr hlocks hK hP hD hS d_M_digit_17 rfl ⟨(Or.inl rfl), (fun _ z => by first | exact absurd (kc_7.mp z).1 (Int32.not_le.mpr (by assumption)) | exact absurd (kc_7.mp z).2 (Int32.not_le.mpr (by assumption))), (fun z9 => absurd z9 (by decide)), rfl⟩
  · skip
    refine lv_iload_n hx hb d_M_digit_6 rfl (lv_at hl 0 rfl) ?_
    refine lv_bipush (v := nI 57) hx hb d_M_digit_7 (by decide) ?_
    refine lv_icmp_gt (tgt := 16) hx hb d_M_digit_9 (by decide) (fun b2 => ?_) (fun b2 => ?_)
    · skip
      refine lv_iconst (v := nI 0) hx hb d_M_digit_16 (by decide) ?_
      exact pe_zret hx hb hr hlocks hK hP hD hS d_M_digit_17 rfl ⟨(Or.inl rfl), (fun _ z => by first | exact absurd (kc_7.mp z).1 (Int32.not_le.mpr (by assumption)) | exact absurd (kc_7.mp z).2 (Int32.not_le.mpr (by assumption))), (fun z9 => absurd z9 (by decide)), rfl⟩
    · skip
      refine lv_iconst (v := nI 1) hx hb d_M_digit_12 (by decide) ?_
      refine lv_goto (tgt := 17) hx hb d_M_digit_13 (by decide) ?_
      exact pe_zret hx hb hr hlocks hK hP hD hS d_M_digit_17 rfl ⟨(Or.inr rfl), (fun z9 => absurd z9 (by decide)), (fun _ => kc_7.mpr ⟨Int32.not_lt.mp (by assumption), Int32.not_lt.mp (by assumption)⟩), rfl⟩
theorem le_107 {c : Int32} (h : ¬ nI 106 < c) : c < nI 107 := by
  have := Int32.not_lt.mp h
  exact Int32.lt_of_le_of_lt this (by decide)
theorem ge_107 {c : Int32} (h : nI 106 < c) : ¬ c < nI 107 := by
  intro q
  have e1 : (nI 106).toInt = 106 := nI_toInt (by decide)
  have e2 : (nI 107).toInt = 107 := nI_toInt (by decide)
  rw [Int32.lt_iff_toInt_lt] at h q
  omega
set_option maxHeartbeats 4000000 in
set_option maxRecDepth 100000 in
theorem m_isName (l : Launch) (g : Lay) (sz : Nat) (f : Nat → va_E) (ch : Int32) (hL : LO g) (hI : OC g f) : Met l ⟨"BigRunnerModel", "isName", "(C)Z"⟩ [Cond.code ⟨"BigRunnerModel", "isName", "(C)Z"⟩ prog_12_method_6_code 1 (some .boolean)] ({ frames := 0, cells := 0, slots := 0, locals := 0 }) (va_Pc [.int ch] (pc_in g sz f)) (va_Qi (fun r f1 => (r = nI 0 ∨ r = nI 1) ∧ (r = nI 0 → kc ch ≠ 6) ∧ (r = nI 1 → kc ch = 6) ∧ (f = f1)) (pc_out g sz) (pc_A g sz)) 0 0 (pc_A g sz) := by
  refine pe_ofW (cc := prog_12_method_6_code) (maxL := 1) (ret := (some .boolean)) (lv := [(0, .int ch)]) (by decide) (Nat.le_of_ble_eq_true rfl) rfl ?_
  intro p e s m args below meth c ls hx hb hr hml hlocks hown hB hP hK hD hsz hS hl
  subst hsz
  refine lv_iload_n hx hb d_M_isName_0 rfl (lv_at hl 0 rfl) ?_
  refine lv_bipush (v := nI 97) hx hb d_M_isName_1 (by decide) ?_
  refine lv_icmp_lt (tgt := 16) hx hb d_M_isName_3 (by decide) (fun b1 => ?_) (fun b1 => ?_)
  · skip
    refine lv_iconst (v := nI 0) hx hb d_M_isName_16 (by decide) ?_
    exact pe_zret hx hb hr hlocks hK hP hD hS d_M_isName_17 rfl ⟨(Or.inl rfl), (fun _ z => by first | exact absurd (kc_6.mp z).1 (Int32.not_le.mpr (by assumption)) | exact absurd (kc_6.mp z).2 (ge_107 (by assumption))), (fun z9 => absurd z9 (by decide)), rfl⟩
  · skip
    refine lv_iload_n hx hb d_M_isName_6 rfl (lv_at hl 0 rfl) ?_
    refine lv_bipush (v := nI 106) hx hb d_M_isName_7 (by decide) ?_
    refine lv_icmp_gt (tgt := 16) hx hb d_M_isName_9 (by decide) (fun b2 => ?_) (fun b2 => ?_)
    · skip
      refine lv_iconst (v := nI 0) hx hb d_M_isName_16 (by decide) ?_
      exact pe_zret hx hb hr hlocks hK hP hD hS d_M_isName_17 rfl ⟨(Or.inl rfl), (fun _ z => by first | exact absurd (kc_6.mp z).1 (Int32.not_le.mpr (by assumption)) | exact absurd (kc_6.mp z).2 (ge_107 (by assumption))), (fun z9 => absurd z9 (by decide)), rfl⟩
    · skip
      refine lv_iconst (v := nI 1) hx hb d_M_isName_12 (by decide) ?_
      refine lv_goto (tgt := 17) hx hb d_M_isName_13 (by decide) ?_
      exact pe_zret hx hb hr hlocks hK hP hD hS d_M_isName_17 rfl ⟨(Or.inr rfl), (fun z9 => absurd z9 (by decide)), (fun _ => kc_6.mpr ⟨Int32.not_lt.mp (by assumption), le_107 (by assumption)⟩), rfl⟩
def KO (c : Int32) (k : Nat) : Prop := (k = 0 ∧ kc c ≠ 1 ∧ kc c ≠ 2 ∧ kc c ≠ 3) ∨ (2 ≤ k ∧ k ≤ 3 ∧ (kc c = 1 ∨ kc c = 2)) ∨ (4 ≤ k ∧ k ≤ 6 ∧ kc c = 3)
set_option maxHeartbeats 4000000 in
set_option maxRecDepth 100000 in
theorem m_kindOf (l : Launch) (g : Lay) (sz : Nat) (f : Nat → va_E) (ch : Int32) (hL : LO g) (hI : OC g f) : Met l ⟨"BigRunnerModel", "kindOf", "(C)I"⟩ [Cond.code ⟨"BigRunnerModel", "kindOf", "(C)I"⟩ prog_12_method_7_code 1 (some .int)] ({ frames := 0, cells := 0, slots := 0, locals := 0 }) (va_Pc [.int ch] (pc_in g sz f)) (va_Qi (fun r f1 => (∃ k, k ≤ 6 ∧ KO ch k ∧ r = nI k) ∧ (f = f1)) (pc_out g sz) (pc_A g sz)) 0 0 (pc_A g sz) := by
  refine pe_ofW (cc := prog_12_method_7_code) (maxL := 1) (ret := (some .int)) (lv := [(0, .int ch)]) (by decide) (Nat.le_of_ble_eq_true rfl) rfl ?_
  intro p e s m args below meth c ls hx hb hr hml hlocks hown hB hP hK hD hsz hS hl
  subst hsz
  refine lv_iload_n hx hb d_M_kindOf_0 rfl (lv_at hl 0 rfl) ?_
  refine lv_bipush (v := nI 43) hx hb d_M_kindOf_1 (by decide) ?_
  refine lv_icmp_ne (tgt := 10) hx hb d_M_kindOf_3 (by decide) (fun b1 => ?_) (fun b1 => ?_)
  · skip
    refine lv_iload_n hx hb d_M_kindOf_10 rfl (lv_at hl 0 rfl) ?_
    refine lv_bipush (v := nI 45) hx hb d_M_kindOf_11 (by decide) ?_
    refine lv_icmp_ne (tgt := 20) hx hb d_M_kindOf_13 (by decide) (fun b2 => ?_) (fun b2 => ?_)
    · skip
      refine lv_iload_n hx hb d_M_kindOf_20 rfl (lv_at hl 0 rfl) ?_
      refine lv_bipush (v := nI 42) hx hb d_M_kindOf_21 (by decide) ?_
      refine lv_icmp_ne (tgt := 30) hx hb d_M_kindOf_23 (by decide) (fun b3 => ?_) (fun b3 => ?_)
      · skip
        refine lv_iload_n hx hb d_M_kindOf_30 rfl (lv_at hl 0 rfl) ?_
        refine lv_bipush (v := nI 47) hx hb d_M_kindOf_31 (by decide) ?_
        refine lv_icmp_ne (tgt := 40) hx hb d_M_kindOf_33 (by decide) (fun b4 => ?_) (fun b4 => ?_)
        · skip
          refine lv_iload_n hx hb d_M_kindOf_40 rfl (lv_at hl 0 rfl) ?_
          refine lv_bipush (v := nI 37) hx hb d_M_kindOf_41 (by decide) ?_
          refine lv_icmp_ne (tgt := 51) hx hb d_M_kindOf_43 (by decide) (fun b5 => ?_) (fun b5 => ?_)
          · skip
            refine lv_iconst (v := nI 0) hx hb d_M_kindOf_51 (by decide) ?_
            exact pe_iret hx hb hr hlocks hK hP hD hS d_M_kindOf_52 ⟨⟨0, by decide, (Or.inl ⟨rfl, fun z => absurd (kc_1.mp z) (by assumption), fun z => absurd (kc_2.mp z) (by assumption), fun z => (kc_3.mp z).elim (fun y => absurd y (by assumption)) (fun y => y.elim (fun x => absurd x (by assumption)) (fun x => absurd x (by assumption)))⟩), rfl⟩, rfl⟩
          · skip
            refine lv_bipush (v := nI 6) hx hb d_M_kindOf_46 (by decide) ?_
            refine lv_goto (tgt := 52) hx hb d_M_kindOf_48 (by decide) ?_
            exact pe_iret hx hb hr hlocks hK hP hD hS d_M_kindOf_52 ⟨⟨6, by decide, (Or.inr (Or.inr ⟨by decide, by decide, kc_3.mpr (Or.inr (Or.inr (by assumption)))⟩)), rfl⟩, rfl⟩
        · skip
          refine lv_iconst (v := nI 5) hx hb d_M_kindOf_36 (by decide) ?_
          refine lv_goto (tgt := 52) hx hb d_M_kindOf_37 (by decide) ?_
          exact pe_iret hx hb hr hlocks hK hP hD hS d_M_kindOf_52 ⟨⟨5, by decide, (Or.inr (Or.inr ⟨by decide, by decide, kc_3.mpr (Or.inr (Or.inl (by assumption)))⟩)), rfl⟩, rfl⟩
      · skip
        refine lv_iconst (v := nI 4) hx hb d_M_kindOf_26 (by decide) ?_
        refine lv_goto (tgt := 52) hx hb d_M_kindOf_27 (by decide) ?_
        exact pe_iret hx hb hr hlocks hK hP hD hS d_M_kindOf_52 ⟨⟨4, by decide, (Or.inr (Or.inr ⟨by decide, by decide, kc_3.mpr (Or.inl (by assumption))⟩)), rfl⟩, rfl⟩
    · skip
      refine lv_iconst (v := nI 3) hx hb d_M_kindOf_16 (by decide) ?_
      refine lv_goto (tgt := 52) hx hb d_M_kindOf_17 (by decide) ?_
      exact pe_iret hx hb hr hlocks hK hP hD hS d_M_kindOf_52 ⟨⟨3, by decide, (Or.inr (Or.inl ⟨by decide, by decide, Or.inr (kc_2.mpr (by assumption))⟩)), rfl⟩, rfl⟩
  · skip
    refine lv_iconst (v := nI 2) hx hb d_M_kindOf_6 (by decide) ?_
    refine lv_goto (tgt := 52) hx hb d_M_kindOf_7 (by decide) ?_
    exact pe_iret hx hb hr hlocks hK hP hD hS d_M_kindOf_52 ⟨⟨2, by decide, (Or.inr (Or.inl ⟨by decide, by decide, Or.inl (kc_1.mpr (by assumption))⟩)), rfl⟩, rfl⟩
set_option maxHeartbeats 4000000 in
set_option maxRecDepth 100000 in
theorem m_negate (l : Launch) (g : Lay) (sz : Nat) (f : Nat → va_E) (M : Nat) (mth : Int32) (mn : Nat) (mdr : Nat) (msz : Nat) (mix : Nat) (mdp : Nat) (mwt : Nat) (mop : Nat) (mtp : Nat) (mwa : Nat) (mgi : Nat) (mpc : Nat) (mst : Nat) (mtr : Nat) (msp : Nat) (mma : Int32) (mlg : Int32) (mdu : Int32) (hQ : Nat → Int32) (hG : Nat → Int32) (hW : Nat → Int32) (n0 : Nat) (hL : LO g) (t_M : g.tg M = 11) (hI : IV g f) (eM : f M = .inr (10, [.int mth, .ref (g.lk M 1), .int (nI mn), .ref (g.lk M 3), .ref (g.lk M 4), .int (nI mdr), .ref (g.lk M 6), .ref (g.lk M 7), .ref (g.lk M 8), .int (nI msz), .int (nI mix), .int (nI mdp), .ref (g.lk M 12), .int (nI mwt), .ref (g.lk M 14), .ref (g.lk M 15), .int (nI mop), .ref (g.lk M 17), .ref (g.lk M 18), .ref (g.lk M 19), .ref (g.lk M 20), .ref (g.lk M 21), .ref (g.lk M 22), .ref (g.lk M 23), .ref (g.lk M 24), .ref (g.lk M 25), .ref (g.lk M 26), .ref (g.lk M 27), .ref (g.lk M 28), .ref (g.lk M 29), .ref (g.lk M 30), .ref (g.lk M 31), .int (nI mtp), .ref (g.lk M 33), .ref (g.lk M 34), .ref (g.lk M 35), .int (nI mwa), .int (nI mgi), .int (nI mpc), .int (nI mst), .int (nI mtr), .int (nI msp), .int mma, .int mlg, .int mdu])) (hMB : mn ≤ 72 ∧ mdr ≤ 100 ∧ msz ≤ 100 ∧ mix ≤ 100 ∧ mdp ≤ 20 ∧ mwt ≤ 72 ∧ mop ≤ 40 ∧ mtp ≤ 80 ∧ mwa ≤ 20 ∧ mgi ≤ msp ∧ mpc ≤ 100 ∧ mst ≤ 4 ∧ mtr ≤ 3 ∧ msp ≤ 3000 ∧ (mdu = 0 ∨ mdu = 1)) (eD : f (g.lk M 3) = .inl (g.ac (g.lk M 3), 100, .inl hQ)) (eG : f (g.lk M 4) = .inl (g.ac (g.lk M 4), 100, .inl hG)) (eW : f (g.lk M 12) = .inl (g.ac (g.lk M 12), 72, .inl hW)) (hsum : mdr + mwt ≤ 100) (hdp1 : 1 ≤ dpc hQ mdr) (hc48 : cbr (wll hW mwt) ≤ mdp) (hGC : GC hQ hG n0 mdr) : Met l ⟨"BigRunnerModel", "negate", "()V"⟩ [Cond.code ⟨"BigRunnerModel", "negate", "()V"⟩ prog_12_method_9_code 1 none] ({ frames := 1, cells := 0, slots := 0, locals := 22 }) (va_Pc [.ref M] (pc_in g sz f)) (va_Qv (fun f1 => (∃ (wt1 dp1 dr1 : Nat) (d1 g1 : Nat → Int32), wt1 ≤ mwt ∧ dr1 + wt1 = mdr + mwt ∧ dp1 ≤ mdp ∧ py_neg (wll hW mwt) mdp = (wll hW wt1, dp1) ∧ dp1 + cbr (wll hW mwt) = mdp + cbr (wll hW wt1) ∧ nbS (wll hW wt1) = nbS (wll hW mwt) ∧ dpc d1 dr1 = dpc hQ mdr ∧ GC d1 g1 n0 dr1 ∧ smd mdr d1 hQ ∧ smd mdr g1 hG ∧ f1 M = .inr (10, [.int mth, .ref (g.lk M 1), .int (nI mn), .ref (g.lk M 3), .ref (g.lk M 4), .int (nI dr1), .ref (g.lk M 6), .ref (g.lk M 7), .ref (g.lk M 8), .int (nI msz), .int (nI mix), .int (nI dp1), .ref (g.lk M 12), .int (nI wt1), .ref (g.lk M 14), .ref (g.lk M 15), .int (nI mop), .ref (g.lk M 17), .ref (g.lk M 18), .ref (g.lk M 19), .ref (g.lk M 20), .ref (g.lk M 21), .ref (g.lk M 22), .ref (g.lk M 23), .ref (g.lk M 24), .ref (g.lk M 25), .ref (g.lk M 26), .ref (g.lk M 27), .ref (g.lk M 28), .ref (g.lk M 29), .ref (g.lk M 30), .ref (g.lk M 31), .int (nI mtp), .ref (g.lk M 33), .ref (g.lk M 34), .ref (g.lk M 35), .int (nI mwa), .int (nI mgi), .int (nI mpc), .int (nI mst), .int (nI mtr), .int (nI msp), .int mma, .int mlg, .int mdu]) ∧ f1 (g.lk M 3) = .inl (g.ac (g.lk M 3), 100, .inl d1) ∧ f1 (g.lk M 4) = .inl (g.ac (g.lk M 4), 100, .inl g1)) ∧ (IV g f1) ∧ (un [11, 41, 42] g f f1)) (pc_out g sz) (pc_A g sz)) 0 0 (pc_A g sz) := by
  refine pe_ofW (cc := prog_12_method_9_code) (maxL := 1) (ret := none) (lv := [(0, .ref M)]) (by decide) (Nat.le_of_ble_eq_true rfl) rfl ?_
  intro p e s m args below meth c ls hx hb hr hml hlocks hown hB hP hK hD hsz hS hl
  subst hsz
  have hu : un [11, 41, 42] g f f := un.rf
  obtain ⟨hmb0, hmb1, hmb2, hmb3, hmb4, hmb5, hmb6, hmb7, hmb8, hmb9, hmb10, hmb11, hmb12, hmb13, hmb14⟩ := hMB
  have lp1 : ∀ (k3 : Nat) (t8 : Nat) (p8 : Nat) (r8 : Nat) (d8 : Nat → Int32) (g8 : Nat → Int32) (f2 : Nat → va_E) (H : Heap) (locs : List Loc) (ls : Array Slot), (t8 < k3) → (t8 ≤ mwt) → (p8 ≤ mdp) → (r8 + t8 = mdr + mwt) → (mdr ≤ r8) → (py_neg (wll hW mwt) mdp = py_neg (wll hW t8) p8) → (p8 + cbr (wll hW mwt) = mdp + cbr (wll hW t8)) → (nbS (wll hW t8) = nbS (wll hW mwt)) → (dpc d8 r8 = dpc hQ mdr) → (GC d8 g8 n0 r8) → (smd mdr d8 hQ) → (smd mdr g8 hG) → f2 M = .inr (10, [.int mth, .ref (g.lk M 1), .int (nI mn), .ref (g.lk M 3), .ref (g.lk M 4), .int (nI r8), .ref (g.lk M 6), .ref (g.lk M 7), .ref (g.lk M 8), .int (nI msz), .int (nI mix), .int (nI p8), .ref (g.lk M 12), .int (nI t8), .ref (g.lk M 14), .ref (g.lk M 15), .int (nI mop), .ref (g.lk M 17), .ref (g.lk M 18), .ref (g.lk M 19), .ref (g.lk M 20), .ref (g.lk M 21), .ref (g.lk M 22), .ref (g.lk M 23), .ref (g.lk M 24), .ref (g.lk M 25), .ref (g.lk M 26), .ref (g.lk M 27), .ref (g.lk M 28), .ref (g.lk M 29), .ref (g.lk M 30), .ref (g.lk M 31), .int (nI mtp), .ref (g.lk M 33), .ref (g.lk M 34), .ref (g.lk M 35), .int (nI mwa), .int (nI mgi), .int (nI mpc), .int (nI mst), .int (nI mtr), .int (nI msp), .int mma, .int mlg, .int mdu]) → f2 (g.lk M 3) = .inl (g.ac (g.lk M 3), 100, .inl (d8)) → f2 (g.lk M 4) = .inl (g.ac (g.lk M 4), 100, .inl (g8)) → IV g f2 → un [11, 41, 42] g f f2 → lv_has ls 1 [(0, .ref M)] → va_P g.D vcl (va_pl g.LP f2) H → va_D (pc_A g s.heap.size) (va_pl g.LP f2) → va_S (pc_A g s.heap.size) s.heap H locs → W p l e ({ frames := 1, cells := 0, slots := 0, locals := 22 }) s m args below meth c H locs 0 0 (MQ below (va_Qv (fun f1 => (∃ (wt1 dp1 dr1 : Nat) (d1 g1 : Nat → Int32), wt1 ≤ mwt ∧ dr1 + wt1 = mdr + mwt ∧ dp1 ≤ mdp ∧ py_neg (wll hW mwt) mdp = (wll hW wt1, dp1) ∧ dp1 + cbr (wll hW mwt) = mdp + cbr (wll hW wt1) ∧ nbS (wll hW wt1) = nbS (wll hW mwt) ∧ dpc d1 dr1 = dpc hQ mdr ∧ GC d1 g1 n0 dr1 ∧ smd mdr d1 hQ ∧ smd mdr g1 hG ∧ f1 M = .inr (10, [.int mth, .ref (g.lk M 1), .int (nI mn), .ref (g.lk M 3), .ref (g.lk M 4), .int (nI dr1), .ref (g.lk M 6), .ref (g.lk M 7), .ref (g.lk M 8), .int (nI msz), .int (nI mix), .int (nI dp1), .ref (g.lk M 12), .int (nI wt1), .ref (g.lk M 14), .ref (g.lk M 15), .int (nI mop), .ref (g.lk M 17), .ref (g.lk M 18), .ref (g.lk M 19), .ref (g.lk M 20), .ref (g.lk M 21), .ref (g.lk M 22), .ref (g.lk M 23), .ref (g.lk M 24), .ref (g.lk M 25), .ref (g.lk M 26), .ref (g.lk M 27), .ref (g.lk M 28), .ref (g.lk M 29), .ref (g.lk M 30), .ref (g.lk M 31), .int (nI mtp), .ref (g.lk M 33), .ref (g.lk M 34), .ref (g.lk M 35), .int (nI mwa), .int (nI mgi), .int (nI mpc), .int (nI mst), .int (nI mtr), .int (nI msp), .int mma, .int mlg, .int mdu]) ∧ f1 (g.lk M 3) = .inl (g.ac (g.lk M 3), 100, .inl d1) ∧ f1 (g.lk M 4) = .inl (g.ac (g.lk M 4), 100, .inl g1)) ∧ (IV g f1) ∧ (un [11, 41, 42] g f f1)) (pc_out g s.heap.size) (pc_A g s.heap.size)) args s 0 0 (pc_A g s.heap.size)) (F0 m 0 ls []) := by
    intro k3
    induction k3 with
    | zero => intros; exfalso; omega
    | succ k3 ih4 =>
      intro t8 p8 r8 d8 g8 f2 H locs ls hfu5 ht8 hp8 hr8 hr9 hpy hc8 hnb hdc hgc hsd hsg e6 e7 e8 hI9 hv10 hl hP hD hS
      have eW := hv10.at (lo_k11_12 hL _ t_M) (by decide) eW
      have hu := hu.tr hv10 (by decide)
      refine lv_aload_n hx hb d_M_negate_0 rfl (lv_at hl 0 rfl) ?_
      refine pf_get (v := .int (nI t8)) (C := "BigRunnerModel") (T := FT10) (N := 45) hx hb (hw10 hB _) (fun _ h9 => h9) hown hK hP (lo_in hL t_M (by decide)) e6 rfl 13 (by decide) (wd_960 hB _) rfl d_M_negate_1 ?_
      refine lv_if_le (tgt := 53) hx hb d_M_negate_4 (by decide) (fun b11 => ?_) (fun b11 => ?_)
      · skip
        replace b11 := (nI_leI (a := t8) (b := 0) (by omega) (by omega)).mp b11
        exact pe_vret hx hb hr hlocks hK hP hD hS d_M_negate_53 ⟨⟨t8, p8, r8, _, _, ht8, hr8, hp8, (hpy.trans (by rw [show t8 = 0 by omega]; rfl)), hc8, hnb, hdc, hgc, hsd, hsg, e6, e7, e8⟩, hI9, hu⟩
      · skip
        replace b11 := mt (nI_leI (a := t8) (b := 0) (by omega) (by omega)).mpr b11
        have hws := wll_s hW (show 0 < t8 by omega)
        refine lv_aload_n hx hb d_M_negate_7 rfl (lv_at hl 0 rfl) ?_
        refine pf_get (v := .ref (g.lk M 12)) (C := "BigRunnerModel") (T := FT10) (N := 45) hx hb (hw10 hB _) (fun _ h9 => h9) hown hK hP (lo_in hL t_M (by decide)) e6 rfl 12 (by decide) (wd_959 hB _) rfl d_M_negate_8 ?_
        refine lv_aload_n hx hb d_M_negate_11 rfl (lv_at hl 0 rfl) ?_
        refine pf_get (v := .int (nI t8)) (C := "BigRunnerModel") (T := FT10) (N := 45) hx hb (hw10 hB _) (fun _ h9 => h9) hown hK hP (lo_in hL t_M (by decide)) e6 rfl 13 (by decide) (wd_960 hB _) rfl d_M_negate_12 ?_
        refine lv_iconst (v := nI 1) hx hb d_M_negate_15 (by decide) ?_
        refine pf_isubN (x := t8) (y := 1) hx hb (by omega) d_M_negate_16 ?_
        refine pf_cald (i := t8 - 1) hx hb hK hP (lo_in hL (lo_k11_12 hL _ t_M) (by decide)) eW (lo_t46 hL _ (lo_k11_12 hL _ t_M)) (by omega) (by decide) d_M_negate_17 ?_
        refine lv_bipush (v := nI 117) hx hb d_M_negate_18 (by decide) ?_
        refine lv_icmp_ne (tgt := 53) hx hb d_M_negate_20 (by decide) (fun b12 => ?_) (fun b12 => ?_)
        · skip
          exact pe_vret hx hb hr hlocks hK hP hD hS d_M_negate_53 ⟨⟨t8, p8, r8, _, _, ht8, hr8, hp8, (hpy.trans (by rw [hws]; exact neg_n (fun z => b12 (wcc_8 z)))), hc8, hnb, hdc, hgc, hsd, hsg, e6, e7, e8⟩, hI9, hu⟩
        · skip
          have hw8 : wcc (hW (t8 - 1)) = 8 := by rw [b12]; decide
          have hws8 : wll hW t8 = 8 :: wll hW (t8 - 1) := by rw [hws, hw8]
          have hp1 : 1 ≤ p8 := by rw [hws8, cbr_c, if_pos (Or.inr rfl)] at hc8; omega
          refine lv_aload_n hx hb d_M_negate_23 rfl (lv_at hl 0 rfl) ?_
          refine lv_dup hx hb d_M_negate_24 rfl ?_
          refine pf_get (v := .int (nI t8)) (C := "BigRunnerModel") (T := FT10) (N := 45) hx hb (hw10 hB _) (fun _ h9 => h9) hown hK hP (lo_in hL t_M (by decide)) e6 rfl 13 (by decide) (wd_960 hB _) rfl d_M_negate_25 ?_
          refine lv_iconst (v := nI 1) hx hb d_M_negate_28 (by decide) ?_
          refine pf_isubN (x := t8) (y := 1) hx hb (by omega) d_M_negate_29 ?_
          refine pf_put (v := .int (nI (t8 - 1))) (ty := .int) (fs' := [.int mth, .ref (g.lk M 1), .int (nI mn), .ref (g.lk M 3), .ref (g.lk M 4), .int (nI r8), .ref (g.lk M 6), .ref (g.lk M 7), .ref (g.lk M 8), .int (nI msz), .int (nI mix), .int (nI p8), .ref (g.lk M 12), .int (nI (t8 - 1)), .ref (g.lk M 14), .ref (g.lk M 15), .int (nI mop), .ref (g.lk M 17), .ref (g.lk M 18), .ref (g.lk M 19), .ref (g.lk M 20), .ref (g.lk M 21), .ref (g.lk M 22), .ref (g.lk M 23), .ref (g.lk M 24), .ref (g.lk M 25), .ref (g.lk M 26), .ref (g.lk M 27), .ref (g.lk M 28), .ref (g.lk M 29), .ref (g.lk M 30), .ref (g.lk M 31), .int (nI mtp), .ref (g.lk M 33), .ref (g.lk M 34), .ref (g.lk M 35), .int (nI mwa), .int (nI mgi), .int (nI mpc), .int (nI mst), .int (nI mtr), .int (nI msp), .int mma, .int mlg, .int mdu]) (C := "BigRunnerModel") (T := FT10) (N := 45) hx hb (hw10 hB _) (fun _ h9 => h9) TY10 ok10 nm10 hown hK hP hD hS (lo_in hL t_M (by decide)) e6 rfl 13 (by decide) (wd_960 hB _) rfl (by decide +kernel) rfl rfl (Nat.le_of_ble_eq_true rfl) rfl d_M_negate_30 (fun f13 H locs e14 k15 hP hD hS => ?_)
          have eW := (k15 (g.lk M 12) (tg_ne (lo_k11_12 hL _ t_M) t_M (by decide))).trans eW
          have e7 := (k15 (g.lk M 3) (tg_ne (lo_k11_3 hL _ t_M) t_M (by decide))).trans e7
          have e8 := (k15 (g.lk M 4) (tg_ne (lo_k11_4 hL _ t_M) t_M (by decide))).trans e8
          have hu := hu.st k15 t_M (by decide)
          have hv10 := hv10.st k15 t_M (by decide)
          have hk16 : ∀ b, b ≠ M → f13 b = f2 b := k15
          refine lv_aload_n hx hb d_M_negate_33 rfl (lv_at hl 0 rfl) ?_
          refine lv_dup hx hb d_M_negate_34 rfl ?_
          refine pf_get (v := .int (nI p8)) (C := "BigRunnerModel") (T := FT10) (N := 45) hx hb (hw10 hB _) (fun _ h9 => h9) hown hK hP (lo_in hL t_M (by decide)) e14 rfl 11 (by decide) (wd_958 hB _) rfl d_M_negate_35 ?_
          refine lv_iconst (v := nI 1) hx hb d_M_negate_38 (by decide) ?_
          refine pf_isubN (x := p8) (y := 1) hx hb (by omega) d_M_negate_39 ?_
          refine pf_put (v := .int (nI (p8 - 1))) (ty := .int) (fs' := [.int mth, .ref (g.lk M 1), .int (nI mn), .ref (g.lk M 3), .ref (g.lk M 4), .int (nI r8), .ref (g.lk M 6), .ref (g.lk M 7), .ref (g.lk M 8), .int (nI msz), .int (nI mix), .int (nI (p8 - 1)), .ref (g.lk M 12), .int (nI (t8 - 1)), .ref (g.lk M 14), .ref (g.lk M 15), .int (nI mop), .ref (g.lk M 17), .ref (g.lk M 18), .ref (g.lk M 19), .ref (g.lk M 20), .ref (g.lk M 21), .ref (g.lk M 22), .ref (g.lk M 23), .ref (g.lk M 24), .ref (g.lk M 25), .ref (g.lk M 26), .ref (g.lk M 27), .ref (g.lk M 28), .ref (g.lk M 29), .ref (g.lk M 30), .ref (g.lk M 31), .int (nI mtp), .ref (g.lk M 33), .ref (g.lk M 34), .ref (g.lk M 35), .int (nI mwa), .int (nI mgi), .int (nI mpc), .int (nI mst), .int (nI mtr), .int (nI msp), .int mma, .int mlg, .int mdu]) (C := "BigRunnerModel") (T := FT10) (N := 45) hx hb (hw10 hB _) (fun _ h9 => h9) TY10 ok10 nm10 hown hK hP hD hS (lo_in hL t_M (by decide)) e14 rfl 11 (by decide) (wd_958 hB _) rfl (by decide +kernel) rfl rfl (Nat.le_of_ble_eq_true rfl) rfl d_M_negate_40 (fun f17 H locs e18 k19 hP hD hS => ?_)
          have eW := (k19 (g.lk M 12) (tg_ne (lo_k11_12 hL _ t_M) t_M (by decide))).trans eW
          have e7 := (k19 (g.lk M 3) (tg_ne (lo_k11_3 hL _ t_M) t_M (by decide))).trans e7
          have e8 := (k19 (g.lk M 4) (tg_ne (lo_k11_4 hL _ t_M) t_M (by decide))).trans e8
          have hu := hu.st k19 t_M (by decide)
          have hv10 := hv10.st k19 t_M (by decide)
          have hk20 : ∀ b, b ≠ M → f17 b = f2 b := fun b q0 => (k19 b q0).trans (hk16 b q0)
          refine lv_aload_n hx hb d_M_negate_43 rfl (lv_at hl 0 rfl) ?_
          refine lv_bipush (v := nI 7) hx hb d_M_negate_44 (by decide) ?_
          refine lv_iconst (v := nI 0) hx hb d_M_negate_46 (by decide) ?_
          have hI21 := iv_1 hI9 hL t_M (by decide) hk20 (oc_11.mk t_M (⟨mth, mn, r8, msz, mix, (p8 - 1), (t8 - 1), mop, mtp, mwa, mgi, mpc, mst, mtr, msp, mma, mlg, mdu, e18, (by omega), (by omega), (by omega), (by omega), (by omega), (by omega), (by omega), (by omega), (by omega), (by omega), (by omega), (by omega), (by omega), (by omega), hmb14⟩))
          refine pcc_v (va_runV (C := "BigRunnerModel") (As := [.int (nI 7), .int (nI 0)]) (rest := []) ⟨hx, hb, hml, hown, tb_nil⟩ (m_put l g H.size f17 M mth mn r8 msz mix ((p8 - 1)) ((t8 - 1)) mop mtp mwa mgi mpc mst mtr msp mma mlg mdu d8 g8 7 ((nI 0)) hL t_M hI21 e18 ⟨(by omega), (by omega), (by omega), (by omega), (by omega), (by omega), (by omega), (by omega), (by omega), (by omega), (by omega), (by omega), (by omega), (by omega), hmb14⟩ e7 e8 (by omega)) ⟨(callB_of 2 (tb_one (wd_1115 hB _)) tb_good1 rfl rfl rfl (wd_82 hB _) (wd_1112 hB _) (by decide +kernel) ⟨Nat.le_of_ble_eq_true rfl, Nat.le_of_ble_eq_true rfl⟩), (wd_1114 hB _), (wd_44 hB _)⟩ ⟨pe_bl, pg_recv (ci := 10) hK hP (lo_in hL t_M (by decide)) e18 rfl, pe_pre hB hK hP hD⟩ rfl rfl hl.1 rfl (lv_room (Nat.le_of_ble_eq_true rfl)) d_M_negate_47 ⟨Nat.le_of_ble_eq_true rfl, Nat.le_of_ble_eq_true rfl⟩) hS (fun f23 H locs hq24 hP hD hS => ?_)
          obtain ⟨x1_25, xd_26, xg_27, hI1_28, hu1_29⟩ := hq24
          have hu := hu.tr hu1_29 (by decide)
          have hv10 := hv10.tr hu1_29 (by decide)
          have eW := hu1_29.at (lo_k11_12 hL _ t_M) (by decide) eW
          refine lv_goto (tgt := 0) hx hb d_M_negate_50 (by decide) ?_
          exact ih4 (t8 - 1) (p8 - 1) (r8 + 1) (upd d8 r8 (nI 7)) (upd g8 r8 (nI 0)) f23 H locs ls (by omega) (by omega) (by omega) (by omega) (by omega) (hpy.trans (by rw [hws8, neg_8])) (by rw [hws8, cbr_c, if_pos (Or.inr rfl)] at hc8; omega) (by rw [← hnb, hws8, nbS_c, if_pos (Or.inr rfl)]; omega) (by rw [dpc_s (by decide)]; exact hdc) (GC_put hgc (by decide) (by decide) (fun z => absurd z (by decide)) (fun _ => by rw [hdc]; exact hdp1) (fun _ z => absurd z (by decide))) (smd_u hsd hr9) (smd_u hsg hr9) x1_25 xd_26 xg_27 hI1_28 hv10 hl hP hD hS
  exact lp1 (mwt + 1) mwt mdp mdr hQ hG f s.heap [] ls (by omega) (by omega) (by omega) (by omega) (by omega) rfl rfl rfl rfl hGC smd_rf smd_rf eM eD eG hI un.rf hl hP hD hS
