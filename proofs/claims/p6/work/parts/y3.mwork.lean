set_option maxHeartbeats 4000000 in
set_option maxRecDepth 100000 in
theorem w_work (l : Launch) (g : Lay) (sz : Nat) (f : Nat → va_E) (M : Nat) (mth : Int32) (mn : Nat) (mdr : Nat) (msz : Nat) (mix : Nat) (mdp : Nat) (mwt : Nat) (mop : Nat) (mtp : Nat) (mwa : Nat) (mgi : Nat) (mpc : Nat) (mst : Nat) (mtr : Nat) (msp : Nat) (mma : Int32) (mlg : Int32) (mdu : Int32) (hC : Nat → Int32) (hA : Nat → Int32) (p9 : Nat) (w : Nat) (v : Nat) (hLI : Nat → Int32) (hSI : Nat → Int32) (hRE : Nat → Int32) (hRS : Nat → Int32) (hVL : Nat → Int32) (hVS : Nat → Int32) (vr : Nat → Int) (V : List Int) (hL : LO g) (t_M : g.tg M = 11) (hI : IV g f) (eM : f M = .inr (10, [.int mth, .ref (g.lk M 1), .int (nI mn), .ref (g.lk M 3), .ref (g.lk M 4), .int (nI mdr), .ref (g.lk M 6), .ref (g.lk M 7), .ref (g.lk M 8), .int (nI msz), .int (nI mix), .int (nI mdp), .ref (g.lk M 12), .int (nI mwt), .ref (g.lk M 14), .ref (g.lk M 15), .int (nI mop), .ref (g.lk M 17), .ref (g.lk M 18), .ref (g.lk M 19), .ref (g.lk M 20), .ref (g.lk M 21), .ref (g.lk M 22), .ref (g.lk M 23), .ref (g.lk M 24), .ref (g.lk M 25), .ref (g.lk M 26), .ref (g.lk M 27), .ref (g.lk M 28), .ref (g.lk M 29), .ref (g.lk M 30), .ref (g.lk M 31), .int (nI mtp), .ref (g.lk M 33), .ref (g.lk M 34), .ref (g.lk M 35), .int (nI mwa), .int (nI mgi), .int (nI mpc), .int (nI mst), .int (nI mtr), .int (nI msp), .int mma, .int mlg, .int mdu])) (hMB : mn ≤ 72 ∧ mdr ≤ 100 ∧ msz ≤ 100 ∧ mix ≤ 100 ∧ mdp ≤ 20 ∧ mwt ≤ 72 ∧ mop ≤ 40 ∧ mtp ≤ 80 ∧ mwa ≤ 20 ∧ mgi ≤ msp ∧ mpc ≤ 100 ∧ mst ≤ 4 ∧ mtr ≤ 3 ∧ msp ≤ 3000 ∧ (mdu = 0 ∨ mdu = 1)) (eC : f (g.lk M 6) = .inl (g.ac (g.lk M 6), 100, .inl hC)) (eA : f (g.lk M 7) = .inl (g.ac (g.lk M 7), 100, .inl hA)) (hw : hC p9 = nI w) (hv : hA p9 = nI v) (hp9 : p9 < 100) (hv3 : v < 2147483648) (hws : WS w v mtp) (hw8 : w < 8) (htr0 : mtr = 0) (eLI : f (g.lk M 30) = .inl (g.ac (g.lk M 30), 1600, .inl hLI)) (eSI : f (g.lk M 31) = .inl (g.ac (g.lk M 31), 80, .inl hSI)) (eRE : f (g.lk M 33) = .inl (g.ac (g.lk M 33), 44, .inl hRE)) (eRS : f (g.lk M 34) = .inl (g.ac (g.lk M 34), 44, .inl hRS)) (eVL : f (g.lk M 26) = .inl (g.ac (g.lk M 26), 200, .inl hVL)) (eVS : f (g.lk M 27) = .inl (g.ac (g.lk M 27), 10, .inl hVS)) (c6LI : C6 1600 hLI) (c6RE : C6 44 hRE) (c6RS : C6 44 hRS) (c6VL : C6 200 hVL) (htp : mtp = V.length) (hSV : SVS hLI hSI V) (hVR : VRS hVL hVS vr) (hvb : w < 2 → v < 1000000000) : Met l ⟨"BigRunnerModel", "work", "(I)V"⟩ [Cond.code ⟨"BigRunnerModel", "work", "(I)V"⟩ prog_12_method_37_code 6 none] ({ frames := 3, cells := 0, slots := 0, locals := 78 }) (va_Pc [.ref M, .int (nI p9)] (pc_in g sz f)) (va_Qv (fun f1 => (∃ (tp1 : Nat) (ma1 : Int32) (lg1 : Int32) (tr1 : Nat), (tp1 ≤ 80) ∧ (tr1 = (ev1 vr w v V).1) ∧ ((ev1 vr w v V).1 = 0 → tp1 = (ev1 vr w v V).2.length) ∧ f1 M = .inr (10, [.int mth, .ref (g.lk M 1), .int (nI mn), .ref (g.lk M 3), .ref (g.lk M 4), .int (nI mdr), .ref (g.lk M 6), .ref (g.lk M 7), .ref (g.lk M 8), .int (nI msz), .int (nI mix), .int (nI mdp), .ref (g.lk M 12), .int (nI mwt), .ref (g.lk M 14), .ref (g.lk M 15), .int (nI mop), .ref (g.lk M 17), .ref (g.lk M 18), .ref (g.lk M 19), .ref (g.lk M 20), .ref (g.lk M 21), .ref (g.lk M 22), .ref (g.lk M 23), .ref (g.lk M 24), .ref (g.lk M 25), .ref (g.lk M 26), .ref (g.lk M 27), .ref (g.lk M 28), .ref (g.lk M 29), .ref (g.lk M 30), .ref (g.lk M 31), .int (nI tp1), .ref (g.lk M 33), .ref (g.lk M 34), .ref (g.lk M 35), .int (nI mwa), .int (nI mgi), .int (nI mpc), .int (nI mst), .int (nI tr1), .int (nI msp), .int ma1, .int lg1, .int mdu])) ∧ (∃ hl hs hr hq : Nat → Int32, f1 (g.lk M 30) = .inl (g.ac (g.lk M 30), 1600, .inl hl) ∧ f1 (g.lk M 31) = .inl (g.ac (g.lk M 31), 80, .inl hs) ∧ f1 (g.lk M 33) = .inl (g.ac (g.lk M 33), 44, .inl hr) ∧ f1 (g.lk M 34) = .inl (g.ac (g.lk M 34), 44, .inl hq) ∧ C6 1600 hl ∧ C6 44 hr ∧ C6 44 hq ∧ ((ev1 vr w v V).1 = 0 → SVS hl hs (ev1 vr w v V).2)) ∧ (IV g f1) ∧ (un [11, 62, 63, 64, 65] g f f1)) (pc_out g sz) (pc_A g sz)) 0 0 (pc_A g sz) := by
  refine pe_ofW (cc := prog_12_method_37_code) (maxL := 6) (ret := none) (lv := [(0, .ref M), (1, .int (nI p9))]) (by decide) (Nat.le_of_ble_eq_true rfl) rfl ?_
  intro p e s m args below meth c ls hx hb hr hml hlocks hown hB hP hK hD hsz hS hl
  subst hsz
  have hu : un [11, 62, 63, 64, 65] g f f := un.rf
  obtain ⟨hmb0, hmb1, hmb2, hmb3, hmb4, hmb5, hmb6, hmb7, hmb8, hmb9, hmb10, hmb11, hmb12, hmb13, hmb14⟩ := hMB
  obtain ⟨hw1, hwt, hw7, hw2⟩ := hws
  refine lv_aload_n hx hb d_M_work_0 rfl (lv_at hl 0 rfl) ?_
  refine pf_get (v := .ref (g.lk M 6)) (C := "BigRunnerModel") (T := FT10) (N := 45) hx hb (hw10 hB _) (fun _ h9 => h9) hown hK hP (lo_in hL t_M (by decide)) eM rfl 6 (by decide) (wd_953 hB _) rfl d_M_work_1 ?_
  refine lv_iload_n hx hb d_M_work_4 rfl (lv_at hl 1 rfl) ?_
  refine pf_iald (i := p9) hx hb hK hP (lo_in hL (lo_k11_6 hL _ t_M) (by decide)) eC (lo_t43 hL _ (lo_k11_6 hL _ t_M)) (by omega) (by decide) d_M_work_5 ?_
  refine lv_topi (fun z_ hz_ => ?_)
  obtain rfl : z_ = nI w := hz_.trans hw
  refine lv_istore_n (lv' := [(2, .int (nI w)), (0, .ref M), (1, .int (nI p9))]) hx hb d_M_work_6 rfl hl (by decide) rfl (fun ls hl => ?_)
  refine lv_iload_n hx hb d_M_work_7 rfl (lv_at hl 0 rfl) ?_
  rcases (show w = 0 ∨ w = 1 ∨ w = 2 ∨ w = 3 ∨ w = 4 ∨ w = 5 ∨ w = 6 ∨ w = 7 by omega) with hwE | hwE | hwE | hwE | hwE | hwE | hwE | hwE
  · skip
    refine lv_topi (fun z_ hz_ => ?_)
    obtain rfl : z_ = nI 0 := hz_.trans (congrArg nI hwE)
    have hl : lv_has ls 6 [(2, .int (nI 0)), (0, .ref M), (1, .int (nI p9))] := by rw [hwE] at hl; exact hl
    refine lv_if_ne (tgt := 36) hx hb d_M_work_8 (by decide) (fun b1 => ?_) (fun b1 => ?_)
    · skip
      replace b1 := mt (nI_eq (a := 0) (b := 0) (by omega) (by omega)).mpr b1
      exfalso; omega
    · skip
      replace b1 := (nI_eq (a := 0) (b := 0) (by omega) (by omega)).mp b1
      refine lv_aload_n hx hb d_M_work_11 rfl (lv_at hl 1 rfl) ?_
      refine lv_aload_n hx hb d_M_work_12 rfl (lv_at hl 1 rfl) ?_
      refine pf_get (v := .int (nI mtp)) (C := "BigRunnerModel") (T := FT10) (N := 45) hx hb (hw10 hB _) (fun _ h9 => h9) hown hK hP (lo_in hL t_M (by decide)) eM rfl 32 (by decide) (wd_979 hB _) rfl d_M_work_13 ?_
      refine lv_aload_n hx hb d_M_work_16 rfl (lv_at hl 1 rfl) ?_
      refine pf_get (v := .ref (g.lk M 7)) (C := "BigRunnerModel") (T := FT10) (N := 45) hx hb (hw10 hB _) (fun _ h9 => h9) hown hK hP (lo_in hL t_M (by decide)) eM rfl 7 (by decide) (wd_954 hB _) rfl d_M_work_17 ?_
      refine lv_iload_n hx hb d_M_work_20 rfl (lv_at hl 2 rfl) ?_
      refine pf_iald (i := p9) hx hb hK hP (lo_in hL (lo_k11_7 hL _ t_M) (by decide)) eA (lo_t44 hL _ (lo_k11_7 hL _ t_M)) (by omega) (by decide) d_M_work_21 ?_
      refine lv_topi (fun z_ hz_ => ?_)
      obtain rfl : z_ = nI v := hz_.trans hv
      refine pcc_v (va_runV (C := "BigRunnerModel") (As := [.int (nI mtp), .int (nI v)]) (rest := []) ⟨hx, hb, hml, hown, tb_nil⟩ (w_setNumber l g s.heap.size f M mtp ((nI v)) hLI hSI hL t_M hI eLI eSI c6LI (by omega) (by rw [nI_toInt (by omega)]; have := hvb (by omega); omega)) ⟨(callB_of 2 (tb_one (wd_1211 hB _)) tb_good1 rfl rfl rfl (wd_82 hB _) (wd_1208 hB _) (by decide +kernel) ⟨Nat.le_of_ble_eq_true rfl, Nat.le_of_ble_eq_true rfl⟩), (wd_1210 hB _), (wd_59 hB _)⟩ ⟨pe_bl, pg_recv (ci := 10) hK hP (lo_in hL t_M (by decide)) eM rfl, pe_pre hB hK hP hD⟩ rfl rfl hl.1 rfl (lv_room (Nat.le_of_ble_eq_true rfl)) d_M_work_22 ⟨Nat.le_of_ble_eq_true rfl, Nat.le_of_ble_eq_true rfl⟩) hS (fun f3 H locs hq4 hP hD hS => ?_)
      obtain ⟨sn_5, hI1_6, hk1_7⟩ := hq4
      have hu := hu.st2 hk1_7 (lo_k11_30 hL _ t_M) (lo_k11_31 hL _ t_M) (by decide) (by decide)
      have eM := (hk1_7 M (tg_ne t_M (lo_k11_30 hL _ t_M) (by decide)) (tg_ne t_M (lo_k11_31 hL _ t_M) (by decide))).trans eM
      have eC := (hk1_7 (g.lk M 6) (tg_ne (lo_k11_6 hL _ t_M) (lo_k11_30 hL _ t_M) (by decide)) (tg_ne (lo_k11_6 hL _ t_M) (lo_k11_31 hL _ t_M) (by decide))).trans eC
      have eA := (hk1_7 (g.lk M 7) (tg_ne (lo_k11_7 hL _ t_M) (lo_k11_30 hL _ t_M) (by decide)) (tg_ne (lo_k11_7 hL _ t_M) (lo_k11_31 hL _ t_M) (by decide))).trans eA
      have eRE := (hk1_7 (g.lk M 33) (tg_ne (lo_k11_33 hL _ t_M) (lo_k11_30 hL _ t_M) (by decide)) (tg_ne (lo_k11_33 hL _ t_M) (lo_k11_31 hL _ t_M) (by decide))).trans eRE
      have eRS := (hk1_7 (g.lk M 34) (tg_ne (lo_k11_34 hL _ t_M) (lo_k11_30 hL _ t_M) (by decide)) (tg_ne (lo_k11_34 hL _ t_M) (lo_k11_31 hL _ t_M) (by decide))).trans eRS
      have eVL := (hk1_7 (g.lk M 26) (tg_ne (lo_k11_26 hL _ t_M) (lo_k11_30 hL _ t_M) (by decide)) (tg_ne (lo_k11_26 hL _ t_M) (lo_k11_31 hL _ t_M) (by decide))).trans eVL
      have eVS := (hk1_7 (g.lk M 27) (tg_ne (lo_k11_27 hL _ t_M) (lo_k11_30 hL _ t_M) (by decide)) (tg_ne (lo_k11_27 hL _ t_M) (lo_k11_31 hL _ t_M) (by decide))).trans eVS
      obtain ⟨hl_8, hs_9, e10, e11, c12, hsv13, hsf14, hss15⟩ := sn_5
      refine lv_aload_n hx hb d_M_work_25 rfl (lv_at hl 1 rfl) ?_
      refine lv_dup hx hb d_M_work_26 rfl ?_
      refine pf_get (v := .int (nI mtp)) (C := "BigRunnerModel") (T := FT10) (N := 45) hx hb (hw10 hB _) (fun _ h9 => h9) hown hK hP (lo_in hL t_M (by decide)) eM rfl 32 (by decide) (wd_979 hB _) rfl d_M_work_27 ?_
      refine lv_iconst (v := nI 1) hx hb d_M_work_30 (by decide) ?_
      refine pf_iaddN (x := mtp) (y := 1) hx hb d_M_work_31 ?_
      refine pf_put (v := .int (nI (mtp + 1))) (ty := .int) (fs' := [.int mth, .ref (g.lk M 1), .int (nI mn), .ref (g.lk M 3), .ref (g.lk M 4), .int (nI mdr), .ref (g.lk M 6), .ref (g.lk M 7), .ref (g.lk M 8), .int (nI msz), .int (nI mix), .int (nI mdp), .ref (g.lk M 12), .int (nI mwt), .ref (g.lk M 14), .ref (g.lk M 15), .int (nI mop), .ref (g.lk M 17), .ref (g.lk M 18), .ref (g.lk M 19), .ref (g.lk M 20), .ref (g.lk M 21), .ref (g.lk M 22), .ref (g.lk M 23), .ref (g.lk M 24), .ref (g.lk M 25), .ref (g.lk M 26), .ref (g.lk M 27), .ref (g.lk M 28), .ref (g.lk M 29), .ref (g.lk M 30), .ref (g.lk M 31), .int (nI (mtp + 1)), .ref (g.lk M 33), .ref (g.lk M 34), .ref (g.lk M 35), .int (nI mwa), .int (nI mgi), .int (nI mpc), .int (nI mst), .int (nI mtr), .int (nI msp), .int mma, .int mlg, .int mdu]) (C := "BigRunnerModel") (T := FT10) (N := 45) hx hb (hw10 hB _) (fun _ h9 => h9) TY10 ok10 nm10 hown hK hP hD hS (lo_in hL t_M (by decide)) eM rfl 32 (by decide) (wd_979 hB _) rfl (by decide +kernel) rfl rfl (Nat.le_of_ble_eq_true rfl) rfl d_M_work_32 (fun f16 H locs e17 k18 hP hD hS => ?_)
      have eC := (k18 (g.lk M 6) (tg_ne (lo_k11_6 hL _ t_M) t_M (by decide))).trans eC
      have eA := (k18 (g.lk M 7) (tg_ne (lo_k11_7 hL _ t_M) t_M (by decide))).trans eA
      have eRE := (k18 (g.lk M 33) (tg_ne (lo_k11_33 hL _ t_M) t_M (by decide))).trans eRE
      have eRS := (k18 (g.lk M 34) (tg_ne (lo_k11_34 hL _ t_M) t_M (by decide))).trans eRS
      have eVL := (k18 (g.lk M 26) (tg_ne (lo_k11_26 hL _ t_M) t_M (by decide))).trans eVL
      have eVS := (k18 (g.lk M 27) (tg_ne (lo_k11_27 hL _ t_M) t_M (by decide))).trans eVS
      have e10 := (k18 (g.lk M 30) (tg_ne (lo_k11_30 hL _ t_M) t_M (by decide))).trans e10
      have e11 := (k18 (g.lk M 31) (tg_ne (lo_k11_31 hL _ t_M) t_M (by decide))).trans e11
      have hu := hu.st k18 t_M (by decide)
      have hk19 : ∀ b, b ≠ M → f16 b = f3 b := k18
      have hI20 := iv_1 hI1_6 hL t_M (by decide) hk19 (oc_11.mk t_M (⟨mth, mn, mdr, msz, mix, mdp, mwt, mop, (mtp + 1), mwa, mgi, mpc, mst, mtr, msp, mma, mlg, mdu, e17, (by omega), (by omega), (by omega), (by omega), (by omega), (by omega), (by omega), (by omega), (by omega), (by omega), (by omega), (by omega), (by omega), (by omega), hmb14⟩))
      exact pe_vret hx hb hr hlocks hK hP hD hS d_M_work_35 ⟨⟨(mtp + 1), mma, mlg, mtr, by omega, (by rw [hwE]; exact htr0), (fun _ => by rw [hwE]; show mtp + 1 = V.length + 1; omega), e17⟩, ⟨_, _, _, _, e10, e11, eRE, eRS, c12, c6RE, c6RS, (fun _ => by rw [hwE]; exact ⟨by have z9 := hsv13; rw [nI_toInt (by omega), htp] at z9; exact z9, SVS_SF hsf14 hss15 V (by omega) hSV⟩)⟩, hI20, hu⟩
  · skip
    refine lv_topi (fun z_ hz_ => ?_)
    obtain rfl : z_ = nI 1 := hz_.trans (congrArg nI hwE)
    have hl : lv_has ls 6 [(2, .int (nI 1)), (0, .ref M), (1, .int (nI p9))] := by rw [hwE] at hl; exact hl
    refine lv_if_ne (tgt := 36) hx hb d_M_work_8 (by decide) (fun b21 => ?_) (fun b21 => ?_)
    · skip
      replace b21 := mt (nI_eq (a := 1) (b := 0) (by omega) (by omega)).mpr b21
      refine lv_iload_n hx hb d_M_work_36 rfl (lv_at hl 0 rfl) ?_
      refine lv_iconst (v := nI 1) hx hb d_M_work_37 (by decide) ?_
      refine lv_icmp_ne (tgt := 116) hx hb d_M_work_38 (by decide) (fun b22 => ?_) (fun b22 => ?_)
      · skip
        replace b22 := mt (nI_eq (a := 1) (b := 1) (by omega) (by omega)).mpr b22
        exfalso; omega
      · skip
        replace b22 := (nI_eq (a := 1) (b := 1) (by omega) (by omega)).mp b22
        refine lv_iconst (v := nI 0) hx hb d_M_work_41 (by decide) ?_
        refine lv_istore_n (lv' := [(3, .int (nI 0)), (2, .int (nI 1)), (0, .ref M), (1, .int (nI p9))]) hx hb d_M_work_42 rfl hl (by decide) rfl (fun ls hl => ?_)
        have lp23 : ∀ (k25 : Nat) (i : Nat) (h : Nat → Int32) (f24 : Nat → va_E) (H : Heap) (locs : List Loc) (ls : Array Slot), (20 < i + k25) → (i ≤ 20) → (C6 1600 h) → (∀ j, j < i → dg h (20 * mtp + j) = dg hVL (20 * v + j)) → (SF mtp hLI h) → f24 (g.lk M 30) = .inl (g.ac (g.lk M 30), 1600, .inl (h)) → IV g f24 → un [62] g f f24 → lv_has ls 6 [(3, .int (nI i)), (2, .int (nI 1)), (0, .ref M), (1, .int (nI p9))] → va_P g.D vcl (va_pl g.LP f24) H → va_D (pc_A g s.heap.size) (va_pl g.LP f24) → va_S (pc_A g s.heap.size) s.heap H locs → W p l e ({ frames := 3, cells := 0, slots := 0, locals := 78 }) s m args below meth c H locs 0 0 (MQ below (va_Qv (fun f1 => (∃ (tp1 : Nat) (ma1 : Int32) (lg1 : Int32) (tr1 : Nat), (tp1 ≤ 80) ∧ (tr1 = (ev1 vr w v V).1) ∧ ((ev1 vr w v V).1 = 0 → tp1 = (ev1 vr w v V).2.length) ∧ f1 M = .inr (10, [.int mth, .ref (g.lk M 1), .int (nI mn), .ref (g.lk M 3), .ref (g.lk M 4), .int (nI mdr), .ref (g.lk M 6), .ref (g.lk M 7), .ref (g.lk M 8), .int (nI msz), .int (nI mix), .int (nI mdp), .ref (g.lk M 12), .int (nI mwt), .ref (g.lk M 14), .ref (g.lk M 15), .int (nI mop), .ref (g.lk M 17), .ref (g.lk M 18), .ref (g.lk M 19), .ref (g.lk M 20), .ref (g.lk M 21), .ref (g.lk M 22), .ref (g.lk M 23), .ref (g.lk M 24), .ref (g.lk M 25), .ref (g.lk M 26), .ref (g.lk M 27), .ref (g.lk M 28), .ref (g.lk M 29), .ref (g.lk M 30), .ref (g.lk M 31), .int (nI tp1), .ref (g.lk M 33), .ref (g.lk M 34), .ref (g.lk M 35), .int (nI mwa), .int (nI mgi), .int (nI mpc), .int (nI mst), .int (nI tr1), .int (nI msp), .int ma1, .int lg1, .int mdu])) ∧ (∃ hl hs hr hq : Nat → Int32, f1 (g.lk M 30) = .inl (g.ac (g.lk M 30), 1600, .inl hl) ∧ f1 (g.lk M 31) = .inl (g.ac (g.lk M 31), 80, .inl hs) ∧ f1 (g.lk M 33) = .inl (g.ac (g.lk M 33), 44, .inl hr) ∧ f1 (g.lk M 34) = .inl (g.ac (g.lk M 34), 44, .inl hq) ∧ C6 1600 hl ∧ C6 44 hr ∧ C6 44 hq ∧ ((ev1 vr w v V).1 = 0 → SVS hl hs (ev1 vr w v V).2)) ∧ (IV g f1) ∧ (un [11, 62, 63, 64, 65] g f f1)) (pc_out g s.heap.size) (pc_A g s.heap.size)) args s 0 0 (pc_A g s.heap.size)) (F0 m 43 ls []) := by
          intro k25
          induction k25 with
          | zero => intros; exfalso; omega
          | succ k25 ih26 =>
            intro i h f24 H locs ls hfu27 hi hc hcp hsf e28 hI29 hv30 hl hP hD hS
            have eM := hv30.at t_M (by decide) eM
            have eC := hv30.at (lo_k11_6 hL _ t_M) (by decide) eC
            have eA := hv30.at (lo_k11_7 hL _ t_M) (by decide) eA
            have eSI := hv30.at (lo_k11_31 hL _ t_M) (by decide) eSI
            have eRE := hv30.at (lo_k11_33 hL _ t_M) (by decide) eRE
            have eRS := hv30.at (lo_k11_34 hL _ t_M) (by decide) eRS
            have eVL := hv30.at (lo_k11_26 hL _ t_M) (by decide) eVL
            have eVS := hv30.at (lo_k11_27 hL _ t_M) (by decide) eVS
            have hu := hu.tr hv30 (by decide)
            refine lv_iload_n hx hb d_M_work_43 rfl (lv_at hl 0 rfl) ?_
            refine lv_bipush (v := nI 20) hx hb d_M_work_44 (by decide) ?_
            refine lv_icmp_ge (tgt := 85) hx hb d_M_work_46 (by decide) (fun b31 => ?_) (fun b31 => ?_)
            · skip
              replace b31 := (nI_leI (a := 20) (b := i) (by omega) (by omega)).mp b31
              refine lv_aload_n hx hb d_M_work_85 rfl (lv_at hl 2 rfl) ?_
              refine pf_get (v := .ref (g.lk M 31)) (C := "BigRunnerModel") (T := FT10) (N := 45) hx hb (hw10 hB _) (fun _ h9 => h9) hown hK hP (lo_in hL t_M (by decide)) eM rfl 31 (by decide) (wd_978 hB _) rfl d_M_work_86 ?_
              refine lv_aload_n hx hb d_M_work_89 rfl (lv_at hl 2 rfl) ?_
              refine pf_get (v := .int (nI mtp)) (C := "BigRunnerModel") (T := FT10) (N := 45) hx hb (hw10 hB _) (fun _ h9 => h9) hown hK hP (lo_in hL t_M (by decide)) eM rfl 32 (by decide) (wd_979 hB _) rfl d_M_work_90 ?_
              refine lv_aload_n hx hb d_M_work_93 rfl (lv_at hl 2 rfl) ?_
              refine pf_get (v := .ref (g.lk M 27)) (C := "BigRunnerModel") (T := FT10) (N := 45) hx hb (hw10 hB _) (fun _ h9 => h9) hown hK hP (lo_in hL t_M (by decide)) eM rfl 27 (by decide) (wd_974 hB _) rfl d_M_work_94 ?_
              refine lv_aload_n hx hb d_M_work_97 rfl (lv_at hl 2 rfl) ?_
              refine pf_get (v := .ref (g.lk M 7)) (C := "BigRunnerModel") (T := FT10) (N := 45) hx hb (hw10 hB _) (fun _ h9 => h9) hown hK hP (lo_in hL t_M (by decide)) eM rfl 7 (by decide) (wd_954 hB _) rfl d_M_work_98 ?_
              refine lv_iload_n hx hb d_M_work_101 rfl (lv_at hl 3 rfl) ?_
              refine pf_iald (i := p9) hx hb hK hP (lo_in hL (lo_k11_7 hL _ t_M) (by decide)) eA (lo_t44 hL _ (lo_k11_7 hL _ t_M)) (by omega) (by decide) d_M_work_102 ?_
              refine lv_topi (fun z_ hz_ => ?_)
              obtain rfl : z_ = nI v := hz_.trans hv
              refine pf_iald (i := v) hx hb hK hP (lo_in hL (lo_k11_27 hL _ t_M) (by decide)) eVS (lo_t59 hL _ (lo_k11_27 hL _ t_M)) (by omega) (by decide) d_M_work_103 ?_
              refine pf_iast (i := mtp) hx hb hK hP hD hS (lo_in hL (lo_k11_31 hL _ t_M) (by decide)) eSI (lo_t63 hL _ (lo_k11_31 hL _ t_M)) (by omega) (by decide) d_M_work_104 (fun f32 H locs e33 k34 hP hD hS => ?_)
              have eM := (k34 M (tg_ne t_M (lo_k11_31 hL _ t_M) (by decide))).trans eM
              have eC := (k34 (g.lk M 6) (tg_ne (lo_k11_6 hL _ t_M) (lo_k11_31 hL _ t_M) (by decide))).trans eC
              have eA := (k34 (g.lk M 7) (tg_ne (lo_k11_7 hL _ t_M) (lo_k11_31 hL _ t_M) (by decide))).trans eA
              have eRE := (k34 (g.lk M 33) (tg_ne (lo_k11_33 hL _ t_M) (lo_k11_31 hL _ t_M) (by decide))).trans eRE
              have eRS := (k34 (g.lk M 34) (tg_ne (lo_k11_34 hL _ t_M) (lo_k11_31 hL _ t_M) (by decide))).trans eRS
              have eVL := (k34 (g.lk M 26) (tg_ne (lo_k11_26 hL _ t_M) (lo_k11_31 hL _ t_M) (by decide))).trans eVL
              have eVS := (k34 (g.lk M 27) (tg_ne (lo_k11_27 hL _ t_M) (lo_k11_31 hL _ t_M) (by decide))).trans eVS
              have e28 := (k34 (g.lk M 30) (tg_ne (lo_k11_30 hL _ t_M) (lo_k11_31 hL _ t_M) (by decide))).trans e28
              have hu := hu.st k34 (lo_k11_31 hL _ t_M) (by decide)
              have hk35 : ∀ b, b ≠ (g.lk M 31) → f32 b = f24 b := k34
              refine lv_aload_n hx hb d_M_work_105 rfl (lv_at hl 2 rfl) ?_
              refine lv_dup hx hb d_M_work_106 rfl ?_
              refine pf_get (v := .int (nI mtp)) (C := "BigRunnerModel") (T := FT10) (N := 45) hx hb (hw10 hB _) (fun _ h9 => h9) hown hK hP (lo_in hL t_M (by decide)) eM rfl 32 (by decide) (wd_979 hB _) rfl d_M_work_107 ?_
              refine lv_iconst (v := nI 1) hx hb d_M_work_110 (by decide) ?_
              refine pf_iaddN (x := mtp) (y := 1) hx hb d_M_work_111 ?_
              have hI36 := iv_1 hI29 hL (lo_k11_31 hL _ t_M) (by decide) hk35 (oc_63.mk (lo_k11_31 hL _ t_M) (⟨_, e33⟩))
              refine pf_put (v := .int (nI (mtp + 1))) (ty := .int) (fs' := [.int mth, .ref (g.lk M 1), .int (nI mn), .ref (g.lk M 3), .ref (g.lk M 4), .int (nI mdr), .ref (g.lk M 6), .ref (g.lk M 7), .ref (g.lk M 8), .int (nI msz), .int (nI mix), .int (nI mdp), .ref (g.lk M 12), .int (nI mwt), .ref (g.lk M 14), .ref (g.lk M 15), .int (nI mop), .ref (g.lk M 17), .ref (g.lk M 18), .ref (g.lk M 19), .ref (g.lk M 20), .ref (g.lk M 21), .ref (g.lk M 22), .ref (g.lk M 23), .ref (g.lk M 24), .ref (g.lk M 25), .ref (g.lk M 26), .ref (g.lk M 27), .ref (g.lk M 28), .ref (g.lk M 29), .ref (g.lk M 30), .ref (g.lk M 31), .int (nI (mtp + 1)), .ref (g.lk M 33), .ref (g.lk M 34), .ref (g.lk M 35), .int (nI mwa), .int (nI mgi), .int (nI mpc), .int (nI mst), .int (nI mtr), .int (nI msp), .int mma, .int mlg, .int mdu]) (C := "BigRunnerModel") (T := FT10) (N := 45) hx hb (hw10 hB _) (fun _ h9 => h9) TY10 ok10 nm10 hown hK hP hD hS (lo_in hL t_M (by decide)) eM rfl 32 (by decide) (wd_979 hB _) rfl (by decide +kernel) rfl rfl (Nat.le_of_ble_eq_true rfl) rfl d_M_work_112 (fun f37 H locs e38 k39 hP hD hS => ?_)
              have eC := (k39 (g.lk M 6) (tg_ne (lo_k11_6 hL _ t_M) t_M (by decide))).trans eC
              have eA := (k39 (g.lk M 7) (tg_ne (lo_k11_7 hL _ t_M) t_M (by decide))).trans eA
              have eRE := (k39 (g.lk M 33) (tg_ne (lo_k11_33 hL _ t_M) t_M (by decide))).trans eRE
              have eRS := (k39 (g.lk M 34) (tg_ne (lo_k11_34 hL _ t_M) t_M (by decide))).trans eRS
              have eVL := (k39 (g.lk M 26) (tg_ne (lo_k11_26 hL _ t_M) t_M (by decide))).trans eVL
              have eVS := (k39 (g.lk M 27) (tg_ne (lo_k11_27 hL _ t_M) t_M (by decide))).trans eVS
              have e28 := (k39 (g.lk M 30) (tg_ne (lo_k11_30 hL _ t_M) t_M (by decide))).trans e28
              have e33 := (k39 (g.lk M 31) (tg_ne (lo_k11_31 hL _ t_M) t_M (by decide))).trans e33
              have hu := hu.st k39 t_M (by decide)
              have hk40 : ∀ b, b ≠ M → f37 b = f32 b := k39
              have hI41 := iv_1 hI36 hL t_M (by decide) hk40 (oc_11.mk t_M (⟨mth, mn, mdr, msz, mix, mdp, mwt, mop, (mtp + 1), mwa, mgi, mpc, mst, mtr, msp, mma, mlg, mdu, e38, (by omega), (by omega), (by omega), (by omega), (by omega), (by omega), (by omega), (by omega), (by omega), (by omega), (by omega), (by omega), (by omega), (by omega), hmb14⟩))
              exact pe_vret hx hb hr hlocks hK hP hD hS d_M_work_115 ⟨⟨(mtp + 1), mma, mlg, mtr, by omega, (by rw [hwE]; exact htr0), (fun _ => by rw [hwE]; show mtp + 1 = V.length + 1; omega), e38⟩, ⟨_, _, _, _, e28, e33, eRE, eRS, hc, c6RE, c6RS, (fun _ => by rw [hwE]; exact ⟨by rw [← htp]; exact SV_cp (hVR v (hw1 hwE)) (fun i9 hi9 => hcp i9 (by omega)) (upd_at _ _ _), SVS_SF hsf (fun j9 hj9 => upd_ne _ _ hj9) V (by omega) hSV⟩)⟩, hI41, hu⟩
            · skip
              replace b31 := mt (nI_leI (a := 20) (b := i) (by omega) (by omega)).mpr b31
              refine lv_aload_n hx hb d_M_work_49 rfl (lv_at hl 2 rfl) ?_
              refine pf_get (v := .ref (g.lk M 30)) (C := "BigRunnerModel") (T := FT10) (N := 45) hx hb (hw10 hB _) (fun _ h9 => h9) hown hK hP (lo_in hL t_M (by decide)) eM rfl 30 (by decide) (wd_977 hB _) rfl d_M_work_50 ?_
              refine lv_bipush (v := nI 20) hx hb d_M_work_53 (by decide) ?_
              refine lv_aload_n hx hb d_M_work_55 rfl (lv_at hl 2 rfl) ?_
              refine pf_get (v := .int (nI mtp)) (C := "BigRunnerModel") (T := FT10) (N := 45) hx hb (hw10 hB _) (fun _ h9 => h9) hown hK hP (lo_in hL t_M (by decide)) eM rfl 32 (by decide) (wd_979 hB _) rfl d_M_work_56 ?_
              refine pf_imulN (x := 20) (y := mtp) hx hb d_M_work_59 ?_
              refine lv_iload_n hx hb d_M_work_60 rfl (lv_at hl 0 rfl) ?_
              refine pf_iaddN (x := 20 * mtp) (y := i) hx hb d_M_work_61 ?_
              refine lv_aload_n hx hb d_M_work_62 rfl (lv_at hl 2 rfl) ?_
              refine pf_get (v := .ref (g.lk M 26)) (C := "BigRunnerModel") (T := FT10) (N := 45) hx hb (hw10 hB _) (fun _ h9 => h9) hown hK hP (lo_in hL t_M (by decide)) eM rfl 26 (by decide) (wd_973 hB _) rfl d_M_work_63 ?_
              refine lv_bipush (v := nI 20) hx hb d_M_work_66 (by decide) ?_
              refine lv_aload_n hx hb d_M_work_68 rfl (lv_at hl 2 rfl) ?_
              refine pf_get (v := .ref (g.lk M 7)) (C := "BigRunnerModel") (T := FT10) (N := 45) hx hb (hw10 hB _) (fun _ h9 => h9) hown hK hP (lo_in hL t_M (by decide)) eM rfl 7 (by decide) (wd_954 hB _) rfl d_M_work_69 ?_
              refine lv_iload_n hx hb d_M_work_72 rfl (lv_at hl 3 rfl) ?_
              refine pf_iald (i := p9) hx hb hK hP (lo_in hL (lo_k11_7 hL _ t_M) (by decide)) eA (lo_t44 hL _ (lo_k11_7 hL _ t_M)) (by omega) (by decide) d_M_work_73 ?_
              refine lv_topi (fun z_ hz_ => ?_)
              obtain rfl : z_ = nI v := hz_.trans hv
              refine pf_imulN (x := 20) (y := v) hx hb d_M_work_74 ?_
              refine lv_iload_n hx hb d_M_work_75 rfl (lv_at hl 0 rfl) ?_
              refine pf_iaddN (x := 20 * v) (y := i) hx hb d_M_work_76 ?_
              refine pf_iald (i := (20 * v) + i) hx hb hK hP (lo_in hL (lo_k11_26 hL _ t_M) (by decide)) eVL (lo_t58 hL _ (lo_k11_26 hL _ t_M)) (by omega) (by decide) d_M_work_77 ?_
              have hd42 := dg6_lt c6VL (j := (20 * v) + i) (by omega)
              refine lv_topi (fun z_ hz_ => ?_)
              obtain rfl : z_ = nI (dg hVL ((20 * v) + i)) := hz_.trans (dg6_eq c6VL (by omega))
              refine pf_iast (i := (20 * mtp) + i) hx hb hK hP hD hS (lo_in hL (lo_k11_30 hL _ t_M) (by decide)) e28 (lo_t62 hL _ (lo_k11_30 hL _ t_M)) (by omega) (by decide) d_M_work_78 (fun f43 H locs e44 k45 hP hD hS => ?_)
              have eM := (k45 M (tg_ne t_M (lo_k11_30 hL _ t_M) (by decide))).trans eM
              have eC := (k45 (g.lk M 6) (tg_ne (lo_k11_6 hL _ t_M) (lo_k11_30 hL _ t_M) (by decide))).trans eC
              have eA := (k45 (g.lk M 7) (tg_ne (lo_k11_7 hL _ t_M) (lo_k11_30 hL _ t_M) (by decide))).trans eA
              have eSI := (k45 (g.lk M 31) (tg_ne (lo_k11_31 hL _ t_M) (lo_k11_30 hL _ t_M) (by decide))).trans eSI
              have eRE := (k45 (g.lk M 33) (tg_ne (lo_k11_33 hL _ t_M) (lo_k11_30 hL _ t_M) (by decide))).trans eRE
              have eRS := (k45 (g.lk M 34) (tg_ne (lo_k11_34 hL _ t_M) (lo_k11_30 hL _ t_M) (by decide))).trans eRS
              have eVL := (k45 (g.lk M 26) (tg_ne (lo_k11_26 hL _ t_M) (lo_k11_30 hL _ t_M) (by decide))).trans eVL
              have eVS := (k45 (g.lk M 27) (tg_ne (lo_k11_27 hL _ t_M) (lo_k11_30 hL _ t_M) (by decide))).trans eVS
              have hu := hu.st k45 (lo_k11_30 hL _ t_M) (by decide)
              have hv30 := hv30.st k45 (lo_k11_30 hL _ t_M) (by decide)
              have hk46 : ∀ b, b ≠ (g.lk M 30) → f43 b = f24 b := k45
              have c47 := lb6_upd (n := 1600) (i := (20 * mtp) + i) (v := dg hVL ((20 * v) + i)) hc (by omega)
              refine lv_iinc (k := 0) (v := nI (i + 1)) (lv' := [(3, .int (nI (i + 1))), (2, .int (nI 1)), (0, .ref M), (1, .int (nI p9))]) hx hb d_M_work_79 hl rfl (by rw [nI_succ]; rfl) (by decide) rfl (fun ls hl => ?_)
              refine lv_goto (tgt := 43) hx hb d_M_work_82 (by decide) ?_
              have hI48 := iv_1 hI29 hL (lo_k11_30 hL _ t_M) (by decide) hk46 (oc_62.mk (lo_k11_30 hL _ t_M) (⟨_, e44⟩))
              exact ih26 (i + 1) (upd h ((20 * mtp) + i) ((nI (dg hVL ((20 * v) + i))))) f43 H locs ls (by omega) (by omega) c47 (fun j hj => by rcases Nat.lt_or_ge j i with q3 | q3; rw [dg_ne (by omega)]; exact hcp j q3; obtain rfl : j = i := (by omega); exact dg_at (by omega)) (SF_u hsf (by omega)) e44 hI48 hv30 hl hP hD hS
        exact lp23 21 0 hLI f s.heap [] ls (by omega) (by omega) c6LI (fun j hj => absurd hj (by omega)) SF_rf eLI hI un.rf hl hP hD hS
    · skip
      replace b21 := (nI_eq (a := 1) (b := 0) (by omega) (by omega)).mp b21
      exfalso; omega
  · skip
    refine lv_topi (fun z_ hz_ => ?_)
    obtain rfl : z_ = nI 2 := hz_.trans (congrArg nI hwE)
    have hl : lv_has ls 6 [(2, .int (nI 2)), (0, .ref M), (1, .int (nI p9))] := by rw [hwE] at hl; exact hl
    have z2 := hw2 (by omega) (by omega)
    obtain ⟨y9, x9, S9, hVE⟩ : ∃ y x S, V = y :: x :: S := by
      cases V with
      | nil => (exfalso; have y9 : mtp = 0 := htp; omega)
      | cons y V' =>
        cases V' with
        | nil => (exfalso; have y9 : mtp = 0 + 1 := htp; omega)
        | cons x S => exact ⟨y, x, S, rfl⟩
    rw [hVE] at htp hSV
    have htp9 : mtp = S9.length + 1 + 1 := htp
    obtain ⟨hy9, hx9, hS9⟩ := hSV
    have hy8 : SV hLI hSI (mtp - 1) y9 := by rw [show mtp - 1 = S9.length + 1 by omega]; exact hy9
    have hx8 : SV hLI hSI (mtp - 1 - 1) x9 := by rw [show mtp - 1 - 1 = S9.length by omega]; exact hx9
    have hxl : x9.natAbs < T12 := SV_lt c6LI (by omega) hx8
    refine lv_if_ne (tgt := 36) hx hb d_M_work_8 (by decide) (fun b49 => ?_) (fun b49 => ?_)
    · skip
      replace b49 := mt (nI_eq (a := 2) (b := 0) (by omega) (by omega)).mpr b49
      refine lv_iload_n hx hb d_M_work_36 rfl (lv_at hl 0 rfl) ?_
      refine lv_iconst (v := nI 1) hx hb d_M_work_37 (by decide) ?_
      refine lv_icmp_ne (tgt := 116) hx hb d_M_work_38 (by decide) (fun b50 => ?_) (fun b50 => ?_)
      · skip
        replace b50 := mt (nI_eq (a := 2) (b := 1) (by omega) (by omega)).mpr b50
        refine lv_aload_n hx hb d_M_work_116 rfl (lv_at hl 1 rfl) ?_
        refine lv_dup hx hb d_M_work_117 rfl ?_
        refine pf_get (v := .int mma) (C := "BigRunnerModel") (T := FT10) (N := 45) hx hb (hw10 hB _) (fun _ h9 => h9) hown hK hP (lo_in hL t_M (by decide)) eM rfl 42 (by decide) (wd_989 hB _) rfl d_M_work_118 ?_
        have jn51 : ∀ (bj52 : Int32) (H : Heap) (locs : List Loc), va_P g.D vcl (va_pl g.LP f) H → va_D (pc_A g s.heap.size) (va_pl g.LP f) → va_S (pc_A g s.heap.size) s.heap H locs → W p l e ({ frames := 3, cells := 0, slots := 0, locals := 78 }) s m args below meth c H locs 0 0 (MQ below (va_Qv (fun f1 => (∃ (tp1 : Nat) (ma1 : Int32) (lg1 : Int32) (tr1 : Nat), (tp1 ≤ 80) ∧ (tr1 = (ev1 vr w v V).1) ∧ ((ev1 vr w v V).1 = 0 → tp1 = (ev1 vr w v V).2.length) ∧ f1 M = .inr (10, [.int mth, .ref (g.lk M 1), .int (nI mn), .ref (g.lk M 3), .ref (g.lk M 4), .int (nI mdr), .ref (g.lk M 6), .ref (g.lk M 7), .ref (g.lk M 8), .int (nI msz), .int (nI mix), .int (nI mdp), .ref (g.lk M 12), .int (nI mwt), .ref (g.lk M 14), .ref (g.lk M 15), .int (nI mop), .ref (g.lk M 17), .ref (g.lk M 18), .ref (g.lk M 19), .ref (g.lk M 20), .ref (g.lk M 21), .ref (g.lk M 22), .ref (g.lk M 23), .ref (g.lk M 24), .ref (g.lk M 25), .ref (g.lk M 26), .ref (g.lk M 27), .ref (g.lk M 28), .ref (g.lk M 29), .ref (g.lk M 30), .ref (g.lk M 31), .int (nI tp1), .ref (g.lk M 33), .ref (g.lk M 34), .ref (g.lk M 35), .int (nI mwa), .int (nI mgi), .int (nI mpc), .int (nI mst), .int (nI tr1), .int (nI msp), .int ma1, .int lg1, .int mdu])) ∧ (∃ hl hs hr hq : Nat → Int32, f1 (g.lk M 30) = .inl (g.ac (g.lk M 30), 1600, .inl hl) ∧ f1 (g.lk M 31) = .inl (g.ac (g.lk M 31), 80, .inl hs) ∧ f1 (g.lk M 33) = .inl (g.ac (g.lk M 33), 44, .inl hr) ∧ f1 (g.lk M 34) = .inl (g.ac (g.lk M 34), 44, .inl hq) ∧ C6 1600 hl ∧ C6 44 hr ∧ C6 44 hq ∧ ((ev1 vr w v V).1 = 0 → SVS hl hs (ev1 vr w v V).2)) ∧ (IV g f1) ∧ (un [11, 62, 63, 64, 65] g f f1)) (pc_out g s.heap.size) (pc_A g s.heap.size)) args s 0 0 (pc_A g s.heap.size)) (F0 m 135 ls [.int bj52, .int mma, .ref M]) := by
          intro bj52 H locs hP hD hS
          refine lv_iadd hx hb d_M_work_135 ?_
          refine pf_put (v := .int (mma + bj52)) (ty := .int) (fs' := [.int mth, .ref (g.lk M 1), .int (nI mn), .ref (g.lk M 3), .ref (g.lk M 4), .int (nI mdr), .ref (g.lk M 6), .ref (g.lk M 7), .ref (g.lk M 8), .int (nI msz), .int (nI mix), .int (nI mdp), .ref (g.lk M 12), .int (nI mwt), .ref (g.lk M 14), .ref (g.lk M 15), .int (nI mop), .ref (g.lk M 17), .ref (g.lk M 18), .ref (g.lk M 19), .ref (g.lk M 20), .ref (g.lk M 21), .ref (g.lk M 22), .ref (g.lk M 23), .ref (g.lk M 24), .ref (g.lk M 25), .ref (g.lk M 26), .ref (g.lk M 27), .ref (g.lk M 28), .ref (g.lk M 29), .ref (g.lk M 30), .ref (g.lk M 31), .int (nI mtp), .ref (g.lk M 33), .ref (g.lk M 34), .ref (g.lk M 35), .int (nI mwa), .int (nI mgi), .int (nI mpc), .int (nI mst), .int (nI mtr), .int (nI msp), .int (mma + bj52), .int mlg, .int mdu]) (C := "BigRunnerModel") (T := FT10) (N := 45) hx hb (hw10 hB _) (fun _ h9 => h9) TY10 ok10 nm10 hown hK hP hD hS (lo_in hL t_M (by decide)) eM rfl 42 (by decide) (wd_989 hB _) rfl (by decide +kernel) rfl rfl (Nat.le_of_ble_eq_true rfl) rfl d_M_work_136 (fun f53 H locs e54 k55 hP hD hS => ?_)
          have eC := (k55 (g.lk M 6) (tg_ne (lo_k11_6 hL _ t_M) t_M (by decide))).trans eC
          have eA := (k55 (g.lk M 7) (tg_ne (lo_k11_7 hL _ t_M) t_M (by decide))).trans eA
          have eLI := (k55 (g.lk M 30) (tg_ne (lo_k11_30 hL _ t_M) t_M (by decide))).trans eLI
          have eSI := (k55 (g.lk M 31) (tg_ne (lo_k11_31 hL _ t_M) t_M (by decide))).trans eSI
          have eRE := (k55 (g.lk M 33) (tg_ne (lo_k11_33 hL _ t_M) t_M (by decide))).trans eRE
          have eRS := (k55 (g.lk M 34) (tg_ne (lo_k11_34 hL _ t_M) t_M (by decide))).trans eRS
          have eVL := (k55 (g.lk M 26) (tg_ne (lo_k11_26 hL _ t_M) t_M (by decide))).trans eVL
          have eVS := (k55 (g.lk M 27) (tg_ne (lo_k11_27 hL _ t_M) t_M (by decide))).trans eVS
          have hu := hu.st k55 t_M (by decide)
          have hk56 : ∀ b, b ≠ M → f53 b = f b := k55
          refine lv_aload_n hx hb d_M_work_139 rfl (lv_at hl 1 rfl) ?_
          refine lv_dup hx hb d_M_work_140 rfl ?_
          refine pf_get (v := .int mlg) (C := "BigRunnerModel") (T := FT10) (N := 45) hx hb (hw10 hB _) (fun _ h9 => h9) hown hK hP (lo_in hL t_M (by decide)) e54 rfl 43 (by decide) (wd_990 hB _) rfl d_M_work_141 ?_
          have jn57 : ∀ (bj58 : Int32) (H : Heap) (locs : List Loc), va_P g.D vcl (va_pl g.LP f53) H → va_D (pc_A g s.heap.size) (va_pl g.LP f53) → va_S (pc_A g s.heap.size) s.heap H locs → W p l e ({ frames := 3, cells := 0, slots := 0, locals := 78 }) s m args below meth c H locs 0 0 (MQ below (va_Qv (fun f1 => (∃ (tp1 : Nat) (ma1 : Int32) (lg1 : Int32) (tr1 : Nat), (tp1 ≤ 80) ∧ (tr1 = (ev1 vr w v V).1) ∧ ((ev1 vr w v V).1 = 0 → tp1 = (ev1 vr w v V).2.length) ∧ f1 M = .inr (10, [.int mth, .ref (g.lk M 1), .int (nI mn), .ref (g.lk M 3), .ref (g.lk M 4), .int (nI mdr), .ref (g.lk M 6), .ref (g.lk M 7), .ref (g.lk M 8), .int (nI msz), .int (nI mix), .int (nI mdp), .ref (g.lk M 12), .int (nI mwt), .ref (g.lk M 14), .ref (g.lk M 15), .int (nI mop), .ref (g.lk M 17), .ref (g.lk M 18), .ref (g.lk M 19), .ref (g.lk M 20), .ref (g.lk M 21), .ref (g.lk M 22), .ref (g.lk M 23), .ref (g.lk M 24), .ref (g.lk M 25), .ref (g.lk M 26), .ref (g.lk M 27), .ref (g.lk M 28), .ref (g.lk M 29), .ref (g.lk M 30), .ref (g.lk M 31), .int (nI tp1), .ref (g.lk M 33), .ref (g.lk M 34), .ref (g.lk M 35), .int (nI mwa), .int (nI mgi), .int (nI mpc), .int (nI mst), .int (nI tr1), .int (nI msp), .int ma1, .int lg1, .int mdu])) ∧ (∃ hl hs hr hq : Nat → Int32, f1 (g.lk M 30) = .inl (g.ac (g.lk M 30), 1600, .inl hl) ∧ f1 (g.lk M 31) = .inl (g.ac (g.lk M 31), 80, .inl hs) ∧ f1 (g.lk M 33) = .inl (g.ac (g.lk M 33), 44, .inl hr) ∧ f1 (g.lk M 34) = .inl (g.ac (g.lk M 34), 44, .inl hq) ∧ C6 1600 hl ∧ C6 44 hr ∧ C6 44 hq ∧ ((ev1 vr w v V).1 = 0 → SVS hl hs (ev1 vr w v V).2)) ∧ (IV g f1) ∧ (un [11, 62, 63, 64, 65] g f f1)) (pc_out g s.heap.size) (pc_A g s.heap.size)) args s 0 0 (pc_A g s.heap.size)) (F0 m 158 ls [.int bj58, .int mlg, .ref M]) := by
            intro bj58 H locs hP hD hS
            refine lv_iadd hx hb d_M_work_158 ?_
            refine pf_put (v := .int (mlg + bj58)) (ty := .int) (fs' := [.int mth, .ref (g.lk M 1), .int (nI mn), .ref (g.lk M 3), .ref (g.lk M 4), .int (nI mdr), .ref (g.lk M 6), .ref (g.lk M 7), .ref (g.lk M 8), .int (nI msz), .int (nI mix), .int (nI mdp), .ref (g.lk M 12), .int (nI mwt), .ref (g.lk M 14), .ref (g.lk M 15), .int (nI mop), .ref (g.lk M 17), .ref (g.lk M 18), .ref (g.lk M 19), .ref (g.lk M 20), .ref (g.lk M 21), .ref (g.lk M 22), .ref (g.lk M 23), .ref (g.lk M 24), .ref (g.lk M 25), .ref (g.lk M 26), .ref (g.lk M 27), .ref (g.lk M 28), .ref (g.lk M 29), .ref (g.lk M 30), .ref (g.lk M 31), .int (nI mtp), .ref (g.lk M 33), .ref (g.lk M 34), .ref (g.lk M 35), .int (nI mwa), .int (nI mgi), .int (nI mpc), .int (nI mst), .int (nI mtr), .int (nI msp), .int (mma + bj52), .int (mlg + bj58), .int mdu]) (C := "BigRunnerModel") (T := FT10) (N := 45) hx hb (hw10 hB _) (fun _ h9 => h9) TY10 ok10 nm10 hown hK hP hD hS (lo_in hL t_M (by decide)) e54 rfl 43 (by decide) (wd_990 hB _) rfl (by decide +kernel) rfl rfl (Nat.le_of_ble_eq_true rfl) rfl d_M_work_159 (fun f59 H locs e60 k61 hP hD hS => ?_)
            have eC := (k61 (g.lk M 6) (tg_ne (lo_k11_6 hL _ t_M) t_M (by decide))).trans eC
            have eA := (k61 (g.lk M 7) (tg_ne (lo_k11_7 hL _ t_M) t_M (by decide))).trans eA
            have eLI := (k61 (g.lk M 30) (tg_ne (lo_k11_30 hL _ t_M) t_M (by decide))).trans eLI
            have eSI := (k61 (g.lk M 31) (tg_ne (lo_k11_31 hL _ t_M) t_M (by decide))).trans eSI
            have eRE := (k61 (g.lk M 33) (tg_ne (lo_k11_33 hL _ t_M) t_M (by decide))).trans eRE
            have eRS := (k61 (g.lk M 34) (tg_ne (lo_k11_34 hL _ t_M) t_M (by decide))).trans eRS
            have eVL := (k61 (g.lk M 26) (tg_ne (lo_k11_26 hL _ t_M) t_M (by decide))).trans eVL
            have eVS := (k61 (g.lk M 27) (tg_ne (lo_k11_27 hL _ t_M) t_M (by decide))).trans eVS
            have hu := hu.st k61 t_M (by decide)
            have hk62 : ∀ b, b ≠ M → f59 b = f b := fun b q0 => (k61 b q0).trans (hk56 b q0)
            refine lv_iload_n hx hb d_M_work_162 rfl (lv_at hl 0 rfl) ?_
            refine lv_bipush (v := nI 7) hx hb d_M_work_163 (by decide) ?_
            refine lv_icmp_ne (tgt := 192) hx hb d_M_work_165 (by decide) (fun b63 => ?_) (fun b63 => ?_)
            · skip
              replace b63 := mt (nI_eq (a := 2) (b := 7) (by omega) (by omega)).mpr b63
              refine lv_aload_n hx hb d_M_work_192 rfl (lv_at hl 1 rfl) ?_
              refine lv_dup hx hb d_M_work_193 rfl ?_
              refine pf_get (v := .int (nI mtp)) (C := "BigRunnerModel") (T := FT10) (N := 45) hx hb (hw10 hB _) (fun _ h9 => h9) hown hK hP (lo_in hL t_M (by decide)) e60 rfl 32 (by decide) (wd_979 hB _) rfl d_M_work_194 ?_
              refine lv_iconst (v := nI 1) hx hb d_M_work_197 (by decide) ?_
              refine pf_isubN (x := mtp) (y := 1) hx hb (by omega) d_M_work_198 ?_
              refine pf_put (v := .int (nI (mtp - 1))) (ty := .int) (fs' := [.int mth, .ref (g.lk M 1), .int (nI mn), .ref (g.lk M 3), .ref (g.lk M 4), .int (nI mdr), .ref (g.lk M 6), .ref (g.lk M 7), .ref (g.lk M 8), .int (nI msz), .int (nI mix), .int (nI mdp), .ref (g.lk M 12), .int (nI mwt), .ref (g.lk M 14), .ref (g.lk M 15), .int (nI mop), .ref (g.lk M 17), .ref (g.lk M 18), .ref (g.lk M 19), .ref (g.lk M 20), .ref (g.lk M 21), .ref (g.lk M 22), .ref (g.lk M 23), .ref (g.lk M 24), .ref (g.lk M 25), .ref (g.lk M 26), .ref (g.lk M 27), .ref (g.lk M 28), .ref (g.lk M 29), .ref (g.lk M 30), .ref (g.lk M 31), .int (nI (mtp - 1)), .ref (g.lk M 33), .ref (g.lk M 34), .ref (g.lk M 35), .int (nI mwa), .int (nI mgi), .int (nI mpc), .int (nI mst), .int (nI mtr), .int (nI msp), .int (mma + bj52), .int (mlg + bj58), .int mdu]) (C := "BigRunnerModel") (T := FT10) (N := 45) hx hb (hw10 hB _) (fun _ h9 => h9) TY10 ok10 nm10 hown hK hP hD hS (lo_in hL t_M (by decide)) e60 rfl 32 (by decide) (wd_979 hB _) rfl (by decide +kernel) rfl rfl (Nat.le_of_ble_eq_true rfl) rfl d_M_work_199 (fun f64 H locs e65 k66 hP hD hS => ?_)
              have eC := (k66 (g.lk M 6) (tg_ne (lo_k11_6 hL _ t_M) t_M (by decide))).trans eC
              have eA := (k66 (g.lk M 7) (tg_ne (lo_k11_7 hL _ t_M) t_M (by decide))).trans eA
              have eLI := (k66 (g.lk M 30) (tg_ne (lo_k11_30 hL _ t_M) t_M (by decide))).trans eLI
              have eSI := (k66 (g.lk M 31) (tg_ne (lo_k11_31 hL _ t_M) t_M (by decide))).trans eSI
              have eRE := (k66 (g.lk M 33) (tg_ne (lo_k11_33 hL _ t_M) t_M (by decide))).trans eRE
              have eRS := (k66 (g.lk M 34) (tg_ne (lo_k11_34 hL _ t_M) t_M (by decide))).trans eRS
              have eVL := (k66 (g.lk M 26) (tg_ne (lo_k11_26 hL _ t_M) t_M (by decide))).trans eVL
              have eVS := (k66 (g.lk M 27) (tg_ne (lo_k11_27 hL _ t_M) t_M (by decide))).trans eVS
              have hu := hu.st k66 t_M (by decide)
              have hk67 : ∀ b, b ≠ M → f64 b = f b := fun b q0 => (k66 b q0).trans (hk62 b q0)
              refine lv_aload_n hx hb d_M_work_202 rfl (lv_at hl 1 rfl) ?_
              refine pf_get (v := .int (nI (mtp - 1))) (C := "BigRunnerModel") (T := FT10) (N := 45) hx hb (hw10 hB _) (fun _ h9 => h9) hown hK hP (lo_in hL t_M (by decide)) e65 rfl 32 (by decide) (wd_979 hB _) rfl d_M_work_203 ?_
              refine lv_iconst (v := nI 1) hx hb d_M_work_206 (by decide) ?_
              refine pf_isubN (x := mtp - 1) (y := 1) hx hb (by omega) d_M_work_207 ?_
              refine lv_istore_n (lv' := [(3, .int (nI ((mtp - 1) - 1))), (2, .int (nI 2)), (0, .ref M), (1, .int (nI p9))]) hx hb d_M_work_208 rfl hl (by decide) rfl (fun ls hl => ?_)
              refine lv_iload_n hx hb d_M_work_209 rfl (lv_at hl 1 rfl) ?_
              refine lv_iconst (v := nI 4) hx hb d_M_work_210 (by decide) ?_
              refine lv_icmp_le (tgt := 232) hx hb d_M_work_211 (by decide) (fun b68 => ?_) (fun b68 => ?_)
              · skip
                replace b68 := (nI_leI (a := 2) (b := 4) (by omega) (by omega)).mp b68
                refine lv_aload_n hx hb d_M_work_232 rfl (lv_at hl 2 rfl) ?_
                have hI69 := iv_1 hI hL t_M (by decide) hk67 (oc_11.mk t_M (⟨mth, mn, mdr, msz, mix, mdp, mwt, mop, (mtp - 1), mwa, mgi, mpc, mst, mtr, msp, ((mma + bj52)), ((mlg + bj58)), mdu, e65, (by omega), (by omega), (by omega), (by omega), (by omega), (by omega), (by omega), (by omega), (by omega), (by omega), (by omega), (by omega), (by omega), (by omega), hmb14⟩))
                refine pcc_v (va_runV (C := "BigRunnerModel") (As := []) (rest := []) ⟨hx, hb, hml, hown, tb_nil⟩ (w_clear l g H.size f64 M hRE hRS hL t_M hI69 eRE eRS c6RE c6RS) ⟨(callB_of 0 (tb_one (wd_1224 hB _)) tb_good1 rfl rfl rfl (wd_82 hB _) (wd_1221 hB _) (by decide +kernel) ⟨Nat.le_of_ble_eq_true rfl, Nat.le_of_ble_eq_true rfl⟩), (wd_1223 hB _), (wd_62 hB _)⟩ ⟨pe_bl, pg_recv (ci := 10) hK hP (lo_in hL t_M (by decide)) e65 rfl, pe_pre hB hK hP hD⟩ rfl rfl hl.1 rfl (lv_room (Nat.le_of_ble_eq_true rfl)) d_M_work_233 ⟨Nat.le_of_ble_eq_true rfl, Nat.le_of_ble_eq_true rfl⟩) hS (fun f71 H locs hq72 hP hD hS => ?_)
                obtain ⟨cl_73, hI1_74, hk1_75⟩ := hq72
                have hu := hu.st2 hk1_75 (lo_k11_33 hL _ t_M) (lo_k11_34 hL _ t_M) (by decide) (by decide)
                have eC := (hk1_75 (g.lk M 6) (tg_ne (lo_k11_6 hL _ t_M) (lo_k11_33 hL _ t_M) (by decide)) (tg_ne (lo_k11_6 hL _ t_M) (lo_k11_34 hL _ t_M) (by decide))).trans eC
                have eA := (hk1_75 (g.lk M 7) (tg_ne (lo_k11_7 hL _ t_M) (lo_k11_33 hL _ t_M) (by decide)) (tg_ne (lo_k11_7 hL _ t_M) (lo_k11_34 hL _ t_M) (by decide))).trans eA
                have eLI := (hk1_75 (g.lk M 30) (tg_ne (lo_k11_30 hL _ t_M) (lo_k11_33 hL _ t_M) (by decide)) (tg_ne (lo_k11_30 hL _ t_M) (lo_k11_34 hL _ t_M) (by decide))).trans eLI
                have eSI := (hk1_75 (g.lk M 31) (tg_ne (lo_k11_31 hL _ t_M) (lo_k11_33 hL _ t_M) (by decide)) (tg_ne (lo_k11_31 hL _ t_M) (lo_k11_34 hL _ t_M) (by decide))).trans eSI
                have eVL := (hk1_75 (g.lk M 26) (tg_ne (lo_k11_26 hL _ t_M) (lo_k11_33 hL _ t_M) (by decide)) (tg_ne (lo_k11_26 hL _ t_M) (lo_k11_34 hL _ t_M) (by decide))).trans eVL
                have eVS := (hk1_75 (g.lk M 27) (tg_ne (lo_k11_27 hL _ t_M) (lo_k11_33 hL _ t_M) (by decide)) (tg_ne (lo_k11_27 hL _ t_M) (lo_k11_34 hL _ t_M) (by decide))).trans eVS
                have e65 := (hk1_75 M (tg_ne t_M (lo_k11_33 hL _ t_M) (by decide)) (tg_ne t_M (lo_k11_34 hL _ t_M) (by decide))).trans e65
                obtain ⟨hr_76, hq_77, e78, e79, c80, c81, hz82, hz83⟩ := cl_73
                refine lv_iconst (v := nI 0) hx hb d_M_work_236 (by decide) ?_
                refine lv_istore (lv' := [(4, .int (nI 0)), (3, .int (nI ((mtp - 1) - 1))), (2, .int (nI 2)), (0, .ref M), (1, .int (nI p9))]) hx hb d_M_work_237 hl (by decide) rfl (fun ls hl => ?_)
                refine lv_iload_n hx hb d_M_work_239 rfl (lv_at hl 2 rfl) ?_
                refine lv_iconst (v := nI 5) hx hb d_M_work_240 (by decide) ?_
                refine lv_icmp_ge (tgt := 285) hx hb d_M_work_241 (by decide) (fun b84 => ?_) (fun b84 => ?_)
                · skip
                  replace b84 := (nI_leI (a := 5) (b := 2) (by omega) (by omega)).mp b84
                  exfalso; omega
                · skip
                  replace b84 := mt (nI_leI (a := 5) (b := 2) (by omega) (by omega)).mpr b84
                  refine lv_iload_n hx hb d_M_work_244 rfl (lv_at hl 2 rfl) ?_
                  refine lv_iconst (v := nI 4) hx hb d_M_work_245 (by decide) ?_
                  refine lv_icmp_ne (tgt := 261) hx hb d_M_work_246 (by decide) (fun b85 => ?_) (fun b85 => ?_)
                  · skip
                    replace b85 := mt (nI_eq (a := 2) (b := 4) (by omega) (by omega)).mpr b85
                    refine lv_aload_n hx hb d_M_work_261 rfl (lv_at hl 3 rfl) ?_
                    refine lv_iload_n hx hb d_M_work_262 rfl (lv_at hl 1 rfl) ?_
                    refine lv_aload_n hx hb d_M_work_263 rfl (lv_at hl 3 rfl) ?_
                    refine pf_get (v := .int (nI (mtp - 1))) (C := "BigRunnerModel") (T := FT10) (N := 45) hx hb (hw10 hB _) (fun _ h9 => h9) hown hK hP (lo_in hL t_M (by decide)) e65 rfl 32 (by decide) (wd_979 hB _) rfl d_M_work_264 ?_
                    refine lv_iload_n hx hb d_M_work_267 rfl (lv_at hl 2 rfl) ?_
                    refine lv_iconst (v := nI 2) hx hb d_M_work_268 (by decide) ?_
                    refine lv_icmp_ne (tgt := 276) hx hb d_M_work_269 (by decide) (fun b86 => ?_) (fun b86 => ?_)
                    · skip
                      replace b86 := mt (nI_eq (a := 2) (b := 2) (by omega) (by omega)).mpr b86
                      exfalso; omega
                    · skip
                      replace b86 := (nI_eq (a := 2) (b := 2) (by omega) (by omega)).mp b86
                      refine lv_iconst (v := nI 1) hx hb d_M_work_272 (by decide) ?_
                      refine lv_goto (tgt := 277) hx hb d_M_work_273 (by decide) ?_
                      refine pcc_i (va_runV (C := "BigRunnerModel") (As := [.int (nI ((mtp - 1) - 1)), .int (nI (mtp - 1)), .int (nI 1)]) (rest := []) ⟨hx, hb, hml, hown, tb_nil⟩ (w_sump l g H.size f71 M (((mtp - 1) - 1)) ((mtp - 1)) x9 y9 hLI hSI hr_76 hL t_M hI1_74 eLI eSI e78 c6LI c80 (by omega) (by omega) hz82 hx8 hy8) ⟨(callB_of 3 (tb_one (wd_1237 hB _)) tb_good1 rfl rfl rfl (wd_82 hB _) (wd_1234 hB _) (by decide +kernel) ⟨Nat.le_of_ble_eq_true rfl, Nat.le_of_ble_eq_true rfl⟩), (wd_1236 hB _), (wd_65 hB _)⟩ ⟨pe_bl, pg_recv (ci := 10) hK hP (lo_in hL t_M (by decide)) e65 rfl, pe_pre hB hK hP hD⟩ rfl rfl hl.1 rfl (lv_room (Nat.le_of_ble_eq_true rfl)) d_M_work_277 ⟨Nat.le_of_ble_eq_true rfl, Nat.le_of_ble_eq_true rfl⟩) hS (fun r87 f88 H locs hq89 hP hD hS => ?_)
                      obtain ⟨re_90, hI1_91, hk1_92⟩ := hq89
                      have hu := hu.st hk1_92 (lo_k11_33 hL _ t_M) (by decide)
                      have eC := (hk1_92 (g.lk M 6) (tg_ne (lo_k11_6 hL _ t_M) (lo_k11_33 hL _ t_M) (by decide))).trans eC
                      have eA := (hk1_92 (g.lk M 7) (tg_ne (lo_k11_7 hL _ t_M) (lo_k11_33 hL _ t_M) (by decide))).trans eA
                      have eLI := (hk1_92 (g.lk M 30) (tg_ne (lo_k11_30 hL _ t_M) (lo_k11_33 hL _ t_M) (by decide))).trans eLI
                      have eSI := (hk1_92 (g.lk M 31) (tg_ne (lo_k11_31 hL _ t_M) (lo_k11_33 hL _ t_M) (by decide))).trans eSI
                      have eVL := (hk1_92 (g.lk M 26) (tg_ne (lo_k11_26 hL _ t_M) (lo_k11_33 hL _ t_M) (by decide))).trans eVL
                      have eVS := (hk1_92 (g.lk M 27) (tg_ne (lo_k11_27 hL _ t_M) (lo_k11_33 hL _ t_M) (by decide))).trans eVS
                      have e65 := (hk1_92 M (tg_ne t_M (lo_k11_33 hL _ t_M) (by decide))).trans e65
                      have e79 := (hk1_92 (g.lk M 34) (tg_ne (lo_k11_34 hL _ t_M) (lo_k11_33 hL _ t_M) (by decide))).trans e79
                      obtain ⟨hr_93, e94, c95, hsr96⟩ := re_90
                      refine lv_istore (lv' := [(4, .int r87), (3, .int (nI ((mtp - 1) - 1))), (2, .int (nI 2)), (0, .ref M), (1, .int (nI p9))]) hx hb d_M_work_280 hl (by decide) rfl (fun ls hl => ?_)
                      refine lv_goto (tgt := 362) hx hb d_M_work_282 (by decide) ?_
                      refine lv_aload_n hx hb d_M_work_362 rfl (lv_at hl 3 rfl) ?_
                      refine lv_aload_n hx hb d_M_work_363 rfl (lv_at hl 3 rfl) ?_
                      refine pf_get (v := .ref (g.lk M 33)) (C := "BigRunnerModel") (T := FT10) (N := 45) hx hb (hw10 hB _) (fun _ h9 => h9) hown hK hP (lo_in hL t_M (by decide)) e65 rfl 33 (by decide) (wd_980 hB _) rfl d_M_work_364 ?_
                      refine lv_iconst (v := nI 0) hx hb d_M_work_367 (by decide) ?_
                      refine lv_bipush (v := nI 44) hx hb d_M_work_368 (by decide) ?_
                      refine pcc_i (va_runS (As := [.ref (g.lk M 33), .int (nI 0), .int (nI 44)]) (rest := [.ref M]) ⟨hx, hb, hml, hown, tb_nil⟩ (w_digitsOf64 l g H.size f88 ((g.lk M 33)) 0 44 hr_93 hL (lo_k11_33 hL _ t_M) hI1_91.1 e94 c95 (by omega)) ⟨(callB_of 3 (tb_one (wd_1257 hB _)) tb_good1 rfl rfl rfl (wd_82 hB _) (wd_1255 hB _) (by decide +kernel) ⟨Nat.le_of_ble_eq_true rfl, Nat.le_of_ble_eq_true rfl⟩), (wd_1256 hB _)⟩ ⟨pe_bl, pe_pre hB hK hP hD⟩ rfl rfl hl.1 rfl (lv_room (Nat.le_of_ble_eq_true rfl)) d_M_work_370 ⟨Nat.le_of_ble_eq_true rfl, Nat.le_of_ble_eq_true rfl⟩) hS (fun r97 f98 H locs hq99 hP hD hS => ?_)
                      obtain ⟨dt_100, rfl⟩ := hq99
                      obtain ⟨kr101, hkr101_0, hkr101_1, rfl⟩ := dt_100
                      have hdf9 := dgt_fit hkr101_1
                      have hkz9 : kw (fun i => dg hr_93 (0 + i)) 44 = kw (dg hr_93) 44 := kw_eq (fun i _ => by rw [Nat.zero_add])
                      rw [hkz9, hsr96.1] at hdf9
                      refine lv_bipush (v := nI 120) hx hb d_M_work_373 (by decide) ?_
                      refine lv_icmp_le (tgt := 382) hx hb d_M_work_375 (by decide) (fun b102 => ?_) (fun b102 => ?_)
                      · skip
                        replace b102 := (nI_leI (a := kr101) (b := 120) (by omega) (by omega)).mp b102
                        have hfit9 : (x9 + y9).natAbs < T12 := by have z9 := mt hdf9.mpr (by omega); omega
                        refine lv_iconst (v := nI 0) hx hb d_M_work_382 (by decide) ?_
                        refine pf_put (v := .int (nI 0)) (ty := .int) (fs' := [.int mth, .ref (g.lk M 1), .int (nI mn), .ref (g.lk M 3), .ref (g.lk M 4), .int (nI mdr), .ref (g.lk M 6), .ref (g.lk M 7), .ref (g.lk M 8), .int (nI msz), .int (nI mix), .int (nI mdp), .ref (g.lk M 12), .int (nI mwt), .ref (g.lk M 14), .ref (g.lk M 15), .int (nI mop), .ref (g.lk M 17), .ref (g.lk M 18), .ref (g.lk M 19), .ref (g.lk M 20), .ref (g.lk M 21), .ref (g.lk M 22), .ref (g.lk M 23), .ref (g.lk M 24), .ref (g.lk M 25), .ref (g.lk M 26), .ref (g.lk M 27), .ref (g.lk M 28), .ref (g.lk M 29), .ref (g.lk M 30), .ref (g.lk M 31), .int (nI (mtp - 1)), .ref (g.lk M 33), .ref (g.lk M 34), .ref (g.lk M 35), .int (nI mwa), .int (nI mgi), .int (nI mpc), .int (nI mst), .int (nI 0), .int (nI msp), .int (mma + bj52), .int (mlg + bj58), .int mdu]) (C := "BigRunnerModel") (T := FT10) (N := 45) hx hb (hw10 hB _) (fun _ h9 => h9) TY10 ok10 nm10 hown hK hP hD hS (lo_in hL t_M (by decide)) e65 rfl 40 (by decide) (wd_987 hB _) rfl (by decide +kernel) rfl rfl (Nat.le_of_ble_eq_true rfl) rfl d_M_work_383 (fun f103 H locs e104 k105 hP hD hS => ?_)
                        have eC := (k105 (g.lk M 6) (tg_ne (lo_k11_6 hL _ t_M) t_M (by decide))).trans eC
                        have eA := (k105 (g.lk M 7) (tg_ne (lo_k11_7 hL _ t_M) t_M (by decide))).trans eA
                        have eLI := (k105 (g.lk M 30) (tg_ne (lo_k11_30 hL _ t_M) t_M (by decide))).trans eLI
                        have eSI := (k105 (g.lk M 31) (tg_ne (lo_k11_31 hL _ t_M) t_M (by decide))).trans eSI
                        have eVL := (k105 (g.lk M 26) (tg_ne (lo_k11_26 hL _ t_M) t_M (by decide))).trans eVL
                        have eVS := (k105 (g.lk M 27) (tg_ne (lo_k11_27 hL _ t_M) t_M (by decide))).trans eVS
                        have e79 := (k105 (g.lk M 34) (tg_ne (lo_k11_34 hL _ t_M) t_M (by decide))).trans e79
                        have e94 := (k105 (g.lk M 33) (tg_ne (lo_k11_33 hL _ t_M) t_M (by decide))).trans e94
                        have hu := hu.st k105 t_M (by decide)
                        have hk106 : ∀ b, b ≠ M → f103 b = f88 b := k105
                        refine lv_aload_n hx hb d_M_work_386 rfl (lv_at hl 3 rfl) ?_
                        refine pf_get (v := .int (nI 0)) (C := "BigRunnerModel") (T := FT10) (N := 45) hx hb (hw10 hB _) (fun _ h9 => h9) hown hK hP (lo_in hL t_M (by decide)) e104 rfl 40 (by decide) (wd_987 hB _) rfl d_M_work_387 ?_
                        refine lv_if_ne (tgt := 400) hx hb d_M_work_390 (by decide) (fun b107 => ?_) (fun b107 => ?_)
                        · skip
                          replace b107 := mt (nI_eq (a := 0) (b := 0) (by omega) (by omega)).mpr b107
                          exfalso; omega
                        · skip
                          replace b107 := (nI_eq (a := 0) (b := 0) (by omega) (by omega)).mp b107
                          refine lv_aload_n hx hb d_M_work_393 rfl (lv_at hl 3 rfl) ?_
                          refine lv_iload_n hx hb d_M_work_394 rfl (lv_at hl 1 rfl) ?_
                          refine lv_iload hx hb d_M_work_395 (lv_at hl 0 rfl) ?_
                          have hI108 := iv_1 hI1_91 hL t_M (by decide) hk106 (oc_11.mk t_M (⟨mth, mn, mdr, msz, mix, mdp, mwt, mop, (mtp - 1), mwa, mgi, mpc, mst, 0, msp, ((mma + bj52)), ((mlg + bj58)), mdu, e104, (by omega), (by omega), (by omega), (by omega), (by omega), (by omega), (by omega), (by omega), (by omega), (by omega), (by omega), (by omega), (by omega), (by omega), hmb14⟩))
                          refine pcc_v (va_runV (C := "BigRunnerModel") (As := [.int (nI ((mtp - 1) - 1)), .int r87]) (rest := []) ⟨hx, hb, hml, hown, tb_nil⟩ (w_keep l g H.size f103 M (((mtp - 1) - 1)) r87 ((x9 + y9)) hLI hSI hr_93 hL t_M hI108 eLI eSI e94 c6LI c95 (by omega) hsr96 (by rw [hsr96.1]; exact hfit9)) ⟨(callB_of 2 (tb_one (wd_1261 hB _)) tb_good1 rfl rfl rfl (wd_82 hB _) (wd_1258 hB _) (by decide +kernel) ⟨Nat.le_of_ble_eq_true rfl, Nat.le_of_ble_eq_true rfl⟩), (wd_1260 hB _), (wd_70 hB _)⟩ ⟨pe_bl, pg_recv (ci := 10) hK hP (lo_in hL t_M (by decide)) e104 rfl, pe_pre hB hK hP hD⟩ rfl rfl hl.1 rfl (lv_room (Nat.le_of_ble_eq_true rfl)) d_M_work_397 ⟨Nat.le_of_ble_eq_true rfl, Nat.le_of_ble_eq_true rfl⟩) hS (fun f110 H locs hq111 hP hD hS => ?_)
                          obtain ⟨sn_112, hI1_113, hk1_114⟩ := hq111
                          have hu := hu.st2 hk1_114 (lo_k11_30 hL _ t_M) (lo_k11_31 hL _ t_M) (by decide) (by decide)
                          have eC := (hk1_114 (g.lk M 6) (tg_ne (lo_k11_6 hL _ t_M) (lo_k11_30 hL _ t_M) (by decide)) (tg_ne (lo_k11_6 hL _ t_M) (lo_k11_31 hL _ t_M) (by decide))).trans eC
                          have eA := (hk1_114 (g.lk M 7) (tg_ne (lo_k11_7 hL _ t_M) (lo_k11_30 hL _ t_M) (by decide)) (tg_ne (lo_k11_7 hL _ t_M) (lo_k11_31 hL _ t_M) (by decide))).trans eA
                          have eVL := (hk1_114 (g.lk M 26) (tg_ne (lo_k11_26 hL _ t_M) (lo_k11_30 hL _ t_M) (by decide)) (tg_ne (lo_k11_26 hL _ t_M) (lo_k11_31 hL _ t_M) (by decide))).trans eVL
                          have eVS := (hk1_114 (g.lk M 27) (tg_ne (lo_k11_27 hL _ t_M) (lo_k11_30 hL _ t_M) (by decide)) (tg_ne (lo_k11_27 hL _ t_M) (lo_k11_31 hL _ t_M) (by decide))).trans eVS
                          have e79 := (hk1_114 (g.lk M 34) (tg_ne (lo_k11_34 hL _ t_M) (lo_k11_30 hL _ t_M) (by decide)) (tg_ne (lo_k11_34 hL _ t_M) (lo_k11_31 hL _ t_M) (by decide))).trans e79
                          have e94 := (hk1_114 (g.lk M 33) (tg_ne (lo_k11_33 hL _ t_M) (lo_k11_30 hL _ t_M) (by decide)) (tg_ne (lo_k11_33 hL _ t_M) (lo_k11_31 hL _ t_M) (by decide))).trans e94
                          have e104 := (hk1_114 M (tg_ne t_M (lo_k11_30 hL _ t_M) (by decide)) (tg_ne t_M (lo_k11_31 hL _ t_M) (by decide))).trans e104
                          obtain ⟨hl_115, hs_116, e117, e118, c119, hsv120, hsf121, hss122⟩ := sn_112
                          have hot9 : otr 2 x9 y9 = 0 := otr_0 (w := 2) (x := x9) (y := y9) (by decide) (Or.inl (by decide)) hfit9
                          have hE9 : ev1 vr 2 v (y9 :: x9 :: S9) = (0, (x9 + y9) :: S9) := ev1_z vr (by decide) (by decide) hot9
                          exact pe_vret hx hb hr hlocks hK hP hD hS d_M_work_400 ⟨⟨(mtp - 1), (mma + bj52), (mlg + bj58), 0, by omega, (by rw [hwE, hVE, hE9]), (fun _ => by rw [hwE, hVE, hE9]; show mtp - 1 = S9.length + 1; omega), e104⟩, ⟨_, _, _, _, e117, e118, e94, e79, c119, c95, c81, (fun _ => by rw [hwE, hVE, hE9]; exact ⟨by rw [show S9.length = mtp - 1 - 1 by omega]; exact hsv120, SVS_SF hsf121 hss122 S9 (by omega) hS9⟩)⟩, hI1_113, hu⟩
                      · skip
                        replace b102 := mt (nI_leI (a := kr101) (b := 120) (by omega) (by omega)).mpr b102
                        have hfit8 : T12 ≤ (x9 + y9).natAbs := hdf9.mp (by omega)
                        refine lv_iconst (v := nI 2) hx hb d_M_work_378 (by decide) ?_
                        refine lv_goto (tgt := 383) hx hb d_M_work_379 (by decide) ?_
                        refine pf_put (v := .int (nI 2)) (ty := .int) (fs' := [.int mth, .ref (g.lk M 1), .int (nI mn), .ref (g.lk M 3), .ref (g.lk M 4), .int (nI mdr), .ref (g.lk M 6), .ref (g.lk M 7), .ref (g.lk M 8), .int (nI msz), .int (nI mix), .int (nI mdp), .ref (g.lk M 12), .int (nI mwt), .ref (g.lk M 14), .ref (g.lk M 15), .int (nI mop), .ref (g.lk M 17), .ref (g.lk M 18), .ref (g.lk M 19), .ref (g.lk M 20), .ref (g.lk M 21), .ref (g.lk M 22), .ref (g.lk M 23), .ref (g.lk M 24), .ref (g.lk M 25), .ref (g.lk M 26), .ref (g.lk M 27), .ref (g.lk M 28), .ref (g.lk M 29), .ref (g.lk M 30), .ref (g.lk M 31), .int (nI (mtp - 1)), .ref (g.lk M 33), .ref (g.lk M 34), .ref (g.lk M 35), .int (nI mwa), .int (nI mgi), .int (nI mpc), .int (nI mst), .int (nI 2), .int (nI msp), .int (mma + bj52), .int (mlg + bj58), .int mdu]) (C := "BigRunnerModel") (T := FT10) (N := 45) hx hb (hw10 hB _) (fun _ h9 => h9) TY10 ok10 nm10 hown hK hP hD hS (lo_in hL t_M (by decide)) e65 rfl 40 (by decide) (wd_987 hB _) rfl (by decide +kernel) rfl rfl (Nat.le_of_ble_eq_true rfl) rfl d_M_work_383 (fun f123 H locs e124 k125 hP hD hS => ?_)
                        have eC := (k125 (g.lk M 6) (tg_ne (lo_k11_6 hL _ t_M) t_M (by decide))).trans eC
                        have eA := (k125 (g.lk M 7) (tg_ne (lo_k11_7 hL _ t_M) t_M (by decide))).trans eA
                        have eLI := (k125 (g.lk M 30) (tg_ne (lo_k11_30 hL _ t_M) t_M (by decide))).trans eLI
                        have eSI := (k125 (g.lk M 31) (tg_ne (lo_k11_31 hL _ t_M) t_M (by decide))).trans eSI
                        have eVL := (k125 (g.lk M 26) (tg_ne (lo_k11_26 hL _ t_M) t_M (by decide))).trans eVL
                        have eVS := (k125 (g.lk M 27) (tg_ne (lo_k11_27 hL _ t_M) t_M (by decide))).trans eVS
                        have e79 := (k125 (g.lk M 34) (tg_ne (lo_k11_34 hL _ t_M) t_M (by decide))).trans e79
                        have e94 := (k125 (g.lk M 33) (tg_ne (lo_k11_33 hL _ t_M) t_M (by decide))).trans e94
                        have hu := hu.st k125 t_M (by decide)
                        have hk126 : ∀ b, b ≠ M → f123 b = f88 b := k125
                        refine lv_aload_n hx hb d_M_work_386 rfl (lv_at hl 3 rfl) ?_
                        refine pf_get (v := .int (nI 2)) (C := "BigRunnerModel") (T := FT10) (N := 45) hx hb (hw10 hB _) (fun _ h9 => h9) hown hK hP (lo_in hL t_M (by decide)) e124 rfl 40 (by decide) (wd_987 hB _) rfl d_M_work_387 ?_
                        refine lv_if_ne (tgt := 400) hx hb d_M_work_390 (by decide) (fun b127 => ?_) (fun b127 => ?_)
                        · skip
                          replace b127 := mt (nI_eq (a := 2) (b := 0) (by omega) (by omega)).mpr b127
                          have hI128 := iv_1 hI1_91 hL t_M (by decide) hk126 (oc_11.mk t_M (⟨mth, mn, mdr, msz, mix, mdp, mwt, mop, (mtp - 1), mwa, mgi, mpc, mst, 2, msp, ((mma + bj52)), ((mlg + bj58)), mdu, e124, (by omega), (by omega), (by omega), (by omega), (by omega), (by omega), (by omega), (by omega), (by omega), (by omega), (by omega), (by omega), (by omega), (by omega), hmb14⟩))
                          have hot9 : otr 2 x9 y9 = 2 := otr_2 (w := 2) (x := x9) (y := y9) (by decide) (Or.inl (by decide)) hfit8
                          have hE9 : ev1 vr 2 v (y9 :: x9 :: S9) = (2, y9 :: x9 :: S9) := (ev1_t vr (by decide) (by decide) (by rw [hot9]; decide)).trans (by rw [hot9])
                          exact pe_vret hx hb hr hlocks hK hP hD hS d_M_work_400 ⟨⟨(mtp - 1), (mma + bj52), (mlg + bj58), 2, by omega, (by rw [hwE, hVE, hE9]), (fun z9 => absurd z9 (by rw [hwE, hVE, hE9]; show ¬ (2 : Nat) = 0; decide)), e124⟩, ⟨_, _, _, _, eLI, eSI, e94, e79, c6LI, c95, c81, (fun z9 => absurd z9 (by rw [hwE, hVE, hE9]; show ¬ (2 : Nat) = 0; decide))⟩, hI128, hu⟩
                        · skip
                          replace b127 := (nI_eq (a := 2) (b := 0) (by omega) (by omega)).mp b127
                          exfalso; omega
                  · skip
                    replace b85 := (nI_eq (a := 2) (b := 4) (by omega) (by omega)).mp b85
                    exfalso; omega
              · skip
                replace b68 := mt (nI_leI (a := 2) (b := 4) (by omega) (by omega)).mpr b68
                exfalso; omega
            · skip
              replace b63 := (nI_eq (a := 2) (b := 7) (by omega) (by omega)).mp b63
              exfalso; omega
          refine lv_aload_n hx hb d_M_work_144 rfl (lv_at hl 1 rfl) ?_
          refine pf_get (v := .ref (g.lk M 8)) (C := "BigRunnerModel") (T := FT10) (N := 45) hx hb (hw10 hB _) (fun _ h9 => h9) hown hK hP (lo_in hL t_M (by decide)) e54 rfl 8 (by decide) (wd_955 hB _) rfl d_M_work_145 ?_
          refine lv_iload_n hx hb d_M_work_148 rfl (lv_at hl 2 rfl) ?_
          obtain ⟨h_130, e129⟩ := oc_45.of (lo_k11_8 hL _ t_M) (hI.1 (g.lk M 8))
          replace e129 := (hk56 (g.lk M 8) (tg_ne (lo_k11_8 hL _ t_M) t_M (by decide))).trans e129
          refine pf_zald (i := p9) hx hb hK hP (lo_in hL (lo_k11_8 hL _ t_M) (by decide)) e129 (lo_t45 hL _ (lo_k11_8 hL _ t_M)) (by omega) (by decide) d_M_work_149 ?_
          refine lv_if_eq (tgt := 157) hx hb d_M_work_150 (by decide) (fun b132 => ?_) (fun b132 => ?_)
          · skip
            refine lv_iconst (v := nI 1) hx hb d_M_work_157 (by decide) ?_
            exact jn57 ((nI 1)) _ _ hP hD hS
          · skip
            refine lv_iconst (v := nI 0) hx hb d_M_work_153 (by decide) ?_
            refine lv_goto (tgt := 158) hx hb d_M_work_154 (by decide) ?_
            exact jn57 ((nI 0)) _ _ hP hD hS
        refine lv_aload_n hx hb d_M_work_121 rfl (lv_at hl 1 rfl) ?_
        refine pf_get (v := .ref (g.lk M 8)) (C := "BigRunnerModel") (T := FT10) (N := 45) hx hb (hw10 hB _) (fun _ h9 => h9) hown hK hP (lo_in hL t_M (by decide)) eM rfl 8 (by decide) (wd_955 hB _) rfl d_M_work_122 ?_
        refine lv_iload_n hx hb d_M_work_125 rfl (lv_at hl 2 rfl) ?_
        obtain ⟨h_134, e133⟩ := oc_45.of (lo_k11_8 hL _ t_M) (hI.1 (g.lk M 8))
        refine pf_zald (i := p9) hx hb hK hP (lo_in hL (lo_k11_8 hL _ t_M) (by decide)) e133 (lo_t45 hL _ (lo_k11_8 hL _ t_M)) (by omega) (by decide) d_M_work_126 ?_
        refine lv_if_eq (tgt := 134) hx hb d_M_work_127 (by decide) (fun b136 => ?_) (fun b136 => ?_)
        · skip
          refine lv_iconst (v := nI 0) hx hb d_M_work_134 (by decide) ?_
          exact jn51 ((nI 0)) _ _ hP hD hS
        · skip
          refine lv_iconst (v := nI 1) hx hb d_M_work_130 (by decide) ?_
          refine lv_goto (tgt := 135) hx hb d_M_work_131 (by decide) ?_
          exact jn51 ((nI 1)) _ _ hP hD hS
      · skip
        replace b50 := (nI_eq (a := 2) (b := 1) (by omega) (by omega)).mp b50
        exfalso; omega
    · skip
      replace b49 := (nI_eq (a := 2) (b := 0) (by omega) (by omega)).mp b49
      exfalso; omega
  · skip
    refine lv_topi (fun z_ hz_ => ?_)
    obtain rfl : z_ = nI 3 := hz_.trans (congrArg nI hwE)
    have hl : lv_has ls 6 [(2, .int (nI 3)), (0, .ref M), (1, .int (nI p9))] := by rw [hwE] at hl; exact hl
    have z2 := hw2 (by omega) (by omega)
    obtain ⟨y9, x9, S9, hVE⟩ : ∃ y x S, V = y :: x :: S := by
      cases V with
      | nil => (exfalso; have y9 : mtp = 0 := htp; omega)
      | cons y V' =>
        cases V' with
        | nil => (exfalso; have y9 : mtp = 0 + 1 := htp; omega)
        | cons x S => exact ⟨y, x, S, rfl⟩
    rw [hVE] at htp hSV
    have htp9 : mtp = S9.length + 1 + 1 := htp
    obtain ⟨hy9, hx9, hS9⟩ := hSV
    have hy8 : SV hLI hSI (mtp - 1) y9 := by rw [show mtp - 1 = S9.length + 1 by omega]; exact hy9
    have hx8 : SV hLI hSI (mtp - 1 - 1) x9 := by rw [show mtp - 1 - 1 = S9.length by omega]; exact hx9
    have hxl : x9.natAbs < T12 := SV_lt c6LI (by omega) hx8
    refine lv_if_ne (tgt := 36) hx hb d_M_work_8 (by decide) (fun b137 => ?_) (fun b137 => ?_)
    · skip
      replace b137 := mt (nI_eq (a := 3) (b := 0) (by omega) (by omega)).mpr b137
      refine lv_iload_n hx hb d_M_work_36 rfl (lv_at hl 0 rfl) ?_
      refine lv_iconst (v := nI 1) hx hb d_M_work_37 (by decide) ?_
      refine lv_icmp_ne (tgt := 116) hx hb d_M_work_38 (by decide) (fun b138 => ?_) (fun b138 => ?_)
      · skip
        replace b138 := mt (nI_eq (a := 3) (b := 1) (by omega) (by omega)).mpr b138
        refine lv_aload_n hx hb d_M_work_116 rfl (lv_at hl 1 rfl) ?_
        refine lv_dup hx hb d_M_work_117 rfl ?_
        refine pf_get (v := .int mma) (C := "BigRunnerModel") (T := FT10) (N := 45) hx hb (hw10 hB _) (fun _ h9 => h9) hown hK hP (lo_in hL t_M (by decide)) eM rfl 42 (by decide) (wd_989 hB _) rfl d_M_work_118 ?_
        have jn139 : ∀ (bj140 : Int32) (H : Heap) (locs : List Loc), va_P g.D vcl (va_pl g.LP f) H → va_D (pc_A g s.heap.size) (va_pl g.LP f) → va_S (pc_A g s.heap.size) s.heap H locs → W p l e ({ frames := 3, cells := 0, slots := 0, locals := 78 }) s m args below meth c H locs 0 0 (MQ below (va_Qv (fun f1 => (∃ (tp1 : Nat) (ma1 : Int32) (lg1 : Int32) (tr1 : Nat), (tp1 ≤ 80) ∧ (tr1 = (ev1 vr w v V).1) ∧ ((ev1 vr w v V).1 = 0 → tp1 = (ev1 vr w v V).2.length) ∧ f1 M = .inr (10, [.int mth, .ref (g.lk M 1), .int (nI mn), .ref (g.lk M 3), .ref (g.lk M 4), .int (nI mdr), .ref (g.lk M 6), .ref (g.lk M 7), .ref (g.lk M 8), .int (nI msz), .int (nI mix), .int (nI mdp), .ref (g.lk M 12), .int (nI mwt), .ref (g.lk M 14), .ref (g.lk M 15), .int (nI mop), .ref (g.lk M 17), .ref (g.lk M 18), .ref (g.lk M 19), .ref (g.lk M 20), .ref (g.lk M 21), .ref (g.lk M 22), .ref (g.lk M 23), .ref (g.lk M 24), .ref (g.lk M 25), .ref (g.lk M 26), .ref (g.lk M 27), .ref (g.lk M 28), .ref (g.lk M 29), .ref (g.lk M 30), .ref (g.lk M 31), .int (nI tp1), .ref (g.lk M 33), .ref (g.lk M 34), .ref (g.lk M 35), .int (nI mwa), .int (nI mgi), .int (nI mpc), .int (nI mst), .int (nI tr1), .int (nI msp), .int ma1, .int lg1, .int mdu])) ∧ (∃ hl hs hr hq : Nat → Int32, f1 (g.lk M 30) = .inl (g.ac (g.lk M 30), 1600, .inl hl) ∧ f1 (g.lk M 31) = .inl (g.ac (g.lk M 31), 80, .inl hs) ∧ f1 (g.lk M 33) = .inl (g.ac (g.lk M 33), 44, .inl hr) ∧ f1 (g.lk M 34) = .inl (g.ac (g.lk M 34), 44, .inl hq) ∧ C6 1600 hl ∧ C6 44 hr ∧ C6 44 hq ∧ ((ev1 vr w v V).1 = 0 → SVS hl hs (ev1 vr w v V).2)) ∧ (IV g f1) ∧ (un [11, 62, 63, 64, 65] g f f1)) (pc_out g s.heap.size) (pc_A g s.heap.size)) args s 0 0 (pc_A g s.heap.size)) (F0 m 135 ls [.int bj140, .int mma, .ref M]) := by
          intro bj140 H locs hP hD hS
          refine lv_iadd hx hb d_M_work_135 ?_
          refine pf_put (v := .int (mma + bj140)) (ty := .int) (fs' := [.int mth, .ref (g.lk M 1), .int (nI mn), .ref (g.lk M 3), .ref (g.lk M 4), .int (nI mdr), .ref (g.lk M 6), .ref (g.lk M 7), .ref (g.lk M 8), .int (nI msz), .int (nI mix), .int (nI mdp), .ref (g.lk M 12), .int (nI mwt), .ref (g.lk M 14), .ref (g.lk M 15), .int (nI mop), .ref (g.lk M 17), .ref (g.lk M 18), .ref (g.lk M 19), .ref (g.lk M 20), .ref (g.lk M 21), .ref (g.lk M 22), .ref (g.lk M 23), .ref (g.lk M 24), .ref (g.lk M 25), .ref (g.lk M 26), .ref (g.lk M 27), .ref (g.lk M 28), .ref (g.lk M 29), .ref (g.lk M 30), .ref (g.lk M 31), .int (nI mtp), .ref (g.lk M 33), .ref (g.lk M 34), .ref (g.lk M 35), .int (nI mwa), .int (nI mgi), .int (nI mpc), .int (nI mst), .int (nI mtr), .int (nI msp), .int (mma + bj140), .int mlg, .int mdu]) (C := "BigRunnerModel") (T := FT10) (N := 45) hx hb (hw10 hB _) (fun _ h9 => h9) TY10 ok10 nm10 hown hK hP hD hS (lo_in hL t_M (by decide)) eM rfl 42 (by decide) (wd_989 hB _) rfl (by decide +kernel) rfl rfl (Nat.le_of_ble_eq_true rfl) rfl d_M_work_136 (fun f141 H locs e142 k143 hP hD hS => ?_)
          have eC := (k143 (g.lk M 6) (tg_ne (lo_k11_6 hL _ t_M) t_M (by decide))).trans eC
          have eA := (k143 (g.lk M 7) (tg_ne (lo_k11_7 hL _ t_M) t_M (by decide))).trans eA
          have eLI := (k143 (g.lk M 30) (tg_ne (lo_k11_30 hL _ t_M) t_M (by decide))).trans eLI
          have eSI := (k143 (g.lk M 31) (tg_ne (lo_k11_31 hL _ t_M) t_M (by decide))).trans eSI
          have eRE := (k143 (g.lk M 33) (tg_ne (lo_k11_33 hL _ t_M) t_M (by decide))).trans eRE
          have eRS := (k143 (g.lk M 34) (tg_ne (lo_k11_34 hL _ t_M) t_M (by decide))).trans eRS
          have eVL := (k143 (g.lk M 26) (tg_ne (lo_k11_26 hL _ t_M) t_M (by decide))).trans eVL
          have eVS := (k143 (g.lk M 27) (tg_ne (lo_k11_27 hL _ t_M) t_M (by decide))).trans eVS
          have hu := hu.st k143 t_M (by decide)
          have hk144 : ∀ b, b ≠ M → f141 b = f b := k143
          refine lv_aload_n hx hb d_M_work_139 rfl (lv_at hl 1 rfl) ?_
          refine lv_dup hx hb d_M_work_140 rfl ?_
          refine pf_get (v := .int mlg) (C := "BigRunnerModel") (T := FT10) (N := 45) hx hb (hw10 hB _) (fun _ h9 => h9) hown hK hP (lo_in hL t_M (by decide)) e142 rfl 43 (by decide) (wd_990 hB _) rfl d_M_work_141 ?_
          have jn145 : ∀ (bj146 : Int32) (H : Heap) (locs : List Loc), va_P g.D vcl (va_pl g.LP f141) H → va_D (pc_A g s.heap.size) (va_pl g.LP f141) → va_S (pc_A g s.heap.size) s.heap H locs → W p l e ({ frames := 3, cells := 0, slots := 0, locals := 78 }) s m args below meth c H locs 0 0 (MQ below (va_Qv (fun f1 => (∃ (tp1 : Nat) (ma1 : Int32) (lg1 : Int32) (tr1 : Nat), (tp1 ≤ 80) ∧ (tr1 = (ev1 vr w v V).1) ∧ ((ev1 vr w v V).1 = 0 → tp1 = (ev1 vr w v V).2.length) ∧ f1 M = .inr (10, [.int mth, .ref (g.lk M 1), .int (nI mn), .ref (g.lk M 3), .ref (g.lk M 4), .int (nI mdr), .ref (g.lk M 6), .ref (g.lk M 7), .ref (g.lk M 8), .int (nI msz), .int (nI mix), .int (nI mdp), .ref (g.lk M 12), .int (nI mwt), .ref (g.lk M 14), .ref (g.lk M 15), .int (nI mop), .ref (g.lk M 17), .ref (g.lk M 18), .ref (g.lk M 19), .ref (g.lk M 20), .ref (g.lk M 21), .ref (g.lk M 22), .ref (g.lk M 23), .ref (g.lk M 24), .ref (g.lk M 25), .ref (g.lk M 26), .ref (g.lk M 27), .ref (g.lk M 28), .ref (g.lk M 29), .ref (g.lk M 30), .ref (g.lk M 31), .int (nI tp1), .ref (g.lk M 33), .ref (g.lk M 34), .ref (g.lk M 35), .int (nI mwa), .int (nI mgi), .int (nI mpc), .int (nI mst), .int (nI tr1), .int (nI msp), .int ma1, .int lg1, .int mdu])) ∧ (∃ hl hs hr hq : Nat → Int32, f1 (g.lk M 30) = .inl (g.ac (g.lk M 30), 1600, .inl hl) ∧ f1 (g.lk M 31) = .inl (g.ac (g.lk M 31), 80, .inl hs) ∧ f1 (g.lk M 33) = .inl (g.ac (g.lk M 33), 44, .inl hr) ∧ f1 (g.lk M 34) = .inl (g.ac (g.lk M 34), 44, .inl hq) ∧ C6 1600 hl ∧ C6 44 hr ∧ C6 44 hq ∧ ((ev1 vr w v V).1 = 0 → SVS hl hs (ev1 vr w v V).2)) ∧ (IV g f1) ∧ (un [11, 62, 63, 64, 65] g f f1)) (pc_out g s.heap.size) (pc_A g s.heap.size)) args s 0 0 (pc_A g s.heap.size)) (F0 m 158 ls [.int bj146, .int mlg, .ref M]) := by
            intro bj146 H locs hP hD hS
            refine lv_iadd hx hb d_M_work_158 ?_
            refine pf_put (v := .int (mlg + bj146)) (ty := .int) (fs' := [.int mth, .ref (g.lk M 1), .int (nI mn), .ref (g.lk M 3), .ref (g.lk M 4), .int (nI mdr), .ref (g.lk M 6), .ref (g.lk M 7), .ref (g.lk M 8), .int (nI msz), .int (nI mix), .int (nI mdp), .ref (g.lk M 12), .int (nI mwt), .ref (g.lk M 14), .ref (g.lk M 15), .int (nI mop), .ref (g.lk M 17), .ref (g.lk M 18), .ref (g.lk M 19), .ref (g.lk M 20), .ref (g.lk M 21), .ref (g.lk M 22), .ref (g.lk M 23), .ref (g.lk M 24), .ref (g.lk M 25), .ref (g.lk M 26), .ref (g.lk M 27), .ref (g.lk M 28), .ref (g.lk M 29), .ref (g.lk M 30), .ref (g.lk M 31), .int (nI mtp), .ref (g.lk M 33), .ref (g.lk M 34), .ref (g.lk M 35), .int (nI mwa), .int (nI mgi), .int (nI mpc), .int (nI mst), .int (nI mtr), .int (nI msp), .int (mma + bj140), .int (mlg + bj146), .int mdu]) (C := "BigRunnerModel") (T := FT10) (N := 45) hx hb (hw10 hB _) (fun _ h9 => h9) TY10 ok10 nm10 hown hK hP hD hS (lo_in hL t_M (by decide)) e142 rfl 43 (by decide) (wd_990 hB _) rfl (by decide +kernel) rfl rfl (Nat.le_of_ble_eq_true rfl) rfl d_M_work_159 (fun f147 H locs e148 k149 hP hD hS => ?_)
            have eC := (k149 (g.lk M 6) (tg_ne (lo_k11_6 hL _ t_M) t_M (by decide))).trans eC
            have eA := (k149 (g.lk M 7) (tg_ne (lo_k11_7 hL _ t_M) t_M (by decide))).trans eA
            have eLI := (k149 (g.lk M 30) (tg_ne (lo_k11_30 hL _ t_M) t_M (by decide))).trans eLI
            have eSI := (k149 (g.lk M 31) (tg_ne (lo_k11_31 hL _ t_M) t_M (by decide))).trans eSI
            have eRE := (k149 (g.lk M 33) (tg_ne (lo_k11_33 hL _ t_M) t_M (by decide))).trans eRE
            have eRS := (k149 (g.lk M 34) (tg_ne (lo_k11_34 hL _ t_M) t_M (by decide))).trans eRS
            have eVL := (k149 (g.lk M 26) (tg_ne (lo_k11_26 hL _ t_M) t_M (by decide))).trans eVL
            have eVS := (k149 (g.lk M 27) (tg_ne (lo_k11_27 hL _ t_M) t_M (by decide))).trans eVS
            have hu := hu.st k149 t_M (by decide)
            have hk150 : ∀ b, b ≠ M → f147 b = f b := fun b q0 => (k149 b q0).trans (hk144 b q0)
            refine lv_iload_n hx hb d_M_work_162 rfl (lv_at hl 0 rfl) ?_
            refine lv_bipush (v := nI 7) hx hb d_M_work_163 (by decide) ?_
            refine lv_icmp_ne (tgt := 192) hx hb d_M_work_165 (by decide) (fun b151 => ?_) (fun b151 => ?_)
            · skip
              replace b151 := mt (nI_eq (a := 3) (b := 7) (by omega) (by omega)).mpr b151
              refine lv_aload_n hx hb d_M_work_192 rfl (lv_at hl 1 rfl) ?_
              refine lv_dup hx hb d_M_work_193 rfl ?_
              refine pf_get (v := .int (nI mtp)) (C := "BigRunnerModel") (T := FT10) (N := 45) hx hb (hw10 hB _) (fun _ h9 => h9) hown hK hP (lo_in hL t_M (by decide)) e148 rfl 32 (by decide) (wd_979 hB _) rfl d_M_work_194 ?_
              refine lv_iconst (v := nI 1) hx hb d_M_work_197 (by decide) ?_
              refine pf_isubN (x := mtp) (y := 1) hx hb (by omega) d_M_work_198 ?_
              refine pf_put (v := .int (nI (mtp - 1))) (ty := .int) (fs' := [.int mth, .ref (g.lk M 1), .int (nI mn), .ref (g.lk M 3), .ref (g.lk M 4), .int (nI mdr), .ref (g.lk M 6), .ref (g.lk M 7), .ref (g.lk M 8), .int (nI msz), .int (nI mix), .int (nI mdp), .ref (g.lk M 12), .int (nI mwt), .ref (g.lk M 14), .ref (g.lk M 15), .int (nI mop), .ref (g.lk M 17), .ref (g.lk M 18), .ref (g.lk M 19), .ref (g.lk M 20), .ref (g.lk M 21), .ref (g.lk M 22), .ref (g.lk M 23), .ref (g.lk M 24), .ref (g.lk M 25), .ref (g.lk M 26), .ref (g.lk M 27), .ref (g.lk M 28), .ref (g.lk M 29), .ref (g.lk M 30), .ref (g.lk M 31), .int (nI (mtp - 1)), .ref (g.lk M 33), .ref (g.lk M 34), .ref (g.lk M 35), .int (nI mwa), .int (nI mgi), .int (nI mpc), .int (nI mst), .int (nI mtr), .int (nI msp), .int (mma + bj140), .int (mlg + bj146), .int mdu]) (C := "BigRunnerModel") (T := FT10) (N := 45) hx hb (hw10 hB _) (fun _ h9 => h9) TY10 ok10 nm10 hown hK hP hD hS (lo_in hL t_M (by decide)) e148 rfl 32 (by decide) (wd_979 hB _) rfl (by decide +kernel) rfl rfl (Nat.le_of_ble_eq_true rfl) rfl d_M_work_199 (fun f152 H locs e153 k154 hP hD hS => ?_)
              have eC := (k154 (g.lk M 6) (tg_ne (lo_k11_6 hL _ t_M) t_M (by decide))).trans eC
              have eA := (k154 (g.lk M 7) (tg_ne (lo_k11_7 hL _ t_M) t_M (by decide))).trans eA
              have eLI := (k154 (g.lk M 30) (tg_ne (lo_k11_30 hL _ t_M) t_M (by decide))).trans eLI
              have eSI := (k154 (g.lk M 31) (tg_ne (lo_k11_31 hL _ t_M) t_M (by decide))).trans eSI
              have eRE := (k154 (g.lk M 33) (tg_ne (lo_k11_33 hL _ t_M) t_M (by decide))).trans eRE
              have eRS := (k154 (g.lk M 34) (tg_ne (lo_k11_34 hL _ t_M) t_M (by decide))).trans eRS
              have eVL := (k154 (g.lk M 26) (tg_ne (lo_k11_26 hL _ t_M) t_M (by decide))).trans eVL
              have eVS := (k154 (g.lk M 27) (tg_ne (lo_k11_27 hL _ t_M) t_M (by decide))).trans eVS
              have hu := hu.st k154 t_M (by decide)
              have hk155 : ∀ b, b ≠ M → f152 b = f b := fun b q0 => (k154 b q0).trans (hk150 b q0)
              refine lv_aload_n hx hb d_M_work_202 rfl (lv_at hl 1 rfl) ?_
              refine pf_get (v := .int (nI (mtp - 1))) (C := "BigRunnerModel") (T := FT10) (N := 45) hx hb (hw10 hB _) (fun _ h9 => h9) hown hK hP (lo_in hL t_M (by decide)) e153 rfl 32 (by decide) (wd_979 hB _) rfl d_M_work_203 ?_
              refine lv_iconst (v := nI 1) hx hb d_M_work_206 (by decide) ?_
              refine pf_isubN (x := mtp - 1) (y := 1) hx hb (by omega) d_M_work_207 ?_
              refine lv_istore_n (lv' := [(3, .int (nI ((mtp - 1) - 1))), (2, .int (nI 3)), (0, .ref M), (1, .int (nI p9))]) hx hb d_M_work_208 rfl hl (by decide) rfl (fun ls hl => ?_)
              refine lv_iload_n hx hb d_M_work_209 rfl (lv_at hl 1 rfl) ?_
              refine lv_iconst (v := nI 4) hx hb d_M_work_210 (by decide) ?_
              refine lv_icmp_le (tgt := 232) hx hb d_M_work_211 (by decide) (fun b156 => ?_) (fun b156 => ?_)
              · skip
                replace b156 := (nI_leI (a := 3) (b := 4) (by omega) (by omega)).mp b156
                refine lv_aload_n hx hb d_M_work_232 rfl (lv_at hl 2 rfl) ?_
                have hI157 := iv_1 hI hL t_M (by decide) hk155 (oc_11.mk t_M (⟨mth, mn, mdr, msz, mix, mdp, mwt, mop, (mtp - 1), mwa, mgi, mpc, mst, mtr, msp, ((mma + bj140)), ((mlg + bj146)), mdu, e153, (by omega), (by omega), (by omega), (by omega), (by omega), (by omega), (by omega), (by omega), (by omega), (by omega), (by omega), (by omega), (by omega), (by omega), hmb14⟩))
                refine pcc_v (va_runV (C := "BigRunnerModel") (As := []) (rest := []) ⟨hx, hb, hml, hown, tb_nil⟩ (w_clear l g H.size f152 M hRE hRS hL t_M hI157 eRE eRS c6RE c6RS) ⟨(callB_of 0 (tb_one (wd_1224 hB _)) tb_good1 rfl rfl rfl (wd_82 hB _) (wd_1221 hB _) (by decide +kernel) ⟨Nat.le_of_ble_eq_true rfl, Nat.le_of_ble_eq_true rfl⟩), (wd_1223 hB _), (wd_62 hB _)⟩ ⟨pe_bl, pg_recv (ci := 10) hK hP (lo_in hL t_M (by decide)) e153 rfl, pe_pre hB hK hP hD⟩ rfl rfl hl.1 rfl (lv_room (Nat.le_of_ble_eq_true rfl)) d_M_work_233 ⟨Nat.le_of_ble_eq_true rfl, Nat.le_of_ble_eq_true rfl⟩) hS (fun f159 H locs hq160 hP hD hS => ?_)
                obtain ⟨cl_161, hI1_162, hk1_163⟩ := hq160
                have hu := hu.st2 hk1_163 (lo_k11_33 hL _ t_M) (lo_k11_34 hL _ t_M) (by decide) (by decide)
                have eC := (hk1_163 (g.lk M 6) (tg_ne (lo_k11_6 hL _ t_M) (lo_k11_33 hL _ t_M) (by decide)) (tg_ne (lo_k11_6 hL _ t_M) (lo_k11_34 hL _ t_M) (by decide))).trans eC
                have eA := (hk1_163 (g.lk M 7) (tg_ne (lo_k11_7 hL _ t_M) (lo_k11_33 hL _ t_M) (by decide)) (tg_ne (lo_k11_7 hL _ t_M) (lo_k11_34 hL _ t_M) (by decide))).trans eA
                have eLI := (hk1_163 (g.lk M 30) (tg_ne (lo_k11_30 hL _ t_M) (lo_k11_33 hL _ t_M) (by decide)) (tg_ne (lo_k11_30 hL _ t_M) (lo_k11_34 hL _ t_M) (by decide))).trans eLI
                have eSI := (hk1_163 (g.lk M 31) (tg_ne (lo_k11_31 hL _ t_M) (lo_k11_33 hL _ t_M) (by decide)) (tg_ne (lo_k11_31 hL _ t_M) (lo_k11_34 hL _ t_M) (by decide))).trans eSI
                have eVL := (hk1_163 (g.lk M 26) (tg_ne (lo_k11_26 hL _ t_M) (lo_k11_33 hL _ t_M) (by decide)) (tg_ne (lo_k11_26 hL _ t_M) (lo_k11_34 hL _ t_M) (by decide))).trans eVL
                have eVS := (hk1_163 (g.lk M 27) (tg_ne (lo_k11_27 hL _ t_M) (lo_k11_33 hL _ t_M) (by decide)) (tg_ne (lo_k11_27 hL _ t_M) (lo_k11_34 hL _ t_M) (by decide))).trans eVS
                have e153 := (hk1_163 M (tg_ne t_M (lo_k11_33 hL _ t_M) (by decide)) (tg_ne t_M (lo_k11_34 hL _ t_M) (by decide))).trans e153
                obtain ⟨hr_164, hq_165, e166, e167, c168, c169, hz170, hz171⟩ := cl_161
                refine lv_iconst (v := nI 0) hx hb d_M_work_236 (by decide) ?_
                refine lv_istore (lv' := [(4, .int (nI 0)), (3, .int (nI ((mtp - 1) - 1))), (2, .int (nI 3)), (0, .ref M), (1, .int (nI p9))]) hx hb d_M_work_237 hl (by decide) rfl (fun ls hl => ?_)
                refine lv_iload_n hx hb d_M_work_239 rfl (lv_at hl 2 rfl) ?_
                refine lv_iconst (v := nI 5) hx hb d_M_work_240 (by decide) ?_
                refine lv_icmp_ge (tgt := 285) hx hb d_M_work_241 (by decide) (fun b172 => ?_) (fun b172 => ?_)
                · skip
                  replace b172 := (nI_leI (a := 5) (b := 3) (by omega) (by omega)).mp b172
                  exfalso; omega
                · skip
                  replace b172 := mt (nI_leI (a := 5) (b := 3) (by omega) (by omega)).mpr b172
                  refine lv_iload_n hx hb d_M_work_244 rfl (lv_at hl 2 rfl) ?_
                  refine lv_iconst (v := nI 4) hx hb d_M_work_245 (by decide) ?_
                  refine lv_icmp_ne (tgt := 261) hx hb d_M_work_246 (by decide) (fun b173 => ?_) (fun b173 => ?_)
                  · skip
                    replace b173 := mt (nI_eq (a := 3) (b := 4) (by omega) (by omega)).mpr b173
                    refine lv_aload_n hx hb d_M_work_261 rfl (lv_at hl 3 rfl) ?_
                    refine lv_iload_n hx hb d_M_work_262 rfl (lv_at hl 1 rfl) ?_
                    refine lv_aload_n hx hb d_M_work_263 rfl (lv_at hl 3 rfl) ?_
                    refine pf_get (v := .int (nI (mtp - 1))) (C := "BigRunnerModel") (T := FT10) (N := 45) hx hb (hw10 hB _) (fun _ h9 => h9) hown hK hP (lo_in hL t_M (by decide)) e153 rfl 32 (by decide) (wd_979 hB _) rfl d_M_work_264 ?_
                    refine lv_iload_n hx hb d_M_work_267 rfl (lv_at hl 2 rfl) ?_
                    refine lv_iconst (v := nI 2) hx hb d_M_work_268 (by decide) ?_
                    refine lv_icmp_ne (tgt := 276) hx hb d_M_work_269 (by decide) (fun b174 => ?_) (fun b174 => ?_)
                    · skip
                      replace b174 := mt (nI_eq (a := 3) (b := 2) (by omega) (by omega)).mpr b174
                      refine lv_iconst (v := (-1)) hx hb d_M_work_276 (by decide) ?_
                      refine pcc_i (va_runV (C := "BigRunnerModel") (As := [.int (nI ((mtp - 1) - 1)), .int (nI (mtp - 1)), .int (-1)]) (rest := []) ⟨hx, hb, hml, hown, tb_nil⟩ (w_summ l g H.size f159 M (((mtp - 1) - 1)) ((mtp - 1)) x9 y9 hLI hSI hr_164 hL t_M hI1_162 eLI eSI e166 c6LI c168 (by omega) (by omega) hz170 hx8 hy8) ⟨(callB_of 3 (tb_one (wd_1237 hB _)) tb_good1 rfl rfl rfl (wd_82 hB _) (wd_1234 hB _) (by decide +kernel) ⟨Nat.le_of_ble_eq_true rfl, Nat.le_of_ble_eq_true rfl⟩), (wd_1236 hB _), (wd_65 hB _)⟩ ⟨pe_bl, pg_recv (ci := 10) hK hP (lo_in hL t_M (by decide)) e153 rfl, pe_pre hB hK hP hD⟩ rfl rfl hl.1 rfl (lv_room (Nat.le_of_ble_eq_true rfl)) d_M_work_277 ⟨Nat.le_of_ble_eq_true rfl, Nat.le_of_ble_eq_true rfl⟩) hS (fun r175 f176 H locs hq177 hP hD hS => ?_)
                      obtain ⟨re_178, hI1_179, hk1_180⟩ := hq177
                      have hu := hu.st hk1_180 (lo_k11_33 hL _ t_M) (by decide)
                      have eC := (hk1_180 (g.lk M 6) (tg_ne (lo_k11_6 hL _ t_M) (lo_k11_33 hL _ t_M) (by decide))).trans eC
                      have eA := (hk1_180 (g.lk M 7) (tg_ne (lo_k11_7 hL _ t_M) (lo_k11_33 hL _ t_M) (by decide))).trans eA
                      have eLI := (hk1_180 (g.lk M 30) (tg_ne (lo_k11_30 hL _ t_M) (lo_k11_33 hL _ t_M) (by decide))).trans eLI
                      have eSI := (hk1_180 (g.lk M 31) (tg_ne (lo_k11_31 hL _ t_M) (lo_k11_33 hL _ t_M) (by decide))).trans eSI
                      have eVL := (hk1_180 (g.lk M 26) (tg_ne (lo_k11_26 hL _ t_M) (lo_k11_33 hL _ t_M) (by decide))).trans eVL
                      have eVS := (hk1_180 (g.lk M 27) (tg_ne (lo_k11_27 hL _ t_M) (lo_k11_33 hL _ t_M) (by decide))).trans eVS
                      have e153 := (hk1_180 M (tg_ne t_M (lo_k11_33 hL _ t_M) (by decide))).trans e153
                      have e167 := (hk1_180 (g.lk M 34) (tg_ne (lo_k11_34 hL _ t_M) (lo_k11_33 hL _ t_M) (by decide))).trans e167
                      obtain ⟨hr_181, e182, c183, hsr184⟩ := re_178
                      refine lv_istore (lv' := [(4, .int r175), (3, .int (nI ((mtp - 1) - 1))), (2, .int (nI 3)), (0, .ref M), (1, .int (nI p9))]) hx hb d_M_work_280 hl (by decide) rfl (fun ls hl => ?_)
                      refine lv_goto (tgt := 362) hx hb d_M_work_282 (by decide) ?_
                      have hsr9 : SR r175 (kw (dg hr_181) 44) (x9 - y9) := by rw [Int.sub_eq_add_neg]; exact hsr184
                      refine lv_aload_n hx hb d_M_work_362 rfl (lv_at hl 3 rfl) ?_
                      refine lv_aload_n hx hb d_M_work_363 rfl (lv_at hl 3 rfl) ?_
                      refine pf_get (v := .ref (g.lk M 33)) (C := "BigRunnerModel") (T := FT10) (N := 45) hx hb (hw10 hB _) (fun _ h9 => h9) hown hK hP (lo_in hL t_M (by decide)) e153 rfl 33 (by decide) (wd_980 hB _) rfl d_M_work_364 ?_
                      refine lv_iconst (v := nI 0) hx hb d_M_work_367 (by decide) ?_
                      refine lv_bipush (v := nI 44) hx hb d_M_work_368 (by decide) ?_
                      refine pcc_i (va_runS (As := [.ref (g.lk M 33), .int (nI 0), .int (nI 44)]) (rest := [.ref M]) ⟨hx, hb, hml, hown, tb_nil⟩ (w_digitsOf64 l g H.size f176 ((g.lk M 33)) 0 44 hr_181 hL (lo_k11_33 hL _ t_M) hI1_179.1 e182 c183 (by omega)) ⟨(callB_of 3 (tb_one (wd_1257 hB _)) tb_good1 rfl rfl rfl (wd_82 hB _) (wd_1255 hB _) (by decide +kernel) ⟨Nat.le_of_ble_eq_true rfl, Nat.le_of_ble_eq_true rfl⟩), (wd_1256 hB _)⟩ ⟨pe_bl, pe_pre hB hK hP hD⟩ rfl rfl hl.1 rfl (lv_room (Nat.le_of_ble_eq_true rfl)) d_M_work_370 ⟨Nat.le_of_ble_eq_true rfl, Nat.le_of_ble_eq_true rfl⟩) hS (fun r185 f186 H locs hq187 hP hD hS => ?_)
                      obtain ⟨dt_188, rfl⟩ := hq187
                      obtain ⟨kr189, hkr189_0, hkr189_1, rfl⟩ := dt_188
                      have hdf9 := dgt_fit hkr189_1
                      have hkz9 : kw (fun i => dg hr_181 (0 + i)) 44 = kw (dg hr_181) 44 := kw_eq (fun i _ => by rw [Nat.zero_add])
                      rw [hkz9, hsr9.1] at hdf9
                      refine lv_bipush (v := nI 120) hx hb d_M_work_373 (by decide) ?_
                      refine lv_icmp_le (tgt := 382) hx hb d_M_work_375 (by decide) (fun b190 => ?_) (fun b190 => ?_)
                      · skip
                        replace b190 := (nI_leI (a := kr189) (b := 120) (by omega) (by omega)).mp b190
                        have hfit9 : (x9 - y9).natAbs < T12 := by have z9 := mt hdf9.mpr (by omega); omega
                        refine lv_iconst (v := nI 0) hx hb d_M_work_382 (by decide) ?_
                        refine pf_put (v := .int (nI 0)) (ty := .int) (fs' := [.int mth, .ref (g.lk M 1), .int (nI mn), .ref (g.lk M 3), .ref (g.lk M 4), .int (nI mdr), .ref (g.lk M 6), .ref (g.lk M 7), .ref (g.lk M 8), .int (nI msz), .int (nI mix), .int (nI mdp), .ref (g.lk M 12), .int (nI mwt), .ref (g.lk M 14), .ref (g.lk M 15), .int (nI mop), .ref (g.lk M 17), .ref (g.lk M 18), .ref (g.lk M 19), .ref (g.lk M 20), .ref (g.lk M 21), .ref (g.lk M 22), .ref (g.lk M 23), .ref (g.lk M 24), .ref (g.lk M 25), .ref (g.lk M 26), .ref (g.lk M 27), .ref (g.lk M 28), .ref (g.lk M 29), .ref (g.lk M 30), .ref (g.lk M 31), .int (nI (mtp - 1)), .ref (g.lk M 33), .ref (g.lk M 34), .ref (g.lk M 35), .int (nI mwa), .int (nI mgi), .int (nI mpc), .int (nI mst), .int (nI 0), .int (nI msp), .int (mma + bj140), .int (mlg + bj146), .int mdu]) (C := "BigRunnerModel") (T := FT10) (N := 45) hx hb (hw10 hB _) (fun _ h9 => h9) TY10 ok10 nm10 hown hK hP hD hS (lo_in hL t_M (by decide)) e153 rfl 40 (by decide) (wd_987 hB _) rfl (by decide +kernel) rfl rfl (Nat.le_of_ble_eq_true rfl) rfl d_M_work_383 (fun f191 H locs e192 k193 hP hD hS => ?_)
                        have eC := (k193 (g.lk M 6) (tg_ne (lo_k11_6 hL _ t_M) t_M (by decide))).trans eC
                        have eA := (k193 (g.lk M 7) (tg_ne (lo_k11_7 hL _ t_M) t_M (by decide))).trans eA
                        have eLI := (k193 (g.lk M 30) (tg_ne (lo_k11_30 hL _ t_M) t_M (by decide))).trans eLI
                        have eSI := (k193 (g.lk M 31) (tg_ne (lo_k11_31 hL _ t_M) t_M (by decide))).trans eSI
                        have eVL := (k193 (g.lk M 26) (tg_ne (lo_k11_26 hL _ t_M) t_M (by decide))).trans eVL
                        have eVS := (k193 (g.lk M 27) (tg_ne (lo_k11_27 hL _ t_M) t_M (by decide))).trans eVS
                        have e167 := (k193 (g.lk M 34) (tg_ne (lo_k11_34 hL _ t_M) t_M (by decide))).trans e167
                        have e182 := (k193 (g.lk M 33) (tg_ne (lo_k11_33 hL _ t_M) t_M (by decide))).trans e182
                        have hu := hu.st k193 t_M (by decide)
                        have hk194 : ∀ b, b ≠ M → f191 b = f176 b := k193
                        refine lv_aload_n hx hb d_M_work_386 rfl (lv_at hl 3 rfl) ?_
                        refine pf_get (v := .int (nI 0)) (C := "BigRunnerModel") (T := FT10) (N := 45) hx hb (hw10 hB _) (fun _ h9 => h9) hown hK hP (lo_in hL t_M (by decide)) e192 rfl 40 (by decide) (wd_987 hB _) rfl d_M_work_387 ?_
                        refine lv_if_ne (tgt := 400) hx hb d_M_work_390 (by decide) (fun b195 => ?_) (fun b195 => ?_)
                        · skip
                          replace b195 := mt (nI_eq (a := 0) (b := 0) (by omega) (by omega)).mpr b195
                          exfalso; omega
                        · skip
                          replace b195 := (nI_eq (a := 0) (b := 0) (by omega) (by omega)).mp b195
                          refine lv_aload_n hx hb d_M_work_393 rfl (lv_at hl 3 rfl) ?_
                          refine lv_iload_n hx hb d_M_work_394 rfl (lv_at hl 1 rfl) ?_
                          refine lv_iload hx hb d_M_work_395 (lv_at hl 0 rfl) ?_
                          have hI196 := iv_1 hI1_179 hL t_M (by decide) hk194 (oc_11.mk t_M (⟨mth, mn, mdr, msz, mix, mdp, mwt, mop, (mtp - 1), mwa, mgi, mpc, mst, 0, msp, ((mma + bj140)), ((mlg + bj146)), mdu, e192, (by omega), (by omega), (by omega), (by omega), (by omega), (by omega), (by omega), (by omega), (by omega), (by omega), (by omega), (by omega), (by omega), (by omega), hmb14⟩))
                          refine pcc_v (va_runV (C := "BigRunnerModel") (As := [.int (nI ((mtp - 1) - 1)), .int r175]) (rest := []) ⟨hx, hb, hml, hown, tb_nil⟩ (w_keep l g H.size f191 M (((mtp - 1) - 1)) r175 ((x9 - y9)) hLI hSI hr_181 hL t_M hI196 eLI eSI e182 c6LI c183 (by omega) hsr9 (by rw [hsr9.1]; exact hfit9)) ⟨(callB_of 2 (tb_one (wd_1261 hB _)) tb_good1 rfl rfl rfl (wd_82 hB _) (wd_1258 hB _) (by decide +kernel) ⟨Nat.le_of_ble_eq_true rfl, Nat.le_of_ble_eq_true rfl⟩), (wd_1260 hB _), (wd_70 hB _)⟩ ⟨pe_bl, pg_recv (ci := 10) hK hP (lo_in hL t_M (by decide)) e192 rfl, pe_pre hB hK hP hD⟩ rfl rfl hl.1 rfl (lv_room (Nat.le_of_ble_eq_true rfl)) d_M_work_397 ⟨Nat.le_of_ble_eq_true rfl, Nat.le_of_ble_eq_true rfl⟩) hS (fun f198 H locs hq199 hP hD hS => ?_)
                          obtain ⟨sn_200, hI1_201, hk1_202⟩ := hq199
                          have hu := hu.st2 hk1_202 (lo_k11_30 hL _ t_M) (lo_k11_31 hL _ t_M) (by decide) (by decide)
                          have eC := (hk1_202 (g.lk M 6) (tg_ne (lo_k11_6 hL _ t_M) (lo_k11_30 hL _ t_M) (by decide)) (tg_ne (lo_k11_6 hL _ t_M) (lo_k11_31 hL _ t_M) (by decide))).trans eC
                          have eA := (hk1_202 (g.lk M 7) (tg_ne (lo_k11_7 hL _ t_M) (lo_k11_30 hL _ t_M) (by decide)) (tg_ne (lo_k11_7 hL _ t_M) (lo_k11_31 hL _ t_M) (by decide))).trans eA
                          have eVL := (hk1_202 (g.lk M 26) (tg_ne (lo_k11_26 hL _ t_M) (lo_k11_30 hL _ t_M) (by decide)) (tg_ne (lo_k11_26 hL _ t_M) (lo_k11_31 hL _ t_M) (by decide))).trans eVL
                          have eVS := (hk1_202 (g.lk M 27) (tg_ne (lo_k11_27 hL _ t_M) (lo_k11_30 hL _ t_M) (by decide)) (tg_ne (lo_k11_27 hL _ t_M) (lo_k11_31 hL _ t_M) (by decide))).trans eVS
                          have e167 := (hk1_202 (g.lk M 34) (tg_ne (lo_k11_34 hL _ t_M) (lo_k11_30 hL _ t_M) (by decide)) (tg_ne (lo_k11_34 hL _ t_M) (lo_k11_31 hL _ t_M) (by decide))).trans e167
                          have e182 := (hk1_202 (g.lk M 33) (tg_ne (lo_k11_33 hL _ t_M) (lo_k11_30 hL _ t_M) (by decide)) (tg_ne (lo_k11_33 hL _ t_M) (lo_k11_31 hL _ t_M) (by decide))).trans e182
                          have e192 := (hk1_202 M (tg_ne t_M (lo_k11_30 hL _ t_M) (by decide)) (tg_ne t_M (lo_k11_31 hL _ t_M) (by decide))).trans e192
                          obtain ⟨hl_203, hs_204, e205, e206, c207, hsv208, hsf209, hss210⟩ := sn_200
                          have hot9 : otr 3 x9 y9 = 0 := otr_0 (w := 3) (x := x9) (y := y9) (by decide) (Or.inl (by decide)) hfit9
                          have hE9 : ev1 vr 3 v (y9 :: x9 :: S9) = (0, (x9 - y9) :: S9) := ev1_z vr (by decide) (by decide) hot9
                          exact pe_vret hx hb hr hlocks hK hP hD hS d_M_work_400 ⟨⟨(mtp - 1), (mma + bj140), (mlg + bj146), 0, by omega, (by rw [hwE, hVE, hE9]), (fun _ => by rw [hwE, hVE, hE9]; show mtp - 1 = S9.length + 1; omega), e192⟩, ⟨_, _, _, _, e205, e206, e182, e167, c207, c183, c169, (fun _ => by rw [hwE, hVE, hE9]; exact ⟨by rw [show S9.length = mtp - 1 - 1 by omega]; exact hsv208, SVS_SF hsf209 hss210 S9 (by omega) hS9⟩)⟩, hI1_201, hu⟩
                      · skip
                        replace b190 := mt (nI_leI (a := kr189) (b := 120) (by omega) (by omega)).mpr b190
                        have hfit8 : T12 ≤ (x9 - y9).natAbs := hdf9.mp (by omega)
                        refine lv_iconst (v := nI 2) hx hb d_M_work_378 (by decide) ?_
                        refine lv_goto (tgt := 383) hx hb d_M_work_379 (by decide) ?_
                        refine pf_put (v := .int (nI 2)) (ty := .int) (fs' := [.int mth, .ref (g.lk M 1), .int (nI mn), .ref (g.lk M 3), .ref (g.lk M 4), .int (nI mdr), .ref (g.lk M 6), .ref (g.lk M 7), .ref (g.lk M 8), .int (nI msz), .int (nI mix), .int (nI mdp), .ref (g.lk M 12), .int (nI mwt), .ref (g.lk M 14), .ref (g.lk M 15), .int (nI mop), .ref (g.lk M 17), .ref (g.lk M 18), .ref (g.lk M 19), .ref (g.lk M 20), .ref (g.lk M 21), .ref (g.lk M 22), .ref (g.lk M 23), .ref (g.lk M 24), .ref (g.lk M 25), .ref (g.lk M 26), .ref (g.lk M 27), .ref (g.lk M 28), .ref (g.lk M 29), .ref (g.lk M 30), .ref (g.lk M 31), .int (nI (mtp - 1)), .ref (g.lk M 33), .ref (g.lk M 34), .ref (g.lk M 35), .int (nI mwa), .int (nI mgi), .int (nI mpc), .int (nI mst), .int (nI 2), .int (nI msp), .int (mma + bj140), .int (mlg + bj146), .int mdu]) (C := "BigRunnerModel") (T := FT10) (N := 45) hx hb (hw10 hB _) (fun _ h9 => h9) TY10 ok10 nm10 hown hK hP hD hS (lo_in hL t_M (by decide)) e153 rfl 40 (by decide) (wd_987 hB _) rfl (by decide +kernel) rfl rfl (Nat.le_of_ble_eq_true rfl) rfl d_M_work_383 (fun f211 H locs e212 k213 hP hD hS => ?_)
                        have eC := (k213 (g.lk M 6) (tg_ne (lo_k11_6 hL _ t_M) t_M (by decide))).trans eC
                        have eA := (k213 (g.lk M 7) (tg_ne (lo_k11_7 hL _ t_M) t_M (by decide))).trans eA
                        have eLI := (k213 (g.lk M 30) (tg_ne (lo_k11_30 hL _ t_M) t_M (by decide))).trans eLI
                        have eSI := (k213 (g.lk M 31) (tg_ne (lo_k11_31 hL _ t_M) t_M (by decide))).trans eSI
                        have eVL := (k213 (g.lk M 26) (tg_ne (lo_k11_26 hL _ t_M) t_M (by decide))).trans eVL
                        have eVS := (k213 (g.lk M 27) (tg_ne (lo_k11_27 hL _ t_M) t_M (by decide))).trans eVS
                        have e167 := (k213 (g.lk M 34) (tg_ne (lo_k11_34 hL _ t_M) t_M (by decide))).trans e167
                        have e182 := (k213 (g.lk M 33) (tg_ne (lo_k11_33 hL _ t_M) t_M (by decide))).trans e182
                        have hu := hu.st k213 t_M (by decide)
                        have hk214 : ∀ b, b ≠ M → f211 b = f176 b := k213
                        refine lv_aload_n hx hb d_M_work_386 rfl (lv_at hl 3 rfl) ?_
                        refine pf_get (v := .int (nI 2)) (C := "BigRunnerModel") (T := FT10) (N := 45) hx hb (hw10 hB _) (fun _ h9 => h9) hown hK hP (lo_in hL t_M (by decide)) e212 rfl 40 (by decide) (wd_987 hB _) rfl d_M_work_387 ?_
                        refine lv_if_ne (tgt := 400) hx hb d_M_work_390 (by decide) (fun b215 => ?_) (fun b215 => ?_)
                        · skip
                          replace b215 := mt (nI_eq (a := 2) (b := 0) (by omega) (by omega)).mpr b215
                          have hI216 := iv_1 hI1_179 hL t_M (by decide) hk214 (oc_11.mk t_M (⟨mth, mn, mdr, msz, mix, mdp, mwt, mop, (mtp - 1), mwa, mgi, mpc, mst, 2, msp, ((mma + bj140)), ((mlg + bj146)), mdu, e212, (by omega), (by omega), (by omega), (by omega), (by omega), (by omega), (by omega), (by omega), (by omega), (by omega), (by omega), (by omega), (by omega), (by omega), hmb14⟩))
                          have hot9 : otr 3 x9 y9 = 2 := otr_2 (w := 3) (x := x9) (y := y9) (by decide) (Or.inl (by decide)) hfit8
                          have hE9 : ev1 vr 3 v (y9 :: x9 :: S9) = (2, y9 :: x9 :: S9) := (ev1_t vr (by decide) (by decide) (by rw [hot9]; decide)).trans (by rw [hot9])
                          exact pe_vret hx hb hr hlocks hK hP hD hS d_M_work_400 ⟨⟨(mtp - 1), (mma + bj140), (mlg + bj146), 2, by omega, (by rw [hwE, hVE, hE9]), (fun z9 => absurd z9 (by rw [hwE, hVE, hE9]; show ¬ (2 : Nat) = 0; decide)), e212⟩, ⟨_, _, _, _, eLI, eSI, e182, e167, c6LI, c183, c169, (fun z9 => absurd z9 (by rw [hwE, hVE, hE9]; show ¬ (2 : Nat) = 0; decide))⟩, hI216, hu⟩
                        · skip
                          replace b215 := (nI_eq (a := 2) (b := 0) (by omega) (by omega)).mp b215
                          exfalso; omega
                    · skip
                      replace b174 := (nI_eq (a := 3) (b := 2) (by omega) (by omega)).mp b174
                      exfalso; omega
                  · skip
                    replace b173 := (nI_eq (a := 3) (b := 4) (by omega) (by omega)).mp b173
                    exfalso; omega
              · skip
                replace b156 := mt (nI_leI (a := 3) (b := 4) (by omega) (by omega)).mpr b156
                exfalso; omega
            · skip
              replace b151 := (nI_eq (a := 3) (b := 7) (by omega) (by omega)).mp b151
              exfalso; omega
          refine lv_aload_n hx hb d_M_work_144 rfl (lv_at hl 1 rfl) ?_
          refine pf_get (v := .ref (g.lk M 8)) (C := "BigRunnerModel") (T := FT10) (N := 45) hx hb (hw10 hB _) (fun _ h9 => h9) hown hK hP (lo_in hL t_M (by decide)) e142 rfl 8 (by decide) (wd_955 hB _) rfl d_M_work_145 ?_
          refine lv_iload_n hx hb d_M_work_148 rfl (lv_at hl 2 rfl) ?_
          obtain ⟨h_218, e217⟩ := oc_45.of (lo_k11_8 hL _ t_M) (hI.1 (g.lk M 8))
          replace e217 := (hk144 (g.lk M 8) (tg_ne (lo_k11_8 hL _ t_M) t_M (by decide))).trans e217
          refine pf_zald (i := p9) hx hb hK hP (lo_in hL (lo_k11_8 hL _ t_M) (by decide)) e217 (lo_t45 hL _ (lo_k11_8 hL _ t_M)) (by omega) (by decide) d_M_work_149 ?_
          refine lv_if_eq (tgt := 157) hx hb d_M_work_150 (by decide) (fun b220 => ?_) (fun b220 => ?_)
          · skip
            refine lv_iconst (v := nI 1) hx hb d_M_work_157 (by decide) ?_
            exact jn145 ((nI 1)) _ _ hP hD hS
          · skip
            refine lv_iconst (v := nI 0) hx hb d_M_work_153 (by decide) ?_
            refine lv_goto (tgt := 158) hx hb d_M_work_154 (by decide) ?_
            exact jn145 ((nI 0)) _ _ hP hD hS
        refine lv_aload_n hx hb d_M_work_121 rfl (lv_at hl 1 rfl) ?_
        refine pf_get (v := .ref (g.lk M 8)) (C := "BigRunnerModel") (T := FT10) (N := 45) hx hb (hw10 hB _) (fun _ h9 => h9) hown hK hP (lo_in hL t_M (by decide)) eM rfl 8 (by decide) (wd_955 hB _) rfl d_M_work_122 ?_
        refine lv_iload_n hx hb d_M_work_125 rfl (lv_at hl 2 rfl) ?_
        obtain ⟨h_222, e221⟩ := oc_45.of (lo_k11_8 hL _ t_M) (hI.1 (g.lk M 8))
        refine pf_zald (i := p9) hx hb hK hP (lo_in hL (lo_k11_8 hL _ t_M) (by decide)) e221 (lo_t45 hL _ (lo_k11_8 hL _ t_M)) (by omega) (by decide) d_M_work_126 ?_
        refine lv_if_eq (tgt := 134) hx hb d_M_work_127 (by decide) (fun b224 => ?_) (fun b224 => ?_)
        · skip
          refine lv_iconst (v := nI 0) hx hb d_M_work_134 (by decide) ?_
          exact jn139 ((nI 0)) _ _ hP hD hS
        · skip
          refine lv_iconst (v := nI 1) hx hb d_M_work_130 (by decide) ?_
          refine lv_goto (tgt := 135) hx hb d_M_work_131 (by decide) ?_
          exact jn139 ((nI 1)) _ _ hP hD hS
      · skip
        replace b138 := (nI_eq (a := 3) (b := 1) (by omega) (by omega)).mp b138
        exfalso; omega
    · skip
      replace b137 := (nI_eq (a := 3) (b := 0) (by omega) (by omega)).mp b137
      exfalso; omega
  · skip
    refine lv_topi (fun z_ hz_ => ?_)
    obtain rfl : z_ = nI 4 := hz_.trans (congrArg nI hwE)
    have hl : lv_has ls 6 [(2, .int (nI 4)), (0, .ref M), (1, .int (nI p9))] := by rw [hwE] at hl; exact hl
    have z2 := hw2 (by omega) (by omega)
    obtain ⟨y9, x9, S9, hVE⟩ : ∃ y x S, V = y :: x :: S := by
      cases V with
      | nil => (exfalso; have y9 : mtp = 0 := htp; omega)
      | cons y V' =>
        cases V' with
        | nil => (exfalso; have y9 : mtp = 0 + 1 := htp; omega)
        | cons x S => exact ⟨y, x, S, rfl⟩
    rw [hVE] at htp hSV
    have htp9 : mtp = S9.length + 1 + 1 := htp
    obtain ⟨hy9, hx9, hS9⟩ := hSV
    have hy8 : SV hLI hSI (mtp - 1) y9 := by rw [show mtp - 1 = S9.length + 1 by omega]; exact hy9
    have hx8 : SV hLI hSI (mtp - 1 - 1) x9 := by rw [show mtp - 1 - 1 = S9.length by omega]; exact hx9
    have hxl : x9.natAbs < T12 := SV_lt c6LI (by omega) hx8
    refine lv_if_ne (tgt := 36) hx hb d_M_work_8 (by decide) (fun b225 => ?_) (fun b225 => ?_)
    · skip
      replace b225 := mt (nI_eq (a := 4) (b := 0) (by omega) (by omega)).mpr b225
      refine lv_iload_n hx hb d_M_work_36 rfl (lv_at hl 0 rfl) ?_
      refine lv_iconst (v := nI 1) hx hb d_M_work_37 (by decide) ?_
      refine lv_icmp_ne (tgt := 116) hx hb d_M_work_38 (by decide) (fun b226 => ?_) (fun b226 => ?_)
      · skip
        replace b226 := mt (nI_eq (a := 4) (b := 1) (by omega) (by omega)).mpr b226
        refine lv_aload_n hx hb d_M_work_116 rfl (lv_at hl 1 rfl) ?_
        refine lv_dup hx hb d_M_work_117 rfl ?_
        refine pf_get (v := .int mma) (C := "BigRunnerModel") (T := FT10) (N := 45) hx hb (hw10 hB _) (fun _ h9 => h9) hown hK hP (lo_in hL t_M (by decide)) eM rfl 42 (by decide) (wd_989 hB _) rfl d_M_work_118 ?_
        have jn227 : ∀ (bj228 : Int32) (H : Heap) (locs : List Loc), va_P g.D vcl (va_pl g.LP f) H → va_D (pc_A g s.heap.size) (va_pl g.LP f) → va_S (pc_A g s.heap.size) s.heap H locs → W p l e ({ frames := 3, cells := 0, slots := 0, locals := 78 }) s m args below meth c H locs 0 0 (MQ below (va_Qv (fun f1 => (∃ (tp1 : Nat) (ma1 : Int32) (lg1 : Int32) (tr1 : Nat), (tp1 ≤ 80) ∧ (tr1 = (ev1 vr w v V).1) ∧ ((ev1 vr w v V).1 = 0 → tp1 = (ev1 vr w v V).2.length) ∧ f1 M = .inr (10, [.int mth, .ref (g.lk M 1), .int (nI mn), .ref (g.lk M 3), .ref (g.lk M 4), .int (nI mdr), .ref (g.lk M 6), .ref (g.lk M 7), .ref (g.lk M 8), .int (nI msz), .int (nI mix), .int (nI mdp), .ref (g.lk M 12), .int (nI mwt), .ref (g.lk M 14), .ref (g.lk M 15), .int (nI mop), .ref (g.lk M 17), .ref (g.lk M 18), .ref (g.lk M 19), .ref (g.lk M 20), .ref (g.lk M 21), .ref (g.lk M 22), .ref (g.lk M 23), .ref (g.lk M 24), .ref (g.lk M 25), .ref (g.lk M 26), .ref (g.lk M 27), .ref (g.lk M 28), .ref (g.lk M 29), .ref (g.lk M 30), .ref (g.lk M 31), .int (nI tp1), .ref (g.lk M 33), .ref (g.lk M 34), .ref (g.lk M 35), .int (nI mwa), .int (nI mgi), .int (nI mpc), .int (nI mst), .int (nI tr1), .int (nI msp), .int ma1, .int lg1, .int mdu])) ∧ (∃ hl hs hr hq : Nat → Int32, f1 (g.lk M 30) = .inl (g.ac (g.lk M 30), 1600, .inl hl) ∧ f1 (g.lk M 31) = .inl (g.ac (g.lk M 31), 80, .inl hs) ∧ f1 (g.lk M 33) = .inl (g.ac (g.lk M 33), 44, .inl hr) ∧ f1 (g.lk M 34) = .inl (g.ac (g.lk M 34), 44, .inl hq) ∧ C6 1600 hl ∧ C6 44 hr ∧ C6 44 hq ∧ ((ev1 vr w v V).1 = 0 → SVS hl hs (ev1 vr w v V).2)) ∧ (IV g f1) ∧ (un [11, 62, 63, 64, 65] g f f1)) (pc_out g s.heap.size) (pc_A g s.heap.size)) args s 0 0 (pc_A g s.heap.size)) (F0 m 135 ls [.int bj228, .int mma, .ref M]) := by
          intro bj228 H locs hP hD hS
          refine lv_iadd hx hb d_M_work_135 ?_
          refine pf_put (v := .int (mma + bj228)) (ty := .int) (fs' := [.int mth, .ref (g.lk M 1), .int (nI mn), .ref (g.lk M 3), .ref (g.lk M 4), .int (nI mdr), .ref (g.lk M 6), .ref (g.lk M 7), .ref (g.lk M 8), .int (nI msz), .int (nI mix), .int (nI mdp), .ref (g.lk M 12), .int (nI mwt), .ref (g.lk M 14), .ref (g.lk M 15), .int (nI mop), .ref (g.lk M 17), .ref (g.lk M 18), .ref (g.lk M 19), .ref (g.lk M 20), .ref (g.lk M 21), .ref (g.lk M 22), .ref (g.lk M 23), .ref (g.lk M 24), .ref (g.lk M 25), .ref (g.lk M 26), .ref (g.lk M 27), .ref (g.lk M 28), .ref (g.lk M 29), .ref (g.lk M 30), .ref (g.lk M 31), .int (nI mtp), .ref (g.lk M 33), .ref (g.lk M 34), .ref (g.lk M 35), .int (nI mwa), .int (nI mgi), .int (nI mpc), .int (nI mst), .int (nI mtr), .int (nI msp), .int (mma + bj228), .int mlg, .int mdu]) (C := "BigRunnerModel") (T := FT10) (N := 45) hx hb (hw10 hB _) (fun _ h9 => h9) TY10 ok10 nm10 hown hK hP hD hS (lo_in hL t_M (by decide)) eM rfl 42 (by decide) (wd_989 hB _) rfl (by decide +kernel) rfl rfl (Nat.le_of_ble_eq_true rfl) rfl d_M_work_136 (fun f229 H locs e230 k231 hP hD hS => ?_)
          have eC := (k231 (g.lk M 6) (tg_ne (lo_k11_6 hL _ t_M) t_M (by decide))).trans eC
          have eA := (k231 (g.lk M 7) (tg_ne (lo_k11_7 hL _ t_M) t_M (by decide))).trans eA
          have eLI := (k231 (g.lk M 30) (tg_ne (lo_k11_30 hL _ t_M) t_M (by decide))).trans eLI
          have eSI := (k231 (g.lk M 31) (tg_ne (lo_k11_31 hL _ t_M) t_M (by decide))).trans eSI
          have eRE := (k231 (g.lk M 33) (tg_ne (lo_k11_33 hL _ t_M) t_M (by decide))).trans eRE
          have eRS := (k231 (g.lk M 34) (tg_ne (lo_k11_34 hL _ t_M) t_M (by decide))).trans eRS
          have eVL := (k231 (g.lk M 26) (tg_ne (lo_k11_26 hL _ t_M) t_M (by decide))).trans eVL
          have eVS := (k231 (g.lk M 27) (tg_ne (lo_k11_27 hL _ t_M) t_M (by decide))).trans eVS
          have hu := hu.st k231 t_M (by decide)
          have hk232 : ∀ b, b ≠ M → f229 b = f b := k231
          refine lv_aload_n hx hb d_M_work_139 rfl (lv_at hl 1 rfl) ?_
          refine lv_dup hx hb d_M_work_140 rfl ?_
          refine pf_get (v := .int mlg) (C := "BigRunnerModel") (T := FT10) (N := 45) hx hb (hw10 hB _) (fun _ h9 => h9) hown hK hP (lo_in hL t_M (by decide)) e230 rfl 43 (by decide) (wd_990 hB _) rfl d_M_work_141 ?_
          have jn233 : ∀ (bj234 : Int32) (H : Heap) (locs : List Loc), va_P g.D vcl (va_pl g.LP f229) H → va_D (pc_A g s.heap.size) (va_pl g.LP f229) → va_S (pc_A g s.heap.size) s.heap H locs → W p l e ({ frames := 3, cells := 0, slots := 0, locals := 78 }) s m args below meth c H locs 0 0 (MQ below (va_Qv (fun f1 => (∃ (tp1 : Nat) (ma1 : Int32) (lg1 : Int32) (tr1 : Nat), (tp1 ≤ 80) ∧ (tr1 = (ev1 vr w v V).1) ∧ ((ev1 vr w v V).1 = 0 → tp1 = (ev1 vr w v V).2.length) ∧ f1 M = .inr (10, [.int mth, .ref (g.lk M 1), .int (nI mn), .ref (g.lk M 3), .ref (g.lk M 4), .int (nI mdr), .ref (g.lk M 6), .ref (g.lk M 7), .ref (g.lk M 8), .int (nI msz), .int (nI mix), .int (nI mdp), .ref (g.lk M 12), .int (nI mwt), .ref (g.lk M 14), .ref (g.lk M 15), .int (nI mop), .ref (g.lk M 17), .ref (g.lk M 18), .ref (g.lk M 19), .ref (g.lk M 20), .ref (g.lk M 21), .ref (g.lk M 22), .ref (g.lk M 23), .ref (g.lk M 24), .ref (g.lk M 25), .ref (g.lk M 26), .ref (g.lk M 27), .ref (g.lk M 28), .ref (g.lk M 29), .ref (g.lk M 30), .ref (g.lk M 31), .int (nI tp1), .ref (g.lk M 33), .ref (g.lk M 34), .ref (g.lk M 35), .int (nI mwa), .int (nI mgi), .int (nI mpc), .int (nI mst), .int (nI tr1), .int (nI msp), .int ma1, .int lg1, .int mdu])) ∧ (∃ hl hs hr hq : Nat → Int32, f1 (g.lk M 30) = .inl (g.ac (g.lk M 30), 1600, .inl hl) ∧ f1 (g.lk M 31) = .inl (g.ac (g.lk M 31), 80, .inl hs) ∧ f1 (g.lk M 33) = .inl (g.ac (g.lk M 33), 44, .inl hr) ∧ f1 (g.lk M 34) = .inl (g.ac (g.lk M 34), 44, .inl hq) ∧ C6 1600 hl ∧ C6 44 hr ∧ C6 44 hq ∧ ((ev1 vr w v V).1 = 0 → SVS hl hs (ev1 vr w v V).2)) ∧ (IV g f1) ∧ (un [11, 62, 63, 64, 65] g f f1)) (pc_out g s.heap.size) (pc_A g s.heap.size)) args s 0 0 (pc_A g s.heap.size)) (F0 m 158 ls [.int bj234, .int mlg, .ref M]) := by
            intro bj234 H locs hP hD hS
            refine lv_iadd hx hb d_M_work_158 ?_
            refine pf_put (v := .int (mlg + bj234)) (ty := .int) (fs' := [.int mth, .ref (g.lk M 1), .int (nI mn), .ref (g.lk M 3), .ref (g.lk M 4), .int (nI mdr), .ref (g.lk M 6), .ref (g.lk M 7), .ref (g.lk M 8), .int (nI msz), .int (nI mix), .int (nI mdp), .ref (g.lk M 12), .int (nI mwt), .ref (g.lk M 14), .ref (g.lk M 15), .int (nI mop), .ref (g.lk M 17), .ref (g.lk M 18), .ref (g.lk M 19), .ref (g.lk M 20), .ref (g.lk M 21), .ref (g.lk M 22), .ref (g.lk M 23), .ref (g.lk M 24), .ref (g.lk M 25), .ref (g.lk M 26), .ref (g.lk M 27), .ref (g.lk M 28), .ref (g.lk M 29), .ref (g.lk M 30), .ref (g.lk M 31), .int (nI mtp), .ref (g.lk M 33), .ref (g.lk M 34), .ref (g.lk M 35), .int (nI mwa), .int (nI mgi), .int (nI mpc), .int (nI mst), .int (nI mtr), .int (nI msp), .int (mma + bj228), .int (mlg + bj234), .int mdu]) (C := "BigRunnerModel") (T := FT10) (N := 45) hx hb (hw10 hB _) (fun _ h9 => h9) TY10 ok10 nm10 hown hK hP hD hS (lo_in hL t_M (by decide)) e230 rfl 43 (by decide) (wd_990 hB _) rfl (by decide +kernel) rfl rfl (Nat.le_of_ble_eq_true rfl) rfl d_M_work_159 (fun f235 H locs e236 k237 hP hD hS => ?_)
            have eC := (k237 (g.lk M 6) (tg_ne (lo_k11_6 hL _ t_M) t_M (by decide))).trans eC
            have eA := (k237 (g.lk M 7) (tg_ne (lo_k11_7 hL _ t_M) t_M (by decide))).trans eA
            have eLI := (k237 (g.lk M 30) (tg_ne (lo_k11_30 hL _ t_M) t_M (by decide))).trans eLI
            have eSI := (k237 (g.lk M 31) (tg_ne (lo_k11_31 hL _ t_M) t_M (by decide))).trans eSI
            have eRE := (k237 (g.lk M 33) (tg_ne (lo_k11_33 hL _ t_M) t_M (by decide))).trans eRE
            have eRS := (k237 (g.lk M 34) (tg_ne (lo_k11_34 hL _ t_M) t_M (by decide))).trans eRS
            have eVL := (k237 (g.lk M 26) (tg_ne (lo_k11_26 hL _ t_M) t_M (by decide))).trans eVL
            have eVS := (k237 (g.lk M 27) (tg_ne (lo_k11_27 hL _ t_M) t_M (by decide))).trans eVS
            have hu := hu.st k237 t_M (by decide)
            have hk238 : ∀ b, b ≠ M → f235 b = f b := fun b q0 => (k237 b q0).trans (hk232 b q0)
            refine lv_iload_n hx hb d_M_work_162 rfl (lv_at hl 0 rfl) ?_
            refine lv_bipush (v := nI 7) hx hb d_M_work_163 (by decide) ?_
            refine lv_icmp_ne (tgt := 192) hx hb d_M_work_165 (by decide) (fun b239 => ?_) (fun b239 => ?_)
            · skip
              replace b239 := mt (nI_eq (a := 4) (b := 7) (by omega) (by omega)).mpr b239
              refine lv_aload_n hx hb d_M_work_192 rfl (lv_at hl 1 rfl) ?_
              refine lv_dup hx hb d_M_work_193 rfl ?_
              refine pf_get (v := .int (nI mtp)) (C := "BigRunnerModel") (T := FT10) (N := 45) hx hb (hw10 hB _) (fun _ h9 => h9) hown hK hP (lo_in hL t_M (by decide)) e236 rfl 32 (by decide) (wd_979 hB _) rfl d_M_work_194 ?_
              refine lv_iconst (v := nI 1) hx hb d_M_work_197 (by decide) ?_
              refine pf_isubN (x := mtp) (y := 1) hx hb (by omega) d_M_work_198 ?_
              refine pf_put (v := .int (nI (mtp - 1))) (ty := .int) (fs' := [.int mth, .ref (g.lk M 1), .int (nI mn), .ref (g.lk M 3), .ref (g.lk M 4), .int (nI mdr), .ref (g.lk M 6), .ref (g.lk M 7), .ref (g.lk M 8), .int (nI msz), .int (nI mix), .int (nI mdp), .ref (g.lk M 12), .int (nI mwt), .ref (g.lk M 14), .ref (g.lk M 15), .int (nI mop), .ref (g.lk M 17), .ref (g.lk M 18), .ref (g.lk M 19), .ref (g.lk M 20), .ref (g.lk M 21), .ref (g.lk M 22), .ref (g.lk M 23), .ref (g.lk M 24), .ref (g.lk M 25), .ref (g.lk M 26), .ref (g.lk M 27), .ref (g.lk M 28), .ref (g.lk M 29), .ref (g.lk M 30), .ref (g.lk M 31), .int (nI (mtp - 1)), .ref (g.lk M 33), .ref (g.lk M 34), .ref (g.lk M 35), .int (nI mwa), .int (nI mgi), .int (nI mpc), .int (nI mst), .int (nI mtr), .int (nI msp), .int (mma + bj228), .int (mlg + bj234), .int mdu]) (C := "BigRunnerModel") (T := FT10) (N := 45) hx hb (hw10 hB _) (fun _ h9 => h9) TY10 ok10 nm10 hown hK hP hD hS (lo_in hL t_M (by decide)) e236 rfl 32 (by decide) (wd_979 hB _) rfl (by decide +kernel) rfl rfl (Nat.le_of_ble_eq_true rfl) rfl d_M_work_199 (fun f240 H locs e241 k242 hP hD hS => ?_)
              have eC := (k242 (g.lk M 6) (tg_ne (lo_k11_6 hL _ t_M) t_M (by decide))).trans eC
              have eA := (k242 (g.lk M 7) (tg_ne (lo_k11_7 hL _ t_M) t_M (by decide))).trans eA
              have eLI := (k242 (g.lk M 30) (tg_ne (lo_k11_30 hL _ t_M) t_M (by decide))).trans eLI
              have eSI := (k242 (g.lk M 31) (tg_ne (lo_k11_31 hL _ t_M) t_M (by decide))).trans eSI
              have eRE := (k242 (g.lk M 33) (tg_ne (lo_k11_33 hL _ t_M) t_M (by decide))).trans eRE
              have eRS := (k242 (g.lk M 34) (tg_ne (lo_k11_34 hL _ t_M) t_M (by decide))).trans eRS
              have eVL := (k242 (g.lk M 26) (tg_ne (lo_k11_26 hL _ t_M) t_M (by decide))).trans eVL
              have eVS := (k242 (g.lk M 27) (tg_ne (lo_k11_27 hL _ t_M) t_M (by decide))).trans eVS
              have hu := hu.st k242 t_M (by decide)
              have hk243 : ∀ b, b ≠ M → f240 b = f b := fun b q0 => (k242 b q0).trans (hk238 b q0)
              refine lv_aload_n hx hb d_M_work_202 rfl (lv_at hl 1 rfl) ?_
              refine pf_get (v := .int (nI (mtp - 1))) (C := "BigRunnerModel") (T := FT10) (N := 45) hx hb (hw10 hB _) (fun _ h9 => h9) hown hK hP (lo_in hL t_M (by decide)) e241 rfl 32 (by decide) (wd_979 hB _) rfl d_M_work_203 ?_
              refine lv_iconst (v := nI 1) hx hb d_M_work_206 (by decide) ?_
              refine pf_isubN (x := mtp - 1) (y := 1) hx hb (by omega) d_M_work_207 ?_
              refine lv_istore_n (lv' := [(3, .int (nI ((mtp - 1) - 1))), (2, .int (nI 4)), (0, .ref M), (1, .int (nI p9))]) hx hb d_M_work_208 rfl hl (by decide) rfl (fun ls hl => ?_)
              refine lv_iload_n hx hb d_M_work_209 rfl (lv_at hl 1 rfl) ?_
              refine lv_iconst (v := nI 4) hx hb d_M_work_210 (by decide) ?_
              refine lv_icmp_le (tgt := 232) hx hb d_M_work_211 (by decide) (fun b244 => ?_) (fun b244 => ?_)
              · skip
                replace b244 := (nI_leI (a := 4) (b := 4) (by omega) (by omega)).mp b244
                refine lv_aload_n hx hb d_M_work_232 rfl (lv_at hl 2 rfl) ?_
                have hI245 := iv_1 hI hL t_M (by decide) hk243 (oc_11.mk t_M (⟨mth, mn, mdr, msz, mix, mdp, mwt, mop, (mtp - 1), mwa, mgi, mpc, mst, mtr, msp, ((mma + bj228)), ((mlg + bj234)), mdu, e241, (by omega), (by omega), (by omega), (by omega), (by omega), (by omega), (by omega), (by omega), (by omega), (by omega), (by omega), (by omega), (by omega), (by omega), hmb14⟩))
                refine pcc_v (va_runV (C := "BigRunnerModel") (As := []) (rest := []) ⟨hx, hb, hml, hown, tb_nil⟩ (w_clear l g H.size f240 M hRE hRS hL t_M hI245 eRE eRS c6RE c6RS) ⟨(callB_of 0 (tb_one (wd_1224 hB _)) tb_good1 rfl rfl rfl (wd_82 hB _) (wd_1221 hB _) (by decide +kernel) ⟨Nat.le_of_ble_eq_true rfl, Nat.le_of_ble_eq_true rfl⟩), (wd_1223 hB _), (wd_62 hB _)⟩ ⟨pe_bl, pg_recv (ci := 10) hK hP (lo_in hL t_M (by decide)) e241 rfl, pe_pre hB hK hP hD⟩ rfl rfl hl.1 rfl (lv_room (Nat.le_of_ble_eq_true rfl)) d_M_work_233 ⟨Nat.le_of_ble_eq_true rfl, Nat.le_of_ble_eq_true rfl⟩) hS (fun f247 H locs hq248 hP hD hS => ?_)
                obtain ⟨cl_249, hI1_250, hk1_251⟩ := hq248
                have hu := hu.st2 hk1_251 (lo_k11_33 hL _ t_M) (lo_k11_34 hL _ t_M) (by decide) (by decide)
                have eC := (hk1_251 (g.lk M 6) (tg_ne (lo_k11_6 hL _ t_M) (lo_k11_33 hL _ t_M) (by decide)) (tg_ne (lo_k11_6 hL _ t_M) (lo_k11_34 hL _ t_M) (by decide))).trans eC
                have eA := (hk1_251 (g.lk M 7) (tg_ne (lo_k11_7 hL _ t_M) (lo_k11_33 hL _ t_M) (by decide)) (tg_ne (lo_k11_7 hL _ t_M) (lo_k11_34 hL _ t_M) (by decide))).trans eA
                have eLI := (hk1_251 (g.lk M 30) (tg_ne (lo_k11_30 hL _ t_M) (lo_k11_33 hL _ t_M) (by decide)) (tg_ne (lo_k11_30 hL _ t_M) (lo_k11_34 hL _ t_M) (by decide))).trans eLI
                have eSI := (hk1_251 (g.lk M 31) (tg_ne (lo_k11_31 hL _ t_M) (lo_k11_33 hL _ t_M) (by decide)) (tg_ne (lo_k11_31 hL _ t_M) (lo_k11_34 hL _ t_M) (by decide))).trans eSI
                have eVL := (hk1_251 (g.lk M 26) (tg_ne (lo_k11_26 hL _ t_M) (lo_k11_33 hL _ t_M) (by decide)) (tg_ne (lo_k11_26 hL _ t_M) (lo_k11_34 hL _ t_M) (by decide))).trans eVL
                have eVS := (hk1_251 (g.lk M 27) (tg_ne (lo_k11_27 hL _ t_M) (lo_k11_33 hL _ t_M) (by decide)) (tg_ne (lo_k11_27 hL _ t_M) (lo_k11_34 hL _ t_M) (by decide))).trans eVS
                have e241 := (hk1_251 M (tg_ne t_M (lo_k11_33 hL _ t_M) (by decide)) (tg_ne t_M (lo_k11_34 hL _ t_M) (by decide))).trans e241
                obtain ⟨hr_252, hq_253, e254, e255, c256, c257, hz258, hz259⟩ := cl_249
                refine lv_iconst (v := nI 0) hx hb d_M_work_236 (by decide) ?_
                refine lv_istore (lv' := [(4, .int (nI 0)), (3, .int (nI ((mtp - 1) - 1))), (2, .int (nI 4)), (0, .ref M), (1, .int (nI p9))]) hx hb d_M_work_237 hl (by decide) rfl (fun ls hl => ?_)
                refine lv_iload_n hx hb d_M_work_239 rfl (lv_at hl 2 rfl) ?_
                refine lv_iconst (v := nI 5) hx hb d_M_work_240 (by decide) ?_
                refine lv_icmp_ge (tgt := 285) hx hb d_M_work_241 (by decide) (fun b260 => ?_) (fun b260 => ?_)
                · skip
                  replace b260 := (nI_leI (a := 5) (b := 4) (by omega) (by omega)).mp b260
                  exfalso; omega
                · skip
                  replace b260 := mt (nI_leI (a := 5) (b := 4) (by omega) (by omega)).mpr b260
                  refine lv_iload_n hx hb d_M_work_244 rfl (lv_at hl 2 rfl) ?_
                  refine lv_iconst (v := nI 4) hx hb d_M_work_245 (by decide) ?_
                  refine lv_icmp_ne (tgt := 261) hx hb d_M_work_246 (by decide) (fun b261 => ?_) (fun b261 => ?_)
                  · skip
                    replace b261 := mt (nI_eq (a := 4) (b := 4) (by omega) (by omega)).mpr b261
                    exfalso; omega
                  · skip
                    replace b261 := (nI_eq (a := 4) (b := 4) (by omega) (by omega)).mp b261
                    refine lv_aload_n hx hb d_M_work_249 rfl (lv_at hl 3 rfl) ?_
                    refine lv_iload_n hx hb d_M_work_250 rfl (lv_at hl 1 rfl) ?_
                    refine lv_aload_n hx hb d_M_work_251 rfl (lv_at hl 3 rfl) ?_
                    refine pf_get (v := .int (nI (mtp - 1))) (C := "BigRunnerModel") (T := FT10) (N := 45) hx hb (hw10 hB _) (fun _ h9 => h9) hown hK hP (lo_in hL t_M (by decide)) e241 rfl 32 (by decide) (wd_979 hB _) rfl d_M_work_252 ?_
                    refine pcc_i (va_runV (C := "BigRunnerModel") (As := [.int (nI ((mtp - 1) - 1)), .int (nI (mtp - 1))]) (rest := []) ⟨hx, hb, hml, hown, tb_nil⟩ (w_product l g H.size f247 M (((mtp - 1) - 1)) ((mtp - 1)) x9 y9 hLI hSI hr_252 hL t_M hI1_250 eLI eSI e254 c6LI c256 (by omega) (by omega) hz258 hx8 hy8) ⟨(callB_of 2 (tb_one (wd_1228 hB _)) tb_good1 rfl rfl rfl (wd_82 hB _) (wd_1225 hB _) (by decide +kernel) ⟨Nat.le_of_ble_eq_true rfl, Nat.le_of_ble_eq_true rfl⟩), (wd_1227 hB _), (wd_63 hB _)⟩ ⟨pe_bl, pg_recv (ci := 10) hK hP (lo_in hL t_M (by decide)) e241 rfl, pe_pre hB hK hP hD⟩ rfl rfl hl.1 rfl (lv_room (Nat.le_of_ble_eq_true rfl)) d_M_work_255 ⟨Nat.le_of_ble_eq_true rfl, Nat.le_of_ble_eq_true rfl⟩) hS (fun r262 f263 H locs hq264 hP hD hS => ?_)
                    obtain ⟨re_265, hI1_266, hk1_267⟩ := hq264
                    have hu := hu.st hk1_267 (lo_k11_33 hL _ t_M) (by decide)
                    have eC := (hk1_267 (g.lk M 6) (tg_ne (lo_k11_6 hL _ t_M) (lo_k11_33 hL _ t_M) (by decide))).trans eC
                    have eA := (hk1_267 (g.lk M 7) (tg_ne (lo_k11_7 hL _ t_M) (lo_k11_33 hL _ t_M) (by decide))).trans eA
                    have eLI := (hk1_267 (g.lk M 30) (tg_ne (lo_k11_30 hL _ t_M) (lo_k11_33 hL _ t_M) (by decide))).trans eLI
                    have eSI := (hk1_267 (g.lk M 31) (tg_ne (lo_k11_31 hL _ t_M) (lo_k11_33 hL _ t_M) (by decide))).trans eSI
                    have eVL := (hk1_267 (g.lk M 26) (tg_ne (lo_k11_26 hL _ t_M) (lo_k11_33 hL _ t_M) (by decide))).trans eVL
                    have eVS := (hk1_267 (g.lk M 27) (tg_ne (lo_k11_27 hL _ t_M) (lo_k11_33 hL _ t_M) (by decide))).trans eVS
                    have e241 := (hk1_267 M (tg_ne t_M (lo_k11_33 hL _ t_M) (by decide))).trans e241
                    have e255 := (hk1_267 (g.lk M 34) (tg_ne (lo_k11_34 hL _ t_M) (lo_k11_33 hL _ t_M) (by decide))).trans e255
                    obtain ⟨hr_268, e269, c270, hsr271⟩ := re_265
                    refine lv_goto (tgt := 280) hx hb d_M_work_258 (by decide) ?_
                    refine lv_istore (lv' := [(4, .int r262), (3, .int (nI ((mtp - 1) - 1))), (2, .int (nI 4)), (0, .ref M), (1, .int (nI p9))]) hx hb d_M_work_280 hl (by decide) rfl (fun ls hl => ?_)
                    refine lv_goto (tgt := 362) hx hb d_M_work_282 (by decide) ?_
                    refine lv_aload_n hx hb d_M_work_362 rfl (lv_at hl 3 rfl) ?_
                    refine lv_aload_n hx hb d_M_work_363 rfl (lv_at hl 3 rfl) ?_
                    refine pf_get (v := .ref (g.lk M 33)) (C := "BigRunnerModel") (T := FT10) (N := 45) hx hb (hw10 hB _) (fun _ h9 => h9) hown hK hP (lo_in hL t_M (by decide)) e241 rfl 33 (by decide) (wd_980 hB _) rfl d_M_work_364 ?_
                    refine lv_iconst (v := nI 0) hx hb d_M_work_367 (by decide) ?_
                    refine lv_bipush (v := nI 44) hx hb d_M_work_368 (by decide) ?_
                    refine pcc_i (va_runS (As := [.ref (g.lk M 33), .int (nI 0), .int (nI 44)]) (rest := [.ref M]) ⟨hx, hb, hml, hown, tb_nil⟩ (w_digitsOf64 l g H.size f263 ((g.lk M 33)) 0 44 hr_268 hL (lo_k11_33 hL _ t_M) hI1_266.1 e269 c270 (by omega)) ⟨(callB_of 3 (tb_one (wd_1257 hB _)) tb_good1 rfl rfl rfl (wd_82 hB _) (wd_1255 hB _) (by decide +kernel) ⟨Nat.le_of_ble_eq_true rfl, Nat.le_of_ble_eq_true rfl⟩), (wd_1256 hB _)⟩ ⟨pe_bl, pe_pre hB hK hP hD⟩ rfl rfl hl.1 rfl (lv_room (Nat.le_of_ble_eq_true rfl)) d_M_work_370 ⟨Nat.le_of_ble_eq_true rfl, Nat.le_of_ble_eq_true rfl⟩) hS (fun r272 f273 H locs hq274 hP hD hS => ?_)
                    obtain ⟨dt_275, rfl⟩ := hq274
                    obtain ⟨kr276, hkr276_0, hkr276_1, rfl⟩ := dt_275
                    have hdf9 := dgt_fit hkr276_1
                    have hkz9 : kw (fun i => dg hr_268 (0 + i)) 44 = kw (dg hr_268) 44 := kw_eq (fun i _ => by rw [Nat.zero_add])
                    rw [hkz9, hsr271.1] at hdf9
                    refine lv_bipush (v := nI 120) hx hb d_M_work_373 (by decide) ?_
                    refine lv_icmp_le (tgt := 382) hx hb d_M_work_375 (by decide) (fun b277 => ?_) (fun b277 => ?_)
                    · skip
                      replace b277 := (nI_leI (a := kr276) (b := 120) (by omega) (by omega)).mp b277
                      have hfit9 : (x9 * y9).natAbs < T12 := by have z9 := mt hdf9.mpr (by omega); omega
                      refine lv_iconst (v := nI 0) hx hb d_M_work_382 (by decide) ?_
                      refine pf_put (v := .int (nI 0)) (ty := .int) (fs' := [.int mth, .ref (g.lk M 1), .int (nI mn), .ref (g.lk M 3), .ref (g.lk M 4), .int (nI mdr), .ref (g.lk M 6), .ref (g.lk M 7), .ref (g.lk M 8), .int (nI msz), .int (nI mix), .int (nI mdp), .ref (g.lk M 12), .int (nI mwt), .ref (g.lk M 14), .ref (g.lk M 15), .int (nI mop), .ref (g.lk M 17), .ref (g.lk M 18), .ref (g.lk M 19), .ref (g.lk M 20), .ref (g.lk M 21), .ref (g.lk M 22), .ref (g.lk M 23), .ref (g.lk M 24), .ref (g.lk M 25), .ref (g.lk M 26), .ref (g.lk M 27), .ref (g.lk M 28), .ref (g.lk M 29), .ref (g.lk M 30), .ref (g.lk M 31), .int (nI (mtp - 1)), .ref (g.lk M 33), .ref (g.lk M 34), .ref (g.lk M 35), .int (nI mwa), .int (nI mgi), .int (nI mpc), .int (nI mst), .int (nI 0), .int (nI msp), .int (mma + bj228), .int (mlg + bj234), .int mdu]) (C := "BigRunnerModel") (T := FT10) (N := 45) hx hb (hw10 hB _) (fun _ h9 => h9) TY10 ok10 nm10 hown hK hP hD hS (lo_in hL t_M (by decide)) e241 rfl 40 (by decide) (wd_987 hB _) rfl (by decide +kernel) rfl rfl (Nat.le_of_ble_eq_true rfl) rfl d_M_work_383 (fun f278 H locs e279 k280 hP hD hS => ?_)
                      have eC := (k280 (g.lk M 6) (tg_ne (lo_k11_6 hL _ t_M) t_M (by decide))).trans eC
                      have eA := (k280 (g.lk M 7) (tg_ne (lo_k11_7 hL _ t_M) t_M (by decide))).trans eA
                      have eLI := (k280 (g.lk M 30) (tg_ne (lo_k11_30 hL _ t_M) t_M (by decide))).trans eLI
                      have eSI := (k280 (g.lk M 31) (tg_ne (lo_k11_31 hL _ t_M) t_M (by decide))).trans eSI
                      have eVL := (k280 (g.lk M 26) (tg_ne (lo_k11_26 hL _ t_M) t_M (by decide))).trans eVL
                      have eVS := (k280 (g.lk M 27) (tg_ne (lo_k11_27 hL _ t_M) t_M (by decide))).trans eVS
                      have e255 := (k280 (g.lk M 34) (tg_ne (lo_k11_34 hL _ t_M) t_M (by decide))).trans e255
                      have e269 := (k280 (g.lk M 33) (tg_ne (lo_k11_33 hL _ t_M) t_M (by decide))).trans e269
                      have hu := hu.st k280 t_M (by decide)
                      have hk281 : ∀ b, b ≠ M → f278 b = f263 b := k280
                      refine lv_aload_n hx hb d_M_work_386 rfl (lv_at hl 3 rfl) ?_
                      refine pf_get (v := .int (nI 0)) (C := "BigRunnerModel") (T := FT10) (N := 45) hx hb (hw10 hB _) (fun _ h9 => h9) hown hK hP (lo_in hL t_M (by decide)) e279 rfl 40 (by decide) (wd_987 hB _) rfl d_M_work_387 ?_
                      refine lv_if_ne (tgt := 400) hx hb d_M_work_390 (by decide) (fun b282 => ?_) (fun b282 => ?_)
                      · skip
                        replace b282 := mt (nI_eq (a := 0) (b := 0) (by omega) (by omega)).mpr b282
                        exfalso; omega
                      · skip
                        replace b282 := (nI_eq (a := 0) (b := 0) (by omega) (by omega)).mp b282
                        refine lv_aload_n hx hb d_M_work_393 rfl (lv_at hl 3 rfl) ?_
                        refine lv_iload_n hx hb d_M_work_394 rfl (lv_at hl 1 rfl) ?_
                        refine lv_iload hx hb d_M_work_395 (lv_at hl 0 rfl) ?_
                        have hI283 := iv_1 hI1_266 hL t_M (by decide) hk281 (oc_11.mk t_M (⟨mth, mn, mdr, msz, mix, mdp, mwt, mop, (mtp - 1), mwa, mgi, mpc, mst, 0, msp, ((mma + bj228)), ((mlg + bj234)), mdu, e279, (by omega), (by omega), (by omega), (by omega), (by omega), (by omega), (by omega), (by omega), (by omega), (by omega), (by omega), (by omega), (by omega), (by omega), hmb14⟩))
                        refine pcc_v (va_runV (C := "BigRunnerModel") (As := [.int (nI ((mtp - 1) - 1)), .int r262]) (rest := []) ⟨hx, hb, hml, hown, tb_nil⟩ (w_keep l g H.size f278 M (((mtp - 1) - 1)) r262 ((x9 * y9)) hLI hSI hr_268 hL t_M hI283 eLI eSI e269 c6LI c270 (by omega) hsr271 (by rw [hsr271.1]; exact hfit9)) ⟨(callB_of 2 (tb_one (wd_1261 hB _)) tb_good1 rfl rfl rfl (wd_82 hB _) (wd_1258 hB _) (by decide +kernel) ⟨Nat.le_of_ble_eq_true rfl, Nat.le_of_ble_eq_true rfl⟩), (wd_1260 hB _), (wd_70 hB _)⟩ ⟨pe_bl, pg_recv (ci := 10) hK hP (lo_in hL t_M (by decide)) e279 rfl, pe_pre hB hK hP hD⟩ rfl rfl hl.1 rfl (lv_room (Nat.le_of_ble_eq_true rfl)) d_M_work_397 ⟨Nat.le_of_ble_eq_true rfl, Nat.le_of_ble_eq_true rfl⟩) hS (fun f285 H locs hq286 hP hD hS => ?_)
                        obtain ⟨sn_287, hI1_288, hk1_289⟩ := hq286
                        have hu := hu.st2 hk1_289 (lo_k11_30 hL _ t_M) (lo_k11_31 hL _ t_M) (by decide) (by decide)
                        have eC := (hk1_289 (g.lk M 6) (tg_ne (lo_k11_6 hL _ t_M) (lo_k11_30 hL _ t_M) (by decide)) (tg_ne (lo_k11_6 hL _ t_M) (lo_k11_31 hL _ t_M) (by decide))).trans eC
                        have eA := (hk1_289 (g.lk M 7) (tg_ne (lo_k11_7 hL _ t_M) (lo_k11_30 hL _ t_M) (by decide)) (tg_ne (lo_k11_7 hL _ t_M) (lo_k11_31 hL _ t_M) (by decide))).trans eA
                        have eVL := (hk1_289 (g.lk M 26) (tg_ne (lo_k11_26 hL _ t_M) (lo_k11_30 hL _ t_M) (by decide)) (tg_ne (lo_k11_26 hL _ t_M) (lo_k11_31 hL _ t_M) (by decide))).trans eVL
                        have eVS := (hk1_289 (g.lk M 27) (tg_ne (lo_k11_27 hL _ t_M) (lo_k11_30 hL _ t_M) (by decide)) (tg_ne (lo_k11_27 hL _ t_M) (lo_k11_31 hL _ t_M) (by decide))).trans eVS
                        have e255 := (hk1_289 (g.lk M 34) (tg_ne (lo_k11_34 hL _ t_M) (lo_k11_30 hL _ t_M) (by decide)) (tg_ne (lo_k11_34 hL _ t_M) (lo_k11_31 hL _ t_M) (by decide))).trans e255
                        have e269 := (hk1_289 (g.lk M 33) (tg_ne (lo_k11_33 hL _ t_M) (lo_k11_30 hL _ t_M) (by decide)) (tg_ne (lo_k11_33 hL _ t_M) (lo_k11_31 hL _ t_M) (by decide))).trans e269
                        have e279 := (hk1_289 M (tg_ne t_M (lo_k11_30 hL _ t_M) (by decide)) (tg_ne t_M (lo_k11_31 hL _ t_M) (by decide))).trans e279
                        obtain ⟨hl_290, hs_291, e292, e293, c294, hsv295, hsf296, hss297⟩ := sn_287
                        have hot9 : otr 4 x9 y9 = 0 := otr_0 (w := 4) (x := x9) (y := y9) (by decide) (Or.inl (by decide)) hfit9
                        have hE9 : ev1 vr 4 v (y9 :: x9 :: S9) = (0, (x9 * y9) :: S9) := ev1_z vr (by decide) (by decide) hot9
                        exact pe_vret hx hb hr hlocks hK hP hD hS d_M_work_400 ⟨⟨(mtp - 1), (mma + bj228), (mlg + bj234), 0, by omega, (by rw [hwE, hVE, hE9]), (fun _ => by rw [hwE, hVE, hE9]; show mtp - 1 = S9.length + 1; omega), e279⟩, ⟨_, _, _, _, e292, e293, e269, e255, c294, c270, c257, (fun _ => by rw [hwE, hVE, hE9]; exact ⟨by rw [show S9.length = mtp - 1 - 1 by omega]; exact hsv295, SVS_SF hsf296 hss297 S9 (by omega) hS9⟩)⟩, hI1_288, hu⟩
                    · skip
                      replace b277 := mt (nI_leI (a := kr276) (b := 120) (by omega) (by omega)).mpr b277
                      have hfit8 : T12 ≤ (x9 * y9).natAbs := hdf9.mp (by omega)
                      refine lv_iconst (v := nI 2) hx hb d_M_work_378 (by decide) ?_
                      refine lv_goto (tgt := 383) hx hb d_M_work_379 (by decide) ?_
                      refine pf_put (v := .int (nI 2)) (ty := .int) (fs' := [.int mth, .ref (g.lk M 1), .int (nI mn), .ref (g.lk M 3), .ref (g.lk M 4), .int (nI mdr), .ref (g.lk M 6), .ref (g.lk M 7), .ref (g.lk M 8), .int (nI msz), .int (nI mix), .int (nI mdp), .ref (g.lk M 12), .int (nI mwt), .ref (g.lk M 14), .ref (g.lk M 15), .int (nI mop), .ref (g.lk M 17), .ref (g.lk M 18), .ref (g.lk M 19), .ref (g.lk M 20), .ref (g.lk M 21), .ref (g.lk M 22), .ref (g.lk M 23), .ref (g.lk M 24), .ref (g.lk M 25), .ref (g.lk M 26), .ref (g.lk M 27), .ref (g.lk M 28), .ref (g.lk M 29), .ref (g.lk M 30), .ref (g.lk M 31), .int (nI (mtp - 1)), .ref (g.lk M 33), .ref (g.lk M 34), .ref (g.lk M 35), .int (nI mwa), .int (nI mgi), .int (nI mpc), .int (nI mst), .int (nI 2), .int (nI msp), .int (mma + bj228), .int (mlg + bj234), .int mdu]) (C := "BigRunnerModel") (T := FT10) (N := 45) hx hb (hw10 hB _) (fun _ h9 => h9) TY10 ok10 nm10 hown hK hP hD hS (lo_in hL t_M (by decide)) e241 rfl 40 (by decide) (wd_987 hB _) rfl (by decide +kernel) rfl rfl (Nat.le_of_ble_eq_true rfl) rfl d_M_work_383 (fun f298 H locs e299 k300 hP hD hS => ?_)
                      have eC := (k300 (g.lk M 6) (tg_ne (lo_k11_6 hL _ t_M) t_M (by decide))).trans eC
                      have eA := (k300 (g.lk M 7) (tg_ne (lo_k11_7 hL _ t_M) t_M (by decide))).trans eA
                      have eLI := (k300 (g.lk M 30) (tg_ne (lo_k11_30 hL _ t_M) t_M (by decide))).trans eLI
                      have eSI := (k300 (g.lk M 31) (tg_ne (lo_k11_31 hL _ t_M) t_M (by decide))).trans eSI
                      have eVL := (k300 (g.lk M 26) (tg_ne (lo_k11_26 hL _ t_M) t_M (by decide))).trans eVL
                      have eVS := (k300 (g.lk M 27) (tg_ne (lo_k11_27 hL _ t_M) t_M (by decide))).trans eVS
                      have e255 := (k300 (g.lk M 34) (tg_ne (lo_k11_34 hL _ t_M) t_M (by decide))).trans e255
                      have e269 := (k300 (g.lk M 33) (tg_ne (lo_k11_33 hL _ t_M) t_M (by decide))).trans e269
                      have hu := hu.st k300 t_M (by decide)
                      have hk301 : ∀ b, b ≠ M → f298 b = f263 b := k300
                      refine lv_aload_n hx hb d_M_work_386 rfl (lv_at hl 3 rfl) ?_
                      refine pf_get (v := .int (nI 2)) (C := "BigRunnerModel") (T := FT10) (N := 45) hx hb (hw10 hB _) (fun _ h9 => h9) hown hK hP (lo_in hL t_M (by decide)) e299 rfl 40 (by decide) (wd_987 hB _) rfl d_M_work_387 ?_
                      refine lv_if_ne (tgt := 400) hx hb d_M_work_390 (by decide) (fun b302 => ?_) (fun b302 => ?_)
                      · skip
                        replace b302 := mt (nI_eq (a := 2) (b := 0) (by omega) (by omega)).mpr b302
                        have hI303 := iv_1 hI1_266 hL t_M (by decide) hk301 (oc_11.mk t_M (⟨mth, mn, mdr, msz, mix, mdp, mwt, mop, (mtp - 1), mwa, mgi, mpc, mst, 2, msp, ((mma + bj228)), ((mlg + bj234)), mdu, e299, (by omega), (by omega), (by omega), (by omega), (by omega), (by omega), (by omega), (by omega), (by omega), (by omega), (by omega), (by omega), (by omega), (by omega), hmb14⟩))
                        have hot9 : otr 4 x9 y9 = 2 := otr_2 (w := 4) (x := x9) (y := y9) (by decide) (Or.inl (by decide)) hfit8
                        have hE9 : ev1 vr 4 v (y9 :: x9 :: S9) = (2, y9 :: x9 :: S9) := (ev1_t vr (by decide) (by decide) (by rw [hot9]; decide)).trans (by rw [hot9])
                        exact pe_vret hx hb hr hlocks hK hP hD hS d_M_work_400 ⟨⟨(mtp - 1), (mma + bj228), (mlg + bj234), 2, by omega, (by rw [hwE, hVE, hE9]), (fun z9 => absurd z9 (by rw [hwE, hVE, hE9]; show ¬ (2 : Nat) = 0; decide)), e299⟩, ⟨_, _, _, _, eLI, eSI, e269, e255, c6LI, c270, c257, (fun z9 => absurd z9 (by rw [hwE, hVE, hE9]; show ¬ (2 : Nat) = 0; decide))⟩, hI303, hu⟩
                      · skip
                        replace b302 := (nI_eq (a := 2) (b := 0) (by omega) (by omega)).mp b302
                        exfalso; omega
              · skip
                replace b244 := mt (nI_leI (a := 4) (b := 4) (by omega) (by omega)).mpr b244
                exfalso; omega
            · skip
              replace b239 := (nI_eq (a := 4) (b := 7) (by omega) (by omega)).mp b239
              exfalso; omega
          refine lv_aload_n hx hb d_M_work_144 rfl (lv_at hl 1 rfl) ?_
          refine pf_get (v := .ref (g.lk M 8)) (C := "BigRunnerModel") (T := FT10) (N := 45) hx hb (hw10 hB _) (fun _ h9 => h9) hown hK hP (lo_in hL t_M (by decide)) e230 rfl 8 (by decide) (wd_955 hB _) rfl d_M_work_145 ?_
          refine lv_iload_n hx hb d_M_work_148 rfl (lv_at hl 2 rfl) ?_
          obtain ⟨h_305, e304⟩ := oc_45.of (lo_k11_8 hL _ t_M) (hI.1 (g.lk M 8))
          replace e304 := (hk232 (g.lk M 8) (tg_ne (lo_k11_8 hL _ t_M) t_M (by decide))).trans e304
          refine pf_zald (i := p9) hx hb hK hP (lo_in hL (lo_k11_8 hL _ t_M) (by decide)) e304 (lo_t45 hL _ (lo_k11_8 hL _ t_M)) (by omega) (by decide) d_M_work_149 ?_
          refine lv_if_eq (tgt := 157) hx hb d_M_work_150 (by decide) (fun b307 => ?_) (fun b307 => ?_)
          · skip
            refine lv_iconst (v := nI 1) hx hb d_M_work_157 (by decide) ?_
            exact jn233 ((nI 1)) _ _ hP hD hS
          · skip
            refine lv_iconst (v := nI 0) hx hb d_M_work_153 (by decide) ?_
            refine lv_goto (tgt := 158) hx hb d_M_work_154 (by decide) ?_
            exact jn233 ((nI 0)) _ _ hP hD hS
        refine lv_aload_n hx hb d_M_work_121 rfl (lv_at hl 1 rfl) ?_
        refine pf_get (v := .ref (g.lk M 8)) (C := "BigRunnerModel") (T := FT10) (N := 45) hx hb (hw10 hB _) (fun _ h9 => h9) hown hK hP (lo_in hL t_M (by decide)) eM rfl 8 (by decide) (wd_955 hB _) rfl d_M_work_122 ?_
        refine lv_iload_n hx hb d_M_work_125 rfl (lv_at hl 2 rfl) ?_
        obtain ⟨h_309, e308⟩ := oc_45.of (lo_k11_8 hL _ t_M) (hI.1 (g.lk M 8))
        refine pf_zald (i := p9) hx hb hK hP (lo_in hL (lo_k11_8 hL _ t_M) (by decide)) e308 (lo_t45 hL _ (lo_k11_8 hL _ t_M)) (by omega) (by decide) d_M_work_126 ?_
        refine lv_if_eq (tgt := 134) hx hb d_M_work_127 (by decide) (fun b311 => ?_) (fun b311 => ?_)
        · skip
          refine lv_iconst (v := nI 0) hx hb d_M_work_134 (by decide) ?_
          exact jn227 ((nI 0)) _ _ hP hD hS
        · skip
          refine lv_iconst (v := nI 1) hx hb d_M_work_130 (by decide) ?_
          refine lv_goto (tgt := 135) hx hb d_M_work_131 (by decide) ?_
          exact jn227 ((nI 1)) _ _ hP hD hS
      · skip
        replace b226 := (nI_eq (a := 4) (b := 1) (by omega) (by omega)).mp b226
        exfalso; omega
    · skip
      replace b225 := (nI_eq (a := 4) (b := 0) (by omega) (by omega)).mp b225
      exfalso; omega
  · skip
    refine lv_topi (fun z_ hz_ => ?_)
    obtain rfl : z_ = nI 5 := hz_.trans (congrArg nI hwE)
    have hl : lv_has ls 6 [(2, .int (nI 5)), (0, .ref M), (1, .int (nI p9))] := by rw [hwE] at hl; exact hl
    have z2 := hw2 (by omega) (by omega)
    obtain ⟨y9, x9, S9, hVE⟩ : ∃ y x S, V = y :: x :: S := by
      cases V with
      | nil => (exfalso; have y9 : mtp = 0 := htp; omega)
      | cons y V' =>
        cases V' with
        | nil => (exfalso; have y9 : mtp = 0 + 1 := htp; omega)
        | cons x S => exact ⟨y, x, S, rfl⟩
    rw [hVE] at htp hSV
    have htp9 : mtp = S9.length + 1 + 1 := htp
    obtain ⟨hy9, hx9, hS9⟩ := hSV
    have hy8 : SV hLI hSI (mtp - 1) y9 := by rw [show mtp - 1 = S9.length + 1 by omega]; exact hy9
    have hx8 : SV hLI hSI (mtp - 1 - 1) x9 := by rw [show mtp - 1 - 1 = S9.length by omega]; exact hx9
    have hxl : x9.natAbs < T12 := SV_lt c6LI (by omega) hx8
    refine lv_if_ne (tgt := 36) hx hb d_M_work_8 (by decide) (fun b312 => ?_) (fun b312 => ?_)
    · skip
      replace b312 := mt (nI_eq (a := 5) (b := 0) (by omega) (by omega)).mpr b312
      refine lv_iload_n hx hb d_M_work_36 rfl (lv_at hl 0 rfl) ?_
      refine lv_iconst (v := nI 1) hx hb d_M_work_37 (by decide) ?_
      refine lv_icmp_ne (tgt := 116) hx hb d_M_work_38 (by decide) (fun b313 => ?_) (fun b313 => ?_)
      · skip
        replace b313 := mt (nI_eq (a := 5) (b := 1) (by omega) (by omega)).mpr b313
        refine lv_aload_n hx hb d_M_work_116 rfl (lv_at hl 1 rfl) ?_
        refine lv_dup hx hb d_M_work_117 rfl ?_
        refine pf_get (v := .int mma) (C := "BigRunnerModel") (T := FT10) (N := 45) hx hb (hw10 hB _) (fun _ h9 => h9) hown hK hP (lo_in hL t_M (by decide)) eM rfl 42 (by decide) (wd_989 hB _) rfl d_M_work_118 ?_
        have jn314 : ∀ (bj315 : Int32) (H : Heap) (locs : List Loc), va_P g.D vcl (va_pl g.LP f) H → va_D (pc_A g s.heap.size) (va_pl g.LP f) → va_S (pc_A g s.heap.size) s.heap H locs → W p l e ({ frames := 3, cells := 0, slots := 0, locals := 78 }) s m args below meth c H locs 0 0 (MQ below (va_Qv (fun f1 => (∃ (tp1 : Nat) (ma1 : Int32) (lg1 : Int32) (tr1 : Nat), (tp1 ≤ 80) ∧ (tr1 = (ev1 vr w v V).1) ∧ ((ev1 vr w v V).1 = 0 → tp1 = (ev1 vr w v V).2.length) ∧ f1 M = .inr (10, [.int mth, .ref (g.lk M 1), .int (nI mn), .ref (g.lk M 3), .ref (g.lk M 4), .int (nI mdr), .ref (g.lk M 6), .ref (g.lk M 7), .ref (g.lk M 8), .int (nI msz), .int (nI mix), .int (nI mdp), .ref (g.lk M 12), .int (nI mwt), .ref (g.lk M 14), .ref (g.lk M 15), .int (nI mop), .ref (g.lk M 17), .ref (g.lk M 18), .ref (g.lk M 19), .ref (g.lk M 20), .ref (g.lk M 21), .ref (g.lk M 22), .ref (g.lk M 23), .ref (g.lk M 24), .ref (g.lk M 25), .ref (g.lk M 26), .ref (g.lk M 27), .ref (g.lk M 28), .ref (g.lk M 29), .ref (g.lk M 30), .ref (g.lk M 31), .int (nI tp1), .ref (g.lk M 33), .ref (g.lk M 34), .ref (g.lk M 35), .int (nI mwa), .int (nI mgi), .int (nI mpc), .int (nI mst), .int (nI tr1), .int (nI msp), .int ma1, .int lg1, .int mdu])) ∧ (∃ hl hs hr hq : Nat → Int32, f1 (g.lk M 30) = .inl (g.ac (g.lk M 30), 1600, .inl hl) ∧ f1 (g.lk M 31) = .inl (g.ac (g.lk M 31), 80, .inl hs) ∧ f1 (g.lk M 33) = .inl (g.ac (g.lk M 33), 44, .inl hr) ∧ f1 (g.lk M 34) = .inl (g.ac (g.lk M 34), 44, .inl hq) ∧ C6 1600 hl ∧ C6 44 hr ∧ C6 44 hq ∧ ((ev1 vr w v V).1 = 0 → SVS hl hs (ev1 vr w v V).2)) ∧ (IV g f1) ∧ (un [11, 62, 63, 64, 65] g f f1)) (pc_out g s.heap.size) (pc_A g s.heap.size)) args s 0 0 (pc_A g s.heap.size)) (F0 m 135 ls [.int bj315, .int mma, .ref M]) := by
          intro bj315 H locs hP hD hS
          refine lv_iadd hx hb d_M_work_135 ?_
          refine pf_put (v := .int (mma + bj315)) (ty := .int) (fs' := [.int mth, .ref (g.lk M 1), .int (nI mn), .ref (g.lk M 3), .ref (g.lk M 4), .int (nI mdr), .ref (g.lk M 6), .ref (g.lk M 7), .ref (g.lk M 8), .int (nI msz), .int (nI mix), .int (nI mdp), .ref (g.lk M 12), .int (nI mwt), .ref (g.lk M 14), .ref (g.lk M 15), .int (nI mop), .ref (g.lk M 17), .ref (g.lk M 18), .ref (g.lk M 19), .ref (g.lk M 20), .ref (g.lk M 21), .ref (g.lk M 22), .ref (g.lk M 23), .ref (g.lk M 24), .ref (g.lk M 25), .ref (g.lk M 26), .ref (g.lk M 27), .ref (g.lk M 28), .ref (g.lk M 29), .ref (g.lk M 30), .ref (g.lk M 31), .int (nI mtp), .ref (g.lk M 33), .ref (g.lk M 34), .ref (g.lk M 35), .int (nI mwa), .int (nI mgi), .int (nI mpc), .int (nI mst), .int (nI mtr), .int (nI msp), .int (mma + bj315), .int mlg, .int mdu]) (C := "BigRunnerModel") (T := FT10) (N := 45) hx hb (hw10 hB _) (fun _ h9 => h9) TY10 ok10 nm10 hown hK hP hD hS (lo_in hL t_M (by decide)) eM rfl 42 (by decide) (wd_989 hB _) rfl (by decide +kernel) rfl rfl (Nat.le_of_ble_eq_true rfl) rfl d_M_work_136 (fun f316 H locs e317 k318 hP hD hS => ?_)
          have eC := (k318 (g.lk M 6) (tg_ne (lo_k11_6 hL _ t_M) t_M (by decide))).trans eC
          have eA := (k318 (g.lk M 7) (tg_ne (lo_k11_7 hL _ t_M) t_M (by decide))).trans eA
          have eLI := (k318 (g.lk M 30) (tg_ne (lo_k11_30 hL _ t_M) t_M (by decide))).trans eLI
          have eSI := (k318 (g.lk M 31) (tg_ne (lo_k11_31 hL _ t_M) t_M (by decide))).trans eSI
          have eRE := (k318 (g.lk M 33) (tg_ne (lo_k11_33 hL _ t_M) t_M (by decide))).trans eRE
          have eRS := (k318 (g.lk M 34) (tg_ne (lo_k11_34 hL _ t_M) t_M (by decide))).trans eRS
          have eVL := (k318 (g.lk M 26) (tg_ne (lo_k11_26 hL _ t_M) t_M (by decide))).trans eVL
          have eVS := (k318 (g.lk M 27) (tg_ne (lo_k11_27 hL _ t_M) t_M (by decide))).trans eVS
          have hu := hu.st k318 t_M (by decide)
          have hk319 : ∀ b, b ≠ M → f316 b = f b := k318
          refine lv_aload_n hx hb d_M_work_139 rfl (lv_at hl 1 rfl) ?_
          refine lv_dup hx hb d_M_work_140 rfl ?_
          refine pf_get (v := .int mlg) (C := "BigRunnerModel") (T := FT10) (N := 45) hx hb (hw10 hB _) (fun _ h9 => h9) hown hK hP (lo_in hL t_M (by decide)) e317 rfl 43 (by decide) (wd_990 hB _) rfl d_M_work_141 ?_
          have jn320 : ∀ (bj321 : Int32) (H : Heap) (locs : List Loc), va_P g.D vcl (va_pl g.LP f316) H → va_D (pc_A g s.heap.size) (va_pl g.LP f316) → va_S (pc_A g s.heap.size) s.heap H locs → W p l e ({ frames := 3, cells := 0, slots := 0, locals := 78 }) s m args below meth c H locs 0 0 (MQ below (va_Qv (fun f1 => (∃ (tp1 : Nat) (ma1 : Int32) (lg1 : Int32) (tr1 : Nat), (tp1 ≤ 80) ∧ (tr1 = (ev1 vr w v V).1) ∧ ((ev1 vr w v V).1 = 0 → tp1 = (ev1 vr w v V).2.length) ∧ f1 M = .inr (10, [.int mth, .ref (g.lk M 1), .int (nI mn), .ref (g.lk M 3), .ref (g.lk M 4), .int (nI mdr), .ref (g.lk M 6), .ref (g.lk M 7), .ref (g.lk M 8), .int (nI msz), .int (nI mix), .int (nI mdp), .ref (g.lk M 12), .int (nI mwt), .ref (g.lk M 14), .ref (g.lk M 15), .int (nI mop), .ref (g.lk M 17), .ref (g.lk M 18), .ref (g.lk M 19), .ref (g.lk M 20), .ref (g.lk M 21), .ref (g.lk M 22), .ref (g.lk M 23), .ref (g.lk M 24), .ref (g.lk M 25), .ref (g.lk M 26), .ref (g.lk M 27), .ref (g.lk M 28), .ref (g.lk M 29), .ref (g.lk M 30), .ref (g.lk M 31), .int (nI tp1), .ref (g.lk M 33), .ref (g.lk M 34), .ref (g.lk M 35), .int (nI mwa), .int (nI mgi), .int (nI mpc), .int (nI mst), .int (nI tr1), .int (nI msp), .int ma1, .int lg1, .int mdu])) ∧ (∃ hl hs hr hq : Nat → Int32, f1 (g.lk M 30) = .inl (g.ac (g.lk M 30), 1600, .inl hl) ∧ f1 (g.lk M 31) = .inl (g.ac (g.lk M 31), 80, .inl hs) ∧ f1 (g.lk M 33) = .inl (g.ac (g.lk M 33), 44, .inl hr) ∧ f1 (g.lk M 34) = .inl (g.ac (g.lk M 34), 44, .inl hq) ∧ C6 1600 hl ∧ C6 44 hr ∧ C6 44 hq ∧ ((ev1 vr w v V).1 = 0 → SVS hl hs (ev1 vr w v V).2)) ∧ (IV g f1) ∧ (un [11, 62, 63, 64, 65] g f f1)) (pc_out g s.heap.size) (pc_A g s.heap.size)) args s 0 0 (pc_A g s.heap.size)) (F0 m 158 ls [.int bj321, .int mlg, .ref M]) := by
            intro bj321 H locs hP hD hS
            refine lv_iadd hx hb d_M_work_158 ?_
            refine pf_put (v := .int (mlg + bj321)) (ty := .int) (fs' := [.int mth, .ref (g.lk M 1), .int (nI mn), .ref (g.lk M 3), .ref (g.lk M 4), .int (nI mdr), .ref (g.lk M 6), .ref (g.lk M 7), .ref (g.lk M 8), .int (nI msz), .int (nI mix), .int (nI mdp), .ref (g.lk M 12), .int (nI mwt), .ref (g.lk M 14), .ref (g.lk M 15), .int (nI mop), .ref (g.lk M 17), .ref (g.lk M 18), .ref (g.lk M 19), .ref (g.lk M 20), .ref (g.lk M 21), .ref (g.lk M 22), .ref (g.lk M 23), .ref (g.lk M 24), .ref (g.lk M 25), .ref (g.lk M 26), .ref (g.lk M 27), .ref (g.lk M 28), .ref (g.lk M 29), .ref (g.lk M 30), .ref (g.lk M 31), .int (nI mtp), .ref (g.lk M 33), .ref (g.lk M 34), .ref (g.lk M 35), .int (nI mwa), .int (nI mgi), .int (nI mpc), .int (nI mst), .int (nI mtr), .int (nI msp), .int (mma + bj315), .int (mlg + bj321), .int mdu]) (C := "BigRunnerModel") (T := FT10) (N := 45) hx hb (hw10 hB _) (fun _ h9 => h9) TY10 ok10 nm10 hown hK hP hD hS (lo_in hL t_M (by decide)) e317 rfl 43 (by decide) (wd_990 hB _) rfl (by decide +kernel) rfl rfl (Nat.le_of_ble_eq_true rfl) rfl d_M_work_159 (fun f322 H locs e323 k324 hP hD hS => ?_)
            have eC := (k324 (g.lk M 6) (tg_ne (lo_k11_6 hL _ t_M) t_M (by decide))).trans eC
            have eA := (k324 (g.lk M 7) (tg_ne (lo_k11_7 hL _ t_M) t_M (by decide))).trans eA
            have eLI := (k324 (g.lk M 30) (tg_ne (lo_k11_30 hL _ t_M) t_M (by decide))).trans eLI
            have eSI := (k324 (g.lk M 31) (tg_ne (lo_k11_31 hL _ t_M) t_M (by decide))).trans eSI
            have eRE := (k324 (g.lk M 33) (tg_ne (lo_k11_33 hL _ t_M) t_M (by decide))).trans eRE
            have eRS := (k324 (g.lk M 34) (tg_ne (lo_k11_34 hL _ t_M) t_M (by decide))).trans eRS
            have eVL := (k324 (g.lk M 26) (tg_ne (lo_k11_26 hL _ t_M) t_M (by decide))).trans eVL
            have eVS := (k324 (g.lk M 27) (tg_ne (lo_k11_27 hL _ t_M) t_M (by decide))).trans eVS
            have hu := hu.st k324 t_M (by decide)
            have hk325 : ∀ b, b ≠ M → f322 b = f b := fun b q0 => (k324 b q0).trans (hk319 b q0)
            refine lv_iload_n hx hb d_M_work_162 rfl (lv_at hl 0 rfl) ?_
            refine lv_bipush (v := nI 7) hx hb d_M_work_163 (by decide) ?_
            refine lv_icmp_ne (tgt := 192) hx hb d_M_work_165 (by decide) (fun b326 => ?_) (fun b326 => ?_)
            · skip
              replace b326 := mt (nI_eq (a := 5) (b := 7) (by omega) (by omega)).mpr b326
              refine lv_aload_n hx hb d_M_work_192 rfl (lv_at hl 1 rfl) ?_
              refine lv_dup hx hb d_M_work_193 rfl ?_
              refine pf_get (v := .int (nI mtp)) (C := "BigRunnerModel") (T := FT10) (N := 45) hx hb (hw10 hB _) (fun _ h9 => h9) hown hK hP (lo_in hL t_M (by decide)) e323 rfl 32 (by decide) (wd_979 hB _) rfl d_M_work_194 ?_
              refine lv_iconst (v := nI 1) hx hb d_M_work_197 (by decide) ?_
              refine pf_isubN (x := mtp) (y := 1) hx hb (by omega) d_M_work_198 ?_
              refine pf_put (v := .int (nI (mtp - 1))) (ty := .int) (fs' := [.int mth, .ref (g.lk M 1), .int (nI mn), .ref (g.lk M 3), .ref (g.lk M 4), .int (nI mdr), .ref (g.lk M 6), .ref (g.lk M 7), .ref (g.lk M 8), .int (nI msz), .int (nI mix), .int (nI mdp), .ref (g.lk M 12), .int (nI mwt), .ref (g.lk M 14), .ref (g.lk M 15), .int (nI mop), .ref (g.lk M 17), .ref (g.lk M 18), .ref (g.lk M 19), .ref (g.lk M 20), .ref (g.lk M 21), .ref (g.lk M 22), .ref (g.lk M 23), .ref (g.lk M 24), .ref (g.lk M 25), .ref (g.lk M 26), .ref (g.lk M 27), .ref (g.lk M 28), .ref (g.lk M 29), .ref (g.lk M 30), .ref (g.lk M 31), .int (nI (mtp - 1)), .ref (g.lk M 33), .ref (g.lk M 34), .ref (g.lk M 35), .int (nI mwa), .int (nI mgi), .int (nI mpc), .int (nI mst), .int (nI mtr), .int (nI msp), .int (mma + bj315), .int (mlg + bj321), .int mdu]) (C := "BigRunnerModel") (T := FT10) (N := 45) hx hb (hw10 hB _) (fun _ h9 => h9) TY10 ok10 nm10 hown hK hP hD hS (lo_in hL t_M (by decide)) e323 rfl 32 (by decide) (wd_979 hB _) rfl (by decide +kernel) rfl rfl (Nat.le_of_ble_eq_true rfl) rfl d_M_work_199 (fun f327 H locs e328 k329 hP hD hS => ?_)
              have eC := (k329 (g.lk M 6) (tg_ne (lo_k11_6 hL _ t_M) t_M (by decide))).trans eC
              have eA := (k329 (g.lk M 7) (tg_ne (lo_k11_7 hL _ t_M) t_M (by decide))).trans eA
              have eLI := (k329 (g.lk M 30) (tg_ne (lo_k11_30 hL _ t_M) t_M (by decide))).trans eLI
              have eSI := (k329 (g.lk M 31) (tg_ne (lo_k11_31 hL _ t_M) t_M (by decide))).trans eSI
              have eRE := (k329 (g.lk M 33) (tg_ne (lo_k11_33 hL _ t_M) t_M (by decide))).trans eRE
              have eRS := (k329 (g.lk M 34) (tg_ne (lo_k11_34 hL _ t_M) t_M (by decide))).trans eRS
              have eVL := (k329 (g.lk M 26) (tg_ne (lo_k11_26 hL _ t_M) t_M (by decide))).trans eVL
              have eVS := (k329 (g.lk M 27) (tg_ne (lo_k11_27 hL _ t_M) t_M (by decide))).trans eVS
              have hu := hu.st k329 t_M (by decide)
              have hk330 : ∀ b, b ≠ M → f327 b = f b := fun b q0 => (k329 b q0).trans (hk325 b q0)
              refine lv_aload_n hx hb d_M_work_202 rfl (lv_at hl 1 rfl) ?_
              refine pf_get (v := .int (nI (mtp - 1))) (C := "BigRunnerModel") (T := FT10) (N := 45) hx hb (hw10 hB _) (fun _ h9 => h9) hown hK hP (lo_in hL t_M (by decide)) e328 rfl 32 (by decide) (wd_979 hB _) rfl d_M_work_203 ?_
              refine lv_iconst (v := nI 1) hx hb d_M_work_206 (by decide) ?_
              refine pf_isubN (x := mtp - 1) (y := 1) hx hb (by omega) d_M_work_207 ?_
              refine lv_istore_n (lv' := [(3, .int (nI ((mtp - 1) - 1))), (2, .int (nI 5)), (0, .ref M), (1, .int (nI p9))]) hx hb d_M_work_208 rfl hl (by decide) rfl (fun ls hl => ?_)
              refine lv_iload_n hx hb d_M_work_209 rfl (lv_at hl 1 rfl) ?_
              refine lv_iconst (v := nI 4) hx hb d_M_work_210 (by decide) ?_
              refine lv_icmp_le (tgt := 232) hx hb d_M_work_211 (by decide) (fun b331 => ?_) (fun b331 => ?_)
              · skip
                replace b331 := (nI_leI (a := 5) (b := 4) (by omega) (by omega)).mp b331
                exfalso; omega
              · skip
                replace b331 := mt (nI_leI (a := 5) (b := 4) (by omega) (by omega)).mpr b331
                refine lv_aload_n hx hb d_M_work_214 rfl (lv_at hl 2 rfl) ?_
                refine pf_get (v := .ref (g.lk M 31)) (C := "BigRunnerModel") (T := FT10) (N := 45) hx hb (hw10 hB _) (fun _ h9 => h9) hown hK hP (lo_in hL t_M (by decide)) e328 rfl 31 (by decide) (wd_978 hB _) rfl d_M_work_215 ?_
                refine lv_aload_n hx hb d_M_work_218 rfl (lv_at hl 2 rfl) ?_
                refine pf_get (v := .int (nI (mtp - 1))) (C := "BigRunnerModel") (T := FT10) (N := 45) hx hb (hw10 hB _) (fun _ h9 => h9) hown hK hP (lo_in hL t_M (by decide)) e328 rfl 32 (by decide) (wd_979 hB _) rfl d_M_work_219 ?_
                refine pf_iald (i := mtp - 1) hx hb hK hP (lo_in hL (lo_k11_31 hL _ t_M) (by decide)) eSI (lo_t63 hL _ (lo_k11_31 hL _ t_M)) (by omega) (by decide) d_M_work_222 ?_
                refine lv_if_ne (tgt := 232) hx hb d_M_work_223 (by decide) (fun b332 => ?_) (fun b332 => ?_)
                · skip
                  have hy0 : y9 ≠ 0 := fun z9 => b332 ((SV_0 hy8).mpr z9)
                  refine lv_aload_n hx hb d_M_work_232 rfl (lv_at hl 2 rfl) ?_
                  have hI333 := iv_1 hI hL t_M (by decide) hk330 (oc_11.mk t_M (⟨mth, mn, mdr, msz, mix, mdp, mwt, mop, (mtp - 1), mwa, mgi, mpc, mst, mtr, msp, ((mma + bj315)), ((mlg + bj321)), mdu, e328, (by omega), (by omega), (by omega), (by omega), (by omega), (by omega), (by omega), (by omega), (by omega), (by omega), (by omega), (by omega), (by omega), (by omega), hmb14⟩))
                  refine pcc_v (va_runV (C := "BigRunnerModel") (As := []) (rest := []) ⟨hx, hb, hml, hown, tb_nil⟩ (w_clear l g H.size f327 M hRE hRS hL t_M hI333 eRE eRS c6RE c6RS) ⟨(callB_of 0 (tb_one (wd_1224 hB _)) tb_good1 rfl rfl rfl (wd_82 hB _) (wd_1221 hB _) (by decide +kernel) ⟨Nat.le_of_ble_eq_true rfl, Nat.le_of_ble_eq_true rfl⟩), (wd_1223 hB _), (wd_62 hB _)⟩ ⟨pe_bl, pg_recv (ci := 10) hK hP (lo_in hL t_M (by decide)) e328 rfl, pe_pre hB hK hP hD⟩ rfl rfl hl.1 rfl (lv_room (Nat.le_of_ble_eq_true rfl)) d_M_work_233 ⟨Nat.le_of_ble_eq_true rfl, Nat.le_of_ble_eq_true rfl⟩) hS (fun f335 H locs hq336 hP hD hS => ?_)
                  obtain ⟨cl_337, hI1_338, hk1_339⟩ := hq336
                  have hu := hu.st2 hk1_339 (lo_k11_33 hL _ t_M) (lo_k11_34 hL _ t_M) (by decide) (by decide)
                  have eC := (hk1_339 (g.lk M 6) (tg_ne (lo_k11_6 hL _ t_M) (lo_k11_33 hL _ t_M) (by decide)) (tg_ne (lo_k11_6 hL _ t_M) (lo_k11_34 hL _ t_M) (by decide))).trans eC
                  have eA := (hk1_339 (g.lk M 7) (tg_ne (lo_k11_7 hL _ t_M) (lo_k11_33 hL _ t_M) (by decide)) (tg_ne (lo_k11_7 hL _ t_M) (lo_k11_34 hL _ t_M) (by decide))).trans eA
                  have eLI := (hk1_339 (g.lk M 30) (tg_ne (lo_k11_30 hL _ t_M) (lo_k11_33 hL _ t_M) (by decide)) (tg_ne (lo_k11_30 hL _ t_M) (lo_k11_34 hL _ t_M) (by decide))).trans eLI
                  have eSI := (hk1_339 (g.lk M 31) (tg_ne (lo_k11_31 hL _ t_M) (lo_k11_33 hL _ t_M) (by decide)) (tg_ne (lo_k11_31 hL _ t_M) (lo_k11_34 hL _ t_M) (by decide))).trans eSI
                  have eVL := (hk1_339 (g.lk M 26) (tg_ne (lo_k11_26 hL _ t_M) (lo_k11_33 hL _ t_M) (by decide)) (tg_ne (lo_k11_26 hL _ t_M) (lo_k11_34 hL _ t_M) (by decide))).trans eVL
                  have eVS := (hk1_339 (g.lk M 27) (tg_ne (lo_k11_27 hL _ t_M) (lo_k11_33 hL _ t_M) (by decide)) (tg_ne (lo_k11_27 hL _ t_M) (lo_k11_34 hL _ t_M) (by decide))).trans eVS
                  have e328 := (hk1_339 M (tg_ne t_M (lo_k11_33 hL _ t_M) (by decide)) (tg_ne t_M (lo_k11_34 hL _ t_M) (by decide))).trans e328
                  obtain ⟨hr_340, hq_341, e342, e343, c344, c345, hz346, hz347⟩ := cl_337
                  refine lv_iconst (v := nI 0) hx hb d_M_work_236 (by decide) ?_
                  refine lv_istore (lv' := [(4, .int (nI 0)), (3, .int (nI ((mtp - 1) - 1))), (2, .int (nI 5)), (0, .ref M), (1, .int (nI p9))]) hx hb d_M_work_237 hl (by decide) rfl (fun ls hl => ?_)
                  refine lv_iload_n hx hb d_M_work_239 rfl (lv_at hl 2 rfl) ?_
                  refine lv_iconst (v := nI 5) hx hb d_M_work_240 (by decide) ?_
                  refine lv_icmp_ge (tgt := 285) hx hb d_M_work_241 (by decide) (fun b348 => ?_) (fun b348 => ?_)
                  · skip
                    replace b348 := (nI_leI (a := 5) (b := 5) (by omega) (by omega)).mp b348
                    refine lv_aload_n hx hb d_M_work_285 rfl (lv_at hl 3 rfl) ?_
                    refine lv_iload_n hx hb d_M_work_286 rfl (lv_at hl 1 rfl) ?_
                    refine lv_aload_n hx hb d_M_work_287 rfl (lv_at hl 3 rfl) ?_
                    refine pf_get (v := .int (nI (mtp - 1))) (C := "BigRunnerModel") (T := FT10) (N := 45) hx hb (hw10 hB _) (fun _ h9 => h9) hown hK hP (lo_in hL t_M (by decide)) e328 rfl 32 (by decide) (wd_979 hB _) rfl d_M_work_288 ?_
                    refine pcc_v (va_runV (C := "BigRunnerModel") (As := [.int (nI ((mtp - 1) - 1)), .int (nI (mtp - 1))]) (rest := []) ⟨hx, hb, hml, hown, tb_nil⟩ (w_divide l g H.size f335 M (((mtp - 1) - 1)) ((mtp - 1)) hLI hr_340 hq_341 hL t_M hI1_338 eLI e342 e343 c6LI c344 c345 (by omega) (by omega) hz346 hz347 (by rw [hy8.2]; exact Int.natAbs_pos.mpr hy0)) ⟨(callB_of 2 (tb_one (wd_1249 hB _)) tb_good1 rfl rfl rfl (wd_82 hB _) (wd_1246 hB _) (by decide +kernel) ⟨Nat.le_of_ble_eq_true rfl, Nat.le_of_ble_eq_true rfl⟩), (wd_1248 hB _), (wd_68 hB _)⟩ ⟨pe_bl, pg_recv (ci := 10) hK hP (lo_in hL t_M (by decide)) e328 rfl, pe_pre hB hK hP hD⟩ rfl rfl hl.1 rfl (lv_room (Nat.le_of_ble_eq_true rfl)) d_M_work_291 ⟨Nat.le_of_ble_eq_true rfl, Nat.le_of_ble_eq_true rfl⟩) hS (fun f350 H locs hq351 hP hD hS => ?_)
                    obtain ⟨dv_352, hI1_353, hk1_354⟩ := hq351
                    have hu := hu.st2 hk1_354 (lo_k11_33 hL _ t_M) (lo_k11_34 hL _ t_M) (by decide) (by decide)
                    have eC := (hk1_354 (g.lk M 6) (tg_ne (lo_k11_6 hL _ t_M) (lo_k11_33 hL _ t_M) (by decide)) (tg_ne (lo_k11_6 hL _ t_M) (lo_k11_34 hL _ t_M) (by decide))).trans eC
                    have eA := (hk1_354 (g.lk M 7) (tg_ne (lo_k11_7 hL _ t_M) (lo_k11_33 hL _ t_M) (by decide)) (tg_ne (lo_k11_7 hL _ t_M) (lo_k11_34 hL _ t_M) (by decide))).trans eA
                    have eLI := (hk1_354 (g.lk M 30) (tg_ne (lo_k11_30 hL _ t_M) (lo_k11_33 hL _ t_M) (by decide)) (tg_ne (lo_k11_30 hL _ t_M) (lo_k11_34 hL _ t_M) (by decide))).trans eLI
                    have eSI := (hk1_354 (g.lk M 31) (tg_ne (lo_k11_31 hL _ t_M) (lo_k11_33 hL _ t_M) (by decide)) (tg_ne (lo_k11_31 hL _ t_M) (lo_k11_34 hL _ t_M) (by decide))).trans eSI
                    have eVL := (hk1_354 (g.lk M 26) (tg_ne (lo_k11_26 hL _ t_M) (lo_k11_33 hL _ t_M) (by decide)) (tg_ne (lo_k11_26 hL _ t_M) (lo_k11_34 hL _ t_M) (by decide))).trans eVL
                    have eVS := (hk1_354 (g.lk M 27) (tg_ne (lo_k11_27 hL _ t_M) (lo_k11_33 hL _ t_M) (by decide)) (tg_ne (lo_k11_27 hL _ t_M) (lo_k11_34 hL _ t_M) (by decide))).trans eVS
                    have e328 := (hk1_354 M (tg_ne t_M (lo_k11_33 hL _ t_M) (by decide)) (tg_ne t_M (lo_k11_34 hL _ t_M) (by decide))).trans e328
                    obtain ⟨hr_355, hq_356, e357, e358, c359, c360, hz361, hv362, hv363⟩ := dv_352
                    refine lv_iload_n hx hb d_M_work_294 rfl (lv_at hl 2 rfl) ?_
                    refine lv_iconst (v := nI 5) hx hb d_M_work_295 (by decide) ?_
                    refine lv_icmp_ne (tgt := 318) hx hb d_M_work_296 (by decide) (fun b364 => ?_) (fun b364 => ?_)
                    · skip
                      replace b364 := mt (nI_eq (a := 5) (b := 5) (by omega) (by omega)).mpr b364
                      exfalso; omega
                    · skip
                      replace b364 := (nI_eq (a := 5) (b := 5) (by omega) (by omega)).mp b364
                      refine lv_aload_n hx hb d_M_work_299 rfl (lv_at hl 3 rfl) ?_
                      refine pf_get (v := .ref (g.lk M 31)) (C := "BigRunnerModel") (T := FT10) (N := 45) hx hb (hw10 hB _) (fun _ h9 => h9) hown hK hP (lo_in hL t_M (by decide)) e328 rfl 31 (by decide) (wd_978 hB _) rfl d_M_work_300 ?_
                      refine lv_iload_n hx hb d_M_work_303 rfl (lv_at hl 1 rfl) ?_
                      refine pf_iald (i := (mtp - 1) - 1) hx hb hK hP (lo_in hL (lo_k11_31 hL _ t_M) (by decide)) eSI (lo_t63 hL _ (lo_k11_31 hL _ t_M)) (by omega) (by decide) d_M_work_304 ?_
                      refine lv_aload_n hx hb d_M_work_305 rfl (lv_at hl 3 rfl) ?_
                      refine pf_get (v := .ref (g.lk M 31)) (C := "BigRunnerModel") (T := FT10) (N := 45) hx hb (hw10 hB _) (fun _ h9 => h9) hown hK hP (lo_in hL t_M (by decide)) e328 rfl 31 (by decide) (wd_978 hB _) rfl d_M_work_306 ?_
                      refine lv_aload_n hx hb d_M_work_309 rfl (lv_at hl 3 rfl) ?_
                      refine pf_get (v := .int (nI (mtp - 1))) (C := "BigRunnerModel") (T := FT10) (N := 45) hx hb (hw10 hB _) (fun _ h9 => h9) hown hK hP (lo_in hL t_M (by decide)) e328 rfl 32 (by decide) (wd_979 hB _) rfl d_M_work_310 ?_
                      refine pf_iald (i := mtp - 1) hx hb hK hP (lo_in hL (lo_k11_31 hL _ t_M) (by decide)) eSI (lo_t63 hL _ (lo_k11_31 hL _ t_M)) (by omega) (by decide) d_M_work_313 ?_
                      refine lv_imul hx hb d_M_work_314 ?_
                      refine lv_goto (tgt := 324) hx hb d_M_work_315 (by decide) ?_
                      refine lv_istore (lv' := [(4, .int (((hSI ((mtp - 1) - 1))) * ((hSI (mtp - 1))))), (3, .int (nI ((mtp - 1) - 1))), (2, .int (nI 5)), (0, .ref M), (1, .int (nI p9))]) hx hb d_M_work_324 hl (by decide) rfl (fun ls hl => ?_)
                      have hsr9 : SR (hSI (mtp - 1 - 1) * hSI (mtp - 1)) (kw (dg hr_355) 44) (Int.tdiv x9 y9) := SR_q hx8 hy8 hxl hv362
                      refine lv_iconst (v := nI 0) hx hb d_M_work_326 (by decide) ?_
                      refine lv_istore (lv' := [(5, .int (nI 0)), (4, .int (((hSI ((mtp - 1) - 1))) * ((hSI (mtp - 1))))), (3, .int (nI ((mtp - 1) - 1))), (2, .int (nI 5)), (0, .ref M), (1, .int (nI p9))]) hx hb d_M_work_327 hl (by decide) rfl (fun ls hl => ?_)
                      have lp365 : ∀ (k367 : Nat) (i : Nat) (H : Heap) (locs : List Loc) (ls : Array Slot), (20 < i + k367) → (i ≤ 20) → lv_has ls 6 [(5, .int (nI i)), (4, .int (((hSI ((mtp - 1) - 1))) * ((hSI (mtp - 1))))), (3, .int (nI ((mtp - 1) - 1))), (2, .int (nI 5)), (0, .ref M), (1, .int (nI p9))] → va_P g.D vcl (va_pl g.LP f350) H → va_D (pc_A g s.heap.size) (va_pl g.LP f350) → va_S (pc_A g s.heap.size) s.heap H locs → W p l e ({ frames := 3, cells := 0, slots := 0, locals := 78 }) s m args below meth c H locs 0 0 (MQ below (va_Qv (fun f1 => (∃ (tp1 : Nat) (ma1 : Int32) (lg1 : Int32) (tr1 : Nat), (tp1 ≤ 80) ∧ (tr1 = (ev1 vr w v V).1) ∧ ((ev1 vr w v V).1 = 0 → tp1 = (ev1 vr w v V).2.length) ∧ f1 M = .inr (10, [.int mth, .ref (g.lk M 1), .int (nI mn), .ref (g.lk M 3), .ref (g.lk M 4), .int (nI mdr), .ref (g.lk M 6), .ref (g.lk M 7), .ref (g.lk M 8), .int (nI msz), .int (nI mix), .int (nI mdp), .ref (g.lk M 12), .int (nI mwt), .ref (g.lk M 14), .ref (g.lk M 15), .int (nI mop), .ref (g.lk M 17), .ref (g.lk M 18), .ref (g.lk M 19), .ref (g.lk M 20), .ref (g.lk M 21), .ref (g.lk M 22), .ref (g.lk M 23), .ref (g.lk M 24), .ref (g.lk M 25), .ref (g.lk M 26), .ref (g.lk M 27), .ref (g.lk M 28), .ref (g.lk M 29), .ref (g.lk M 30), .ref (g.lk M 31), .int (nI tp1), .ref (g.lk M 33), .ref (g.lk M 34), .ref (g.lk M 35), .int (nI mwa), .int (nI mgi), .int (nI mpc), .int (nI mst), .int (nI tr1), .int (nI msp), .int ma1, .int lg1, .int mdu])) ∧ (∃ hl hs hr hq : Nat → Int32, f1 (g.lk M 30) = .inl (g.ac (g.lk M 30), 1600, .inl hl) ∧ f1 (g.lk M 31) = .inl (g.ac (g.lk M 31), 80, .inl hs) ∧ f1 (g.lk M 33) = .inl (g.ac (g.lk M 33), 44, .inl hr) ∧ f1 (g.lk M 34) = .inl (g.ac (g.lk M 34), 44, .inl hq) ∧ C6 1600 hl ∧ C6 44 hr ∧ C6 44 hq ∧ ((ev1 vr w v V).1 = 0 → SVS hl hs (ev1 vr w v V).2)) ∧ (IV g f1) ∧ (un [11, 62, 63, 64, 65] g f f1)) (pc_out g s.heap.size) (pc_A g s.heap.size)) args s 0 0 (pc_A g s.heap.size)) (F0 m 329 ls []) := by
                        intro k367
                        induction k367 with
                        | zero => intros; exfalso; omega
                        | succ k367 ih368 =>
                          intro i H locs ls hfu369 hi hl hP hD hS
                          refine lv_iload hx hb d_M_work_329 (lv_at hl 0 rfl) ?_
                          refine lv_bipush (v := nI 20) hx hb d_M_work_331 (by decide) ?_
                          refine lv_icmp_ge (tgt := 362) hx hb d_M_work_333 (by decide) (fun b372 => ?_) (fun b372 => ?_)
                          · skip
                            replace b372 := (nI_leI (a := 20) (b := i) (by omega) (by omega)).mp b372
                            refine lv_aload_n hx hb d_M_work_362 rfl (lv_at hl 4 rfl) ?_
                            refine lv_aload_n hx hb d_M_work_363 rfl (lv_at hl 4 rfl) ?_
                            refine pf_get (v := .ref (g.lk M 33)) (C := "BigRunnerModel") (T := FT10) (N := 45) hx hb (hw10 hB _) (fun _ h9 => h9) hown hK hP (lo_in hL t_M (by decide)) e328 rfl 33 (by decide) (wd_980 hB _) rfl d_M_work_364 ?_
                            refine lv_iconst (v := nI 0) hx hb d_M_work_367 (by decide) ?_
                            refine lv_bipush (v := nI 44) hx hb d_M_work_368 (by decide) ?_
                            refine pcc_i (va_runS (As := [.ref (g.lk M 33), .int (nI 0), .int (nI 44)]) (rest := [.ref M]) ⟨hx, hb, hml, hown, tb_nil⟩ (w_digitsOf64 l g H.size f350 ((g.lk M 33)) 0 44 hr_355 hL (lo_k11_33 hL _ t_M) hI1_353.1 e357 c359 (by omega)) ⟨(callB_of 3 (tb_one (wd_1257 hB _)) tb_good1 rfl rfl rfl (wd_82 hB _) (wd_1255 hB _) (by decide +kernel) ⟨Nat.le_of_ble_eq_true rfl, Nat.le_of_ble_eq_true rfl⟩), (wd_1256 hB _)⟩ ⟨pe_bl, pe_pre hB hK hP hD⟩ rfl rfl hl.1 rfl (lv_room (Nat.le_of_ble_eq_true rfl)) d_M_work_370 ⟨Nat.le_of_ble_eq_true rfl, Nat.le_of_ble_eq_true rfl⟩) hS (fun r373 f374 H locs hq375 hP hD hS => ?_)
                            obtain ⟨dt_376, rfl⟩ := hq375
                            obtain ⟨kr377, hkr377_0, hkr377_1, rfl⟩ := dt_376
                            have hdf9 := dgt_fit hkr377_1
                            have hkz9 : kw (fun i => dg hr_355 (0 + i)) 44 = kw (dg hr_355) 44 := kw_eq (fun i _ => by rw [Nat.zero_add])
                            rw [hkz9, hsr9.1] at hdf9
                            refine lv_bipush (v := nI 120) hx hb d_M_work_373 (by decide) ?_
                            refine lv_icmp_le (tgt := 382) hx hb d_M_work_375 (by decide) (fun b378 => ?_) (fun b378 => ?_)
                            · skip
                              replace b378 := (nI_leI (a := kr377) (b := 120) (by omega) (by omega)).mp b378
                              have hfit9 : (Int.tdiv x9 y9).natAbs < T12 := by have z9 := mt hdf9.mpr (by omega); omega
                              refine lv_iconst (v := nI 0) hx hb d_M_work_382 (by decide) ?_
                              refine pf_put (v := .int (nI 0)) (ty := .int) (fs' := [.int mth, .ref (g.lk M 1), .int (nI mn), .ref (g.lk M 3), .ref (g.lk M 4), .int (nI mdr), .ref (g.lk M 6), .ref (g.lk M 7), .ref (g.lk M 8), .int (nI msz), .int (nI mix), .int (nI mdp), .ref (g.lk M 12), .int (nI mwt), .ref (g.lk M 14), .ref (g.lk M 15), .int (nI mop), .ref (g.lk M 17), .ref (g.lk M 18), .ref (g.lk M 19), .ref (g.lk M 20), .ref (g.lk M 21), .ref (g.lk M 22), .ref (g.lk M 23), .ref (g.lk M 24), .ref (g.lk M 25), .ref (g.lk M 26), .ref (g.lk M 27), .ref (g.lk M 28), .ref (g.lk M 29), .ref (g.lk M 30), .ref (g.lk M 31), .int (nI (mtp - 1)), .ref (g.lk M 33), .ref (g.lk M 34), .ref (g.lk M 35), .int (nI mwa), .int (nI mgi), .int (nI mpc), .int (nI mst), .int (nI 0), .int (nI msp), .int (mma + bj315), .int (mlg + bj321), .int mdu]) (C := "BigRunnerModel") (T := FT10) (N := 45) hx hb (hw10 hB _) (fun _ h9 => h9) TY10 ok10 nm10 hown hK hP hD hS (lo_in hL t_M (by decide)) e328 rfl 40 (by decide) (wd_987 hB _) rfl (by decide +kernel) rfl rfl (Nat.le_of_ble_eq_true rfl) rfl d_M_work_383 (fun f379 H locs e380 k381 hP hD hS => ?_)
                              have eC := (k381 (g.lk M 6) (tg_ne (lo_k11_6 hL _ t_M) t_M (by decide))).trans eC
                              have eA := (k381 (g.lk M 7) (tg_ne (lo_k11_7 hL _ t_M) t_M (by decide))).trans eA
                              have eLI := (k381 (g.lk M 30) (tg_ne (lo_k11_30 hL _ t_M) t_M (by decide))).trans eLI
                              have eSI := (k381 (g.lk M 31) (tg_ne (lo_k11_31 hL _ t_M) t_M (by decide))).trans eSI
                              have eVL := (k381 (g.lk M 26) (tg_ne (lo_k11_26 hL _ t_M) t_M (by decide))).trans eVL
                              have eVS := (k381 (g.lk M 27) (tg_ne (lo_k11_27 hL _ t_M) t_M (by decide))).trans eVS
                              have e357 := (k381 (g.lk M 33) (tg_ne (lo_k11_33 hL _ t_M) t_M (by decide))).trans e357
                              have e358 := (k381 (g.lk M 34) (tg_ne (lo_k11_34 hL _ t_M) t_M (by decide))).trans e358
                              have hu := hu.st k381 t_M (by decide)
                              have hk382 : ∀ b, b ≠ M → f379 b = f350 b := k381
                              refine lv_aload_n hx hb d_M_work_386 rfl (lv_at hl 4 rfl) ?_
                              refine pf_get (v := .int (nI 0)) (C := "BigRunnerModel") (T := FT10) (N := 45) hx hb (hw10 hB _) (fun _ h9 => h9) hown hK hP (lo_in hL t_M (by decide)) e380 rfl 40 (by decide) (wd_987 hB _) rfl d_M_work_387 ?_
                              refine lv_if_ne (tgt := 400) hx hb d_M_work_390 (by decide) (fun b383 => ?_) (fun b383 => ?_)
                              · skip
                                replace b383 := mt (nI_eq (a := 0) (b := 0) (by omega) (by omega)).mpr b383
                                exfalso; omega
                              · skip
                                replace b383 := (nI_eq (a := 0) (b := 0) (by omega) (by omega)).mp b383
                                refine lv_aload_n hx hb d_M_work_393 rfl (lv_at hl 4 rfl) ?_
                                refine lv_iload_n hx hb d_M_work_394 rfl (lv_at hl 2 rfl) ?_
                                refine lv_iload hx hb d_M_work_395 (lv_at hl 1 rfl) ?_
                                have hI384 := iv_1 hI1_353 hL t_M (by decide) hk382 (oc_11.mk t_M (⟨mth, mn, mdr, msz, mix, mdp, mwt, mop, (mtp - 1), mwa, mgi, mpc, mst, 0, msp, ((mma + bj315)), ((mlg + bj321)), mdu, e380, (by omega), (by omega), (by omega), (by omega), (by omega), (by omega), (by omega), (by omega), (by omega), (by omega), (by omega), (by omega), (by omega), (by omega), hmb14⟩))
                                refine pcc_v (va_runV (C := "BigRunnerModel") (As := [.int (nI ((mtp - 1) - 1)), .int (((hSI ((mtp - 1) - 1))) * ((hSI (mtp - 1))))]) (rest := []) ⟨hx, hb, hml, hown, tb_nil⟩ (w_keep l g H.size f379 M (((mtp - 1) - 1)) ((((hSI ((mtp - 1) - 1))) * ((hSI (mtp - 1))))) ((Int.tdiv x9 y9)) hLI hSI hr_355 hL t_M hI384 eLI eSI e357 c6LI c359 (by omega) hsr9 (by rw [hsr9.1]; exact hfit9)) ⟨(callB_of 2 (tb_one (wd_1261 hB _)) tb_good1 rfl rfl rfl (wd_82 hB _) (wd_1258 hB _) (by decide +kernel) ⟨Nat.le_of_ble_eq_true rfl, Nat.le_of_ble_eq_true rfl⟩), (wd_1260 hB _), (wd_70 hB _)⟩ ⟨pe_bl, pg_recv (ci := 10) hK hP (lo_in hL t_M (by decide)) e380 rfl, pe_pre hB hK hP hD⟩ rfl rfl hl.1 rfl (lv_room (Nat.le_of_ble_eq_true rfl)) d_M_work_397 ⟨Nat.le_of_ble_eq_true rfl, Nat.le_of_ble_eq_true rfl⟩) hS (fun f386 H locs hq387 hP hD hS => ?_)
                                obtain ⟨sn_388, hI1_389, hk1_390⟩ := hq387
                                have hu := hu.st2 hk1_390 (lo_k11_30 hL _ t_M) (lo_k11_31 hL _ t_M) (by decide) (by decide)
                                have eC := (hk1_390 (g.lk M 6) (tg_ne (lo_k11_6 hL _ t_M) (lo_k11_30 hL _ t_M) (by decide)) (tg_ne (lo_k11_6 hL _ t_M) (lo_k11_31 hL _ t_M) (by decide))).trans eC
                                have eA := (hk1_390 (g.lk M 7) (tg_ne (lo_k11_7 hL _ t_M) (lo_k11_30 hL _ t_M) (by decide)) (tg_ne (lo_k11_7 hL _ t_M) (lo_k11_31 hL _ t_M) (by decide))).trans eA
                                have eVL := (hk1_390 (g.lk M 26) (tg_ne (lo_k11_26 hL _ t_M) (lo_k11_30 hL _ t_M) (by decide)) (tg_ne (lo_k11_26 hL _ t_M) (lo_k11_31 hL _ t_M) (by decide))).trans eVL
                                have eVS := (hk1_390 (g.lk M 27) (tg_ne (lo_k11_27 hL _ t_M) (lo_k11_30 hL _ t_M) (by decide)) (tg_ne (lo_k11_27 hL _ t_M) (lo_k11_31 hL _ t_M) (by decide))).trans eVS
                                have e357 := (hk1_390 (g.lk M 33) (tg_ne (lo_k11_33 hL _ t_M) (lo_k11_30 hL _ t_M) (by decide)) (tg_ne (lo_k11_33 hL _ t_M) (lo_k11_31 hL _ t_M) (by decide))).trans e357
                                have e358 := (hk1_390 (g.lk M 34) (tg_ne (lo_k11_34 hL _ t_M) (lo_k11_30 hL _ t_M) (by decide)) (tg_ne (lo_k11_34 hL _ t_M) (lo_k11_31 hL _ t_M) (by decide))).trans e358
                                have e380 := (hk1_390 M (tg_ne t_M (lo_k11_30 hL _ t_M) (by decide)) (tg_ne t_M (lo_k11_31 hL _ t_M) (by decide))).trans e380
                                obtain ⟨hl_391, hs_392, e393, e394, c395, hsv396, hsf397, hss398⟩ := sn_388
                                have hot9 : otr 5 x9 y9 = 0 := otr_0 (w := 5) (x := x9) (y := y9) (by decide) (Or.inr hy0) hfit9
                                have hE9 : ev1 vr 5 v (y9 :: x9 :: S9) = (0, (Int.tdiv x9 y9) :: S9) := ev1_z vr (by decide) (by decide) hot9
                                exact pe_vret hx hb hr hlocks hK hP hD hS d_M_work_400 ⟨⟨(mtp - 1), (mma + bj315), (mlg + bj321), 0, by omega, (by rw [hwE, hVE, hE9]), (fun _ => by rw [hwE, hVE, hE9]; show mtp - 1 = S9.length + 1; omega), e380⟩, ⟨_, _, _, _, e393, e394, e357, e358, c395, c359, c360, (fun _ => by rw [hwE, hVE, hE9]; exact ⟨by rw [show S9.length = mtp - 1 - 1 by omega]; exact hsv396, SVS_SF hsf397 hss398 S9 (by omega) hS9⟩)⟩, hI1_389, hu⟩
                            · skip
                              replace b378 := mt (nI_leI (a := kr377) (b := 120) (by omega) (by omega)).mpr b378
                              have hfit8 : T12 ≤ (Int.tdiv x9 y9).natAbs := hdf9.mp (by omega)
                              refine lv_iconst (v := nI 2) hx hb d_M_work_378 (by decide) ?_
                              refine lv_goto (tgt := 383) hx hb d_M_work_379 (by decide) ?_
                              refine pf_put (v := .int (nI 2)) (ty := .int) (fs' := [.int mth, .ref (g.lk M 1), .int (nI mn), .ref (g.lk M 3), .ref (g.lk M 4), .int (nI mdr), .ref (g.lk M 6), .ref (g.lk M 7), .ref (g.lk M 8), .int (nI msz), .int (nI mix), .int (nI mdp), .ref (g.lk M 12), .int (nI mwt), .ref (g.lk M 14), .ref (g.lk M 15), .int (nI mop), .ref (g.lk M 17), .ref (g.lk M 18), .ref (g.lk M 19), .ref (g.lk M 20), .ref (g.lk M 21), .ref (g.lk M 22), .ref (g.lk M 23), .ref (g.lk M 24), .ref (g.lk M 25), .ref (g.lk M 26), .ref (g.lk M 27), .ref (g.lk M 28), .ref (g.lk M 29), .ref (g.lk M 30), .ref (g.lk M 31), .int (nI (mtp - 1)), .ref (g.lk M 33), .ref (g.lk M 34), .ref (g.lk M 35), .int (nI mwa), .int (nI mgi), .int (nI mpc), .int (nI mst), .int (nI 2), .int (nI msp), .int (mma + bj315), .int (mlg + bj321), .int mdu]) (C := "BigRunnerModel") (T := FT10) (N := 45) hx hb (hw10 hB _) (fun _ h9 => h9) TY10 ok10 nm10 hown hK hP hD hS (lo_in hL t_M (by decide)) e328 rfl 40 (by decide) (wd_987 hB _) rfl (by decide +kernel) rfl rfl (Nat.le_of_ble_eq_true rfl) rfl d_M_work_383 (fun f399 H locs e400 k401 hP hD hS => ?_)
                              have eC := (k401 (g.lk M 6) (tg_ne (lo_k11_6 hL _ t_M) t_M (by decide))).trans eC
                              have eA := (k401 (g.lk M 7) (tg_ne (lo_k11_7 hL _ t_M) t_M (by decide))).trans eA
                              have eLI := (k401 (g.lk M 30) (tg_ne (lo_k11_30 hL _ t_M) t_M (by decide))).trans eLI
                              have eSI := (k401 (g.lk M 31) (tg_ne (lo_k11_31 hL _ t_M) t_M (by decide))).trans eSI
                              have eVL := (k401 (g.lk M 26) (tg_ne (lo_k11_26 hL _ t_M) t_M (by decide))).trans eVL
                              have eVS := (k401 (g.lk M 27) (tg_ne (lo_k11_27 hL _ t_M) t_M (by decide))).trans eVS
                              have e357 := (k401 (g.lk M 33) (tg_ne (lo_k11_33 hL _ t_M) t_M (by decide))).trans e357
                              have e358 := (k401 (g.lk M 34) (tg_ne (lo_k11_34 hL _ t_M) t_M (by decide))).trans e358
                              have hu := hu.st k401 t_M (by decide)
                              have hk402 : ∀ b, b ≠ M → f399 b = f350 b := k401
                              refine lv_aload_n hx hb d_M_work_386 rfl (lv_at hl 4 rfl) ?_
                              refine pf_get (v := .int (nI 2)) (C := "BigRunnerModel") (T := FT10) (N := 45) hx hb (hw10 hB _) (fun _ h9 => h9) hown hK hP (lo_in hL t_M (by decide)) e400 rfl 40 (by decide) (wd_987 hB _) rfl d_M_work_387 ?_
                              refine lv_if_ne (tgt := 400) hx hb d_M_work_390 (by decide) (fun b403 => ?_) (fun b403 => ?_)
                              · skip
                                replace b403 := mt (nI_eq (a := 2) (b := 0) (by omega) (by omega)).mpr b403
                                have hI404 := iv_1 hI1_353 hL t_M (by decide) hk402 (oc_11.mk t_M (⟨mth, mn, mdr, msz, mix, mdp, mwt, mop, (mtp - 1), mwa, mgi, mpc, mst, 2, msp, ((mma + bj315)), ((mlg + bj321)), mdu, e400, (by omega), (by omega), (by omega), (by omega), (by omega), (by omega), (by omega), (by omega), (by omega), (by omega), (by omega), (by omega), (by omega), (by omega), hmb14⟩))
                                have hot9 : otr 5 x9 y9 = 2 := otr_2 (w := 5) (x := x9) (y := y9) (by decide) (Or.inr hy0) hfit8
                                have hE9 : ev1 vr 5 v (y9 :: x9 :: S9) = (2, y9 :: x9 :: S9) := (ev1_t vr (by decide) (by decide) (by rw [hot9]; decide)).trans (by rw [hot9])
                                exact pe_vret hx hb hr hlocks hK hP hD hS d_M_work_400 ⟨⟨(mtp - 1), (mma + bj315), (mlg + bj321), 2, by omega, (by rw [hwE, hVE, hE9]), (fun z9 => absurd z9 (by rw [hwE, hVE, hE9]; show ¬ (2 : Nat) = 0; decide)), e400⟩, ⟨_, _, _, _, eLI, eSI, e357, e358, c6LI, c359, c360, (fun z9 => absurd z9 (by rw [hwE, hVE, hE9]; show ¬ (2 : Nat) = 0; decide))⟩, hI404, hu⟩
                              · skip
                                replace b403 := (nI_eq (a := 2) (b := 0) (by omega) (by omega)).mp b403
                                exfalso; omega
                          · skip
                            replace b372 := mt (nI_leI (a := 20) (b := i) (by omega) (by omega)).mpr b372
                            refine lv_iload_n hx hb d_M_work_336 rfl (lv_at hl 3 rfl) ?_
                            refine lv_bipush (v := nI 6) hx hb d_M_work_337 (by decide) ?_
                            refine lv_icmp_ne (tgt := 362) hx hb d_M_work_339 (by decide) (fun b405 => ?_) (fun b405 => ?_)
                            · skip
                              replace b405 := mt (nI_eq (a := 5) (b := 6) (by omega) (by omega)).mpr b405
                              refine lv_aload_n hx hb d_M_work_362 rfl (lv_at hl 4 rfl) ?_
                              refine lv_aload_n hx hb d_M_work_363 rfl (lv_at hl 4 rfl) ?_
                              refine pf_get (v := .ref (g.lk M 33)) (C := "BigRunnerModel") (T := FT10) (N := 45) hx hb (hw10 hB _) (fun _ h9 => h9) hown hK hP (lo_in hL t_M (by decide)) e328 rfl 33 (by decide) (wd_980 hB _) rfl d_M_work_364 ?_
                              refine lv_iconst (v := nI 0) hx hb d_M_work_367 (by decide) ?_
                              refine lv_bipush (v := nI 44) hx hb d_M_work_368 (by decide) ?_
                              refine pcc_i (va_runS (As := [.ref (g.lk M 33), .int (nI 0), .int (nI 44)]) (rest := [.ref M]) ⟨hx, hb, hml, hown, tb_nil⟩ (w_digitsOf64 l g H.size f350 ((g.lk M 33)) 0 44 hr_355 hL (lo_k11_33 hL _ t_M) hI1_353.1 e357 c359 (by omega)) ⟨(callB_of 3 (tb_one (wd_1257 hB _)) tb_good1 rfl rfl rfl (wd_82 hB _) (wd_1255 hB _) (by decide +kernel) ⟨Nat.le_of_ble_eq_true rfl, Nat.le_of_ble_eq_true rfl⟩), (wd_1256 hB _)⟩ ⟨pe_bl, pe_pre hB hK hP hD⟩ rfl rfl hl.1 rfl (lv_room (Nat.le_of_ble_eq_true rfl)) d_M_work_370 ⟨Nat.le_of_ble_eq_true rfl, Nat.le_of_ble_eq_true rfl⟩) hS (fun r406 f407 H locs hq408 hP hD hS => ?_)
                              obtain ⟨dt_409, rfl⟩ := hq408
                              obtain ⟨kr410, hkr410_0, hkr410_1, rfl⟩ := dt_409
                              have hdf9 := dgt_fit hkr410_1
                              have hkz9 : kw (fun i => dg hr_355 (0 + i)) 44 = kw (dg hr_355) 44 := kw_eq (fun i _ => by rw [Nat.zero_add])
                              rw [hkz9, hsr9.1] at hdf9
                              refine lv_bipush (v := nI 120) hx hb d_M_work_373 (by decide) ?_
                              refine lv_icmp_le (tgt := 382) hx hb d_M_work_375 (by decide) (fun b411 => ?_) (fun b411 => ?_)
                              · skip
                                replace b411 := (nI_leI (a := kr410) (b := 120) (by omega) (by omega)).mp b411
                                have hfit9 : (Int.tdiv x9 y9).natAbs < T12 := by have z9 := mt hdf9.mpr (by omega); omega
                                refine lv_iconst (v := nI 0) hx hb d_M_work_382 (by decide) ?_
                                refine pf_put (v := .int (nI 0)) (ty := .int) (fs' := [.int mth, .ref (g.lk M 1), .int (nI mn), .ref (g.lk M 3), .ref (g.lk M 4), .int (nI mdr), .ref (g.lk M 6), .ref (g.lk M 7), .ref (g.lk M 8), .int (nI msz), .int (nI mix), .int (nI mdp), .ref (g.lk M 12), .int (nI mwt), .ref (g.lk M 14), .ref (g.lk M 15), .int (nI mop), .ref (g.lk M 17), .ref (g.lk M 18), .ref (g.lk M 19), .ref (g.lk M 20), .ref (g.lk M 21), .ref (g.lk M 22), .ref (g.lk M 23), .ref (g.lk M 24), .ref (g.lk M 25), .ref (g.lk M 26), .ref (g.lk M 27), .ref (g.lk M 28), .ref (g.lk M 29), .ref (g.lk M 30), .ref (g.lk M 31), .int (nI (mtp - 1)), .ref (g.lk M 33), .ref (g.lk M 34), .ref (g.lk M 35), .int (nI mwa), .int (nI mgi), .int (nI mpc), .int (nI mst), .int (nI 0), .int (nI msp), .int (mma + bj315), .int (mlg + bj321), .int mdu]) (C := "BigRunnerModel") (T := FT10) (N := 45) hx hb (hw10 hB _) (fun _ h9 => h9) TY10 ok10 nm10 hown hK hP hD hS (lo_in hL t_M (by decide)) e328 rfl 40 (by decide) (wd_987 hB _) rfl (by decide +kernel) rfl rfl (Nat.le_of_ble_eq_true rfl) rfl d_M_work_383 (fun f412 H locs e413 k414 hP hD hS => ?_)
                                have eC := (k414 (g.lk M 6) (tg_ne (lo_k11_6 hL _ t_M) t_M (by decide))).trans eC
                                have eA := (k414 (g.lk M 7) (tg_ne (lo_k11_7 hL _ t_M) t_M (by decide))).trans eA
                                have eLI := (k414 (g.lk M 30) (tg_ne (lo_k11_30 hL _ t_M) t_M (by decide))).trans eLI
                                have eSI := (k414 (g.lk M 31) (tg_ne (lo_k11_31 hL _ t_M) t_M (by decide))).trans eSI
                                have eVL := (k414 (g.lk M 26) (tg_ne (lo_k11_26 hL _ t_M) t_M (by decide))).trans eVL
                                have eVS := (k414 (g.lk M 27) (tg_ne (lo_k11_27 hL _ t_M) t_M (by decide))).trans eVS
                                have e357 := (k414 (g.lk M 33) (tg_ne (lo_k11_33 hL _ t_M) t_M (by decide))).trans e357
                                have e358 := (k414 (g.lk M 34) (tg_ne (lo_k11_34 hL _ t_M) t_M (by decide))).trans e358
                                have hu := hu.st k414 t_M (by decide)
                                have hk415 : ∀ b, b ≠ M → f412 b = f350 b := k414
                                refine lv_aload_n hx hb d_M_work_386 rfl (lv_at hl 4 rfl) ?_
                                refine pf_get (v := .int (nI 0)) (C := "BigRunnerModel") (T := FT10) (N := 45) hx hb (hw10 hB _) (fun _ h9 => h9) hown hK hP (lo_in hL t_M (by decide)) e413 rfl 40 (by decide) (wd_987 hB _) rfl d_M_work_387 ?_
                                refine lv_if_ne (tgt := 400) hx hb d_M_work_390 (by decide) (fun b416 => ?_) (fun b416 => ?_)
                                · skip
                                  replace b416 := mt (nI_eq (a := 0) (b := 0) (by omega) (by omega)).mpr b416
                                  exfalso; omega
                                · skip
                                  replace b416 := (nI_eq (a := 0) (b := 0) (by omega) (by omega)).mp b416
                                  refine lv_aload_n hx hb d_M_work_393 rfl (lv_at hl 4 rfl) ?_
                                  refine lv_iload_n hx hb d_M_work_394 rfl (lv_at hl 2 rfl) ?_
                                  refine lv_iload hx hb d_M_work_395 (lv_at hl 1 rfl) ?_
                                  have hI417 := iv_1 hI1_353 hL t_M (by decide) hk415 (oc_11.mk t_M (⟨mth, mn, mdr, msz, mix, mdp, mwt, mop, (mtp - 1), mwa, mgi, mpc, mst, 0, msp, ((mma + bj315)), ((mlg + bj321)), mdu, e413, (by omega), (by omega), (by omega), (by omega), (by omega), (by omega), (by omega), (by omega), (by omega), (by omega), (by omega), (by omega), (by omega), (by omega), hmb14⟩))
                                  refine pcc_v (va_runV (C := "BigRunnerModel") (As := [.int (nI ((mtp - 1) - 1)), .int (((hSI ((mtp - 1) - 1))) * ((hSI (mtp - 1))))]) (rest := []) ⟨hx, hb, hml, hown, tb_nil⟩ (w_keep l g H.size f412 M (((mtp - 1) - 1)) ((((hSI ((mtp - 1) - 1))) * ((hSI (mtp - 1))))) ((Int.tdiv x9 y9)) hLI hSI hr_355 hL t_M hI417 eLI eSI e357 c6LI c359 (by omega) hsr9 (by rw [hsr9.1]; exact hfit9)) ⟨(callB_of 2 (tb_one (wd_1261 hB _)) tb_good1 rfl rfl rfl (wd_82 hB _) (wd_1258 hB _) (by decide +kernel) ⟨Nat.le_of_ble_eq_true rfl, Nat.le_of_ble_eq_true rfl⟩), (wd_1260 hB _), (wd_70 hB _)⟩ ⟨pe_bl, pg_recv (ci := 10) hK hP (lo_in hL t_M (by decide)) e413 rfl, pe_pre hB hK hP hD⟩ rfl rfl hl.1 rfl (lv_room (Nat.le_of_ble_eq_true rfl)) d_M_work_397 ⟨Nat.le_of_ble_eq_true rfl, Nat.le_of_ble_eq_true rfl⟩) hS (fun f419 H locs hq420 hP hD hS => ?_)
                                  obtain ⟨sn_421, hI1_422, hk1_423⟩ := hq420
                                  have hu := hu.st2 hk1_423 (lo_k11_30 hL _ t_M) (lo_k11_31 hL _ t_M) (by decide) (by decide)
                                  have eC := (hk1_423 (g.lk M 6) (tg_ne (lo_k11_6 hL _ t_M) (lo_k11_30 hL _ t_M) (by decide)) (tg_ne (lo_k11_6 hL _ t_M) (lo_k11_31 hL _ t_M) (by decide))).trans eC
                                  have eA := (hk1_423 (g.lk M 7) (tg_ne (lo_k11_7 hL _ t_M) (lo_k11_30 hL _ t_M) (by decide)) (tg_ne (lo_k11_7 hL _ t_M) (lo_k11_31 hL _ t_M) (by decide))).trans eA
                                  have eVL := (hk1_423 (g.lk M 26) (tg_ne (lo_k11_26 hL _ t_M) (lo_k11_30 hL _ t_M) (by decide)) (tg_ne (lo_k11_26 hL _ t_M) (lo_k11_31 hL _ t_M) (by decide))).trans eVL
                                  have eVS := (hk1_423 (g.lk M 27) (tg_ne (lo_k11_27 hL _ t_M) (lo_k11_30 hL _ t_M) (by decide)) (tg_ne (lo_k11_27 hL _ t_M) (lo_k11_31 hL _ t_M) (by decide))).trans eVS
                                  have e357 := (hk1_423 (g.lk M 33) (tg_ne (lo_k11_33 hL _ t_M) (lo_k11_30 hL _ t_M) (by decide)) (tg_ne (lo_k11_33 hL _ t_M) (lo_k11_31 hL _ t_M) (by decide))).trans e357
                                  have e358 := (hk1_423 (g.lk M 34) (tg_ne (lo_k11_34 hL _ t_M) (lo_k11_30 hL _ t_M) (by decide)) (tg_ne (lo_k11_34 hL _ t_M) (lo_k11_31 hL _ t_M) (by decide))).trans e358
                                  have e413 := (hk1_423 M (tg_ne t_M (lo_k11_30 hL _ t_M) (by decide)) (tg_ne t_M (lo_k11_31 hL _ t_M) (by decide))).trans e413
                                  obtain ⟨hl_424, hs_425, e426, e427, c428, hsv429, hsf430, hss431⟩ := sn_421
                                  have hot9 : otr 5 x9 y9 = 0 := otr_0 (w := 5) (x := x9) (y := y9) (by decide) (Or.inr hy0) hfit9
                                  have hE9 : ev1 vr 5 v (y9 :: x9 :: S9) = (0, (Int.tdiv x9 y9) :: S9) := ev1_z vr (by decide) (by decide) hot9
                                  exact pe_vret hx hb hr hlocks hK hP hD hS d_M_work_400 ⟨⟨(mtp - 1), (mma + bj315), (mlg + bj321), 0, by omega, (by rw [hwE, hVE, hE9]), (fun _ => by rw [hwE, hVE, hE9]; show mtp - 1 = S9.length + 1; omega), e413⟩, ⟨_, _, _, _, e426, e427, e357, e358, c428, c359, c360, (fun _ => by rw [hwE, hVE, hE9]; exact ⟨by rw [show S9.length = mtp - 1 - 1 by omega]; exact hsv429, SVS_SF hsf430 hss431 S9 (by omega) hS9⟩)⟩, hI1_422, hu⟩
                              · skip
                                replace b411 := mt (nI_leI (a := kr410) (b := 120) (by omega) (by omega)).mpr b411
                                have hfit8 : T12 ≤ (Int.tdiv x9 y9).natAbs := hdf9.mp (by omega)
                                refine lv_iconst (v := nI 2) hx hb d_M_work_378 (by decide) ?_
                                refine lv_goto (tgt := 383) hx hb d_M_work_379 (by decide) ?_
                                refine pf_put (v := .int (nI 2)) (ty := .int) (fs' := [.int mth, .ref (g.lk M 1), .int (nI mn), .ref (g.lk M 3), .ref (g.lk M 4), .int (nI mdr), .ref (g.lk M 6), .ref (g.lk M 7), .ref (g.lk M 8), .int (nI msz), .int (nI mix), .int (nI mdp), .ref (g.lk M 12), .int (nI mwt), .ref (g.lk M 14), .ref (g.lk M 15), .int (nI mop), .ref (g.lk M 17), .ref (g.lk M 18), .ref (g.lk M 19), .ref (g.lk M 20), .ref (g.lk M 21), .ref (g.lk M 22), .ref (g.lk M 23), .ref (g.lk M 24), .ref (g.lk M 25), .ref (g.lk M 26), .ref (g.lk M 27), .ref (g.lk M 28), .ref (g.lk M 29), .ref (g.lk M 30), .ref (g.lk M 31), .int (nI (mtp - 1)), .ref (g.lk M 33), .ref (g.lk M 34), .ref (g.lk M 35), .int (nI mwa), .int (nI mgi), .int (nI mpc), .int (nI mst), .int (nI 2), .int (nI msp), .int (mma + bj315), .int (mlg + bj321), .int mdu]) (C := "BigRunnerModel") (T := FT10) (N := 45) hx hb (hw10 hB _) (fun _ h9 => h9) TY10 ok10 nm10 hown hK hP hD hS (lo_in hL t_M (by decide)) e328 rfl 40 (by decide) (wd_987 hB _) rfl (by decide +kernel) rfl rfl (Nat.le_of_ble_eq_true rfl) rfl d_M_work_383 (fun f432 H locs e433 k434 hP hD hS => ?_)
                                have eC := (k434 (g.lk M 6) (tg_ne (lo_k11_6 hL _ t_M) t_M (by decide))).trans eC
                                have eA := (k434 (g.lk M 7) (tg_ne (lo_k11_7 hL _ t_M) t_M (by decide))).trans eA
                                have eLI := (k434 (g.lk M 30) (tg_ne (lo_k11_30 hL _ t_M) t_M (by decide))).trans eLI
                                have eSI := (k434 (g.lk M 31) (tg_ne (lo_k11_31 hL _ t_M) t_M (by decide))).trans eSI
                                have eVL := (k434 (g.lk M 26) (tg_ne (lo_k11_26 hL _ t_M) t_M (by decide))).trans eVL
                                have eVS := (k434 (g.lk M 27) (tg_ne (lo_k11_27 hL _ t_M) t_M (by decide))).trans eVS
                                have e357 := (k434 (g.lk M 33) (tg_ne (lo_k11_33 hL _ t_M) t_M (by decide))).trans e357
                                have e358 := (k434 (g.lk M 34) (tg_ne (lo_k11_34 hL _ t_M) t_M (by decide))).trans e358
                                have hu := hu.st k434 t_M (by decide)
                                have hk435 : ∀ b, b ≠ M → f432 b = f350 b := k434
                                refine lv_aload_n hx hb d_M_work_386 rfl (lv_at hl 4 rfl) ?_
                                refine pf_get (v := .int (nI 2)) (C := "BigRunnerModel") (T := FT10) (N := 45) hx hb (hw10 hB _) (fun _ h9 => h9) hown hK hP (lo_in hL t_M (by decide)) e433 rfl 40 (by decide) (wd_987 hB _) rfl d_M_work_387 ?_
                                refine lv_if_ne (tgt := 400) hx hb d_M_work_390 (by decide) (fun b436 => ?_) (fun b436 => ?_)
                                · skip
                                  replace b436 := mt (nI_eq (a := 2) (b := 0) (by omega) (by omega)).mpr b436
                                  have hI437 := iv_1 hI1_353 hL t_M (by decide) hk435 (oc_11.mk t_M (⟨mth, mn, mdr, msz, mix, mdp, mwt, mop, (mtp - 1), mwa, mgi, mpc, mst, 2, msp, ((mma + bj315)), ((mlg + bj321)), mdu, e433, (by omega), (by omega), (by omega), (by omega), (by omega), (by omega), (by omega), (by omega), (by omega), (by omega), (by omega), (by omega), (by omega), (by omega), hmb14⟩))
                                  have hot9 : otr 5 x9 y9 = 2 := otr_2 (w := 5) (x := x9) (y := y9) (by decide) (Or.inr hy0) hfit8
                                  have hE9 : ev1 vr 5 v (y9 :: x9 :: S9) = (2, y9 :: x9 :: S9) := (ev1_t vr (by decide) (by decide) (by rw [hot9]; decide)).trans (by rw [hot9])
                                  exact pe_vret hx hb hr hlocks hK hP hD hS d_M_work_400 ⟨⟨(mtp - 1), (mma + bj315), (mlg + bj321), 2, by omega, (by rw [hwE, hVE, hE9]), (fun z9 => absurd z9 (by rw [hwE, hVE, hE9]; show ¬ (2 : Nat) = 0; decide)), e433⟩, ⟨_, _, _, _, eLI, eSI, e357, e358, c6LI, c359, c360, (fun z9 => absurd z9 (by rw [hwE, hVE, hE9]; show ¬ (2 : Nat) = 0; decide))⟩, hI437, hu⟩
                                · skip
                                  replace b436 := (nI_eq (a := 2) (b := 0) (by omega) (by omega)).mp b436
                                  exfalso; omega
                            · skip
                              replace b405 := (nI_eq (a := 5) (b := 6) (by omega) (by omega)).mp b405
                              exfalso; omega
                      exact lp365 21 0 H locs ls (by omega) (by omega) hl hP hD hS
                  · skip
                    replace b348 := mt (nI_leI (a := 5) (b := 5) (by omega) (by omega)).mpr b348
                    exfalso; omega
                · skip
                  have hy0 : y9 = 0 := (SV_0 hy8).mp (by first | exact b332 | exact Decidable.not_not.mp b332)
                  refine lv_aload_n hx hb d_M_work_226 rfl (lv_at hl 2 rfl) ?_
                  refine lv_iconst (v := nI 1) hx hb d_M_work_227 (by decide) ?_
                  refine pf_put (v := .int (nI 1)) (ty := .int) (fs' := [.int mth, .ref (g.lk M 1), .int (nI mn), .ref (g.lk M 3), .ref (g.lk M 4), .int (nI mdr), .ref (g.lk M 6), .ref (g.lk M 7), .ref (g.lk M 8), .int (nI msz), .int (nI mix), .int (nI mdp), .ref (g.lk M 12), .int (nI mwt), .ref (g.lk M 14), .ref (g.lk M 15), .int (nI mop), .ref (g.lk M 17), .ref (g.lk M 18), .ref (g.lk M 19), .ref (g.lk M 20), .ref (g.lk M 21), .ref (g.lk M 22), .ref (g.lk M 23), .ref (g.lk M 24), .ref (g.lk M 25), .ref (g.lk M 26), .ref (g.lk M 27), .ref (g.lk M 28), .ref (g.lk M 29), .ref (g.lk M 30), .ref (g.lk M 31), .int (nI (mtp - 1)), .ref (g.lk M 33), .ref (g.lk M 34), .ref (g.lk M 35), .int (nI mwa), .int (nI mgi), .int (nI mpc), .int (nI mst), .int (nI 1), .int (nI msp), .int (mma + bj315), .int (mlg + bj321), .int mdu]) (C := "BigRunnerModel") (T := FT10) (N := 45) hx hb (hw10 hB _) (fun _ h9 => h9) TY10 ok10 nm10 hown hK hP hD hS (lo_in hL t_M (by decide)) e328 rfl 40 (by decide) (wd_987 hB _) rfl (by decide +kernel) rfl rfl (Nat.le_of_ble_eq_true rfl) rfl d_M_work_228 (fun f438 H locs e439 k440 hP hD hS => ?_)
                  have eC := (k440 (g.lk M 6) (tg_ne (lo_k11_6 hL _ t_M) t_M (by decide))).trans eC
                  have eA := (k440 (g.lk M 7) (tg_ne (lo_k11_7 hL _ t_M) t_M (by decide))).trans eA
                  have eLI := (k440 (g.lk M 30) (tg_ne (lo_k11_30 hL _ t_M) t_M (by decide))).trans eLI
                  have eSI := (k440 (g.lk M 31) (tg_ne (lo_k11_31 hL _ t_M) t_M (by decide))).trans eSI
                  have eRE := (k440 (g.lk M 33) (tg_ne (lo_k11_33 hL _ t_M) t_M (by decide))).trans eRE
                  have eRS := (k440 (g.lk M 34) (tg_ne (lo_k11_34 hL _ t_M) t_M (by decide))).trans eRS
                  have eVL := (k440 (g.lk M 26) (tg_ne (lo_k11_26 hL _ t_M) t_M (by decide))).trans eVL
                  have eVS := (k440 (g.lk M 27) (tg_ne (lo_k11_27 hL _ t_M) t_M (by decide))).trans eVS
                  have hu := hu.st k440 t_M (by decide)
                  have hk441 : ∀ b, b ≠ M → f438 b = f b := fun b q0 => (k440 b q0).trans (hk330 b q0)
                  have hI442 := iv_1 hI hL t_M (by decide) hk441 (oc_11.mk t_M (⟨mth, mn, mdr, msz, mix, mdp, mwt, mop, (mtp - 1), mwa, mgi, mpc, mst, 1, msp, ((mma + bj315)), ((mlg + bj321)), mdu, e439, (by omega), (by omega), (by omega), (by omega), (by omega), (by omega), (by omega), (by omega), (by omega), (by omega), (by omega), (by omega), (by omega), (by omega), hmb14⟩))
                  have hot9 : otr 5 x9 y9 = 1 := otr_1 (w := 5) (x := x9) (y := y9) (by decide) (by decide) hy0
                  have hE9 : ev1 vr 5 v (y9 :: x9 :: S9) = (1, y9 :: x9 :: S9) := (ev1_t vr (by decide) (by decide) (by rw [hot9]; decide)).trans (by rw [hot9])
                  exact pe_vret hx hb hr hlocks hK hP hD hS d_M_work_231 ⟨⟨(mtp - 1), (mma + bj315), (mlg + bj321), 1, by omega, (by rw [hwE, hVE, hE9]), (fun z9 => absurd z9 (by rw [hwE, hVE, hE9]; show ¬ (1 : Nat) = 0; decide)), e439⟩, ⟨_, _, _, _, eLI, eSI, eRE, eRS, c6LI, c6RE, c6RS, (fun z9 => absurd z9 (by rw [hwE, hVE, hE9]; show ¬ (1 : Nat) = 0; decide))⟩, hI442, hu⟩
            · skip
              replace b326 := (nI_eq (a := 5) (b := 7) (by omega) (by omega)).mp b326
              exfalso; omega
          refine lv_aload_n hx hb d_M_work_144 rfl (lv_at hl 1 rfl) ?_
          refine pf_get (v := .ref (g.lk M 8)) (C := "BigRunnerModel") (T := FT10) (N := 45) hx hb (hw10 hB _) (fun _ h9 => h9) hown hK hP (lo_in hL t_M (by decide)) e317 rfl 8 (by decide) (wd_955 hB _) rfl d_M_work_145 ?_
          refine lv_iload_n hx hb d_M_work_148 rfl (lv_at hl 2 rfl) ?_
          obtain ⟨h_444, e443⟩ := oc_45.of (lo_k11_8 hL _ t_M) (hI.1 (g.lk M 8))
          replace e443 := (hk319 (g.lk M 8) (tg_ne (lo_k11_8 hL _ t_M) t_M (by decide))).trans e443
          refine pf_zald (i := p9) hx hb hK hP (lo_in hL (lo_k11_8 hL _ t_M) (by decide)) e443 (lo_t45 hL _ (lo_k11_8 hL _ t_M)) (by omega) (by decide) d_M_work_149 ?_
          refine lv_if_eq (tgt := 157) hx hb d_M_work_150 (by decide) (fun b446 => ?_) (fun b446 => ?_)
          · skip
            refine lv_iconst (v := nI 1) hx hb d_M_work_157 (by decide) ?_
            exact jn320 ((nI 1)) _ _ hP hD hS
          · skip
            refine lv_iconst (v := nI 0) hx hb d_M_work_153 (by decide) ?_
            refine lv_goto (tgt := 158) hx hb d_M_work_154 (by decide) ?_
            exact jn320 ((nI 0)) _ _ hP hD hS
        refine lv_aload_n hx hb d_M_work_121 rfl (lv_at hl 1 rfl) ?_
        refine pf_get (v := .ref (g.lk M 8)) (C := "BigRunnerModel") (T := FT10) (N := 45) hx hb (hw10 hB _) (fun _ h9 => h9) hown hK hP (lo_in hL t_M (by decide)) eM rfl 8 (by decide) (wd_955 hB _) rfl d_M_work_122 ?_
        refine lv_iload_n hx hb d_M_work_125 rfl (lv_at hl 2 rfl) ?_
        obtain ⟨h_448, e447⟩ := oc_45.of (lo_k11_8 hL _ t_M) (hI.1 (g.lk M 8))
        refine pf_zald (i := p9) hx hb hK hP (lo_in hL (lo_k11_8 hL _ t_M) (by decide)) e447 (lo_t45 hL _ (lo_k11_8 hL _ t_M)) (by omega) (by decide) d_M_work_126 ?_
        refine lv_if_eq (tgt := 134) hx hb d_M_work_127 (by decide) (fun b450 => ?_) (fun b450 => ?_)
        · skip
          refine lv_iconst (v := nI 0) hx hb d_M_work_134 (by decide) ?_
          exact jn314 ((nI 0)) _ _ hP hD hS
        · skip
          refine lv_iconst (v := nI 1) hx hb d_M_work_130 (by decide) ?_
          refine lv_goto (tgt := 135) hx hb d_M_work_131 (by decide) ?_
          exact jn314 ((nI 1)) _ _ hP hD hS
      · skip
        replace b313 := (nI_eq (a := 5) (b := 1) (by omega) (by omega)).mp b313
        exfalso; omega
    · skip
      replace b312 := (nI_eq (a := 5) (b := 0) (by omega) (by omega)).mp b312
      exfalso; omega
  · skip
    refine lv_topi (fun z_ hz_ => ?_)
    obtain rfl : z_ = nI 6 := hz_.trans (congrArg nI hwE)
    have hl : lv_has ls 6 [(2, .int (nI 6)), (0, .ref M), (1, .int (nI p9))] := by rw [hwE] at hl; exact hl
    have z2 := hw2 (by omega) (by omega)
    obtain ⟨y9, x9, S9, hVE⟩ : ∃ y x S, V = y :: x :: S := by
      cases V with
      | nil => (exfalso; have y9 : mtp = 0 := htp; omega)
      | cons y V' =>
        cases V' with
        | nil => (exfalso; have y9 : mtp = 0 + 1 := htp; omega)
        | cons x S => exact ⟨y, x, S, rfl⟩
    rw [hVE] at htp hSV
    have htp9 : mtp = S9.length + 1 + 1 := htp
    obtain ⟨hy9, hx9, hS9⟩ := hSV
    have hy8 : SV hLI hSI (mtp - 1) y9 := by rw [show mtp - 1 = S9.length + 1 by omega]; exact hy9
    have hx8 : SV hLI hSI (mtp - 1 - 1) x9 := by rw [show mtp - 1 - 1 = S9.length by omega]; exact hx9
    have hxl : x9.natAbs < T12 := SV_lt c6LI (by omega) hx8
    refine lv_if_ne (tgt := 36) hx hb d_M_work_8 (by decide) (fun b451 => ?_) (fun b451 => ?_)
    · skip
      replace b451 := mt (nI_eq (a := 6) (b := 0) (by omega) (by omega)).mpr b451
      refine lv_iload_n hx hb d_M_work_36 rfl (lv_at hl 0 rfl) ?_
      refine lv_iconst (v := nI 1) hx hb d_M_work_37 (by decide) ?_
      refine lv_icmp_ne (tgt := 116) hx hb d_M_work_38 (by decide) (fun b452 => ?_) (fun b452 => ?_)
      · skip
        replace b452 := mt (nI_eq (a := 6) (b := 1) (by omega) (by omega)).mpr b452
        refine lv_aload_n hx hb d_M_work_116 rfl (lv_at hl 1 rfl) ?_
        refine lv_dup hx hb d_M_work_117 rfl ?_
        refine pf_get (v := .int mma) (C := "BigRunnerModel") (T := FT10) (N := 45) hx hb (hw10 hB _) (fun _ h9 => h9) hown hK hP (lo_in hL t_M (by decide)) eM rfl 42 (by decide) (wd_989 hB _) rfl d_M_work_118 ?_
        have jn453 : ∀ (bj454 : Int32) (H : Heap) (locs : List Loc), va_P g.D vcl (va_pl g.LP f) H → va_D (pc_A g s.heap.size) (va_pl g.LP f) → va_S (pc_A g s.heap.size) s.heap H locs → W p l e ({ frames := 3, cells := 0, slots := 0, locals := 78 }) s m args below meth c H locs 0 0 (MQ below (va_Qv (fun f1 => (∃ (tp1 : Nat) (ma1 : Int32) (lg1 : Int32) (tr1 : Nat), (tp1 ≤ 80) ∧ (tr1 = (ev1 vr w v V).1) ∧ ((ev1 vr w v V).1 = 0 → tp1 = (ev1 vr w v V).2.length) ∧ f1 M = .inr (10, [.int mth, .ref (g.lk M 1), .int (nI mn), .ref (g.lk M 3), .ref (g.lk M 4), .int (nI mdr), .ref (g.lk M 6), .ref (g.lk M 7), .ref (g.lk M 8), .int (nI msz), .int (nI mix), .int (nI mdp), .ref (g.lk M 12), .int (nI mwt), .ref (g.lk M 14), .ref (g.lk M 15), .int (nI mop), .ref (g.lk M 17), .ref (g.lk M 18), .ref (g.lk M 19), .ref (g.lk M 20), .ref (g.lk M 21), .ref (g.lk M 22), .ref (g.lk M 23), .ref (g.lk M 24), .ref (g.lk M 25), .ref (g.lk M 26), .ref (g.lk M 27), .ref (g.lk M 28), .ref (g.lk M 29), .ref (g.lk M 30), .ref (g.lk M 31), .int (nI tp1), .ref (g.lk M 33), .ref (g.lk M 34), .ref (g.lk M 35), .int (nI mwa), .int (nI mgi), .int (nI mpc), .int (nI mst), .int (nI tr1), .int (nI msp), .int ma1, .int lg1, .int mdu])) ∧ (∃ hl hs hr hq : Nat → Int32, f1 (g.lk M 30) = .inl (g.ac (g.lk M 30), 1600, .inl hl) ∧ f1 (g.lk M 31) = .inl (g.ac (g.lk M 31), 80, .inl hs) ∧ f1 (g.lk M 33) = .inl (g.ac (g.lk M 33), 44, .inl hr) ∧ f1 (g.lk M 34) = .inl (g.ac (g.lk M 34), 44, .inl hq) ∧ C6 1600 hl ∧ C6 44 hr ∧ C6 44 hq ∧ ((ev1 vr w v V).1 = 0 → SVS hl hs (ev1 vr w v V).2)) ∧ (IV g f1) ∧ (un [11, 62, 63, 64, 65] g f f1)) (pc_out g s.heap.size) (pc_A g s.heap.size)) args s 0 0 (pc_A g s.heap.size)) (F0 m 135 ls [.int bj454, .int mma, .ref M]) := by
          intro bj454 H locs hP hD hS
          refine lv_iadd hx hb d_M_work_135 ?_
          refine pf_put (v := .int (mma + bj454)) (ty := .int) (fs' := [.int mth, .ref (g.lk M 1), .int (nI mn), .ref (g.lk M 3), .ref (g.lk M 4), .int (nI mdr), .ref (g.lk M 6), .ref (g.lk M 7), .ref (g.lk M 8), .int (nI msz), .int (nI mix), .int (nI mdp), .ref (g.lk M 12), .int (nI mwt), .ref (g.lk M 14), .ref (g.lk M 15), .int (nI mop), .ref (g.lk M 17), .ref (g.lk M 18), .ref (g.lk M 19), .ref (g.lk M 20), .ref (g.lk M 21), .ref (g.lk M 22), .ref (g.lk M 23), .ref (g.lk M 24), .ref (g.lk M 25), .ref (g.lk M 26), .ref (g.lk M 27), .ref (g.lk M 28), .ref (g.lk M 29), .ref (g.lk M 30), .ref (g.lk M 31), .int (nI mtp), .ref (g.lk M 33), .ref (g.lk M 34), .ref (g.lk M 35), .int (nI mwa), .int (nI mgi), .int (nI mpc), .int (nI mst), .int (nI mtr), .int (nI msp), .int (mma + bj454), .int mlg, .int mdu]) (C := "BigRunnerModel") (T := FT10) (N := 45) hx hb (hw10 hB _) (fun _ h9 => h9) TY10 ok10 nm10 hown hK hP hD hS (lo_in hL t_M (by decide)) eM rfl 42 (by decide) (wd_989 hB _) rfl (by decide +kernel) rfl rfl (Nat.le_of_ble_eq_true rfl) rfl d_M_work_136 (fun f455 H locs e456 k457 hP hD hS => ?_)
          have eC := (k457 (g.lk M 6) (tg_ne (lo_k11_6 hL _ t_M) t_M (by decide))).trans eC
          have eA := (k457 (g.lk M 7) (tg_ne (lo_k11_7 hL _ t_M) t_M (by decide))).trans eA
          have eLI := (k457 (g.lk M 30) (tg_ne (lo_k11_30 hL _ t_M) t_M (by decide))).trans eLI
          have eSI := (k457 (g.lk M 31) (tg_ne (lo_k11_31 hL _ t_M) t_M (by decide))).trans eSI
          have eRE := (k457 (g.lk M 33) (tg_ne (lo_k11_33 hL _ t_M) t_M (by decide))).trans eRE
          have eRS := (k457 (g.lk M 34) (tg_ne (lo_k11_34 hL _ t_M) t_M (by decide))).trans eRS
          have eVL := (k457 (g.lk M 26) (tg_ne (lo_k11_26 hL _ t_M) t_M (by decide))).trans eVL
          have eVS := (k457 (g.lk M 27) (tg_ne (lo_k11_27 hL _ t_M) t_M (by decide))).trans eVS
          have hu := hu.st k457 t_M (by decide)
          have hk458 : ∀ b, b ≠ M → f455 b = f b := k457
          refine lv_aload_n hx hb d_M_work_139 rfl (lv_at hl 1 rfl) ?_
          refine lv_dup hx hb d_M_work_140 rfl ?_
          refine pf_get (v := .int mlg) (C := "BigRunnerModel") (T := FT10) (N := 45) hx hb (hw10 hB _) (fun _ h9 => h9) hown hK hP (lo_in hL t_M (by decide)) e456 rfl 43 (by decide) (wd_990 hB _) rfl d_M_work_141 ?_
          have jn459 : ∀ (bj460 : Int32) (H : Heap) (locs : List Loc), va_P g.D vcl (va_pl g.LP f455) H → va_D (pc_A g s.heap.size) (va_pl g.LP f455) → va_S (pc_A g s.heap.size) s.heap H locs → W p l e ({ frames := 3, cells := 0, slots := 0, locals := 78 }) s m args below meth c H locs 0 0 (MQ below (va_Qv (fun f1 => (∃ (tp1 : Nat) (ma1 : Int32) (lg1 : Int32) (tr1 : Nat), (tp1 ≤ 80) ∧ (tr1 = (ev1 vr w v V).1) ∧ ((ev1 vr w v V).1 = 0 → tp1 = (ev1 vr w v V).2.length) ∧ f1 M = .inr (10, [.int mth, .ref (g.lk M 1), .int (nI mn), .ref (g.lk M 3), .ref (g.lk M 4), .int (nI mdr), .ref (g.lk M 6), .ref (g.lk M 7), .ref (g.lk M 8), .int (nI msz), .int (nI mix), .int (nI mdp), .ref (g.lk M 12), .int (nI mwt), .ref (g.lk M 14), .ref (g.lk M 15), .int (nI mop), .ref (g.lk M 17), .ref (g.lk M 18), .ref (g.lk M 19), .ref (g.lk M 20), .ref (g.lk M 21), .ref (g.lk M 22), .ref (g.lk M 23), .ref (g.lk M 24), .ref (g.lk M 25), .ref (g.lk M 26), .ref (g.lk M 27), .ref (g.lk M 28), .ref (g.lk M 29), .ref (g.lk M 30), .ref (g.lk M 31), .int (nI tp1), .ref (g.lk M 33), .ref (g.lk M 34), .ref (g.lk M 35), .int (nI mwa), .int (nI mgi), .int (nI mpc), .int (nI mst), .int (nI tr1), .int (nI msp), .int ma1, .int lg1, .int mdu])) ∧ (∃ hl hs hr hq : Nat → Int32, f1 (g.lk M 30) = .inl (g.ac (g.lk M 30), 1600, .inl hl) ∧ f1 (g.lk M 31) = .inl (g.ac (g.lk M 31), 80, .inl hs) ∧ f1 (g.lk M 33) = .inl (g.ac (g.lk M 33), 44, .inl hr) ∧ f1 (g.lk M 34) = .inl (g.ac (g.lk M 34), 44, .inl hq) ∧ C6 1600 hl ∧ C6 44 hr ∧ C6 44 hq ∧ ((ev1 vr w v V).1 = 0 → SVS hl hs (ev1 vr w v V).2)) ∧ (IV g f1) ∧ (un [11, 62, 63, 64, 65] g f f1)) (pc_out g s.heap.size) (pc_A g s.heap.size)) args s 0 0 (pc_A g s.heap.size)) (F0 m 158 ls [.int bj460, .int mlg, .ref M]) := by
            intro bj460 H locs hP hD hS
            refine lv_iadd hx hb d_M_work_158 ?_
            refine pf_put (v := .int (mlg + bj460)) (ty := .int) (fs' := [.int mth, .ref (g.lk M 1), .int (nI mn), .ref (g.lk M 3), .ref (g.lk M 4), .int (nI mdr), .ref (g.lk M 6), .ref (g.lk M 7), .ref (g.lk M 8), .int (nI msz), .int (nI mix), .int (nI mdp), .ref (g.lk M 12), .int (nI mwt), .ref (g.lk M 14), .ref (g.lk M 15), .int (nI mop), .ref (g.lk M 17), .ref (g.lk M 18), .ref (g.lk M 19), .ref (g.lk M 20), .ref (g.lk M 21), .ref (g.lk M 22), .ref (g.lk M 23), .ref (g.lk M 24), .ref (g.lk M 25), .ref (g.lk M 26), .ref (g.lk M 27), .ref (g.lk M 28), .ref (g.lk M 29), .ref (g.lk M 30), .ref (g.lk M 31), .int (nI mtp), .ref (g.lk M 33), .ref (g.lk M 34), .ref (g.lk M 35), .int (nI mwa), .int (nI mgi), .int (nI mpc), .int (nI mst), .int (nI mtr), .int (nI msp), .int (mma + bj454), .int (mlg + bj460), .int mdu]) (C := "BigRunnerModel") (T := FT10) (N := 45) hx hb (hw10 hB _) (fun _ h9 => h9) TY10 ok10 nm10 hown hK hP hD hS (lo_in hL t_M (by decide)) e456 rfl 43 (by decide) (wd_990 hB _) rfl (by decide +kernel) rfl rfl (Nat.le_of_ble_eq_true rfl) rfl d_M_work_159 (fun f461 H locs e462 k463 hP hD hS => ?_)
            have eC := (k463 (g.lk M 6) (tg_ne (lo_k11_6 hL _ t_M) t_M (by decide))).trans eC
            have eA := (k463 (g.lk M 7) (tg_ne (lo_k11_7 hL _ t_M) t_M (by decide))).trans eA
            have eLI := (k463 (g.lk M 30) (tg_ne (lo_k11_30 hL _ t_M) t_M (by decide))).trans eLI
            have eSI := (k463 (g.lk M 31) (tg_ne (lo_k11_31 hL _ t_M) t_M (by decide))).trans eSI
            have eRE := (k463 (g.lk M 33) (tg_ne (lo_k11_33 hL _ t_M) t_M (by decide))).trans eRE
            have eRS := (k463 (g.lk M 34) (tg_ne (lo_k11_34 hL _ t_M) t_M (by decide))).trans eRS
            have eVL := (k463 (g.lk M 26) (tg_ne (lo_k11_26 hL _ t_M) t_M (by decide))).trans eVL
            have eVS := (k463 (g.lk M 27) (tg_ne (lo_k11_27 hL _ t_M) t_M (by decide))).trans eVS
            have hu := hu.st k463 t_M (by decide)
            have hk464 : ∀ b, b ≠ M → f461 b = f b := fun b q0 => (k463 b q0).trans (hk458 b q0)
            refine lv_iload_n hx hb d_M_work_162 rfl (lv_at hl 0 rfl) ?_
            refine lv_bipush (v := nI 7) hx hb d_M_work_163 (by decide) ?_
            refine lv_icmp_ne (tgt := 192) hx hb d_M_work_165 (by decide) (fun b465 => ?_) (fun b465 => ?_)
            · skip
              replace b465 := mt (nI_eq (a := 6) (b := 7) (by omega) (by omega)).mpr b465
              refine lv_aload_n hx hb d_M_work_192 rfl (lv_at hl 1 rfl) ?_
              refine lv_dup hx hb d_M_work_193 rfl ?_
              refine pf_get (v := .int (nI mtp)) (C := "BigRunnerModel") (T := FT10) (N := 45) hx hb (hw10 hB _) (fun _ h9 => h9) hown hK hP (lo_in hL t_M (by decide)) e462 rfl 32 (by decide) (wd_979 hB _) rfl d_M_work_194 ?_
              refine lv_iconst (v := nI 1) hx hb d_M_work_197 (by decide) ?_
              refine pf_isubN (x := mtp) (y := 1) hx hb (by omega) d_M_work_198 ?_
              refine pf_put (v := .int (nI (mtp - 1))) (ty := .int) (fs' := [.int mth, .ref (g.lk M 1), .int (nI mn), .ref (g.lk M 3), .ref (g.lk M 4), .int (nI mdr), .ref (g.lk M 6), .ref (g.lk M 7), .ref (g.lk M 8), .int (nI msz), .int (nI mix), .int (nI mdp), .ref (g.lk M 12), .int (nI mwt), .ref (g.lk M 14), .ref (g.lk M 15), .int (nI mop), .ref (g.lk M 17), .ref (g.lk M 18), .ref (g.lk M 19), .ref (g.lk M 20), .ref (g.lk M 21), .ref (g.lk M 22), .ref (g.lk M 23), .ref (g.lk M 24), .ref (g.lk M 25), .ref (g.lk M 26), .ref (g.lk M 27), .ref (g.lk M 28), .ref (g.lk M 29), .ref (g.lk M 30), .ref (g.lk M 31), .int (nI (mtp - 1)), .ref (g.lk M 33), .ref (g.lk M 34), .ref (g.lk M 35), .int (nI mwa), .int (nI mgi), .int (nI mpc), .int (nI mst), .int (nI mtr), .int (nI msp), .int (mma + bj454), .int (mlg + bj460), .int mdu]) (C := "BigRunnerModel") (T := FT10) (N := 45) hx hb (hw10 hB _) (fun _ h9 => h9) TY10 ok10 nm10 hown hK hP hD hS (lo_in hL t_M (by decide)) e462 rfl 32 (by decide) (wd_979 hB _) rfl (by decide +kernel) rfl rfl (Nat.le_of_ble_eq_true rfl) rfl d_M_work_199 (fun f466 H locs e467 k468 hP hD hS => ?_)
              have eC := (k468 (g.lk M 6) (tg_ne (lo_k11_6 hL _ t_M) t_M (by decide))).trans eC
              have eA := (k468 (g.lk M 7) (tg_ne (lo_k11_7 hL _ t_M) t_M (by decide))).trans eA
              have eLI := (k468 (g.lk M 30) (tg_ne (lo_k11_30 hL _ t_M) t_M (by decide))).trans eLI
              have eSI := (k468 (g.lk M 31) (tg_ne (lo_k11_31 hL _ t_M) t_M (by decide))).trans eSI
              have eRE := (k468 (g.lk M 33) (tg_ne (lo_k11_33 hL _ t_M) t_M (by decide))).trans eRE
              have eRS := (k468 (g.lk M 34) (tg_ne (lo_k11_34 hL _ t_M) t_M (by decide))).trans eRS
              have eVL := (k468 (g.lk M 26) (tg_ne (lo_k11_26 hL _ t_M) t_M (by decide))).trans eVL
              have eVS := (k468 (g.lk M 27) (tg_ne (lo_k11_27 hL _ t_M) t_M (by decide))).trans eVS
              have hu := hu.st k468 t_M (by decide)
              have hk469 : ∀ b, b ≠ M → f466 b = f b := fun b q0 => (k468 b q0).trans (hk464 b q0)
              refine lv_aload_n hx hb d_M_work_202 rfl (lv_at hl 1 rfl) ?_
              refine pf_get (v := .int (nI (mtp - 1))) (C := "BigRunnerModel") (T := FT10) (N := 45) hx hb (hw10 hB _) (fun _ h9 => h9) hown hK hP (lo_in hL t_M (by decide)) e467 rfl 32 (by decide) (wd_979 hB _) rfl d_M_work_203 ?_
              refine lv_iconst (v := nI 1) hx hb d_M_work_206 (by decide) ?_
              refine pf_isubN (x := mtp - 1) (y := 1) hx hb (by omega) d_M_work_207 ?_
              refine lv_istore_n (lv' := [(3, .int (nI ((mtp - 1) - 1))), (2, .int (nI 6)), (0, .ref M), (1, .int (nI p9))]) hx hb d_M_work_208 rfl hl (by decide) rfl (fun ls hl => ?_)
              refine lv_iload_n hx hb d_M_work_209 rfl (lv_at hl 1 rfl) ?_
              refine lv_iconst (v := nI 4) hx hb d_M_work_210 (by decide) ?_
              refine lv_icmp_le (tgt := 232) hx hb d_M_work_211 (by decide) (fun b470 => ?_) (fun b470 => ?_)
              · skip
                replace b470 := (nI_leI (a := 6) (b := 4) (by omega) (by omega)).mp b470
                exfalso; omega
              · skip
                replace b470 := mt (nI_leI (a := 6) (b := 4) (by omega) (by omega)).mpr b470
                refine lv_aload_n hx hb d_M_work_214 rfl (lv_at hl 2 rfl) ?_
                refine pf_get (v := .ref (g.lk M 31)) (C := "BigRunnerModel") (T := FT10) (N := 45) hx hb (hw10 hB _) (fun _ h9 => h9) hown hK hP (lo_in hL t_M (by decide)) e467 rfl 31 (by decide) (wd_978 hB _) rfl d_M_work_215 ?_
                refine lv_aload_n hx hb d_M_work_218 rfl (lv_at hl 2 rfl) ?_
                refine pf_get (v := .int (nI (mtp - 1))) (C := "BigRunnerModel") (T := FT10) (N := 45) hx hb (hw10 hB _) (fun _ h9 => h9) hown hK hP (lo_in hL t_M (by decide)) e467 rfl 32 (by decide) (wd_979 hB _) rfl d_M_work_219 ?_
                refine pf_iald (i := mtp - 1) hx hb hK hP (lo_in hL (lo_k11_31 hL _ t_M) (by decide)) eSI (lo_t63 hL _ (lo_k11_31 hL _ t_M)) (by omega) (by decide) d_M_work_222 ?_
                refine lv_if_ne (tgt := 232) hx hb d_M_work_223 (by decide) (fun b471 => ?_) (fun b471 => ?_)
                · skip
                  have hy0 : y9 ≠ 0 := fun z9 => b471 ((SV_0 hy8).mpr z9)
                  refine lv_aload_n hx hb d_M_work_232 rfl (lv_at hl 2 rfl) ?_
                  have hI472 := iv_1 hI hL t_M (by decide) hk469 (oc_11.mk t_M (⟨mth, mn, mdr, msz, mix, mdp, mwt, mop, (mtp - 1), mwa, mgi, mpc, mst, mtr, msp, ((mma + bj454)), ((mlg + bj460)), mdu, e467, (by omega), (by omega), (by omega), (by omega), (by omega), (by omega), (by omega), (by omega), (by omega), (by omega), (by omega), (by omega), (by omega), (by omega), hmb14⟩))
                  refine pcc_v (va_runV (C := "BigRunnerModel") (As := []) (rest := []) ⟨hx, hb, hml, hown, tb_nil⟩ (w_clear l g H.size f466 M hRE hRS hL t_M hI472 eRE eRS c6RE c6RS) ⟨(callB_of 0 (tb_one (wd_1224 hB _)) tb_good1 rfl rfl rfl (wd_82 hB _) (wd_1221 hB _) (by decide +kernel) ⟨Nat.le_of_ble_eq_true rfl, Nat.le_of_ble_eq_true rfl⟩), (wd_1223 hB _), (wd_62 hB _)⟩ ⟨pe_bl, pg_recv (ci := 10) hK hP (lo_in hL t_M (by decide)) e467 rfl, pe_pre hB hK hP hD⟩ rfl rfl hl.1 rfl (lv_room (Nat.le_of_ble_eq_true rfl)) d_M_work_233 ⟨Nat.le_of_ble_eq_true rfl, Nat.le_of_ble_eq_true rfl⟩) hS (fun f474 H locs hq475 hP hD hS => ?_)
                  obtain ⟨cl_476, hI1_477, hk1_478⟩ := hq475
                  have hu := hu.st2 hk1_478 (lo_k11_33 hL _ t_M) (lo_k11_34 hL _ t_M) (by decide) (by decide)
                  have eC := (hk1_478 (g.lk M 6) (tg_ne (lo_k11_6 hL _ t_M) (lo_k11_33 hL _ t_M) (by decide)) (tg_ne (lo_k11_6 hL _ t_M) (lo_k11_34 hL _ t_M) (by decide))).trans eC
                  have eA := (hk1_478 (g.lk M 7) (tg_ne (lo_k11_7 hL _ t_M) (lo_k11_33 hL _ t_M) (by decide)) (tg_ne (lo_k11_7 hL _ t_M) (lo_k11_34 hL _ t_M) (by decide))).trans eA
                  have eLI := (hk1_478 (g.lk M 30) (tg_ne (lo_k11_30 hL _ t_M) (lo_k11_33 hL _ t_M) (by decide)) (tg_ne (lo_k11_30 hL _ t_M) (lo_k11_34 hL _ t_M) (by decide))).trans eLI
                  have eSI := (hk1_478 (g.lk M 31) (tg_ne (lo_k11_31 hL _ t_M) (lo_k11_33 hL _ t_M) (by decide)) (tg_ne (lo_k11_31 hL _ t_M) (lo_k11_34 hL _ t_M) (by decide))).trans eSI
                  have eVL := (hk1_478 (g.lk M 26) (tg_ne (lo_k11_26 hL _ t_M) (lo_k11_33 hL _ t_M) (by decide)) (tg_ne (lo_k11_26 hL _ t_M) (lo_k11_34 hL _ t_M) (by decide))).trans eVL
                  have eVS := (hk1_478 (g.lk M 27) (tg_ne (lo_k11_27 hL _ t_M) (lo_k11_33 hL _ t_M) (by decide)) (tg_ne (lo_k11_27 hL _ t_M) (lo_k11_34 hL _ t_M) (by decide))).trans eVS
                  have e467 := (hk1_478 M (tg_ne t_M (lo_k11_33 hL _ t_M) (by decide)) (tg_ne t_M (lo_k11_34 hL _ t_M) (by decide))).trans e467
                  obtain ⟨hr_479, hq_480, e481, e482, c483, c484, hz485, hz486⟩ := cl_476
                  refine lv_iconst (v := nI 0) hx hb d_M_work_236 (by decide) ?_
                  refine lv_istore (lv' := [(4, .int (nI 0)), (3, .int (nI ((mtp - 1) - 1))), (2, .int (nI 6)), (0, .ref M), (1, .int (nI p9))]) hx hb d_M_work_237 hl (by decide) rfl (fun ls hl => ?_)
                  refine lv_iload_n hx hb d_M_work_239 rfl (lv_at hl 2 rfl) ?_
                  refine lv_iconst (v := nI 5) hx hb d_M_work_240 (by decide) ?_
                  refine lv_icmp_ge (tgt := 285) hx hb d_M_work_241 (by decide) (fun b487 => ?_) (fun b487 => ?_)
                  · skip
                    replace b487 := (nI_leI (a := 5) (b := 6) (by omega) (by omega)).mp b487
                    refine lv_aload_n hx hb d_M_work_285 rfl (lv_at hl 3 rfl) ?_
                    refine lv_iload_n hx hb d_M_work_286 rfl (lv_at hl 1 rfl) ?_
                    refine lv_aload_n hx hb d_M_work_287 rfl (lv_at hl 3 rfl) ?_
                    refine pf_get (v := .int (nI (mtp - 1))) (C := "BigRunnerModel") (T := FT10) (N := 45) hx hb (hw10 hB _) (fun _ h9 => h9) hown hK hP (lo_in hL t_M (by decide)) e467 rfl 32 (by decide) (wd_979 hB _) rfl d_M_work_288 ?_
                    refine pcc_v (va_runV (C := "BigRunnerModel") (As := [.int (nI ((mtp - 1) - 1)), .int (nI (mtp - 1))]) (rest := []) ⟨hx, hb, hml, hown, tb_nil⟩ (w_divide l g H.size f474 M (((mtp - 1) - 1)) ((mtp - 1)) hLI hr_479 hq_480 hL t_M hI1_477 eLI e481 e482 c6LI c483 c484 (by omega) (by omega) hz485 hz486 (by rw [hy8.2]; exact Int.natAbs_pos.mpr hy0)) ⟨(callB_of 2 (tb_one (wd_1249 hB _)) tb_good1 rfl rfl rfl (wd_82 hB _) (wd_1246 hB _) (by decide +kernel) ⟨Nat.le_of_ble_eq_true rfl, Nat.le_of_ble_eq_true rfl⟩), (wd_1248 hB _), (wd_68 hB _)⟩ ⟨pe_bl, pg_recv (ci := 10) hK hP (lo_in hL t_M (by decide)) e467 rfl, pe_pre hB hK hP hD⟩ rfl rfl hl.1 rfl (lv_room (Nat.le_of_ble_eq_true rfl)) d_M_work_291 ⟨Nat.le_of_ble_eq_true rfl, Nat.le_of_ble_eq_true rfl⟩) hS (fun f489 H locs hq490 hP hD hS => ?_)
                    obtain ⟨dv_491, hI1_492, hk1_493⟩ := hq490
                    have hu := hu.st2 hk1_493 (lo_k11_33 hL _ t_M) (lo_k11_34 hL _ t_M) (by decide) (by decide)
                    have eC := (hk1_493 (g.lk M 6) (tg_ne (lo_k11_6 hL _ t_M) (lo_k11_33 hL _ t_M) (by decide)) (tg_ne (lo_k11_6 hL _ t_M) (lo_k11_34 hL _ t_M) (by decide))).trans eC
                    have eA := (hk1_493 (g.lk M 7) (tg_ne (lo_k11_7 hL _ t_M) (lo_k11_33 hL _ t_M) (by decide)) (tg_ne (lo_k11_7 hL _ t_M) (lo_k11_34 hL _ t_M) (by decide))).trans eA
                    have eLI := (hk1_493 (g.lk M 30) (tg_ne (lo_k11_30 hL _ t_M) (lo_k11_33 hL _ t_M) (by decide)) (tg_ne (lo_k11_30 hL _ t_M) (lo_k11_34 hL _ t_M) (by decide))).trans eLI
                    have eSI := (hk1_493 (g.lk M 31) (tg_ne (lo_k11_31 hL _ t_M) (lo_k11_33 hL _ t_M) (by decide)) (tg_ne (lo_k11_31 hL _ t_M) (lo_k11_34 hL _ t_M) (by decide))).trans eSI
                    have eVL := (hk1_493 (g.lk M 26) (tg_ne (lo_k11_26 hL _ t_M) (lo_k11_33 hL _ t_M) (by decide)) (tg_ne (lo_k11_26 hL _ t_M) (lo_k11_34 hL _ t_M) (by decide))).trans eVL
                    have eVS := (hk1_493 (g.lk M 27) (tg_ne (lo_k11_27 hL _ t_M) (lo_k11_33 hL _ t_M) (by decide)) (tg_ne (lo_k11_27 hL _ t_M) (lo_k11_34 hL _ t_M) (by decide))).trans eVS
                    have e467 := (hk1_493 M (tg_ne t_M (lo_k11_33 hL _ t_M) (by decide)) (tg_ne t_M (lo_k11_34 hL _ t_M) (by decide))).trans e467
                    obtain ⟨hr_494, hq_495, e496, e497, c498, c499, hz500, hv501, hv502⟩ := dv_491
                    refine lv_iload_n hx hb d_M_work_294 rfl (lv_at hl 2 rfl) ?_
                    refine lv_iconst (v := nI 5) hx hb d_M_work_295 (by decide) ?_
                    refine lv_icmp_ne (tgt := 318) hx hb d_M_work_296 (by decide) (fun b503 => ?_) (fun b503 => ?_)
                    · skip
                      replace b503 := mt (nI_eq (a := 6) (b := 5) (by omega) (by omega)).mpr b503
                      refine lv_aload_n hx hb d_M_work_318 rfl (lv_at hl 3 rfl) ?_
                      refine pf_get (v := .ref (g.lk M 31)) (C := "BigRunnerModel") (T := FT10) (N := 45) hx hb (hw10 hB _) (fun _ h9 => h9) hown hK hP (lo_in hL t_M (by decide)) e467 rfl 31 (by decide) (wd_978 hB _) rfl d_M_work_319 ?_
                      refine lv_iload_n hx hb d_M_work_322 rfl (lv_at hl 1 rfl) ?_
                      refine pf_iald (i := (mtp - 1) - 1) hx hb hK hP (lo_in hL (lo_k11_31 hL _ t_M) (by decide)) eSI (lo_t63 hL _ (lo_k11_31 hL _ t_M)) (by omega) (by decide) d_M_work_323 ?_
                      refine lv_istore (lv' := [(4, .int (hSI ((mtp - 1) - 1))), (3, .int (nI ((mtp - 1) - 1))), (2, .int (nI 6)), (0, .ref M), (1, .int (nI p9))]) hx hb d_M_work_324 hl (by decide) rfl (fun ls hl => ?_)
                      refine lv_iconst (v := nI 0) hx hb d_M_work_326 (by decide) ?_
                      refine lv_istore (lv' := [(5, .int (nI 0)), (4, .int (hSI ((mtp - 1) - 1))), (3, .int (nI ((mtp - 1) - 1))), (2, .int (nI 6)), (0, .ref M), (1, .int (nI p9))]) hx hb d_M_work_327 hl (by decide) rfl (fun ls hl => ?_)
                      have lp504 : ∀ (k506 : Nat) (i : Nat) (h : Nat → Int32) (f505 : Nat → va_E) (H : Heap) (locs : List Loc) (ls : Array Slot), (20 < i + k506) → (i ≤ 20) → (C6 44 h) → (∀ j, j < 44 → dg h j = if j < i then dg hq_495 j else dg hr_494 j) → f505 (g.lk M 33) = .inl (g.ac (g.lk M 33), 44, .inl (h)) → IV g f505 → un [64] g f489 f505 → lv_has ls 6 [(5, .int (nI i)), (4, .int (hSI ((mtp - 1) - 1))), (3, .int (nI ((mtp - 1) - 1))), (2, .int (nI 6)), (0, .ref M), (1, .int (nI p9))] → va_P g.D vcl (va_pl g.LP f505) H → va_D (pc_A g s.heap.size) (va_pl g.LP f505) → va_S (pc_A g s.heap.size) s.heap H locs → W p l e ({ frames := 3, cells := 0, slots := 0, locals := 78 }) s m args below meth c H locs 0 0 (MQ below (va_Qv (fun f1 => (∃ (tp1 : Nat) (ma1 : Int32) (lg1 : Int32) (tr1 : Nat), (tp1 ≤ 80) ∧ (tr1 = (ev1 vr w v V).1) ∧ ((ev1 vr w v V).1 = 0 → tp1 = (ev1 vr w v V).2.length) ∧ f1 M = .inr (10, [.int mth, .ref (g.lk M 1), .int (nI mn), .ref (g.lk M 3), .ref (g.lk M 4), .int (nI mdr), .ref (g.lk M 6), .ref (g.lk M 7), .ref (g.lk M 8), .int (nI msz), .int (nI mix), .int (nI mdp), .ref (g.lk M 12), .int (nI mwt), .ref (g.lk M 14), .ref (g.lk M 15), .int (nI mop), .ref (g.lk M 17), .ref (g.lk M 18), .ref (g.lk M 19), .ref (g.lk M 20), .ref (g.lk M 21), .ref (g.lk M 22), .ref (g.lk M 23), .ref (g.lk M 24), .ref (g.lk M 25), .ref (g.lk M 26), .ref (g.lk M 27), .ref (g.lk M 28), .ref (g.lk M 29), .ref (g.lk M 30), .ref (g.lk M 31), .int (nI tp1), .ref (g.lk M 33), .ref (g.lk M 34), .ref (g.lk M 35), .int (nI mwa), .int (nI mgi), .int (nI mpc), .int (nI mst), .int (nI tr1), .int (nI msp), .int ma1, .int lg1, .int mdu])) ∧ (∃ hl hs hr hq : Nat → Int32, f1 (g.lk M 30) = .inl (g.ac (g.lk M 30), 1600, .inl hl) ∧ f1 (g.lk M 31) = .inl (g.ac (g.lk M 31), 80, .inl hs) ∧ f1 (g.lk M 33) = .inl (g.ac (g.lk M 33), 44, .inl hr) ∧ f1 (g.lk M 34) = .inl (g.ac (g.lk M 34), 44, .inl hq) ∧ C6 1600 hl ∧ C6 44 hr ∧ C6 44 hq ∧ ((ev1 vr w v V).1 = 0 → SVS hl hs (ev1 vr w v V).2)) ∧ (IV g f1) ∧ (un [11, 62, 63, 64, 65] g f f1)) (pc_out g s.heap.size) (pc_A g s.heap.size)) args s 0 0 (pc_A g s.heap.size)) (F0 m 329 ls []) := by
                        intro k506
                        induction k506 with
                        | zero => intros; exfalso; omega
                        | succ k506 ih507 =>
                          intro i h f505 H locs ls hfu508 hi hc hcp e509 hI510 hv511 hl hP hD hS
                          have eC := hv511.at (lo_k11_6 hL _ t_M) (by decide) eC
                          have eA := hv511.at (lo_k11_7 hL _ t_M) (by decide) eA
                          have eLI := hv511.at (lo_k11_30 hL _ t_M) (by decide) eLI
                          have eSI := hv511.at (lo_k11_31 hL _ t_M) (by decide) eSI
                          have eVL := hv511.at (lo_k11_26 hL _ t_M) (by decide) eVL
                          have eVS := hv511.at (lo_k11_27 hL _ t_M) (by decide) eVS
                          have e467 := hv511.at t_M (by decide) e467
                          have e497 := hv511.at (lo_k11_34 hL _ t_M) (by decide) e497
                          have hu := hu.tr hv511 (by decide)
                          refine lv_iload hx hb d_M_work_329 (lv_at hl 0 rfl) ?_
                          refine lv_bipush (v := nI 20) hx hb d_M_work_331 (by decide) ?_
                          refine lv_icmp_ge (tgt := 362) hx hb d_M_work_333 (by decide) (fun b512 => ?_) (fun b512 => ?_)
                          · skip
                            replace b512 := (nI_leI (a := 20) (b := i) (by omega) (by omega)).mp b512
                            have hrl : kw (dg hq_495) 22 < T12 := by rw [hv502, hx8.2]; exact Nat.lt_of_le_of_lt (Nat.mod_le _ _) hxl
                            have hi20 : i = 20 := by omega
                            subst hi20
                            have hkw9 := cp_rest c499 hz500 hcp hrl
                            have hsr9 : SR (hSI (mtp - 1 - 1)) (kw (dg h) 44) (Int.tmod x9 y9) := SR_r hx8 hy8 (hkw9.trans hv502)
                            refine lv_aload_n hx hb d_M_work_362 rfl (lv_at hl 4 rfl) ?_
                            refine lv_aload_n hx hb d_M_work_363 rfl (lv_at hl 4 rfl) ?_
                            refine pf_get (v := .ref (g.lk M 33)) (C := "BigRunnerModel") (T := FT10) (N := 45) hx hb (hw10 hB _) (fun _ h9 => h9) hown hK hP (lo_in hL t_M (by decide)) e467 rfl 33 (by decide) (wd_980 hB _) rfl d_M_work_364 ?_
                            refine lv_iconst (v := nI 0) hx hb d_M_work_367 (by decide) ?_
                            refine lv_bipush (v := nI 44) hx hb d_M_work_368 (by decide) ?_
                            refine pcc_i (va_runS (As := [.ref (g.lk M 33), .int (nI 0), .int (nI 44)]) (rest := [.ref M]) ⟨hx, hb, hml, hown, tb_nil⟩ (w_digitsOf64 l g H.size f505 ((g.lk M 33)) 0 44 h hL (lo_k11_33 hL _ t_M) hI510.1 e509 hc (by omega)) ⟨(callB_of 3 (tb_one (wd_1257 hB _)) tb_good1 rfl rfl rfl (wd_82 hB _) (wd_1255 hB _) (by decide +kernel) ⟨Nat.le_of_ble_eq_true rfl, Nat.le_of_ble_eq_true rfl⟩), (wd_1256 hB _)⟩ ⟨pe_bl, pe_pre hB hK hP hD⟩ rfl rfl hl.1 rfl (lv_room (Nat.le_of_ble_eq_true rfl)) d_M_work_370 ⟨Nat.le_of_ble_eq_true rfl, Nat.le_of_ble_eq_true rfl⟩) hS (fun r513 f514 H locs hq515 hP hD hS => ?_)
                            obtain ⟨dt_516, rfl⟩ := hq515
                            obtain ⟨kr517, hkr517_0, hkr517_1, rfl⟩ := dt_516
                            have hdf9 := dgt_fit hkr517_1
                            have hkz9 : kw (fun i => dg h (0 + i)) 44 = kw (dg h) 44 := kw_eq (fun i _ => by rw [Nat.zero_add])
                            rw [hkz9, hsr9.1] at hdf9
                            refine lv_bipush (v := nI 120) hx hb d_M_work_373 (by decide) ?_
                            refine lv_icmp_le (tgt := 382) hx hb d_M_work_375 (by decide) (fun b518 => ?_) (fun b518 => ?_)
                            · skip
                              replace b518 := (nI_leI (a := kr517) (b := 120) (by omega) (by omega)).mp b518
                              have hfit9 : (Int.tmod x9 y9).natAbs < T12 := by have z9 := mt hdf9.mpr (by omega); omega
                              refine lv_iconst (v := nI 0) hx hb d_M_work_382 (by decide) ?_
                              refine pf_put (v := .int (nI 0)) (ty := .int) (fs' := [.int mth, .ref (g.lk M 1), .int (nI mn), .ref (g.lk M 3), .ref (g.lk M 4), .int (nI mdr), .ref (g.lk M 6), .ref (g.lk M 7), .ref (g.lk M 8), .int (nI msz), .int (nI mix), .int (nI mdp), .ref (g.lk M 12), .int (nI mwt), .ref (g.lk M 14), .ref (g.lk M 15), .int (nI mop), .ref (g.lk M 17), .ref (g.lk M 18), .ref (g.lk M 19), .ref (g.lk M 20), .ref (g.lk M 21), .ref (g.lk M 22), .ref (g.lk M 23), .ref (g.lk M 24), .ref (g.lk M 25), .ref (g.lk M 26), .ref (g.lk M 27), .ref (g.lk M 28), .ref (g.lk M 29), .ref (g.lk M 30), .ref (g.lk M 31), .int (nI (mtp - 1)), .ref (g.lk M 33), .ref (g.lk M 34), .ref (g.lk M 35), .int (nI mwa), .int (nI mgi), .int (nI mpc), .int (nI mst), .int (nI 0), .int (nI msp), .int (mma + bj454), .int (mlg + bj460), .int mdu]) (C := "BigRunnerModel") (T := FT10) (N := 45) hx hb (hw10 hB _) (fun _ h9 => h9) TY10 ok10 nm10 hown hK hP hD hS (lo_in hL t_M (by decide)) e467 rfl 40 (by decide) (wd_987 hB _) rfl (by decide +kernel) rfl rfl (Nat.le_of_ble_eq_true rfl) rfl d_M_work_383 (fun f519 H locs e520 k521 hP hD hS => ?_)
                              have eC := (k521 (g.lk M 6) (tg_ne (lo_k11_6 hL _ t_M) t_M (by decide))).trans eC
                              have eA := (k521 (g.lk M 7) (tg_ne (lo_k11_7 hL _ t_M) t_M (by decide))).trans eA
                              have eLI := (k521 (g.lk M 30) (tg_ne (lo_k11_30 hL _ t_M) t_M (by decide))).trans eLI
                              have eSI := (k521 (g.lk M 31) (tg_ne (lo_k11_31 hL _ t_M) t_M (by decide))).trans eSI
                              have eVL := (k521 (g.lk M 26) (tg_ne (lo_k11_26 hL _ t_M) t_M (by decide))).trans eVL
                              have eVS := (k521 (g.lk M 27) (tg_ne (lo_k11_27 hL _ t_M) t_M (by decide))).trans eVS
                              have e497 := (k521 (g.lk M 34) (tg_ne (lo_k11_34 hL _ t_M) t_M (by decide))).trans e497
                              have e509 := (k521 (g.lk M 33) (tg_ne (lo_k11_33 hL _ t_M) t_M (by decide))).trans e509
                              have hu := hu.st k521 t_M (by decide)
                              have hk522 : ∀ b, b ≠ M → f519 b = f505 b := k521
                              refine lv_aload_n hx hb d_M_work_386 rfl (lv_at hl 4 rfl) ?_
                              refine pf_get (v := .int (nI 0)) (C := "BigRunnerModel") (T := FT10) (N := 45) hx hb (hw10 hB _) (fun _ h9 => h9) hown hK hP (lo_in hL t_M (by decide)) e520 rfl 40 (by decide) (wd_987 hB _) rfl d_M_work_387 ?_
                              refine lv_if_ne (tgt := 400) hx hb d_M_work_390 (by decide) (fun b523 => ?_) (fun b523 => ?_)
                              · skip
                                replace b523 := mt (nI_eq (a := 0) (b := 0) (by omega) (by omega)).mpr b523
                                exfalso; omega
                              · skip
                                replace b523 := (nI_eq (a := 0) (b := 0) (by omega) (by omega)).mp b523
                                refine lv_aload_n hx hb d_M_work_393 rfl (lv_at hl 4 rfl) ?_
                                refine lv_iload_n hx hb d_M_work_394 rfl (lv_at hl 2 rfl) ?_
                                refine lv_iload hx hb d_M_work_395 (lv_at hl 1 rfl) ?_
                                have hI524 := iv_1 hI510 hL t_M (by decide) hk522 (oc_11.mk t_M (⟨mth, mn, mdr, msz, mix, mdp, mwt, mop, (mtp - 1), mwa, mgi, mpc, mst, 0, msp, ((mma + bj454)), ((mlg + bj460)), mdu, e520, (by omega), (by omega), (by omega), (by omega), (by omega), (by omega), (by omega), (by omega), (by omega), (by omega), (by omega), (by omega), (by omega), (by omega), hmb14⟩))
                                refine pcc_v (va_runV (C := "BigRunnerModel") (As := [.int (nI ((mtp - 1) - 1)), .int (hSI ((mtp - 1) - 1))]) (rest := []) ⟨hx, hb, hml, hown, tb_nil⟩ (w_keep l g H.size f519 M (((mtp - 1) - 1)) ((hSI ((mtp - 1) - 1))) ((Int.tmod x9 y9)) hLI hSI h hL t_M hI524 eLI eSI e509 c6LI hc (by omega) hsr9 (by rw [hsr9.1]; exact hfit9)) ⟨(callB_of 2 (tb_one (wd_1261 hB _)) tb_good1 rfl rfl rfl (wd_82 hB _) (wd_1258 hB _) (by decide +kernel) ⟨Nat.le_of_ble_eq_true rfl, Nat.le_of_ble_eq_true rfl⟩), (wd_1260 hB _), (wd_70 hB _)⟩ ⟨pe_bl, pg_recv (ci := 10) hK hP (lo_in hL t_M (by decide)) e520 rfl, pe_pre hB hK hP hD⟩ rfl rfl hl.1 rfl (lv_room (Nat.le_of_ble_eq_true rfl)) d_M_work_397 ⟨Nat.le_of_ble_eq_true rfl, Nat.le_of_ble_eq_true rfl⟩) hS (fun f526 H locs hq527 hP hD hS => ?_)
                                obtain ⟨sn_528, hI1_529, hk1_530⟩ := hq527
                                have hu := hu.st2 hk1_530 (lo_k11_30 hL _ t_M) (lo_k11_31 hL _ t_M) (by decide) (by decide)
                                have eC := (hk1_530 (g.lk M 6) (tg_ne (lo_k11_6 hL _ t_M) (lo_k11_30 hL _ t_M) (by decide)) (tg_ne (lo_k11_6 hL _ t_M) (lo_k11_31 hL _ t_M) (by decide))).trans eC
                                have eA := (hk1_530 (g.lk M 7) (tg_ne (lo_k11_7 hL _ t_M) (lo_k11_30 hL _ t_M) (by decide)) (tg_ne (lo_k11_7 hL _ t_M) (lo_k11_31 hL _ t_M) (by decide))).trans eA
                                have eVL := (hk1_530 (g.lk M 26) (tg_ne (lo_k11_26 hL _ t_M) (lo_k11_30 hL _ t_M) (by decide)) (tg_ne (lo_k11_26 hL _ t_M) (lo_k11_31 hL _ t_M) (by decide))).trans eVL
                                have eVS := (hk1_530 (g.lk M 27) (tg_ne (lo_k11_27 hL _ t_M) (lo_k11_30 hL _ t_M) (by decide)) (tg_ne (lo_k11_27 hL _ t_M) (lo_k11_31 hL _ t_M) (by decide))).trans eVS
                                have e497 := (hk1_530 (g.lk M 34) (tg_ne (lo_k11_34 hL _ t_M) (lo_k11_30 hL _ t_M) (by decide)) (tg_ne (lo_k11_34 hL _ t_M) (lo_k11_31 hL _ t_M) (by decide))).trans e497
                                have e509 := (hk1_530 (g.lk M 33) (tg_ne (lo_k11_33 hL _ t_M) (lo_k11_30 hL _ t_M) (by decide)) (tg_ne (lo_k11_33 hL _ t_M) (lo_k11_31 hL _ t_M) (by decide))).trans e509
                                have e520 := (hk1_530 M (tg_ne t_M (lo_k11_30 hL _ t_M) (by decide)) (tg_ne t_M (lo_k11_31 hL _ t_M) (by decide))).trans e520
                                obtain ⟨hl_531, hs_532, e533, e534, c535, hsv536, hsf537, hss538⟩ := sn_528
                                have hot9 : otr 6 x9 y9 = 0 := otr_0 (w := 6) (x := x9) (y := y9) (by decide) (Or.inr hy0) hfit9
                                have hE9 : ev1 vr 6 v (y9 :: x9 :: S9) = (0, (Int.tmod x9 y9) :: S9) := ev1_z vr (by decide) (by decide) hot9
                                exact pe_vret hx hb hr hlocks hK hP hD hS d_M_work_400 ⟨⟨(mtp - 1), (mma + bj454), (mlg + bj460), 0, by omega, (by rw [hwE, hVE, hE9]), (fun _ => by rw [hwE, hVE, hE9]; show mtp - 1 = S9.length + 1; omega), e520⟩, ⟨_, _, _, _, e533, e534, e509, e497, c535, hc, c499, (fun _ => by rw [hwE, hVE, hE9]; exact ⟨by rw [show S9.length = mtp - 1 - 1 by omega]; exact hsv536, SVS_SF hsf537 hss538 S9 (by omega) hS9⟩)⟩, hI1_529, hu⟩
                            · skip
                              replace b518 := mt (nI_leI (a := kr517) (b := 120) (by omega) (by omega)).mpr b518
                              have hfit8 : T12 ≤ (Int.tmod x9 y9).natAbs := hdf9.mp (by omega)
                              refine lv_iconst (v := nI 2) hx hb d_M_work_378 (by decide) ?_
                              refine lv_goto (tgt := 383) hx hb d_M_work_379 (by decide) ?_
                              refine pf_put (v := .int (nI 2)) (ty := .int) (fs' := [.int mth, .ref (g.lk M 1), .int (nI mn), .ref (g.lk M 3), .ref (g.lk M 4), .int (nI mdr), .ref (g.lk M 6), .ref (g.lk M 7), .ref (g.lk M 8), .int (nI msz), .int (nI mix), .int (nI mdp), .ref (g.lk M 12), .int (nI mwt), .ref (g.lk M 14), .ref (g.lk M 15), .int (nI mop), .ref (g.lk M 17), .ref (g.lk M 18), .ref (g.lk M 19), .ref (g.lk M 20), .ref (g.lk M 21), .ref (g.lk M 22), .ref (g.lk M 23), .ref (g.lk M 24), .ref (g.lk M 25), .ref (g.lk M 26), .ref (g.lk M 27), .ref (g.lk M 28), .ref (g.lk M 29), .ref (g.lk M 30), .ref (g.lk M 31), .int (nI (mtp - 1)), .ref (g.lk M 33), .ref (g.lk M 34), .ref (g.lk M 35), .int (nI mwa), .int (nI mgi), .int (nI mpc), .int (nI mst), .int (nI 2), .int (nI msp), .int (mma + bj454), .int (mlg + bj460), .int mdu]) (C := "BigRunnerModel") (T := FT10) (N := 45) hx hb (hw10 hB _) (fun _ h9 => h9) TY10 ok10 nm10 hown hK hP hD hS (lo_in hL t_M (by decide)) e467 rfl 40 (by decide) (wd_987 hB _) rfl (by decide +kernel) rfl rfl (Nat.le_of_ble_eq_true rfl) rfl d_M_work_383 (fun f539 H locs e540 k541 hP hD hS => ?_)
                              have eC := (k541 (g.lk M 6) (tg_ne (lo_k11_6 hL _ t_M) t_M (by decide))).trans eC
                              have eA := (k541 (g.lk M 7) (tg_ne (lo_k11_7 hL _ t_M) t_M (by decide))).trans eA
                              have eLI := (k541 (g.lk M 30) (tg_ne (lo_k11_30 hL _ t_M) t_M (by decide))).trans eLI
                              have eSI := (k541 (g.lk M 31) (tg_ne (lo_k11_31 hL _ t_M) t_M (by decide))).trans eSI
                              have eVL := (k541 (g.lk M 26) (tg_ne (lo_k11_26 hL _ t_M) t_M (by decide))).trans eVL
                              have eVS := (k541 (g.lk M 27) (tg_ne (lo_k11_27 hL _ t_M) t_M (by decide))).trans eVS
                              have e497 := (k541 (g.lk M 34) (tg_ne (lo_k11_34 hL _ t_M) t_M (by decide))).trans e497
                              have e509 := (k541 (g.lk M 33) (tg_ne (lo_k11_33 hL _ t_M) t_M (by decide))).trans e509
                              have hu := hu.st k541 t_M (by decide)
                              have hk542 : ∀ b, b ≠ M → f539 b = f505 b := k541
                              refine lv_aload_n hx hb d_M_work_386 rfl (lv_at hl 4 rfl) ?_
                              refine pf_get (v := .int (nI 2)) (C := "BigRunnerModel") (T := FT10) (N := 45) hx hb (hw10 hB _) (fun _ h9 => h9) hown hK hP (lo_in hL t_M (by decide)) e540 rfl 40 (by decide) (wd_987 hB _) rfl d_M_work_387 ?_
                              refine lv_if_ne (tgt := 400) hx hb d_M_work_390 (by decide) (fun b543 => ?_) (fun b543 => ?_)
                              · skip
                                replace b543 := mt (nI_eq (a := 2) (b := 0) (by omega) (by omega)).mpr b543
                                have hI544 := iv_1 hI510 hL t_M (by decide) hk542 (oc_11.mk t_M (⟨mth, mn, mdr, msz, mix, mdp, mwt, mop, (mtp - 1), mwa, mgi, mpc, mst, 2, msp, ((mma + bj454)), ((mlg + bj460)), mdu, e540, (by omega), (by omega), (by omega), (by omega), (by omega), (by omega), (by omega), (by omega), (by omega), (by omega), (by omega), (by omega), (by omega), (by omega), hmb14⟩))
                                have hot9 : otr 6 x9 y9 = 2 := otr_2 (w := 6) (x := x9) (y := y9) (by decide) (Or.inr hy0) hfit8
                                have hE9 : ev1 vr 6 v (y9 :: x9 :: S9) = (2, y9 :: x9 :: S9) := (ev1_t vr (by decide) (by decide) (by rw [hot9]; decide)).trans (by rw [hot9])
                                exact pe_vret hx hb hr hlocks hK hP hD hS d_M_work_400 ⟨⟨(mtp - 1), (mma + bj454), (mlg + bj460), 2, by omega, (by rw [hwE, hVE, hE9]), (fun z9 => absurd z9 (by rw [hwE, hVE, hE9]; show ¬ (2 : Nat) = 0; decide)), e540⟩, ⟨_, _, _, _, eLI, eSI, e509, e497, c6LI, hc, c499, (fun z9 => absurd z9 (by rw [hwE, hVE, hE9]; show ¬ (2 : Nat) = 0; decide))⟩, hI544, hu⟩
                              · skip
                                replace b543 := (nI_eq (a := 2) (b := 0) (by omega) (by omega)).mp b543
                                exfalso; omega
                          · skip
                            replace b512 := mt (nI_leI (a := 20) (b := i) (by omega) (by omega)).mpr b512
                            refine lv_iload_n hx hb d_M_work_336 rfl (lv_at hl 3 rfl) ?_
                            refine lv_bipush (v := nI 6) hx hb d_M_work_337 (by decide) ?_
                            refine lv_icmp_ne (tgt := 362) hx hb d_M_work_339 (by decide) (fun b545 => ?_) (fun b545 => ?_)
                            · skip
                              replace b545 := mt (nI_eq (a := 6) (b := 6) (by omega) (by omega)).mpr b545
                              exfalso; omega
                            · skip
                              replace b545 := (nI_eq (a := 6) (b := 6) (by omega) (by omega)).mp b545
                              refine lv_aload_n hx hb d_M_work_342 rfl (lv_at hl 4 rfl) ?_
                              refine pf_get (v := .ref (g.lk M 33)) (C := "BigRunnerModel") (T := FT10) (N := 45) hx hb (hw10 hB _) (fun _ h9 => h9) hown hK hP (lo_in hL t_M (by decide)) e467 rfl 33 (by decide) (wd_980 hB _) rfl d_M_work_343 ?_
                              refine lv_iload hx hb d_M_work_346 (lv_at hl 0 rfl) ?_
                              refine lv_aload_n hx hb d_M_work_348 rfl (lv_at hl 4 rfl) ?_
                              refine pf_get (v := .ref (g.lk M 34)) (C := "BigRunnerModel") (T := FT10) (N := 45) hx hb (hw10 hB _) (fun _ h9 => h9) hown hK hP (lo_in hL t_M (by decide)) e467 rfl 34 (by decide) (wd_981 hB _) rfl d_M_work_349 ?_
                              refine lv_iload hx hb d_M_work_352 (lv_at hl 0 rfl) ?_
                              refine pf_iald (i := i) hx hb hK hP (lo_in hL (lo_k11_34 hL _ t_M) (by decide)) e497 (lo_t65 hL _ (lo_k11_34 hL _ t_M)) (by omega) (by decide) d_M_work_354 ?_
                              have hd546 := dg6_lt c499 (j := i) (by omega)
                              refine lv_topi (fun z_ hz_ => ?_)
                              obtain rfl : z_ = nI (dg hq_495 i) := hz_.trans (dg6_eq c499 (by omega))
                              refine pf_iast (i := i) hx hb hK hP hD hS (lo_in hL (lo_k11_33 hL _ t_M) (by decide)) e509 (lo_t64 hL _ (lo_k11_33 hL _ t_M)) (by omega) (by decide) d_M_work_355 (fun f547 H locs e548 k549 hP hD hS => ?_)
                              have eC := (k549 (g.lk M 6) (tg_ne (lo_k11_6 hL _ t_M) (lo_k11_33 hL _ t_M) (by decide))).trans eC
                              have eA := (k549 (g.lk M 7) (tg_ne (lo_k11_7 hL _ t_M) (lo_k11_33 hL _ t_M) (by decide))).trans eA
                              have eLI := (k549 (g.lk M 30) (tg_ne (lo_k11_30 hL _ t_M) (lo_k11_33 hL _ t_M) (by decide))).trans eLI
                              have eSI := (k549 (g.lk M 31) (tg_ne (lo_k11_31 hL _ t_M) (lo_k11_33 hL _ t_M) (by decide))).trans eSI
                              have eVL := (k549 (g.lk M 26) (tg_ne (lo_k11_26 hL _ t_M) (lo_k11_33 hL _ t_M) (by decide))).trans eVL
                              have eVS := (k549 (g.lk M 27) (tg_ne (lo_k11_27 hL _ t_M) (lo_k11_33 hL _ t_M) (by decide))).trans eVS
                              have e467 := (k549 M (tg_ne t_M (lo_k11_33 hL _ t_M) (by decide))).trans e467
                              have e497 := (k549 (g.lk M 34) (tg_ne (lo_k11_34 hL _ t_M) (lo_k11_33 hL _ t_M) (by decide))).trans e497
                              have hu := hu.st k549 (lo_k11_33 hL _ t_M) (by decide)
                              have hv511 := hv511.st k549 (lo_k11_33 hL _ t_M) (by decide)
                              have hk550 : ∀ b, b ≠ (g.lk M 33) → f547 b = f505 b := k549
                              have c551 := lb6_upd (n := 44) (i := i) (v := dg hq_495 i) hc (by omega)
                              refine lv_iinc (k := 0) (v := nI (i + 1)) (lv' := [(5, .int (nI (i + 1))), (4, .int (hSI ((mtp - 1) - 1))), (3, .int (nI ((mtp - 1) - 1))), (2, .int (nI 6)), (0, .ref M), (1, .int (nI p9))]) hx hb d_M_work_356 hl rfl (by rw [nI_succ]; rfl) (by decide) rfl (fun ls hl => ?_)
                              refine lv_goto (tgt := 329) hx hb d_M_work_359 (by decide) ?_
                              have hI552 := iv_1 hI510 hL (lo_k11_33 hL _ t_M) (by decide) hk550 (oc_64.mk (lo_k11_33 hL _ t_M) (⟨_, e548⟩))
                              exact ih507 (i + 1) (upd h i ((nI (dg hq_495 i)))) f547 H locs ls (by omega) (by omega) c551 (fun j hj => by by_cases q3 : j = i; (subst q3; rw [dg_at (by omega), if_pos (by omega)]); (rw [dg_ne q3, hcp j hj]; by_cases q4 : j < i; rw [if_pos q4, if_pos (by omega)]; rw [if_neg q4, if_neg (by omega)])) e548 hI552 hv511 hl hP hD hS
                      exact lp504 21 0 hr_494 f489 H locs ls (by omega) (by omega) c498 (fun j hj => by rw [if_neg (by omega)]) e496 hI1_492 un.rf hl hP hD hS
                    · skip
                      replace b503 := (nI_eq (a := 6) (b := 5) (by omega) (by omega)).mp b503
                      exfalso; omega
                  · skip
                    replace b487 := mt (nI_leI (a := 5) (b := 6) (by omega) (by omega)).mpr b487
                    exfalso; omega
                · skip
                  have hy0 : y9 = 0 := (SV_0 hy8).mp (by first | exact b471 | exact Decidable.not_not.mp b471)
                  refine lv_aload_n hx hb d_M_work_226 rfl (lv_at hl 2 rfl) ?_
                  refine lv_iconst (v := nI 1) hx hb d_M_work_227 (by decide) ?_
                  refine pf_put (v := .int (nI 1)) (ty := .int) (fs' := [.int mth, .ref (g.lk M 1), .int (nI mn), .ref (g.lk M 3), .ref (g.lk M 4), .int (nI mdr), .ref (g.lk M 6), .ref (g.lk M 7), .ref (g.lk M 8), .int (nI msz), .int (nI mix), .int (nI mdp), .ref (g.lk M 12), .int (nI mwt), .ref (g.lk M 14), .ref (g.lk M 15), .int (nI mop), .ref (g.lk M 17), .ref (g.lk M 18), .ref (g.lk M 19), .ref (g.lk M 20), .ref (g.lk M 21), .ref (g.lk M 22), .ref (g.lk M 23), .ref (g.lk M 24), .ref (g.lk M 25), .ref (g.lk M 26), .ref (g.lk M 27), .ref (g.lk M 28), .ref (g.lk M 29), .ref (g.lk M 30), .ref (g.lk M 31), .int (nI (mtp - 1)), .ref (g.lk M 33), .ref (g.lk M 34), .ref (g.lk M 35), .int (nI mwa), .int (nI mgi), .int (nI mpc), .int (nI mst), .int (nI 1), .int (nI msp), .int (mma + bj454), .int (mlg + bj460), .int mdu]) (C := "BigRunnerModel") (T := FT10) (N := 45) hx hb (hw10 hB _) (fun _ h9 => h9) TY10 ok10 nm10 hown hK hP hD hS (lo_in hL t_M (by decide)) e467 rfl 40 (by decide) (wd_987 hB _) rfl (by decide +kernel) rfl rfl (Nat.le_of_ble_eq_true rfl) rfl d_M_work_228 (fun f553 H locs e554 k555 hP hD hS => ?_)
                  have eC := (k555 (g.lk M 6) (tg_ne (lo_k11_6 hL _ t_M) t_M (by decide))).trans eC
                  have eA := (k555 (g.lk M 7) (tg_ne (lo_k11_7 hL _ t_M) t_M (by decide))).trans eA
                  have eLI := (k555 (g.lk M 30) (tg_ne (lo_k11_30 hL _ t_M) t_M (by decide))).trans eLI
                  have eSI := (k555 (g.lk M 31) (tg_ne (lo_k11_31 hL _ t_M) t_M (by decide))).trans eSI
                  have eRE := (k555 (g.lk M 33) (tg_ne (lo_k11_33 hL _ t_M) t_M (by decide))).trans eRE
                  have eRS := (k555 (g.lk M 34) (tg_ne (lo_k11_34 hL _ t_M) t_M (by decide))).trans eRS
                  have eVL := (k555 (g.lk M 26) (tg_ne (lo_k11_26 hL _ t_M) t_M (by decide))).trans eVL
                  have eVS := (k555 (g.lk M 27) (tg_ne (lo_k11_27 hL _ t_M) t_M (by decide))).trans eVS
                  have hu := hu.st k555 t_M (by decide)
                  have hk556 : ∀ b, b ≠ M → f553 b = f b := fun b q0 => (k555 b q0).trans (hk469 b q0)
                  have hI557 := iv_1 hI hL t_M (by decide) hk556 (oc_11.mk t_M (⟨mth, mn, mdr, msz, mix, mdp, mwt, mop, (mtp - 1), mwa, mgi, mpc, mst, 1, msp, ((mma + bj454)), ((mlg + bj460)), mdu, e554, (by omega), (by omega), (by omega), (by omega), (by omega), (by omega), (by omega), (by omega), (by omega), (by omega), (by omega), (by omega), (by omega), (by omega), hmb14⟩))
                  have hot9 : otr 6 x9 y9 = 1 := otr_1 (w := 6) (x := x9) (y := y9) (by decide) (by decide) hy0
                  have hE9 : ev1 vr 6 v (y9 :: x9 :: S9) = (1, y9 :: x9 :: S9) := (ev1_t vr (by decide) (by decide) (by rw [hot9]; decide)).trans (by rw [hot9])
                  exact pe_vret hx hb hr hlocks hK hP hD hS d_M_work_231 ⟨⟨(mtp - 1), (mma + bj454), (mlg + bj460), 1, by omega, (by rw [hwE, hVE, hE9]), (fun z9 => absurd z9 (by rw [hwE, hVE, hE9]; show ¬ (1 : Nat) = 0; decide)), e554⟩, ⟨_, _, _, _, eLI, eSI, eRE, eRS, c6LI, c6RE, c6RS, (fun z9 => absurd z9 (by rw [hwE, hVE, hE9]; show ¬ (1 : Nat) = 0; decide))⟩, hI557, hu⟩
            · skip
              replace b465 := (nI_eq (a := 6) (b := 7) (by omega) (by omega)).mp b465
              exfalso; omega
          refine lv_aload_n hx hb d_M_work_144 rfl (lv_at hl 1 rfl) ?_
          refine pf_get (v := .ref (g.lk M 8)) (C := "BigRunnerModel") (T := FT10) (N := 45) hx hb (hw10 hB _) (fun _ h9 => h9) hown hK hP (lo_in hL t_M (by decide)) e456 rfl 8 (by decide) (wd_955 hB _) rfl d_M_work_145 ?_
          refine lv_iload_n hx hb d_M_work_148 rfl (lv_at hl 2 rfl) ?_
          obtain ⟨h_559, e558⟩ := oc_45.of (lo_k11_8 hL _ t_M) (hI.1 (g.lk M 8))
          replace e558 := (hk458 (g.lk M 8) (tg_ne (lo_k11_8 hL _ t_M) t_M (by decide))).trans e558
          refine pf_zald (i := p9) hx hb hK hP (lo_in hL (lo_k11_8 hL _ t_M) (by decide)) e558 (lo_t45 hL _ (lo_k11_8 hL _ t_M)) (by omega) (by decide) d_M_work_149 ?_
          refine lv_if_eq (tgt := 157) hx hb d_M_work_150 (by decide) (fun b561 => ?_) (fun b561 => ?_)
          · skip
            refine lv_iconst (v := nI 1) hx hb d_M_work_157 (by decide) ?_
            exact jn459 ((nI 1)) _ _ hP hD hS
          · skip
            refine lv_iconst (v := nI 0) hx hb d_M_work_153 (by decide) ?_
            refine lv_goto (tgt := 158) hx hb d_M_work_154 (by decide) ?_
            exact jn459 ((nI 0)) _ _ hP hD hS
        refine lv_aload_n hx hb d_M_work_121 rfl (lv_at hl 1 rfl) ?_
        refine pf_get (v := .ref (g.lk M 8)) (C := "BigRunnerModel") (T := FT10) (N := 45) hx hb (hw10 hB _) (fun _ h9 => h9) hown hK hP (lo_in hL t_M (by decide)) eM rfl 8 (by decide) (wd_955 hB _) rfl d_M_work_122 ?_
        refine lv_iload_n hx hb d_M_work_125 rfl (lv_at hl 2 rfl) ?_
        obtain ⟨h_563, e562⟩ := oc_45.of (lo_k11_8 hL _ t_M) (hI.1 (g.lk M 8))
        refine pf_zald (i := p9) hx hb hK hP (lo_in hL (lo_k11_8 hL _ t_M) (by decide)) e562 (lo_t45 hL _ (lo_k11_8 hL _ t_M)) (by omega) (by decide) d_M_work_126 ?_
        refine lv_if_eq (tgt := 134) hx hb d_M_work_127 (by decide) (fun b565 => ?_) (fun b565 => ?_)
        · skip
          refine lv_iconst (v := nI 0) hx hb d_M_work_134 (by decide) ?_
          exact jn453 ((nI 0)) _ _ hP hD hS
        · skip
          refine lv_iconst (v := nI 1) hx hb d_M_work_130 (by decide) ?_
          refine lv_goto (tgt := 135) hx hb d_M_work_131 (by decide) ?_
          exact jn453 ((nI 1)) _ _ hP hD hS
      · skip
        replace b452 := (nI_eq (a := 6) (b := 1) (by omega) (by omega)).mp b452
        exfalso; omega
    · skip
      replace b451 := (nI_eq (a := 6) (b := 0) (by omega) (by omega)).mp b451
      exfalso; omega
  · skip
    refine lv_topi (fun z_ hz_ => ?_)
    obtain rfl : z_ = nI 7 := hz_.trans (congrArg nI hwE)
    have hl : lv_has ls 6 [(2, .int (nI 7)), (0, .ref M), (1, .int (nI p9))] := by rw [hwE] at hl; exact hl
    obtain ⟨x9, S9, hVE⟩ : ∃ x S, V = x :: S := by cases V with | nil => (exfalso; have z9 := hw7 hwE; have y9 : mtp = 0 := htp; omega) | cons x S => exact ⟨x, S, rfl⟩
    rw [hVE] at htp hSV
    have htp9 : mtp = S9.length + 1 := htp
    obtain ⟨hx9, hS9⟩ := hSV
    have hx8 : SV hLI hSI (mtp - 1) x9 := by rw [show mtp - 1 = S9.length by omega]; exact hx9
    refine lv_if_ne (tgt := 36) hx hb d_M_work_8 (by decide) (fun b566 => ?_) (fun b566 => ?_)
    · skip
      replace b566 := mt (nI_eq (a := 7) (b := 0) (by omega) (by omega)).mpr b566
      refine lv_iload_n hx hb d_M_work_36 rfl (lv_at hl 0 rfl) ?_
      refine lv_iconst (v := nI 1) hx hb d_M_work_37 (by decide) ?_
      refine lv_icmp_ne (tgt := 116) hx hb d_M_work_38 (by decide) (fun b567 => ?_) (fun b567 => ?_)
      · skip
        replace b567 := mt (nI_eq (a := 7) (b := 1) (by omega) (by omega)).mpr b567
        refine lv_aload_n hx hb d_M_work_116 rfl (lv_at hl 1 rfl) ?_
        refine lv_dup hx hb d_M_work_117 rfl ?_
        refine pf_get (v := .int mma) (C := "BigRunnerModel") (T := FT10) (N := 45) hx hb (hw10 hB _) (fun _ h9 => h9) hown hK hP (lo_in hL t_M (by decide)) eM rfl 42 (by decide) (wd_989 hB _) rfl d_M_work_118 ?_
        have jn568 : ∀ (bj569 : Int32) (H : Heap) (locs : List Loc), va_P g.D vcl (va_pl g.LP f) H → va_D (pc_A g s.heap.size) (va_pl g.LP f) → va_S (pc_A g s.heap.size) s.heap H locs → W p l e ({ frames := 3, cells := 0, slots := 0, locals := 78 }) s m args below meth c H locs 0 0 (MQ below (va_Qv (fun f1 => (∃ (tp1 : Nat) (ma1 : Int32) (lg1 : Int32) (tr1 : Nat), (tp1 ≤ 80) ∧ (tr1 = (ev1 vr w v V).1) ∧ ((ev1 vr w v V).1 = 0 → tp1 = (ev1 vr w v V).2.length) ∧ f1 M = .inr (10, [.int mth, .ref (g.lk M 1), .int (nI mn), .ref (g.lk M 3), .ref (g.lk M 4), .int (nI mdr), .ref (g.lk M 6), .ref (g.lk M 7), .ref (g.lk M 8), .int (nI msz), .int (nI mix), .int (nI mdp), .ref (g.lk M 12), .int (nI mwt), .ref (g.lk M 14), .ref (g.lk M 15), .int (nI mop), .ref (g.lk M 17), .ref (g.lk M 18), .ref (g.lk M 19), .ref (g.lk M 20), .ref (g.lk M 21), .ref (g.lk M 22), .ref (g.lk M 23), .ref (g.lk M 24), .ref (g.lk M 25), .ref (g.lk M 26), .ref (g.lk M 27), .ref (g.lk M 28), .ref (g.lk M 29), .ref (g.lk M 30), .ref (g.lk M 31), .int (nI tp1), .ref (g.lk M 33), .ref (g.lk M 34), .ref (g.lk M 35), .int (nI mwa), .int (nI mgi), .int (nI mpc), .int (nI mst), .int (nI tr1), .int (nI msp), .int ma1, .int lg1, .int mdu])) ∧ (∃ hl hs hr hq : Nat → Int32, f1 (g.lk M 30) = .inl (g.ac (g.lk M 30), 1600, .inl hl) ∧ f1 (g.lk M 31) = .inl (g.ac (g.lk M 31), 80, .inl hs) ∧ f1 (g.lk M 33) = .inl (g.ac (g.lk M 33), 44, .inl hr) ∧ f1 (g.lk M 34) = .inl (g.ac (g.lk M 34), 44, .inl hq) ∧ C6 1600 hl ∧ C6 44 hr ∧ C6 44 hq ∧ ((ev1 vr w v V).1 = 0 → SVS hl hs (ev1 vr w v V).2)) ∧ (IV g f1) ∧ (un [11, 62, 63, 64, 65] g f f1)) (pc_out g s.heap.size) (pc_A g s.heap.size)) args s 0 0 (pc_A g s.heap.size)) (F0 m 135 ls [.int bj569, .int mma, .ref M]) := by
          intro bj569 H locs hP hD hS
          refine lv_iadd hx hb d_M_work_135 ?_
          refine pf_put (v := .int (mma + bj569)) (ty := .int) (fs' := [.int mth, .ref (g.lk M 1), .int (nI mn), .ref (g.lk M 3), .ref (g.lk M 4), .int (nI mdr), .ref (g.lk M 6), .ref (g.lk M 7), .ref (g.lk M 8), .int (nI msz), .int (nI mix), .int (nI mdp), .ref (g.lk M 12), .int (nI mwt), .ref (g.lk M 14), .ref (g.lk M 15), .int (nI mop), .ref (g.lk M 17), .ref (g.lk M 18), .ref (g.lk M 19), .ref (g.lk M 20), .ref (g.lk M 21), .ref (g.lk M 22), .ref (g.lk M 23), .ref (g.lk M 24), .ref (g.lk M 25), .ref (g.lk M 26), .ref (g.lk M 27), .ref (g.lk M 28), .ref (g.lk M 29), .ref (g.lk M 30), .ref (g.lk M 31), .int (nI mtp), .ref (g.lk M 33), .ref (g.lk M 34), .ref (g.lk M 35), .int (nI mwa), .int (nI mgi), .int (nI mpc), .int (nI mst), .int (nI mtr), .int (nI msp), .int (mma + bj569), .int mlg, .int mdu]) (C := "BigRunnerModel") (T := FT10) (N := 45) hx hb (hw10 hB _) (fun _ h9 => h9) TY10 ok10 nm10 hown hK hP hD hS (lo_in hL t_M (by decide)) eM rfl 42 (by decide) (wd_989 hB _) rfl (by decide +kernel) rfl rfl (Nat.le_of_ble_eq_true rfl) rfl d_M_work_136 (fun f570 H locs e571 k572 hP hD hS => ?_)
          have eC := (k572 (g.lk M 6) (tg_ne (lo_k11_6 hL _ t_M) t_M (by decide))).trans eC
          have eA := (k572 (g.lk M 7) (tg_ne (lo_k11_7 hL _ t_M) t_M (by decide))).trans eA
          have eLI := (k572 (g.lk M 30) (tg_ne (lo_k11_30 hL _ t_M) t_M (by decide))).trans eLI
          have eSI := (k572 (g.lk M 31) (tg_ne (lo_k11_31 hL _ t_M) t_M (by decide))).trans eSI
          have eRE := (k572 (g.lk M 33) (tg_ne (lo_k11_33 hL _ t_M) t_M (by decide))).trans eRE
          have eRS := (k572 (g.lk M 34) (tg_ne (lo_k11_34 hL _ t_M) t_M (by decide))).trans eRS
          have eVL := (k572 (g.lk M 26) (tg_ne (lo_k11_26 hL _ t_M) t_M (by decide))).trans eVL
          have eVS := (k572 (g.lk M 27) (tg_ne (lo_k11_27 hL _ t_M) t_M (by decide))).trans eVS
          have hu := hu.st k572 t_M (by decide)
          have hk573 : ∀ b, b ≠ M → f570 b = f b := k572
          refine lv_aload_n hx hb d_M_work_139 rfl (lv_at hl 1 rfl) ?_
          refine lv_dup hx hb d_M_work_140 rfl ?_
          refine pf_get (v := .int mlg) (C := "BigRunnerModel") (T := FT10) (N := 45) hx hb (hw10 hB _) (fun _ h9 => h9) hown hK hP (lo_in hL t_M (by decide)) e571 rfl 43 (by decide) (wd_990 hB _) rfl d_M_work_141 ?_
          have jn574 : ∀ (bj575 : Int32) (H : Heap) (locs : List Loc), va_P g.D vcl (va_pl g.LP f570) H → va_D (pc_A g s.heap.size) (va_pl g.LP f570) → va_S (pc_A g s.heap.size) s.heap H locs → W p l e ({ frames := 3, cells := 0, slots := 0, locals := 78 }) s m args below meth c H locs 0 0 (MQ below (va_Qv (fun f1 => (∃ (tp1 : Nat) (ma1 : Int32) (lg1 : Int32) (tr1 : Nat), (tp1 ≤ 80) ∧ (tr1 = (ev1 vr w v V).1) ∧ ((ev1 vr w v V).1 = 0 → tp1 = (ev1 vr w v V).2.length) ∧ f1 M = .inr (10, [.int mth, .ref (g.lk M 1), .int (nI mn), .ref (g.lk M 3), .ref (g.lk M 4), .int (nI mdr), .ref (g.lk M 6), .ref (g.lk M 7), .ref (g.lk M 8), .int (nI msz), .int (nI mix), .int (nI mdp), .ref (g.lk M 12), .int (nI mwt), .ref (g.lk M 14), .ref (g.lk M 15), .int (nI mop), .ref (g.lk M 17), .ref (g.lk M 18), .ref (g.lk M 19), .ref (g.lk M 20), .ref (g.lk M 21), .ref (g.lk M 22), .ref (g.lk M 23), .ref (g.lk M 24), .ref (g.lk M 25), .ref (g.lk M 26), .ref (g.lk M 27), .ref (g.lk M 28), .ref (g.lk M 29), .ref (g.lk M 30), .ref (g.lk M 31), .int (nI tp1), .ref (g.lk M 33), .ref (g.lk M 34), .ref (g.lk M 35), .int (nI mwa), .int (nI mgi), .int (nI mpc), .int (nI mst), .int (nI tr1), .int (nI msp), .int ma1, .int lg1, .int mdu])) ∧ (∃ hl hs hr hq : Nat → Int32, f1 (g.lk M 30) = .inl (g.ac (g.lk M 30), 1600, .inl hl) ∧ f1 (g.lk M 31) = .inl (g.ac (g.lk M 31), 80, .inl hs) ∧ f1 (g.lk M 33) = .inl (g.ac (g.lk M 33), 44, .inl hr) ∧ f1 (g.lk M 34) = .inl (g.ac (g.lk M 34), 44, .inl hq) ∧ C6 1600 hl ∧ C6 44 hr ∧ C6 44 hq ∧ ((ev1 vr w v V).1 = 0 → SVS hl hs (ev1 vr w v V).2)) ∧ (IV g f1) ∧ (un [11, 62, 63, 64, 65] g f f1)) (pc_out g s.heap.size) (pc_A g s.heap.size)) args s 0 0 (pc_A g s.heap.size)) (F0 m 158 ls [.int bj575, .int mlg, .ref M]) := by
            intro bj575 H locs hP hD hS
            refine lv_iadd hx hb d_M_work_158 ?_
            refine pf_put (v := .int (mlg + bj575)) (ty := .int) (fs' := [.int mth, .ref (g.lk M 1), .int (nI mn), .ref (g.lk M 3), .ref (g.lk M 4), .int (nI mdr), .ref (g.lk M 6), .ref (g.lk M 7), .ref (g.lk M 8), .int (nI msz), .int (nI mix), .int (nI mdp), .ref (g.lk M 12), .int (nI mwt), .ref (g.lk M 14), .ref (g.lk M 15), .int (nI mop), .ref (g.lk M 17), .ref (g.lk M 18), .ref (g.lk M 19), .ref (g.lk M 20), .ref (g.lk M 21), .ref (g.lk M 22), .ref (g.lk M 23), .ref (g.lk M 24), .ref (g.lk M 25), .ref (g.lk M 26), .ref (g.lk M 27), .ref (g.lk M 28), .ref (g.lk M 29), .ref (g.lk M 30), .ref (g.lk M 31), .int (nI mtp), .ref (g.lk M 33), .ref (g.lk M 34), .ref (g.lk M 35), .int (nI mwa), .int (nI mgi), .int (nI mpc), .int (nI mst), .int (nI mtr), .int (nI msp), .int (mma + bj569), .int (mlg + bj575), .int mdu]) (C := "BigRunnerModel") (T := FT10) (N := 45) hx hb (hw10 hB _) (fun _ h9 => h9) TY10 ok10 nm10 hown hK hP hD hS (lo_in hL t_M (by decide)) e571 rfl 43 (by decide) (wd_990 hB _) rfl (by decide +kernel) rfl rfl (Nat.le_of_ble_eq_true rfl) rfl d_M_work_159 (fun f576 H locs e577 k578 hP hD hS => ?_)
            have eC := (k578 (g.lk M 6) (tg_ne (lo_k11_6 hL _ t_M) t_M (by decide))).trans eC
            have eA := (k578 (g.lk M 7) (tg_ne (lo_k11_7 hL _ t_M) t_M (by decide))).trans eA
            have eLI := (k578 (g.lk M 30) (tg_ne (lo_k11_30 hL _ t_M) t_M (by decide))).trans eLI
            have eSI := (k578 (g.lk M 31) (tg_ne (lo_k11_31 hL _ t_M) t_M (by decide))).trans eSI
            have eRE := (k578 (g.lk M 33) (tg_ne (lo_k11_33 hL _ t_M) t_M (by decide))).trans eRE
            have eRS := (k578 (g.lk M 34) (tg_ne (lo_k11_34 hL _ t_M) t_M (by decide))).trans eRS
            have eVL := (k578 (g.lk M 26) (tg_ne (lo_k11_26 hL _ t_M) t_M (by decide))).trans eVL
            have eVS := (k578 (g.lk M 27) (tg_ne (lo_k11_27 hL _ t_M) t_M (by decide))).trans eVS
            have hu := hu.st k578 t_M (by decide)
            have hk579 : ∀ b, b ≠ M → f576 b = f b := fun b q0 => (k578 b q0).trans (hk573 b q0)
            refine lv_iload_n hx hb d_M_work_162 rfl (lv_at hl 0 rfl) ?_
            refine lv_bipush (v := nI 7) hx hb d_M_work_163 (by decide) ?_
            refine lv_icmp_ne (tgt := 192) hx hb d_M_work_165 (by decide) (fun b580 => ?_) (fun b580 => ?_)
            · skip
              replace b580 := mt (nI_eq (a := 7) (b := 7) (by omega) (by omega)).mpr b580
              exfalso; omega
            · skip
              replace b580 := (nI_eq (a := 7) (b := 7) (by omega) (by omega)).mp b580
              refine lv_aload_n hx hb d_M_work_168 rfl (lv_at hl 1 rfl) ?_
              refine pf_get (v := .ref (g.lk M 31)) (C := "BigRunnerModel") (T := FT10) (N := 45) hx hb (hw10 hB _) (fun _ h9 => h9) hown hK hP (lo_in hL t_M (by decide)) e577 rfl 31 (by decide) (wd_978 hB _) rfl d_M_work_169 ?_
              refine lv_aload_n hx hb d_M_work_172 rfl (lv_at hl 1 rfl) ?_
              refine pf_get (v := .int (nI mtp)) (C := "BigRunnerModel") (T := FT10) (N := 45) hx hb (hw10 hB _) (fun _ h9 => h9) hown hK hP (lo_in hL t_M (by decide)) e577 rfl 32 (by decide) (wd_979 hB _) rfl d_M_work_173 ?_
              refine lv_iconst (v := nI 1) hx hb d_M_work_176 (by decide) ?_
              refine pf_isubN (x := mtp) (y := 1) hx hb (by omega) d_M_work_177 ?_
              refine lv_aload_n hx hb d_M_work_178 rfl (lv_at hl 1 rfl) ?_
              refine pf_get (v := .ref (g.lk M 31)) (C := "BigRunnerModel") (T := FT10) (N := 45) hx hb (hw10 hB _) (fun _ h9 => h9) hown hK hP (lo_in hL t_M (by decide)) e577 rfl 31 (by decide) (wd_978 hB _) rfl d_M_work_179 ?_
              refine lv_aload_n hx hb d_M_work_182 rfl (lv_at hl 1 rfl) ?_
              refine pf_get (v := .int (nI mtp)) (C := "BigRunnerModel") (T := FT10) (N := 45) hx hb (hw10 hB _) (fun _ h9 => h9) hown hK hP (lo_in hL t_M (by decide)) e577 rfl 32 (by decide) (wd_979 hB _) rfl d_M_work_183 ?_
              refine lv_iconst (v := nI 1) hx hb d_M_work_186 (by decide) ?_
              refine pf_isubN (x := mtp) (y := 1) hx hb (by omega) d_M_work_187 ?_
              refine pf_iald (i := mtp - 1) hx hb hK hP (lo_in hL (lo_k11_31 hL _ t_M) (by decide)) eSI (lo_t63 hL _ (lo_k11_31 hL _ t_M)) (by omega) (by decide) d_M_work_188 ?_
              refine lv_ineg hx hb d_M_work_189 ?_
              have hI581 := iv_1 hI hL t_M (by decide) hk579 (oc_11.mk t_M (⟨mth, mn, mdr, msz, mix, mdp, mwt, mop, mtp, mwa, mgi, mpc, mst, mtr, msp, ((mma + bj569)), ((mlg + bj575)), mdu, e577, (by omega), (by omega), (by omega), (by omega), (by omega), (by omega), (by omega), (by omega), (by omega), (by omega), (by omega), (by omega), (by omega), (by omega), hmb14⟩))
              refine pf_iast (i := mtp - 1) hx hb hK hP hD hS (lo_in hL (lo_k11_31 hL _ t_M) (by decide)) eSI (lo_t63 hL _ (lo_k11_31 hL _ t_M)) (by omega) (by decide) d_M_work_190 (fun f582 H locs e583 k584 hP hD hS => ?_)
              have eC := (k584 (g.lk M 6) (tg_ne (lo_k11_6 hL _ t_M) (lo_k11_31 hL _ t_M) (by decide))).trans eC
              have eA := (k584 (g.lk M 7) (tg_ne (lo_k11_7 hL _ t_M) (lo_k11_31 hL _ t_M) (by decide))).trans eA
              have eLI := (k584 (g.lk M 30) (tg_ne (lo_k11_30 hL _ t_M) (lo_k11_31 hL _ t_M) (by decide))).trans eLI
              have eRE := (k584 (g.lk M 33) (tg_ne (lo_k11_33 hL _ t_M) (lo_k11_31 hL _ t_M) (by decide))).trans eRE
              have eRS := (k584 (g.lk M 34) (tg_ne (lo_k11_34 hL _ t_M) (lo_k11_31 hL _ t_M) (by decide))).trans eRS
              have eVL := (k584 (g.lk M 26) (tg_ne (lo_k11_26 hL _ t_M) (lo_k11_31 hL _ t_M) (by decide))).trans eVL
              have eVS := (k584 (g.lk M 27) (tg_ne (lo_k11_27 hL _ t_M) (lo_k11_31 hL _ t_M) (by decide))).trans eVS
              have e577 := (k584 M (tg_ne t_M (lo_k11_31 hL _ t_M) (by decide))).trans e577
              have hu := hu.st k584 (lo_k11_31 hL _ t_M) (by decide)
              have hk585 : ∀ b, b ≠ (g.lk M 31) → f582 b = f576 b := k584
              have hI586 := iv_1 hI581 hL (lo_k11_31 hL _ t_M) (by decide) hk585 (oc_63.mk (lo_k11_31 hL _ t_M) (⟨_, e583⟩))
              exact pe_vret hx hb hr hlocks hK hP hD hS d_M_work_191 ⟨⟨mtp, (mma + bj569), (mlg + bj575), mtr, by omega, (by rw [hwE, hVE]; exact htr0), (fun _ => by rw [hwE, hVE]; exact htp9), e577⟩, ⟨_, _, _, _, eLI, e583, eRE, eRS, c6LI, c6RE, c6RS, (fun _ => by rw [hwE, hVE]; exact ⟨by show SV hLI _ S9.length (-x9); rw [show S9.length = mtp - 1 by omega]; exact SV_neg hx8, SVS_SF SF_rf (fun j9 hj9 => upd_ne _ _ hj9) S9 (by omega) hS9⟩)⟩, hI586, hu⟩
          refine lv_aload_n hx hb d_M_work_144 rfl (lv_at hl 1 rfl) ?_
          refine pf_get (v := .ref (g.lk M 8)) (C := "BigRunnerModel") (T := FT10) (N := 45) hx hb (hw10 hB _) (fun _ h9 => h9) hown hK hP (lo_in hL t_M (by decide)) e571 rfl 8 (by decide) (wd_955 hB _) rfl d_M_work_145 ?_
          refine lv_iload_n hx hb d_M_work_148 rfl (lv_at hl 2 rfl) ?_
          obtain ⟨h_588, e587⟩ := oc_45.of (lo_k11_8 hL _ t_M) (hI.1 (g.lk M 8))
          replace e587 := (hk573 (g.lk M 8) (tg_ne (lo_k11_8 hL _ t_M) t_M (by decide))).trans e587
          refine pf_zald (i := p9) hx hb hK hP (lo_in hL (lo_k11_8 hL _ t_M) (by decide)) e587 (lo_t45 hL _ (lo_k11_8 hL _ t_M)) (by omega) (by decide) d_M_work_149 ?_
          refine lv_if_eq (tgt := 157) hx hb d_M_work_150 (by decide) (fun b590 => ?_) (fun b590 => ?_)
          · skip
            refine lv_iconst (v := nI 1) hx hb d_M_work_157 (by decide) ?_
            exact jn574 ((nI 1)) _ _ hP hD hS
          · skip
            refine lv_iconst (v := nI 0) hx hb d_M_work_153 (by decide) ?_
            refine lv_goto (tgt := 158) hx hb d_M_work_154 (by decide) ?_
            exact jn574 ((nI 0)) _ _ hP hD hS
        refine lv_aload_n hx hb d_M_work_121 rfl (lv_at hl 1 rfl) ?_
        refine pf_get (v := .ref (g.lk M 8)) (C := "BigRunnerModel") (T := FT10) (N := 45) hx hb (hw10 hB _) (fun _ h9 => h9) hown hK hP (lo_in hL t_M (by decide)) eM rfl 8 (by decide) (wd_955 hB _) rfl d_M_work_122 ?_
        refine lv_iload_n hx hb d_M_work_125 rfl (lv_at hl 2 rfl) ?_
        obtain ⟨h_592, e591⟩ := oc_45.of (lo_k11_8 hL _ t_M) (hI.1 (g.lk M 8))
        refine pf_zald (i := p9) hx hb hK hP (lo_in hL (lo_k11_8 hL _ t_M) (by decide)) e591 (lo_t45 hL _ (lo_k11_8 hL _ t_M)) (by omega) (by decide) d_M_work_126 ?_
        refine lv_if_eq (tgt := 134) hx hb d_M_work_127 (by decide) (fun b594 => ?_) (fun b594 => ?_)
        · skip
          refine lv_iconst (v := nI 0) hx hb d_M_work_134 (by decide) ?_
          exact jn568 ((nI 0)) _ _ hP hD hS
        · skip
          refine lv_iconst (v := nI 1) hx hb d_M_work_130 (by decide) ?_
          refine lv_goto (tgt := 135) hx hb d_M_work_131 (by decide) ?_
          exact jn568 ((nI 1)) _ _ hP hD hS
      · skip
        replace b567 := (nI_eq (a := 7) (b := 1) (by omega) (by omega)).mp b567
        exfalso; omega
    · skip
      replace b566 := (nI_eq (a := 7) (b := 0) (by omega) (by omega)).mp b566
      exfalso; omega

