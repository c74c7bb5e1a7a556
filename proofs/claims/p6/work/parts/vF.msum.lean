theorem sp6_0 (h : Nat → Int32) (z : Nat → Nat) (a P Q : Nat) : kw (dg h) 44 + 0 * P = kw (dg h) 44 + a * kw z 0 * Q := by
  rw [Nat.zero_mul, show kw z 0 = 0 from rfl, Nat.mul_zero, Nat.zero_mul]
theorem pd_fin {N x y : Nat} {hl : Nat → Int32} {vx vy : Int} (e : N = kw (l6 hl x) 20 * sl hl y) (h1 : sl hl x = vx.natAbs) (h2 : sl hl y = vy.natAbs) : N = (vx * vy).natAbs := by
  rw [Int.natAbs_mul, ← h1, ← h2, e]
  unfold sl
  exact Eq.refl _
set_option maxHeartbeats 4000000 in
set_option maxRecDepth 100000 in
theorem w_sump (l : Launch) (g : Lay) (sz : Nat) (f : Nat → va_E) (M : Nat) (x : Nat) (y : Nat) (vx : Int) (vy : Int) (hLI : Nat → Int32) (hSI : Nat → Int32) (hRE : Nat → Int32) (hL : LO g) (t_M : g.tg M = 11) (hI : IV g f) (eLI : f (g.lk M 30) = .inl (g.ac (g.lk M 30), 1600, .inl hLI)) (eSI : f (g.lk M 31) = .inl (g.ac (g.lk M 31), 80, .inl hSI)) (eRE : f (g.lk M 33) = .inl (g.ac (g.lk M 33), 44, .inl hRE)) (c6LI : C6 1600 hLI) (c6RE : C6 44 hRE) (hx9 : x < 80) (hy9 : y < 80) (hz0 : ∀ k, k < 44 → dg hRE k = 0) (hvx : SV hLI hSI x vx) (hvy : SV hLI hSI y vy) : Met l ⟨"BigRunnerModel", "sum", "(III)I"⟩ [Cond.code ⟨"BigRunnerModel", "sum", "(III)I"⟩ prog_12_method_31_code 6 (some .int)] ({ frames := 2, cells := 0, slots := 0, locals := 48 }) (va_Pc [.ref M, .int (nI x), .int (nI y), .int (nI 1)] (pc_in g sz f)) (va_Qi (fun r f1 => (∃ h1 : Nat → Int32, f1 (g.lk M 33) = .inl (g.ac (g.lk M 33), 44, .inl h1) ∧ C6 44 h1 ∧ SR r (kw (dg h1) 44) (vx + vy)) ∧ (IV g f1) ∧ (∀ b, b ≠ (g.lk M 33) → f1 b = f b)) (pc_out g sz) (pc_A g sz)) 0 0 (pc_A g sz) := by
  refine pe_ofW (cc := prog_12_method_31_code) (maxL := 6) (ret := (some .int)) (lv := [(0, .ref M), (1, .int (nI x)), (2, .int (nI y)), (3, .int (nI 1))]) (by decide) (Nat.le_of_ble_eq_true rfl) rfl ?_
  intro p e s m args below meth c ls hx hb hr hml hlocks hown hB hP hK hD hsz hS hl
  subst hsz
  have hu : ∀ b, b ≠ (g.lk M 33) → f b = f b := fun _ _ => rfl
  have hna : (vy).natAbs = vy.natAbs := by omega
  have hsx := hvx.2
  have hsy := hvy.2
  refine lv_aload_n hx hb d_M_sum_0 rfl (lv_at hl 0 rfl) ?_
  obtain ⟨th_2, n_3, dr_4, sz_5, ix_6, dp_7, wt_8, op_9, tp_10, wa_11, gi_12, pc_13, st_14, tr_15, sp_16, ma_17, lg_18, du_19, e1, c20, c21, c22, c23, c24, c25, c26, c27, c28, c29, c30, c31, c32, c33, c34⟩ := oc_11.of t_M (hI.1 M)
  refine pf_get (v := .ref (g.lk M 31)) (C := "BigRunnerModel") (T := FT10) (N := 45) hx hb (hw10 hB _) (fun _ h9 => h9) hown hK hP (lo_in hL t_M (by decide)) e1 rfl 31 (by decide) (wd_978 hB _) rfl d_M_sum_1 ?_
  refine lv_iload_n hx hb d_M_sum_4 rfl (lv_at hl 2 rfl) ?_
  refine pf_iald (i := y) hx hb hK hP (lo_in hL (lo_k11_31 hL _ t_M) (by decide)) eSI (lo_t63 hL _ (lo_k11_31 hL _ t_M)) (by omega) (by decide) d_M_sum_5 ?_
  refine lv_topi (fun z_ hz_ => ?_)
  obtain rfl : z_ = sgI vy := hz_.trans hvy.1
  refine lv_iload_n hx hb d_M_sum_6 rfl (lv_at hl 3 rfl) ?_
  refine lv_imul hx hb d_M_sum_7 ?_
  refine lv_topi (fun z_ hz_ => ?_)
  obtain rfl : z_ = sgI (vy) := hz_.trans (sgI_one _)
  refine lv_istore (lv' := [(4, .int (sgI (vy))), (0, .ref M), (1, .int (nI x)), (2, .int (nI y)), (3, .int (nI 1))]) hx hb d_M_sum_8 hl (by decide) rfl (fun ls hl => ?_)
  refine lv_aload_n hx hb d_M_sum_10 rfl (lv_at hl 1 rfl) ?_
  refine pf_get (v := .ref (g.lk M 31)) (C := "BigRunnerModel") (T := FT10) (N := 45) hx hb (hw10 hB _) (fun _ h9 => h9) hown hK hP (lo_in hL t_M (by decide)) e1 rfl 31 (by decide) (wd_978 hB _) rfl d_M_sum_11 ?_
  refine lv_iload_n hx hb d_M_sum_14 rfl (lv_at hl 2 rfl) ?_
  refine pf_iald (i := x) hx hb hK hP (lo_in hL (lo_k11_31 hL _ t_M) (by decide)) eSI (lo_t63 hL _ (lo_k11_31 hL _ t_M)) (by omega) (by decide) d_M_sum_15 ?_
  refine lv_topi (fun z_ hz_ => ?_)
  obtain rfl : z_ = sgI vx := hz_.trans hvx.1
  refine lv_if_eq (tgt := 35) hx hb d_M_sum_16 (by decide) (fun b35 => ?_) (fun b35 => ?_)
  · skip
    replace b35 : (sgI vx) = nI 0 := b35
    refine lv_aload_n hx hb d_M_sum_35 rfl (lv_at hl 1 rfl) ?_
    refine lv_iload_n hx hb d_M_sum_36 rfl (lv_at hl 2 rfl) ?_
    refine lv_iload_n hx hb d_M_sum_37 rfl (lv_at hl 3 rfl) ?_
    refine lv_iconst (v := nI 1) hx hb d_M_sum_38 (by decide) ?_
    refine pcc_v (va_runV (C := "BigRunnerModel") (As := [.int (nI x), .int (nI y), .int (nI 1)]) (rest := []) ⟨hx, hb, hml, hown, tb_nil⟩ (w_addUpp l g s.heap.size f M x y hLI hRE hL t_M hI eLI eRE c6LI c6RE (by omega) (by omega) hz0) ⟨(callB_of 3 (tb_one (wd_1241 hB _)) tb_good1 rfl rfl rfl (wd_82 hB _) (wd_1238 hB _) (by decide +kernel) ⟨Nat.le_of_ble_eq_true rfl, Nat.le_of_ble_eq_true rfl⟩), (wd_1240 hB _), (wd_66 hB _)⟩ ⟨pe_bl, pg_recv (ci := 10) hK hP (lo_in hL t_M (by decide)) e1 rfl, pe_pre hB hK hP hD⟩ rfl rfl hl.1 rfl (lv_room (Nat.le_of_ble_eq_true rfl)) d_M_sum_39 ⟨Nat.le_of_ble_eq_true rfl, Nat.le_of_ble_eq_true rfl⟩) hS (fun f37 H locs hq38 hP hD hS => ?_)
    obtain ⟨re_39, hI1_40, hk1_41⟩ := hq38
    have hu : ∀ b, b ≠ (g.lk M 33) → f37 b = f b := fun b q0 => (hk1_41 b q0).trans (hu b q0)
    have eLI := (hk1_41 (g.lk M 30) (tg_ne (lo_k11_30 hL _ t_M) (lo_k11_33 hL _ t_M) (by decide))).trans eLI
    have eSI := (hk1_41 (g.lk M 31) (tg_ne (lo_k11_31 hL _ t_M) (lo_k11_33 hL _ t_M) (by decide))).trans eSI
    have e1 := (hk1_41 M (tg_ne t_M (lo_k11_33 hL _ t_M) (by decide))).trans e1
    obtain ⟨hr_42, e43, c44, hv45⟩ := re_39
    refine lv_aload_n hx hb d_M_sum_42 rfl (lv_at hl 1 rfl) ?_
    refine pf_get (v := .ref (g.lk M 31)) (C := "BigRunnerModel") (T := FT10) (N := 45) hx hb (hw10 hB _) (fun _ h9 => h9) hown hK hP (lo_in hL t_M (by decide)) e1 rfl 31 (by decide) (wd_978 hB _) rfl d_M_sum_43 ?_
    refine lv_iload_n hx hb d_M_sum_46 rfl (lv_at hl 2 rfl) ?_
    refine pf_iald (i := x) hx hb hK hP (lo_in hL (lo_k11_31 hL _ t_M) (by decide)) eSI (lo_t63 hL _ (lo_k11_31 hL _ t_M)) (by omega) (by decide) d_M_sum_47 ?_
    refine lv_topi (fun z_ hz_ => ?_)
    obtain rfl : z_ = sgI vx := hz_.trans hvx.1
    refine lv_if_ne (tgt := 56) hx hb d_M_sum_48 (by decide) (fun b46 => ?_) (fun b46 => ?_)
    · skip
      replace b46 : ¬ (sgI vx) = nI 0 := b46
      exact absurd b35 b46
    · skip
      replace b46 : (sgI vx) = nI 0 := b46
      refine lv_iload hx hb d_M_sum_51 (lv_at hl 0 rfl) ?_
      refine lv_goto (tgt := 62) hx hb d_M_sum_53 (by decide) ?_
      exact pe_iret hx hb hr hlocks hK hP hD hS d_M_sum_62 ⟨⟨_, e43, c44, (by first | exact SR_N (su_1 (v := vx) (w := vy) (by assumption)) (by omega) | exact SR_N (su_2 (v := vx) (w := vy) (by assumption)) (by omega) | exact SR_N (su_3 (v := vx) (w := vy) (by assumption)) (by omega) | exact SR_N ((su_4 (v := vx) (w := vy) (by assumption) (by assumption) (by assumption)).2.1 (by omega)) (by omega) | exact SR_N ((su_4 (v := vx) (w := vy) (by assumption) (by assumption) (by assumption)).2.2 (by omega)) (by omega) | exact SR_N ((su_4 (v := vx) (w := vy) (by assumption) (by assumption) (by assumption)).1 (by omega) _) (kw_z hz0))⟩, hI1_40, hu⟩
  · skip
    replace b35 : ¬ (sgI vx) = nI 0 := b35
    refine lv_iload hx hb d_M_sum_19 (lv_at hl 0 rfl) ?_
    refine lv_if_eq (tgt := 35) hx hb d_M_sum_21 (by decide) (fun b47 => ?_) (fun b47 => ?_)
    · skip
      replace b47 : (sgI (vy)) = nI 0 := b47
      refine lv_aload_n hx hb d_M_sum_35 rfl (lv_at hl 1 rfl) ?_
      refine lv_iload_n hx hb d_M_sum_36 rfl (lv_at hl 2 rfl) ?_
      refine lv_iload_n hx hb d_M_sum_37 rfl (lv_at hl 3 rfl) ?_
      refine lv_iconst (v := nI 1) hx hb d_M_sum_38 (by decide) ?_
      refine pcc_v (va_runV (C := "BigRunnerModel") (As := [.int (nI x), .int (nI y), .int (nI 1)]) (rest := []) ⟨hx, hb, hml, hown, tb_nil⟩ (w_addUpp l g s.heap.size f M x y hLI hRE hL t_M hI eLI eRE c6LI c6RE (by omega) (by omega) hz0) ⟨(callB_of 3 (tb_one (wd_1241 hB _)) tb_good1 rfl rfl rfl (wd_82 hB _) (wd_1238 hB _) (by decide +kernel) ⟨Nat.le_of_ble_eq_true rfl, Nat.le_of_ble_eq_true rfl⟩), (wd_1240 hB _), (wd_66 hB _)⟩ ⟨pe_bl, pg_recv (ci := 10) hK hP (lo_in hL t_M (by decide)) e1 rfl, pe_pre hB hK hP hD⟩ rfl rfl hl.1 rfl (lv_room (Nat.le_of_ble_eq_true rfl)) d_M_sum_39 ⟨Nat.le_of_ble_eq_true rfl, Nat.le_of_ble_eq_true rfl⟩) hS (fun f49 H locs hq50 hP hD hS => ?_)
      obtain ⟨re_51, hI1_52, hk1_53⟩ := hq50
      have hu : ∀ b, b ≠ (g.lk M 33) → f49 b = f b := fun b q0 => (hk1_53 b q0).trans (hu b q0)
      have eLI := (hk1_53 (g.lk M 30) (tg_ne (lo_k11_30 hL _ t_M) (lo_k11_33 hL _ t_M) (by decide))).trans eLI
      have eSI := (hk1_53 (g.lk M 31) (tg_ne (lo_k11_31 hL _ t_M) (lo_k11_33 hL _ t_M) (by decide))).trans eSI
      have e1 := (hk1_53 M (tg_ne t_M (lo_k11_33 hL _ t_M) (by decide))).trans e1
      obtain ⟨hr_54, e55, c56, hv57⟩ := re_51
      refine lv_aload_n hx hb d_M_sum_42 rfl (lv_at hl 1 rfl) ?_
      refine pf_get (v := .ref (g.lk M 31)) (C := "BigRunnerModel") (T := FT10) (N := 45) hx hb (hw10 hB _) (fun _ h9 => h9) hown hK hP (lo_in hL t_M (by decide)) e1 rfl 31 (by decide) (wd_978 hB _) rfl d_M_sum_43 ?_
      refine lv_iload_n hx hb d_M_sum_46 rfl (lv_at hl 2 rfl) ?_
      refine pf_iald (i := x) hx hb hK hP (lo_in hL (lo_k11_31 hL _ t_M) (by decide)) eSI (lo_t63 hL _ (lo_k11_31 hL _ t_M)) (by omega) (by decide) d_M_sum_47 ?_
      refine lv_topi (fun z_ hz_ => ?_)
      obtain rfl : z_ = sgI vx := hz_.trans hvx.1
      refine lv_if_ne (tgt := 56) hx hb d_M_sum_48 (by decide) (fun b58 => ?_) (fun b58 => ?_)
      · skip
        replace b58 : ¬ (sgI vx) = nI 0 := b58
        refine lv_aload_n hx hb d_M_sum_56 rfl (lv_at hl 1 rfl) ?_
        refine pf_get (v := .ref (g.lk M 31)) (C := "BigRunnerModel") (T := FT10) (N := 45) hx hb (hw10 hB _) (fun _ h9 => h9) hown hK hP (lo_in hL t_M (by decide)) e1 rfl 31 (by decide) (wd_978 hB _) rfl d_M_sum_57 ?_
        refine lv_iload_n hx hb d_M_sum_60 rfl (lv_at hl 2 rfl) ?_
        refine pf_iald (i := x) hx hb hK hP (lo_in hL (lo_k11_31 hL _ t_M) (by decide)) eSI (lo_t63 hL _ (lo_k11_31 hL _ t_M)) (by omega) (by decide) d_M_sum_61 ?_
        refine lv_topi (fun z_ hz_ => ?_)
        obtain rfl : z_ = sgI vx := hz_.trans hvx.1
        exact pe_iret hx hb hr hlocks hK hP hD hS d_M_sum_62 ⟨⟨_, e55, c56, (by first | exact SR_N (su_1 (v := vx) (w := vy) (by assumption)) (by omega) | exact SR_N (su_2 (v := vx) (w := vy) (by assumption)) (by omega) | exact SR_N (su_3 (v := vx) (w := vy) (by assumption)) (by omega) | exact SR_N ((su_4 (v := vx) (w := vy) (by assumption) (by assumption) (by assumption)).2.1 (by omega)) (by omega) | exact SR_N ((su_4 (v := vx) (w := vy) (by assumption) (by assumption) (by assumption)).2.2 (by omega)) (by omega) | exact SR_N ((su_4 (v := vx) (w := vy) (by assumption) (by assumption) (by assumption)).1 (by omega) _) (kw_z hz0))⟩, hI1_52, hu⟩
      · skip
        replace b58 : (sgI vx) = nI 0 := b58
        exact absurd b58 b35
    · skip
      replace b47 : ¬ (sgI (vy)) = nI 0 := b47
      refine lv_aload_n hx hb d_M_sum_24 rfl (lv_at hl 1 rfl) ?_
      refine pf_get (v := .ref (g.lk M 31)) (C := "BigRunnerModel") (T := FT10) (N := 45) hx hb (hw10 hB _) (fun _ h9 => h9) hown hK hP (lo_in hL t_M (by decide)) e1 rfl 31 (by decide) (wd_978 hB _) rfl d_M_sum_25 ?_
      refine lv_iload_n hx hb d_M_sum_28 rfl (lv_at hl 2 rfl) ?_
      refine pf_iald (i := x) hx hb hK hP (lo_in hL (lo_k11_31 hL _ t_M) (by decide)) eSI (lo_t63 hL _ (lo_k11_31 hL _ t_M)) (by omega) (by decide) d_M_sum_29 ?_
      refine lv_topi (fun z_ hz_ => ?_)
      obtain rfl : z_ = sgI vx := hz_.trans hvx.1
      refine lv_iload hx hb d_M_sum_30 (lv_at hl 0 rfl) ?_
      refine lv_icmp_ne (tgt := 63) hx hb d_M_sum_32 (by decide) (fun b59 => ?_) (fun b59 => ?_)
      · skip
        refine lv_aload_n hx hb d_M_sum_63 rfl (lv_at hl 1 rfl) ?_
        refine lv_iload_n hx hb d_M_sum_64 rfl (lv_at hl 2 rfl) ?_
        refine lv_iload_n hx hb d_M_sum_65 rfl (lv_at hl 3 rfl) ?_
        refine pcc_i (va_runV (C := "BigRunnerModel") (As := [.int (nI x), .int (nI y)]) (rest := []) ⟨hx, hb, hml, hown, tb_nil⟩ (w_order l g s.heap.size f M x y hLI hL t_M hI.1 eLI c6LI (by omega) (by omega)) ⟨(callB_of 2 (tb_one (wd_1245 hB _)) tb_good1 rfl rfl rfl (wd_82 hB _) (wd_1242 hB _) (by decide +kernel) ⟨Nat.le_of_ble_eq_true rfl, Nat.le_of_ble_eq_true rfl⟩), (wd_1244 hB _), (wd_67 hB _)⟩ ⟨pe_bl, pg_recv (ci := 10) hK hP (lo_in hL t_M (by decide)) e1 rfl, pe_pre hB hK hP hD⟩ rfl rfl hl.1 rfl (lv_room (Nat.le_of_ble_eq_true rfl)) d_M_sum_66 ⟨Nat.le_of_ble_eq_true rfl, Nat.le_of_ble_eq_true rfl⟩) hS (fun r60 f61 H locs hq62 hP hD hS => ?_)
        obtain ⟨od_63, rfl⟩ := hq62
        rcases od_63 with ⟨rfl, hod⟩ | ⟨rfl, hod⟩ | ⟨rfl, hod⟩
        · skip
          refine lv_istore (lv' := [(5, .int (-1)), (4, .int (sgI (vy))), (0, .ref M), (1, .int (nI x)), (2, .int (nI y)), (3, .int (nI 1))]) hx hb d_M_sum_69 hl (by decide) rfl (fun ls hl => ?_)
          refine lv_iload hx hb d_M_sum_71 (lv_at hl 0 rfl) ?_
          refine lv_if_ne (tgt := 78) hx hb d_M_sum_73 (by decide) (fun b64 => ?_) (fun b64 => ?_)
          · skip
            replace b64 : ¬ (-1) = nI 0 := b64
            refine lv_aload_n hx hb d_M_sum_78 rfl (lv_at hl 2 rfl) ?_
            refine lv_iload hx hb d_M_sum_79 (lv_at hl 0 rfl) ?_
            refine lv_if_le (tgt := 88) hx hb d_M_sum_81 (by decide) (fun b65 => ?_) (fun b65 => ?_)
            · skip
              refine lv_iload_n hx hb d_M_sum_88 rfl (lv_at hl 4 rfl) ?_
              refine lv_iload hx hb d_M_sum_89 (lv_at hl 0 rfl) ?_
              refine lv_if_le (tgt := 98) hx hb d_M_sum_91 (by decide) (fun b66 => ?_) (fun b66 => ?_)
              · skip
                refine lv_iload_n hx hb d_M_sum_98 rfl (lv_at hl 3 rfl) ?_
                refine lv_iconst (v := (-1)) hx hb d_M_sum_99 (by decide) ?_
                refine pcc_v (va_runV (C := "BigRunnerModel") (As := [.int (nI y), .int (nI x), .int (-1)]) (rest := []) ⟨hx, hb, hml, hown, tb_nil⟩ (w_addUpm l g H.size f M y x hLI hRE hL t_M hI eLI eRE c6LI c6RE (by omega) (by omega) hz0 (by omega)) ⟨(callB_of 3 (tb_one (wd_1241 hB _)) tb_good1 rfl rfl rfl (wd_82 hB _) (wd_1238 hB _) (by decide +kernel) ⟨Nat.le_of_ble_eq_true rfl, Nat.le_of_ble_eq_true rfl⟩), (wd_1240 hB _), (wd_66 hB _)⟩ ⟨pe_bl, pg_recv (ci := 10) hK hP (lo_in hL t_M (by decide)) e1 rfl, pe_pre hB hK hP hD⟩ rfl rfl hl.1 rfl (lv_room (Nat.le_of_ble_eq_true rfl)) d_M_sum_100 ⟨Nat.le_of_ble_eq_true rfl, Nat.le_of_ble_eq_true rfl⟩) hS (fun f68 H locs hq69 hP hD hS => ?_)
                obtain ⟨re_70, hI1_71, hk1_72⟩ := hq69
                have hu : ∀ b, b ≠ (g.lk M 33) → f68 b = f b := fun b q0 => (hk1_72 b q0).trans (hu b q0)
                have eLI := (hk1_72 (g.lk M 30) (tg_ne (lo_k11_30 hL _ t_M) (lo_k11_33 hL _ t_M) (by decide))).trans eLI
                have eSI := (hk1_72 (g.lk M 31) (tg_ne (lo_k11_31 hL _ t_M) (lo_k11_33 hL _ t_M) (by decide))).trans eSI
                have e1 := (hk1_72 M (tg_ne t_M (lo_k11_33 hL _ t_M) (by decide))).trans e1
                obtain ⟨hr_73, e74, c75, hv76⟩ := re_70
                refine lv_iload hx hb d_M_sum_103 (lv_at hl 0 rfl) ?_
                refine lv_if_le (tgt := 117) hx hb d_M_sum_105 (by decide) (fun b77 => ?_) (fun b77 => ?_)
                · skip
                  refine lv_iload hx hb d_M_sum_117 (lv_at hl 1 rfl) ?_
                  exact pe_iret hx hb hr hlocks hK hP hD hS d_M_sum_119 ⟨⟨_, e74, c75, (by first | exact SR_N (su_1 (v := vx) (w := vy) (by assumption)) (by omega) | exact SR_N (su_2 (v := vx) (w := vy) (by assumption)) (by omega) | exact SR_N (su_3 (v := vx) (w := vy) (by assumption)) (by omega) | exact SR_N ((su_4 (v := vx) (w := vy) (by assumption) (by assumption) (by assumption)).2.1 (by omega)) (by omega) | exact SR_N ((su_4 (v := vx) (w := vy) (by assumption) (by assumption) (by assumption)).2.2 (by omega)) (by omega) | exact SR_N ((su_4 (v := vx) (w := vy) (by assumption) (by assumption) (by assumption)).1 (by omega) _) (kw_z hz0))⟩, hI1_71, hu⟩
                · skip
                  exact absurd (by decide) b77
              · skip
                exact absurd (by decide) b66
            · skip
              exact absurd (by decide) b65
          · skip
            replace b64 : (-1) = nI 0 := b64
            exact absurd b64 (by decide)
        · skip
          refine lv_istore (lv' := [(5, .int (nI 1)), (4, .int (sgI (vy))), (0, .ref M), (1, .int (nI x)), (2, .int (nI y)), (3, .int (nI 1))]) hx hb d_M_sum_69 hl (by decide) rfl (fun ls hl => ?_)
          refine lv_iload hx hb d_M_sum_71 (lv_at hl 0 rfl) ?_
          refine lv_if_ne (tgt := 78) hx hb d_M_sum_73 (by decide) (fun b78 => ?_) (fun b78 => ?_)
          · skip
            replace b78 := mt (nI_eq (a := 1) (b := 0) (by omega) (by omega)).mpr b78
            refine lv_aload_n hx hb d_M_sum_78 rfl (lv_at hl 2 rfl) ?_
            refine lv_iload hx hb d_M_sum_79 (lv_at hl 0 rfl) ?_
            refine lv_if_le (tgt := 88) hx hb d_M_sum_81 (by decide) (fun b79 => ?_) (fun b79 => ?_)
            · skip
              replace b79 := (nI_leI (a := 1) (b := 0) (by omega) (by omega)).mp b79
              exfalso; omega
            · skip
              replace b79 := mt (nI_leI (a := 1) (b := 0) (by omega) (by omega)).mpr b79
              refine lv_iload_n hx hb d_M_sum_84 rfl (lv_at hl 3 rfl) ?_
              refine lv_goto (tgt := 89) hx hb d_M_sum_85 (by decide) ?_
              refine lv_iload hx hb d_M_sum_89 (lv_at hl 0 rfl) ?_
              refine lv_if_le (tgt := 98) hx hb d_M_sum_91 (by decide) (fun b80 => ?_) (fun b80 => ?_)
              · skip
                replace b80 := (nI_leI (a := 1) (b := 0) (by omega) (by omega)).mp b80
                exfalso; omega
              · skip
                replace b80 := mt (nI_leI (a := 1) (b := 0) (by omega) (by omega)).mpr b80
                refine lv_iload_n hx hb d_M_sum_94 rfl (lv_at hl 4 rfl) ?_
                refine lv_goto (tgt := 99) hx hb d_M_sum_95 (by decide) ?_
                refine lv_iconst (v := (-1)) hx hb d_M_sum_99 (by decide) ?_
                refine pcc_v (va_runV (C := "BigRunnerModel") (As := [.int (nI x), .int (nI y), .int (-1)]) (rest := []) ⟨hx, hb, hml, hown, tb_nil⟩ (w_addUpm l g H.size f M x y hLI hRE hL t_M hI eLI eRE c6LI c6RE (by omega) (by omega) hz0 (by omega)) ⟨(callB_of 3 (tb_one (wd_1241 hB _)) tb_good1 rfl rfl rfl (wd_82 hB _) (wd_1238 hB _) (by decide +kernel) ⟨Nat.le_of_ble_eq_true rfl, Nat.le_of_ble_eq_true rfl⟩), (wd_1240 hB _), (wd_66 hB _)⟩ ⟨pe_bl, pg_recv (ci := 10) hK hP (lo_in hL t_M (by decide)) e1 rfl, pe_pre hB hK hP hD⟩ rfl rfl hl.1 rfl (lv_room (Nat.le_of_ble_eq_true rfl)) d_M_sum_100 ⟨Nat.le_of_ble_eq_true rfl, Nat.le_of_ble_eq_true rfl⟩) hS (fun f82 H locs hq83 hP hD hS => ?_)
                obtain ⟨re_84, hI1_85, hk1_86⟩ := hq83
                have hu : ∀ b, b ≠ (g.lk M 33) → f82 b = f b := fun b q0 => (hk1_86 b q0).trans (hu b q0)
                have eLI := (hk1_86 (g.lk M 30) (tg_ne (lo_k11_30 hL _ t_M) (lo_k11_33 hL _ t_M) (by decide))).trans eLI
                have eSI := (hk1_86 (g.lk M 31) (tg_ne (lo_k11_31 hL _ t_M) (lo_k11_33 hL _ t_M) (by decide))).trans eSI
                have e1 := (hk1_86 M (tg_ne t_M (lo_k11_33 hL _ t_M) (by decide))).trans e1
                obtain ⟨hr_87, e88, c89, hv90⟩ := re_84
                refine lv_iload hx hb d_M_sum_103 (lv_at hl 0 rfl) ?_
                refine lv_if_le (tgt := 117) hx hb d_M_sum_105 (by decide) (fun b91 => ?_) (fun b91 => ?_)
                · skip
                  replace b91 := (nI_leI (a := 1) (b := 0) (by omega) (by omega)).mp b91
                  exfalso; omega
                · skip
                  replace b91 := mt (nI_leI (a := 1) (b := 0) (by omega) (by omega)).mpr b91
                  refine lv_aload_n hx hb d_M_sum_108 rfl (lv_at hl 2 rfl) ?_
                  refine pf_get (v := .ref (g.lk M 31)) (C := "BigRunnerModel") (T := FT10) (N := 45) hx hb (hw10 hB _) (fun _ h9 => h9) hown hK hP (lo_in hL t_M (by decide)) e1 rfl 31 (by decide) (wd_978 hB _) rfl d_M_sum_109 ?_
                  refine lv_iload_n hx hb d_M_sum_112 rfl (lv_at hl 3 rfl) ?_
                  refine pf_iald (i := x) hx hb hK hP (lo_in hL (lo_k11_31 hL _ t_M) (by decide)) eSI (lo_t63 hL _ (lo_k11_31 hL _ t_M)) (by omega) (by decide) d_M_sum_113 ?_
                  refine lv_topi (fun z_ hz_ => ?_)
                  obtain rfl : z_ = sgI vx := hz_.trans hvx.1
                  refine lv_goto (tgt := 119) hx hb d_M_sum_114 (by decide) ?_
                  exact pe_iret hx hb hr hlocks hK hP hD hS d_M_sum_119 ⟨⟨_, e88, c89, (by first | exact SR_N (su_1 (v := vx) (w := vy) (by assumption)) (by omega) | exact SR_N (su_2 (v := vx) (w := vy) (by assumption)) (by omega) | exact SR_N (su_3 (v := vx) (w := vy) (by assumption)) (by omega) | exact SR_N ((su_4 (v := vx) (w := vy) (by assumption) (by assumption) (by assumption)).2.1 (by omega)) (by omega) | exact SR_N ((su_4 (v := vx) (w := vy) (by assumption) (by assumption) (by assumption)).2.2 (by omega)) (by omega) | exact SR_N ((su_4 (v := vx) (w := vy) (by assumption) (by assumption) (by assumption)).1 (by omega) _) (kw_z hz0))⟩, hI1_85, hu⟩
          · skip
            replace b78 := (nI_eq (a := 1) (b := 0) (by omega) (by omega)).mp b78
            exfalso; omega
        · skip
          refine lv_istore (lv' := [(5, .int (nI 0)), (4, .int (sgI (vy))), (0, .ref M), (1, .int (nI x)), (2, .int (nI y)), (3, .int (nI 1))]) hx hb d_M_sum_69 hl (by decide) rfl (fun ls hl => ?_)
          refine lv_iload hx hb d_M_sum_71 (lv_at hl 0 rfl) ?_
          refine lv_if_ne (tgt := 78) hx hb d_M_sum_73 (by decide) (fun b92 => ?_) (fun b92 => ?_)
          · skip
            replace b92 := mt (nI_eq (a := 0) (b := 0) (by omega) (by omega)).mpr b92
            exfalso; omega
          · skip
            replace b92 := (nI_eq (a := 0) (b := 0) (by omega) (by omega)).mp b92
            refine lv_iconst (v := nI 0) hx hb d_M_sum_76 (by decide) ?_
            exact pe_iret hx hb hr hlocks hK hP hD hS d_M_sum_77 ⟨⟨_, eRE, c6RE, (by first | exact SR_N (su_1 (v := vx) (w := vy) (by assumption)) (by omega) | exact SR_N (su_2 (v := vx) (w := vy) (by assumption)) (by omega) | exact SR_N (su_3 (v := vx) (w := vy) (by assumption)) (by omega) | exact SR_N ((su_4 (v := vx) (w := vy) (by assumption) (by assumption) (by assumption)).2.1 (by omega)) (by omega) | exact SR_N ((su_4 (v := vx) (w := vy) (by assumption) (by assumption) (by assumption)).2.2 (by omega)) (by omega) | exact SR_N ((su_4 (v := vx) (w := vy) (by assumption) (by assumption) (by assumption)).1 (by omega) _) (kw_z hz0))⟩, hI, hu⟩
      · skip
        refine lv_aload_n hx hb d_M_sum_35 rfl (lv_at hl 1 rfl) ?_
        refine lv_iload_n hx hb d_M_sum_36 rfl (lv_at hl 2 rfl) ?_
        refine lv_iload_n hx hb d_M_sum_37 rfl (lv_at hl 3 rfl) ?_
        refine lv_iconst (v := nI 1) hx hb d_M_sum_38 (by decide) ?_
        refine pcc_v (va_runV (C := "BigRunnerModel") (As := [.int (nI x), .int (nI y), .int (nI 1)]) (rest := []) ⟨hx, hb, hml, hown, tb_nil⟩ (w_addUpp l g s.heap.size f M x y hLI hRE hL t_M hI eLI eRE c6LI c6RE (by omega) (by omega) hz0) ⟨(callB_of 3 (tb_one (wd_1241 hB _)) tb_good1 rfl rfl rfl (wd_82 hB _) (wd_1238 hB _) (by decide +kernel) ⟨Nat.le_of_ble_eq_true rfl, Nat.le_of_ble_eq_true rfl⟩), (wd_1240 hB _), (wd_66 hB _)⟩ ⟨pe_bl, pg_recv (ci := 10) hK hP (lo_in hL t_M (by decide)) e1 rfl, pe_pre hB hK hP hD⟩ rfl rfl hl.1 rfl (lv_room (Nat.le_of_ble_eq_true rfl)) d_M_sum_39 ⟨Nat.le_of_ble_eq_true rfl, Nat.le_of_ble_eq_true rfl⟩) hS (fun f94 H locs hq95 hP hD hS => ?_)
        obtain ⟨re_96, hI1_97, hk1_98⟩ := hq95
        have hu : ∀ b, b ≠ (g.lk M 33) → f94 b = f b := fun b q0 => (hk1_98 b q0).trans (hu b q0)
        have eLI := (hk1_98 (g.lk M 30) (tg_ne (lo_k11_30 hL _ t_M) (lo_k11_33 hL _ t_M) (by decide))).trans eLI
        have eSI := (hk1_98 (g.lk M 31) (tg_ne (lo_k11_31 hL _ t_M) (lo_k11_33 hL _ t_M) (by decide))).trans eSI
        have e1 := (hk1_98 M (tg_ne t_M (lo_k11_33 hL _ t_M) (by decide))).trans e1
        obtain ⟨hr_99, e100, c101, hv102⟩ := re_96
        refine lv_aload_n hx hb d_M_sum_42 rfl (lv_at hl 1 rfl) ?_
        refine pf_get (v := .ref (g.lk M 31)) (C := "BigRunnerModel") (T := FT10) (N := 45) hx hb (hw10 hB _) (fun _ h9 => h9) hown hK hP (lo_in hL t_M (by decide)) e1 rfl 31 (by decide) (wd_978 hB _) rfl d_M_sum_43 ?_
        refine lv_iload_n hx hb d_M_sum_46 rfl (lv_at hl 2 rfl) ?_
        refine pf_iald (i := x) hx hb hK hP (lo_in hL (lo_k11_31 hL _ t_M) (by decide)) eSI (lo_t63 hL _ (lo_k11_31 hL _ t_M)) (by omega) (by decide) d_M_sum_47 ?_
        refine lv_topi (fun z_ hz_ => ?_)
        obtain rfl : z_ = sgI vx := hz_.trans hvx.1
        refine lv_if_ne (tgt := 56) hx hb d_M_sum_48 (by decide) (fun b103 => ?_) (fun b103 => ?_)
        · skip
          replace b103 : ¬ (sgI vx) = nI 0 := b103
          refine lv_aload_n hx hb d_M_sum_56 rfl (lv_at hl 1 rfl) ?_
          refine pf_get (v := .ref (g.lk M 31)) (C := "BigRunnerModel") (T := FT10) (N := 45) hx hb (hw10 hB _) (fun _ h9 => h9) hown hK hP (lo_in hL t_M (by decide)) e1 rfl 31 (by decide) (wd_978 hB _) rfl d_M_sum_57 ?_
          refine lv_iload_n hx hb d_M_sum_60 rfl (lv_at hl 2 rfl) ?_
          refine pf_iald (i := x) hx hb hK hP (lo_in hL (lo_k11_31 hL _ t_M) (by decide)) eSI (lo_t63 hL _ (lo_k11_31 hL _ t_M)) (by omega) (by decide) d_M_sum_61 ?_
          refine lv_topi (fun z_ hz_ => ?_)
          obtain rfl : z_ = sgI vx := hz_.trans hvx.1
          exact pe_iret hx hb hr hlocks hK hP hD hS d_M_sum_62 ⟨⟨_, e100, c101, (by first | exact SR_N (su_1 (v := vx) (w := vy) (by assumption)) (by omega) | exact SR_N (su_2 (v := vx) (w := vy) (by assumption)) (by omega) | exact SR_N (su_3 (v := vx) (w := vy) (by assumption)) (by omega) | exact SR_N ((su_4 (v := vx) (w := vy) (by assumption) (by assumption) (by assumption)).2.1 (by omega)) (by omega) | exact SR_N ((su_4 (v := vx) (w := vy) (by assumption) (by assumption) (by assumption)).2.2 (by omega)) (by omega) | exact SR_N ((su_4 (v := vx) (w := vy) (by assumption) (by assumption) (by assumption)).1 (by omega) _) (kw_z hz0))⟩, hI1_97, hu⟩
        · skip
          replace b103 : (sgI vx) = nI 0 := b103
          exact absurd b103 b35
set_option maxHeartbeats 4000000 in
set_option maxRecDepth 100000 in
theorem w_summ (l : Launch) (g : Lay) (sz : Nat) (f : Nat → va_E) (M : Nat) (x : Nat) (y : Nat) (vx : Int) (vy : Int) (hLI : Nat → Int32) (hSI : Nat → Int32) (hRE : Nat → Int32) (hL : LO g) (t_M : g.tg M = 11) (hI : IV g f) (eLI : f (g.lk M 30) = .inl (g.ac (g.lk M 30), 1600, .inl hLI)) (eSI : f (g.lk M 31) = .inl (g.ac (g.lk M 31), 80, .inl hSI)) (eRE : f (g.lk M 33) = .inl (g.ac (g.lk M 33), 44, .inl hRE)) (c6LI : C6 1600 hLI) (c6RE : C6 44 hRE) (hx9 : x < 80) (hy9 : y < 80) (hz0 : ∀ k, k < 44 → dg hRE k = 0) (hvx : SV hLI hSI x vx) (hvy : SV hLI hSI y vy) : Met l ⟨"BigRunnerModel", "sum", "(III)I"⟩ [Cond.code ⟨"BigRunnerModel", "sum", "(III)I"⟩ prog_12_method_31_code 6 (some .int)] ({ frames := 2, cells := 0, slots := 0, locals := 48 }) (va_Pc [.ref M, .int (nI x), .int (nI y), .int (-1)] (pc_in g sz f)) (va_Qi (fun r f1 => (∃ h1 : Nat → Int32, f1 (g.lk M 33) = .inl (g.ac (g.lk M 33), 44, .inl h1) ∧ C6 44 h1 ∧ SR r (kw (dg h1) 44) (vx + (-vy))) ∧ (IV g f1) ∧ (∀ b, b ≠ (g.lk M 33) → f1 b = f b)) (pc_out g sz) (pc_A g sz)) 0 0 (pc_A g sz) := by
  refine pe_ofW (cc := prog_12_method_31_code) (maxL := 6) (ret := (some .int)) (lv := [(0, .ref M), (1, .int (nI x)), (2, .int (nI y)), (3, .int (-1))]) (by decide) (Nat.le_of_ble_eq_true rfl) rfl ?_
  intro p e s m args below meth c ls hx hb hr hml hlocks hown hB hP hK hD hsz hS hl
  subst hsz
  have hu : ∀ b, b ≠ (g.lk M 33) → f b = f b := fun _ _ => rfl
  have hna : (-vy).natAbs = vy.natAbs := by omega
  have hsx := hvx.2
  have hsy := hvy.2
  refine lv_aload_n hx hb d_M_sum_0 rfl (lv_at hl 0 rfl) ?_
  obtain ⟨th_2, n_3, dr_4, sz_5, ix_6, dp_7, wt_8, op_9, tp_10, wa_11, gi_12, pc_13, st_14, tr_15, sp_16, ma_17, lg_18, du_19, e1, c20, c21, c22, c23, c24, c25, c26, c27, c28, c29, c30, c31, c32, c33, c34⟩ := oc_11.of t_M (hI.1 M)
  refine pf_get (v := .ref (g.lk M 31)) (C := "BigRunnerModel") (T := FT10) (N := 45) hx hb (hw10 hB _) (fun _ h9 => h9) hown hK hP (lo_in hL t_M (by decide)) e1 rfl 31 (by decide) (wd_978 hB _) rfl d_M_sum_1 ?_
  refine lv_iload_n hx hb d_M_sum_4 rfl (lv_at hl 2 rfl) ?_
  refine pf_iald (i := y) hx hb hK hP (lo_in hL (lo_k11_31 hL _ t_M) (by decide)) eSI (lo_t63 hL _ (lo_k11_31 hL _ t_M)) (by omega) (by decide) d_M_sum_5 ?_
  refine lv_topi (fun z_ hz_ => ?_)
  obtain rfl : z_ = sgI vy := hz_.trans hvy.1
  refine lv_iload_n hx hb d_M_sum_6 rfl (lv_at hl 3 rfl) ?_
  refine lv_imul hx hb d_M_sum_7 ?_
  refine lv_topi (fun z_ hz_ => ?_)
  obtain rfl : z_ = sgI (-vy) := hz_.trans (sgI_neg _)
  refine lv_istore (lv' := [(4, .int (sgI (-vy))), (0, .ref M), (1, .int (nI x)), (2, .int (nI y)), (3, .int (-1))]) hx hb d_M_sum_8 hl (by decide) rfl (fun ls hl => ?_)
  refine lv_aload_n hx hb d_M_sum_10 rfl (lv_at hl 1 rfl) ?_
  refine pf_get (v := .ref (g.lk M 31)) (C := "BigRunnerModel") (T := FT10) (N := 45) hx hb (hw10 hB _) (fun _ h9 => h9) hown hK hP (lo_in hL t_M (by decide)) e1 rfl 31 (by decide) (wd_978 hB _) rfl d_M_sum_11 ?_
  refine lv_iload_n hx hb d_M_sum_14 rfl (lv_at hl 2 rfl) ?_
  refine pf_iald (i := x) hx hb hK hP (lo_in hL (lo_k11_31 hL _ t_M) (by decide)) eSI (lo_t63 hL _ (lo_k11_31 hL _ t_M)) (by omega) (by decide) d_M_sum_15 ?_
  refine lv_topi (fun z_ hz_ => ?_)
  obtain rfl : z_ = sgI vx := hz_.trans hvx.1
  refine lv_if_eq (tgt := 35) hx hb d_M_sum_16 (by decide) (fun b35 => ?_) (fun b35 => ?_)
  · skip
    replace b35 : (sgI vx) = nI 0 := b35
    refine lv_aload_n hx hb d_M_sum_35 rfl (lv_at hl 1 rfl) ?_
    refine lv_iload_n hx hb d_M_sum_36 rfl (lv_at hl 2 rfl) ?_
    refine lv_iload_n hx hb d_M_sum_37 rfl (lv_at hl 3 rfl) ?_
    refine lv_iconst (v := nI 1) hx hb d_M_sum_38 (by decide) ?_
    refine pcc_v (va_runV (C := "BigRunnerModel") (As := [.int (nI x), .int (nI y), .int (nI 1)]) (rest := []) ⟨hx, hb, hml, hown, tb_nil⟩ (w_addUpp l g s.heap.size f M x y hLI hRE hL t_M hI eLI eRE c6LI c6RE (by omega) (by omega) hz0) ⟨(callB_of 3 (tb_one (wd_1241 hB _)) tb_good1 rfl rfl rfl (wd_82 hB _) (wd_1238 hB _) (by decide +kernel) ⟨Nat.le_of_ble_eq_true rfl, Nat.le_of_ble_eq_true rfl⟩), (wd_1240 hB _), (wd_66 hB _)⟩ ⟨pe_bl, pg_recv (ci := 10) hK hP (lo_in hL t_M (by decide)) e1 rfl, pe_pre hB hK hP hD⟩ rfl rfl hl.1 rfl (lv_room (Nat.le_of_ble_eq_true rfl)) d_M_sum_39 ⟨Nat.le_of_ble_eq_true rfl, Nat.le_of_ble_eq_true rfl⟩) hS (fun f37 H locs hq38 hP hD hS => ?_)
    obtain ⟨re_39, hI1_40, hk1_41⟩ := hq38
    have hu : ∀ b, b ≠ (g.lk M 33) → f37 b = f b := fun b q0 => (hk1_41 b q0).trans (hu b q0)
    have eLI := (hk1_41 (g.lk M 30) (tg_ne (lo_k11_30 hL _ t_M) (lo_k11_33 hL _ t_M) (by decide))).trans eLI
    have eSI := (hk1_41 (g.lk M 31) (tg_ne (lo_k11_31 hL _ t_M) (lo_k11_33 hL _ t_M) (by decide))).trans eSI
    have e1 := (hk1_41 M (tg_ne t_M (lo_k11_33 hL _ t_M) (by decide))).trans e1
    obtain ⟨hr_42, e43, c44, hv45⟩ := re_39
    refine lv_aload_n hx hb d_M_sum_42 rfl (lv_at hl 1 rfl) ?_
    refine pf_get (v := .ref (g.lk M 31)) (C := "BigRunnerModel") (T := FT10) (N := 45) hx hb (hw10 hB _) (fun _ h9 => h9) hown hK hP (lo_in hL t_M (by decide)) e1 rfl 31 (by decide) (wd_978 hB _) rfl d_M_sum_43 ?_
    refine lv_iload_n hx hb d_M_sum_46 rfl (lv_at hl 2 rfl) ?_
    refine pf_iald (i := x) hx hb hK hP (lo_in hL (lo_k11_31 hL _ t_M) (by decide)) eSI (lo_t63 hL _ (lo_k11_31 hL _ t_M)) (by omega) (by decide) d_M_sum_47 ?_
    refine lv_topi (fun z_ hz_ => ?_)
    obtain rfl : z_ = sgI vx := hz_.trans hvx.1
    refine lv_if_ne (tgt := 56) hx hb d_M_sum_48 (by decide) (fun b46 => ?_) (fun b46 => ?_)
    · skip
      replace b46 : ¬ (sgI vx) = nI 0 := b46
      exact absurd b35 b46
    · skip
      replace b46 : (sgI vx) = nI 0 := b46
      refine lv_iload hx hb d_M_sum_51 (lv_at hl 0 rfl) ?_
      refine lv_goto (tgt := 62) hx hb d_M_sum_53 (by decide) ?_
      exact pe_iret hx hb hr hlocks hK hP hD hS d_M_sum_62 ⟨⟨_, e43, c44, (by first | exact SR_N (su_1 (v := vx) (w := -vy) (by assumption)) (by omega) | exact SR_N (su_2 (v := vx) (w := -vy) (by assumption)) (by omega) | exact SR_N (su_3 (v := vx) (w := -vy) (by assumption)) (by omega) | exact SR_N ((su_4 (v := vx) (w := -vy) (by assumption) (by assumption) (by assumption)).2.1 (by omega)) (by omega) | exact SR_N ((su_4 (v := vx) (w := -vy) (by assumption) (by assumption) (by assumption)).2.2 (by omega)) (by omega) | exact SR_N ((su_4 (v := vx) (w := -vy) (by assumption) (by assumption) (by assumption)).1 (by omega) _) (kw_z hz0))⟩, hI1_40, hu⟩
  · skip
    replace b35 : ¬ (sgI vx) = nI 0 := b35
    refine lv_iload hx hb d_M_sum_19 (lv_at hl 0 rfl) ?_
    refine lv_if_eq (tgt := 35) hx hb d_M_sum_21 (by decide) (fun b47 => ?_) (fun b47 => ?_)
    · skip
      replace b47 : (sgI (-vy)) = nI 0 := b47
      refine lv_aload_n hx hb d_M_sum_35 rfl (lv_at hl 1 rfl) ?_
      refine lv_iload_n hx hb d_M_sum_36 rfl (lv_at hl 2 rfl) ?_
      refine lv_iload_n hx hb d_M_sum_37 rfl (lv_at hl 3 rfl) ?_
      refine lv_iconst (v := nI 1) hx hb d_M_sum_38 (by decide) ?_
      refine pcc_v (va_runV (C := "BigRunnerModel") (As := [.int (nI x), .int (nI y), .int (nI 1)]) (rest := []) ⟨hx, hb, hml, hown, tb_nil⟩ (w_addUpp l g s.heap.size f M x y hLI hRE hL t_M hI eLI eRE c6LI c6RE (by omega) (by omega) hz0) ⟨(callB_of 3 (tb_one (wd_1241 hB _)) tb_good1 rfl rfl rfl (wd_82 hB _) (wd_1238 hB _) (by decide +kernel) ⟨Nat.le_of_ble_eq_true rfl, Nat.le_of_ble_eq_true rfl⟩), (wd_1240 hB _), (wd_66 hB _)⟩ ⟨pe_bl, pg_recv (ci := 10) hK hP (lo_in hL t_M (by decide)) e1 rfl, pe_pre hB hK hP hD⟩ rfl rfl hl.1 rfl (lv_room (Nat.le_of_ble_eq_true rfl)) d_M_sum_39 ⟨Nat.le_of_ble_eq_true rfl, Nat.le_of_ble_eq_true rfl⟩) hS (fun f49 H locs hq50 hP hD hS => ?_)
      obtain ⟨re_51, hI1_52, hk1_53⟩ := hq50
      have hu : ∀ b, b ≠ (g.lk M 33) → f49 b = f b := fun b q0 => (hk1_53 b q0).trans (hu b q0)
      have eLI := (hk1_53 (g.lk M 30) (tg_ne (lo_k11_30 hL _ t_M) (lo_k11_33 hL _ t_M) (by decide))).trans eLI
      have eSI := (hk1_53 (g.lk M 31) (tg_ne (lo_k11_31 hL _ t_M) (lo_k11_33 hL _ t_M) (by decide))).trans eSI
      have e1 := (hk1_53 M (tg_ne t_M (lo_k11_33 hL _ t_M) (by decide))).trans e1
      obtain ⟨hr_54, e55, c56, hv57⟩ := re_51
      refine lv_aload_n hx hb d_M_sum_42 rfl (lv_at hl 1 rfl) ?_
      refine pf_get (v := .ref (g.lk M 31)) (C := "BigRunnerModel") (T := FT10) (N := 45) hx hb (hw10 hB _) (fun _ h9 => h9) hown hK hP (lo_in hL t_M (by decide)) e1 rfl 31 (by decide) (wd_978 hB _) rfl d_M_sum_43 ?_
      refine lv_iload_n hx hb d_M_sum_46 rfl (lv_at hl 2 rfl) ?_
      refine pf_iald (i := x) hx hb hK hP (lo_in hL (lo_k11_31 hL _ t_M) (by decide)) eSI (lo_t63 hL _ (lo_k11_31 hL _ t_M)) (by omega) (by decide) d_M_sum_47 ?_
      refine lv_topi (fun z_ hz_ => ?_)
      obtain rfl : z_ = sgI vx := hz_.trans hvx.1
      refine lv_if_ne (tgt := 56) hx hb d_M_sum_48 (by decide) (fun b58 => ?_) (fun b58 => ?_)
      · skip
        replace b58 : ¬ (sgI vx) = nI 0 := b58
        refine lv_aload_n hx hb d_M_sum_56 rfl (lv_at hl 1 rfl) ?_
        refine pf_get (v := .ref (g.lk M 31)) (C := "BigRunnerModel") (T := FT10) (N := 45) hx hb (hw10 hB _) (fun _ h9 => h9) hown hK hP (lo_in hL t_M (by decide)) e1 rfl 31 (by decide) (wd_978 hB _) rfl d_M_sum_57 ?_
        refine lv_iload_n hx hb d_M_sum_60 rfl (lv_at hl 2 rfl) ?_
        refine pf_iald (i := x) hx hb hK hP (lo_in hL (lo_k11_31 hL _ t_M) (by decide)) eSI (lo_t63 hL _ (lo_k11_31 hL _ t_M)) (by omega) (by decide) d_M_sum_61 ?_
        refine lv_topi (fun z_ hz_ => ?_)
        obtain rfl : z_ = sgI vx := hz_.trans hvx.1
        exact pe_iret hx hb hr hlocks hK hP hD hS d_M_sum_62 ⟨⟨_, e55, c56, (by first | exact SR_N (su_1 (v := vx) (w := -vy) (by assumption)) (by omega) | exact SR_N (su_2 (v := vx) (w := -vy) (by assumption)) (by omega) | exact SR_N (su_3 (v := vx) (w := -vy) (by assumption)) (by omega) | exact SR_N ((su_4 (v := vx) (w := -vy) (by assumption) (by assumption) (by assumption)).2.1 (by omega)) (by omega) | exact SR_N ((su_4 (v := vx) (w := -vy) (by assumption) (by assumption) (by assumption)).2.2 (by omega)) (by omega) | exact SR_N ((su_4 (v := vx) (w := -vy) (by assumption) (by assumption) (by assumption)).1 (by omega) _) (kw_z hz0))⟩, hI1_52, hu⟩
      · skip
        replace b58 : (sgI vx) = nI 0 := b58
        exact absurd b58 b35
    · skip
      replace b47 : ¬ (sgI (-vy)) = nI 0 := b47
      refine lv_aload_n hx hb d_M_sum_24 rfl (lv_at hl 1 rfl) ?_
      refine pf_get (v := .ref (g.lk M 31)) (C := "BigRunnerModel") (T := FT10) (N := 45) hx hb (hw10 hB _) (fun _ h9 => h9) hown hK hP (lo_in hL t_M (by decide)) e1 rfl 31 (by decide) (wd_978 hB _) rfl d_M_sum_25 ?_
      refine lv_iload_n hx hb d_M_sum_28 rfl (lv_at hl 2 rfl) ?_
      refine pf_iald (i := x) hx hb hK hP (lo_in hL (lo_k11_31 hL _ t_M) (by decide)) eSI (lo_t63 hL _ (lo_k11_31 hL _ t_M)) (by omega) (by decide) d_M_sum_29 ?_
      refine lv_topi (fun z_ hz_ => ?_)
      obtain rfl : z_ = sgI vx := hz_.trans hvx.1
      refine lv_iload hx hb d_M_sum_30 (lv_at hl 0 rfl) ?_
      refine lv_icmp_ne (tgt := 63) hx hb d_M_sum_32 (by decide) (fun b59 => ?_) (fun b59 => ?_)
      · skip
        refine lv_aload_n hx hb d_M_sum_63 rfl (lv_at hl 1 rfl) ?_
        refine lv_iload_n hx hb d_M_sum_64 rfl (lv_at hl 2 rfl) ?_
        refine lv_iload_n hx hb d_M_sum_65 rfl (lv_at hl 3 rfl) ?_
        refine pcc_i (va_runV (C := "BigRunnerModel") (As := [.int (nI x), .int (nI y)]) (rest := []) ⟨hx, hb, hml, hown, tb_nil⟩ (w_order l g s.heap.size f M x y hLI hL t_M hI.1 eLI c6LI (by omega) (by omega)) ⟨(callB_of 2 (tb_one (wd_1245 hB _)) tb_good1 rfl rfl rfl (wd_82 hB _) (wd_1242 hB _) (by decide +kernel) ⟨Nat.le_of_ble_eq_true rfl, Nat.le_of_ble_eq_true rfl⟩), (wd_1244 hB _), (wd_67 hB _)⟩ ⟨pe_bl, pg_recv (ci := 10) hK hP (lo_in hL t_M (by decide)) e1 rfl, pe_pre hB hK hP hD⟩ rfl rfl hl.1 rfl (lv_room (Nat.le_of_ble_eq_true rfl)) d_M_sum_66 ⟨Nat.le_of_ble_eq_true rfl, Nat.le_of_ble_eq_true rfl⟩) hS (fun r60 f61 H locs hq62 hP hD hS => ?_)
        obtain ⟨od_63, rfl⟩ := hq62
        rcases od_63 with ⟨rfl, hod⟩ | ⟨rfl, hod⟩ | ⟨rfl, hod⟩
        · skip
          refine lv_istore (lv' := [(5, .int (-1)), (4, .int (sgI (-vy))), (0, .ref M), (1, .int (nI x)), (2, .int (nI y)), (3, .int (-1))]) hx hb d_M_sum_69 hl (by decide) rfl (fun ls hl => ?_)
          refine lv_iload hx hb d_M_sum_71 (lv_at hl 0 rfl) ?_
          refine lv_if_ne (tgt := 78) hx hb d_M_sum_73 (by decide) (fun b64 => ?_) (fun b64 => ?_)
          · skip
            replace b64 : ¬ (-1) = nI 0 := b64
            refine lv_aload_n hx hb d_M_sum_78 rfl (lv_at hl 2 rfl) ?_
            refine lv_iload hx hb d_M_sum_79 (lv_at hl 0 rfl) ?_
            refine lv_if_le (tgt := 88) hx hb d_M_sum_81 (by decide) (fun b65 => ?_) (fun b65 => ?_)
            · skip
              refine lv_iload_n hx hb d_M_sum_88 rfl (lv_at hl 4 rfl) ?_
              refine lv_iload hx hb d_M_sum_89 (lv_at hl 0 rfl) ?_
              refine lv_if_le (tgt := 98) hx hb d_M_sum_91 (by decide) (fun b66 => ?_) (fun b66 => ?_)
              · skip
                refine lv_iload_n hx hb d_M_sum_98 rfl (lv_at hl 3 rfl) ?_
                refine lv_iconst (v := (-1)) hx hb d_M_sum_99 (by decide) ?_
                refine pcc_v (va_runV (C := "BigRunnerModel") (As := [.int (nI y), .int (nI x), .int (-1)]) (rest := []) ⟨hx, hb, hml, hown, tb_nil⟩ (w_addUpm l g H.size f M y x hLI hRE hL t_M hI eLI eRE c6LI c6RE (by omega) (by omega) hz0 (by omega)) ⟨(callB_of 3 (tb_one (wd_1241 hB _)) tb_good1 rfl rfl rfl (wd_82 hB _) (wd_1238 hB _) (by decide +kernel) ⟨Nat.le_of_ble_eq_true rfl, Nat.le_of_ble_eq_true rfl⟩), (wd_1240 hB _), (wd_66 hB _)⟩ ⟨pe_bl, pg_recv (ci := 10) hK hP (lo_in hL t_M (by decide)) e1 rfl, pe_pre hB hK hP hD⟩ rfl rfl hl.1 rfl (lv_room (Nat.le_of_ble_eq_true rfl)) d_M_sum_100 ⟨Nat.le_of_ble_eq_true rfl, Nat.le_of_ble_eq_true rfl⟩) hS (fun f68 H locs hq69 hP hD hS => ?_)
                obtain ⟨re_70, hI1_71, hk1_72⟩ := hq69
                have hu : ∀ b, b ≠ (g.lk M 33) → f68 b = f b := fun b q0 => (hk1_72 b q0).trans (hu b q0)
                have eLI := (hk1_72 (g.lk M 30) (tg_ne (lo_k11_30 hL _ t_M) (lo_k11_33 hL _ t_M) (by decide))).trans eLI
                have eSI := (hk1_72 (g.lk M 31) (tg_ne (lo_k11_31 hL _ t_M) (lo_k11_33 hL _ t_M) (by decide))).trans eSI
                have e1 := (hk1_72 M (tg_ne t_M (lo_k11_33 hL _ t_M) (by decide))).trans e1
                obtain ⟨hr_73, e74, c75, hv76⟩ := re_70
                refine lv_iload hx hb d_M_sum_103 (lv_at hl 0 rfl) ?_
                refine lv_if_le (tgt := 117) hx hb d_M_sum_105 (by decide) (fun b77 => ?_) (fun b77 => ?_)
                · skip
                  refine lv_iload hx hb d_M_sum_117 (lv_at hl 1 rfl) ?_
                  exact pe_iret hx hb hr hlocks hK hP hD hS d_M_sum_119 ⟨⟨_, e74, c75, (by first | exact SR_N (su_1 (v := vx) (w := -vy) (by assumption)) (by omega) | exact SR_N (su_2 (v := vx) (w := -vy) (by assumption)) (by omega) | exact SR_N (su_3 (v := vx) (w := -vy) (by assumption)) (by omega) | exact SR_N ((su_4 (v := vx) (w := -vy) (by assumption) (by assumption) (by assumption)).2.1 (by omega)) (by omega) | exact SR_N ((su_4 (v := vx) (w := -vy) (by assumption) (by assumption) (by assumption)).2.2 (by omega)) (by omega) | exact SR_N ((su_4 (v := vx) (w := -vy) (by assumption) (by assumption) (by assumption)).1 (by omega) _) (kw_z hz0))⟩, hI1_71, hu⟩
                · skip
                  exact absurd (by decide) b77
              · skip
                exact absurd (by decide) b66
            · skip
              exact absurd (by decide) b65
          · skip
            replace b64 : (-1) = nI 0 := b64
            exact absurd b64 (by decide)
        · skip
          refine lv_istore (lv' := [(5, .int (nI 1)), (4, .int (sgI (-vy))), (0, .ref M), (1, .int (nI x)), (2, .int (nI y)), (3, .int (-1))]) hx hb d_M_sum_69 hl (by decide) rfl (fun ls hl => ?_)
          refine lv_iload hx hb d_M_sum_71 (lv_at hl 0 rfl) ?_
          refine lv_if_ne (tgt := 78) hx hb d_M_sum_73 (by decide) (fun b78 => ?_) (fun b78 => ?_)
          · skip
            replace b78 := mt (nI_eq (a := 1) (b := 0) (by omega) (by omega)).mpr b78
            refine lv_aload_n hx hb d_M_sum_78 rfl (lv_at hl 2 rfl) ?_
            refine lv_iload hx hb d_M_sum_79 (lv_at hl 0 rfl) ?_
            refine lv_if_le (tgt := 88) hx hb d_M_sum_81 (by decide) (fun b79 => ?_) (fun b79 => ?_)
            · skip
              replace b79 := (nI_leI (a := 1) (b := 0) (by omega) (by omega)).mp b79
              exfalso; omega
            · skip
              replace b79 := mt (nI_leI (a := 1) (b := 0) (by omega) (by omega)).mpr b79
              refine lv_iload_n hx hb d_M_sum_84 rfl (lv_at hl 3 rfl) ?_
              refine lv_goto (tgt := 89) hx hb d_M_sum_85 (by decide) ?_
              refine lv_iload hx hb d_M_sum_89 (lv_at hl 0 rfl) ?_
              refine lv_if_le (tgt := 98) hx hb d_M_sum_91 (by decide) (fun b80 => ?_) (fun b80 => ?_)
              · skip
                replace b80 := (nI_leI (a := 1) (b := 0) (by omega) (by omega)).mp b80
                exfalso; omega
              · skip
                replace b80 := mt (nI_leI (a := 1) (b := 0) (by omega) (by omega)).mpr b80
                refine lv_iload_n hx hb d_M_sum_94 rfl (lv_at hl 4 rfl) ?_
                refine lv_goto (tgt := 99) hx hb d_M_sum_95 (by decide) ?_
                refine lv_iconst (v := (-1)) hx hb d_M_sum_99 (by decide) ?_
                refine pcc_v (va_runV (C := "BigRunnerModel") (As := [.int (nI x), .int (nI y), .int (-1)]) (rest := []) ⟨hx, hb, hml, hown, tb_nil⟩ (w_addUpm l g H.size f M x y hLI hRE hL t_M hI eLI eRE c6LI c6RE (by omega) (by omega) hz0 (by omega)) ⟨(callB_of 3 (tb_one (wd_1241 hB _)) tb_good1 rfl rfl rfl (wd_82 hB _) (wd_1238 hB _) (by decide +kernel) ⟨Nat.le_of_ble_eq_true rfl, Nat.le_of_ble_eq_true rfl⟩), (wd_1240 hB _), (wd_66 hB _)⟩ ⟨pe_bl, pg_recv (ci := 10) hK hP (lo_in hL t_M (by decide)) e1 rfl, pe_pre hB hK hP hD⟩ rfl rfl hl.1 rfl (lv_room (Nat.le_of_ble_eq_true rfl)) d_M_sum_100 ⟨Nat.le_of_ble_eq_true rfl, Nat.le_of_ble_eq_true rfl⟩) hS (fun f82 H locs hq83 hP hD hS => ?_)
                obtain ⟨re_84, hI1_85, hk1_86⟩ := hq83
                have hu : ∀ b, b ≠ (g.lk M 33) → f82 b = f b := fun b q0 => (hk1_86 b q0).trans (hu b q0)
                have eLI := (hk1_86 (g.lk M 30) (tg_ne (lo_k11_30 hL _ t_M) (lo_k11_33 hL _ t_M) (by decide))).trans eLI
                have eSI := (hk1_86 (g.lk M 31) (tg_ne (lo_k11_31 hL _ t_M) (lo_k11_33 hL _ t_M) (by decide))).trans eSI
                have e1 := (hk1_86 M (tg_ne t_M (lo_k11_33 hL _ t_M) (by decide))).trans e1
                obtain ⟨hr_87, e88, c89, hv90⟩ := re_84
                refine lv_iload hx hb d_M_sum_103 (lv_at hl 0 rfl) ?_
                refine lv_if_le (tgt := 117) hx hb d_M_sum_105 (by decide) (fun b91 => ?_) (fun b91 => ?_)
                · skip
                  replace b91 := (nI_leI (a := 1) (b := 0) (by omega) (by omega)).mp b91
                  exfalso; omega
                · skip
                  replace b91 := mt (nI_leI (a := 1) (b := 0) (by omega) (by omega)).mpr b91
                  refine lv_aload_n hx hb d_M_sum_108 rfl (lv_at hl 2 rfl) ?_
                  refine pf_get (v := .ref (g.lk M 31)) (C := "BigRunnerModel") (T := FT10) (N := 45) hx hb (hw10 hB _) (fun _ h9 => h9) hown hK hP (lo_in hL t_M (by decide)) e1 rfl 31 (by decide) (wd_978 hB _) rfl d_M_sum_109 ?_
                  refine lv_iload_n hx hb d_M_sum_112 rfl (lv_at hl 3 rfl) ?_
                  refine pf_iald (i := x) hx hb hK hP (lo_in hL (lo_k11_31 hL _ t_M) (by decide)) eSI (lo_t63 hL _ (lo_k11_31 hL _ t_M)) (by omega) (by decide) d_M_sum_113 ?_
                  refine lv_topi (fun z_ hz_ => ?_)
                  obtain rfl : z_ = sgI vx := hz_.trans hvx.1
                  refine lv_goto (tgt := 119) hx hb d_M_sum_114 (by decide) ?_
                  exact pe_iret hx hb hr hlocks hK hP hD hS d_M_sum_119 ⟨⟨_, e88, c89, (by first | exact SR_N (su_1 (v := vx) (w := -vy) (by assumption)) (by omega) | exact SR_N (su_2 (v := vx) (w := -vy) (by assumption)) (by omega) | exact SR_N (su_3 (v := vx) (w := -vy) (by assumption)) (by omega) | exact SR_N ((su_4 (v := vx) (w := -vy) (by assumption) (by assumption) (by assumption)).2.1 (by omega)) (by omega) | exact SR_N ((su_4 (v := vx) (w := -vy) (by assumption) (by assumption) (by assumption)).2.2 (by omega)) (by omega) | exact SR_N ((su_4 (v := vx) (w := -vy) (by assumption) (by assumption) (by assumption)).1 (by omega) _) (kw_z hz0))⟩, hI1_85, hu⟩
          · skip
            replace b78 := (nI_eq (a := 1) (b := 0) (by omega) (by omega)).mp b78
            exfalso; omega
        · skip
          refine lv_istore (lv' := [(5, .int (nI 0)), (4, .int (sgI (-vy))), (0, .ref M), (1, .int (nI x)), (2, .int (nI y)), (3, .int (-1))]) hx hb d_M_sum_69 hl (by decide) rfl (fun ls hl => ?_)
          refine lv_iload hx hb d_M_sum_71 (lv_at hl 0 rfl) ?_
          refine lv_if_ne (tgt := 78) hx hb d_M_sum_73 (by decide) (fun b92 => ?_) (fun b92 => ?_)
          · skip
            replace b92 := mt (nI_eq (a := 0) (b := 0) (by omega) (by omega)).mpr b92
            exfalso; omega
          · skip
            replace b92 := (nI_eq (a := 0) (b := 0) (by omega) (by omega)).mp b92
            refine lv_iconst (v := nI 0) hx hb d_M_sum_76 (by decide) ?_
            exact pe_iret hx hb hr hlocks hK hP hD hS d_M_sum_77 ⟨⟨_, eRE, c6RE, (by first | exact SR_N (su_1 (v := vx) (w := -vy) (by assumption)) (by omega) | exact SR_N (su_2 (v := vx) (w := -vy) (by assumption)) (by omega) | exact SR_N (su_3 (v := vx) (w := -vy) (by assumption)) (by omega) | exact SR_N ((su_4 (v := vx) (w := -vy) (by assumption) (by assumption) (by assumption)).2.1 (by omega)) (by omega) | exact SR_N ((su_4 (v := vx) (w := -vy) (by assumption) (by assumption) (by assumption)).2.2 (by omega)) (by omega) | exact SR_N ((su_4 (v := vx) (w := -vy) (by assumption) (by assumption) (by assumption)).1 (by omega) _) (kw_z hz0))⟩, hI, hu⟩
      · skip
        refine lv_aload_n hx hb d_M_sum_35 rfl (lv_at hl 1 rfl) ?_
        refine lv_iload_n hx hb d_M_sum_36 rfl (lv_at hl 2 rfl) ?_
        refine lv_iload_n hx hb d_M_sum_37 rfl (lv_at hl 3 rfl) ?_
        refine lv_iconst (v := nI 1) hx hb d_M_sum_38 (by decide) ?_
        refine pcc_v (va_runV (C := "BigRunnerModel") (As := [.int (nI x), .int (nI y), .int (nI 1)]) (rest := []) ⟨hx, hb, hml, hown, tb_nil⟩ (w_addUpp l g s.heap.size f M x y hLI hRE hL t_M hI eLI eRE c6LI c6RE (by omega) (by omega) hz0) ⟨(callB_of 3 (tb_one (wd_1241 hB _)) tb_good1 rfl rfl rfl (wd_82 hB _) (wd_1238 hB _) (by decide +kernel) ⟨Nat.le_of_ble_eq_true rfl, Nat.le_of_ble_eq_true rfl⟩), (wd_1240 hB _), (wd_66 hB _)⟩ ⟨pe_bl, pg_recv (ci := 10) hK hP (lo_in hL t_M (by decide)) e1 rfl, pe_pre hB hK hP hD⟩ rfl rfl hl.1 rfl (lv_room (Nat.le_of_ble_eq_true rfl)) d_M_sum_39 ⟨Nat.le_of_ble_eq_true rfl, Nat.le_of_ble_eq_true rfl⟩) hS (fun f94 H locs hq95 hP hD hS => ?_)
        obtain ⟨re_96, hI1_97, hk1_98⟩ := hq95
        have hu : ∀ b, b ≠ (g.lk M 33) → f94 b = f b := fun b q0 => (hk1_98 b q0).trans (hu b q0)
        have eLI := (hk1_98 (g.lk M 30) (tg_ne (lo_k11_30 hL _ t_M) (lo_k11_33 hL _ t_M) (by decide))).trans eLI
        have eSI := (hk1_98 (g.lk M 31) (tg_ne (lo_k11_31 hL _ t_M) (lo_k11_33 hL _ t_M) (by decide))).trans eSI
        have e1 := (hk1_98 M (tg_ne t_M (lo_k11_33 hL _ t_M) (by decide))).trans e1
        obtain ⟨hr_99, e100, c101, hv102⟩ := re_96
        refine lv_aload_n hx hb d_M_sum_42 rfl (lv_at hl 1 rfl) ?_
        refine pf_get (v := .ref (g.lk M 31)) (C := "BigRunnerModel") (T := FT10) (N := 45) hx hb (hw10 hB _) (fun _ h9 => h9) hown hK hP (lo_in hL t_M (by decide)) e1 rfl 31 (by decide) (wd_978 hB _) rfl d_M_sum_43 ?_
        refine lv_iload_n hx hb d_M_sum_46 rfl (lv_at hl 2 rfl) ?_
        refine pf_iald (i := x) hx hb hK hP (lo_in hL (lo_k11_31 hL _ t_M) (by decide)) eSI (lo_t63 hL _ (lo_k11_31 hL _ t_M)) (by omega) (by decide) d_M_sum_47 ?_
        refine lv_topi (fun z_ hz_ => ?_)
        obtain rfl : z_ = sgI vx := hz_.trans hvx.1
        refine lv_if_ne (tgt := 56) hx hb d_M_sum_48 (by decide) (fun b103 => ?_) (fun b103 => ?_)
        · skip
          replace b103 : ¬ (sgI vx) = nI 0 := b103
          refine lv_aload_n hx hb d_M_sum_56 rfl (lv_at hl 1 rfl) ?_
          refine pf_get (v := .ref (g.lk M 31)) (C := "BigRunnerModel") (T := FT10) (N := 45) hx hb (hw10 hB _) (fun _ h9 => h9) hown hK hP (lo_in hL t_M (by decide)) e1 rfl 31 (by decide) (wd_978 hB _) rfl d_M_sum_57 ?_
          refine lv_iload_n hx hb d_M_sum_60 rfl (lv_at hl 2 rfl) ?_
          refine pf_iald (i := x) hx hb hK hP (lo_in hL (lo_k11_31 hL _ t_M) (by decide)) eSI (lo_t63 hL _ (lo_k11_31 hL _ t_M)) (by omega) (by decide) d_M_sum_61 ?_
          refine lv_topi (fun z_ hz_ => ?_)
          obtain rfl : z_ = sgI vx := hz_.trans hvx.1
          exact pe_iret hx hb hr hlocks hK hP hD hS d_M_sum_62 ⟨⟨_, e100, c101, (by first | exact SR_N (su_1 (v := vx) (w := -vy) (by assumption)) (by omega) | exact SR_N (su_2 (v := vx) (w := -vy) (by assumption)) (by omega) | exact SR_N (su_3 (v := vx) (w := -vy) (by assumption)) (by omega) | exact SR_N ((su_4 (v := vx) (w := -vy) (by assumption) (by assumption) (by assumption)).2.1 (by omega)) (by omega) | exact SR_N ((su_4 (v := vx) (w := -vy) (by assumption) (by assumption) (by assumption)).2.2 (by omega)) (by omega) | exact SR_N ((su_4 (v := vx) (w := -vy) (by assumption) (by assumption) (by assumption)).1 (by omega) _) (kw_z hz0))⟩, hI1_97, hu⟩
        · skip
          replace b103 : (sgI vx) = nI 0 := b103
          exact absurd b103 b35
set_option maxHeartbeats 4000000 in
set_option maxRecDepth 100000 in
theorem w_product (l : Launch) (g : Lay) (sz : Nat) (f : Nat → va_E) (M : Nat) (x : Nat) (y : Nat) (vx : Int) (vy : Int) (hLI : Nat → Int32) (hSI : Nat → Int32) (hRE : Nat → Int32) (hL : LO g) (t_M : g.tg M = 11) (hI : IV g f) (eLI : f (g.lk M 30) = .inl (g.ac (g.lk M 30), 1600, .inl hLI)) (eSI : f (g.lk M 31) = .inl (g.ac (g.lk M 31), 80, .inl hSI)) (eRE : f (g.lk M 33) = .inl (g.ac (g.lk M 33), 44, .inl hRE)) (c6LI : C6 1600 hLI) (c6RE : C6 44 hRE) (hx9 : x < 80) (hy9 : y < 80) (hz0 : ∀ k, k < 44 → dg hRE k = 0) (hvx : SV hLI hSI x vx) (hvy : SV hLI hSI y vy) : Met l ⟨"BigRunnerModel", "product", "(II)I"⟩ [Cond.code ⟨"BigRunnerModel", "product", "(II)I"⟩ prog_12_method_32_code 9 (some .int)] ({ frames := 1, cells := 0, slots := 0, locals := 22 }) (va_Pc [.ref M, .int (nI x), .int (nI y)] (pc_in g sz f)) (va_Qi (fun r f1 => (∃ h1 : Nat → Int32, f1 (g.lk M 33) = .inl (g.ac (g.lk M 33), 44, .inl h1) ∧ C6 44 h1 ∧ SR r (kw (dg h1) 44) (vx * vy)) ∧ (IV g f1) ∧ (∀ b, b ≠ (g.lk M 33) → f1 b = f b)) (pc_out g sz) (pc_A g sz)) 0 0 (pc_A g sz) := by
  refine pe_ofW (cc := prog_12_method_32_code) (maxL := 9) (ret := (some .int)) (lv := [(0, .ref M), (1, .int (nI x)), (2, .int (nI y))]) (by decide) (Nat.le_of_ble_eq_true rfl) rfl ?_
  intro p e s m args below meth c ls hx hb hr hml hlocks hown hB hP hK hD hsz hS hl
  subst hsz
  have hu : ∀ b, b ≠ (g.lk M 33) → f b = f b := fun _ _ => rfl
  refine lv_iconst (v := nI 0) hx hb d_M_product_0 (by decide) ?_
  refine lv_istore_n (lv' := [(3, .int (nI 0)), (0, .ref M), (1, .int (nI x)), (2, .int (nI y))]) hx hb d_M_product_1 rfl hl (by decide) rfl (fun ls hl => ?_)
  have lp1 : ∀ (k3 : Nat) (i : Nat) (h : Nat → Int32) (f2 : Nat → va_E) (H : Heap) (locs : List Loc) (ls : Array Slot), (20 < i + k3) → (i ≤ 20) → (C6 44 h) → (∀ k, i + 20 ≤ k → k < 44 → dg h k = 0) → (kw (dg h) 44 = kw (l6 hLI x) i * sl hLI y) → f2 (g.lk M 33) = .inl (g.ac (g.lk M 33), 44, .inl (h)) → IV g f2 → un [64] g f f2 → (∀ b, b ≠ (g.lk M 33) → f2 b = f b) → lv_has ls 9 [(3, .int (nI i)), (0, .ref M), (1, .int (nI x)), (2, .int (nI y))] → va_P g.D vcl (va_pl g.LP f2) H → va_D (pc_A g s.heap.size) (va_pl g.LP f2) → va_S (pc_A g s.heap.size) s.heap H locs → W p l e ({ frames := 1, cells := 0, slots := 0, locals := 22 }) s m args below meth c H locs 0 0 (MQ below (va_Qi (fun r f1 => (∃ h1 : Nat → Int32, f1 (g.lk M 33) = .inl (g.ac (g.lk M 33), 44, .inl h1) ∧ C6 44 h1 ∧ SR r (kw (dg h1) 44) (vx * vy)) ∧ (IV g f1) ∧ (∀ b, b ≠ (g.lk M 33) → f1 b = f b)) (pc_out g s.heap.size) (pc_A g s.heap.size)) args s 0 0 (pc_A g s.heap.size)) (F0 m 2 ls []) := by
    intro k3
    induction k3 with
    | zero => intros; exfalso; omega
    | succ k3 ih4 =>
      intro i h f2 H locs ls hfu5 hi hc hzu he e6 hI7 hv8 hu hl hP hD hS
      have eLI := hv8.at (lo_k11_30 hL _ t_M) (by decide) eLI
      have eSI := hv8.at (lo_k11_31 hL _ t_M) (by decide) eSI
      refine lv_iload_n hx hb d_M_product_2 rfl (lv_at hl 0 rfl) ?_
      refine lv_bipush (v := nI 20) hx hb d_M_product_3 (by decide) ?_
      refine lv_icmp_ge (tgt := 89) hx hb d_M_product_5 (by decide) (fun b9 => ?_) (fun b9 => ?_)
      · skip
        replace b9 := (nI_leI (a := 20) (b := i) (by omega) (by omega)).mp b9
        refine lv_aload_n hx hb d_M_product_89 rfl (lv_at hl 1 rfl) ?_
        obtain ⟨th_11, n_12, dr_13, sz_14, ix_15, dp_16, wt_17, op_18, tp_19, wa_20, gi_21, pc_22, st_23, tr_24, sp_25, ma_26, lg_27, du_28, e10, c29, c30, c31, c32, c33, c34, c35, c36, c37, c38, c39, c40, c41, c42, c43⟩ := oc_11.of t_M (hI7.1 M)
        refine pf_get (v := .ref (g.lk M 31)) (C := "BigRunnerModel") (T := FT10) (N := 45) hx hb (hw10 hB _) (fun _ h9 => h9) hown hK hP (lo_in hL t_M (by decide)) e10 rfl 31 (by decide) (wd_978 hB _) rfl d_M_product_90 ?_
        refine lv_iload_n hx hb d_M_product_93 rfl (lv_at hl 2 rfl) ?_
        refine pf_iald (i := x) hx hb hK hP (lo_in hL (lo_k11_31 hL _ t_M) (by decide)) eSI (lo_t63 hL _ (lo_k11_31 hL _ t_M)) (by omega) (by decide) d_M_product_94 ?_
        refine lv_topi (fun z_ hz_ => ?_)
        obtain rfl : z_ = sgI vx := hz_.trans hvx.1
        refine lv_aload_n hx hb d_M_product_95 rfl (lv_at hl 1 rfl) ?_
        refine pf_get (v := .ref (g.lk M 31)) (C := "BigRunnerModel") (T := FT10) (N := 45) hx hb (hw10 hB _) (fun _ h9 => h9) hown hK hP (lo_in hL t_M (by decide)) e10 rfl 31 (by decide) (wd_978 hB _) rfl d_M_product_96 ?_
        refine lv_iload_n hx hb d_M_product_99 rfl (lv_at hl 3 rfl) ?_
        refine pf_iald (i := y) hx hb hK hP (lo_in hL (lo_k11_31 hL _ t_M) (by decide)) eSI (lo_t63 hL _ (lo_k11_31 hL _ t_M)) (by omega) (by decide) d_M_product_100 ?_
        refine lv_topi (fun z_ hz_ => ?_)
        obtain rfl : z_ = sgI vy := hz_.trans hvy.1
        refine lv_imul hx hb d_M_product_101 ?_
        exact pe_iret hx hb hr hlocks hK hP hD hS d_M_product_102 ⟨⟨_, e6, hc, by have y9 : i = 20 := (by omega); subst y9; refine ⟨?_, fun _ => sgI_mul vx vy⟩; exact pd_fin he hvx.2 hvy.2⟩, hI7, hu⟩
      · skip
        replace b9 := mt (nI_leI (a := 20) (b := i) (by omega) (by omega)).mpr b9
        refine lv_lconst (v := nL 0) hx hb d_M_product_8 (by decide) ?_
        refine lv_lstore (lv' := [(4, .long (nL 0)), (3, .int (nI i)), (0, .ref M), (1, .int (nI x)), (2, .int (nI y))]) hx hb d_M_product_9 hl (by decide) rfl (fun ls hl => ?_)
        refine lv_iconst (v := nI 0) hx hb d_M_product_11 (by decide) ?_
        refine lv_istore (lv' := [(6, .int (nI 0)), (4, .long (nL 0)), (3, .int (nI i)), (0, .ref M), (1, .int (nI x)), (2, .int (nI y))]) hx hb d_M_product_12 hl (by decide) rfl (fun ls hl => ?_)
        have lp44 : ∀ (k46 : Nat) (cy : Nat) (j : Nat) (h2 : Nat → Int32) (f45 : Nat → va_E) (H : Heap) (locs : List Loc) (ls : Array Slot), (21 < j + k46) → (cy < 1000000) → (j ≤ 21) → (C6 44 h2) → (j = 21 → cy = 0) → (∀ k, max (i + 20) (i + j) ≤ k → k < 44 → dg h2 k = 0) → (kw (dg h2) 44 + cy * 1000000 ^ (i + j) = kw (dg h) 44 + l6 hLI x i * kw (l6 hLI y) j * 1000000 ^ i) → f45 (g.lk M 33) = .inl (g.ac (g.lk M 33), 44, .inl (h2)) → IV g f45 → un [64] g f2 f45 → (∀ b, b ≠ (g.lk M 33) → f45 b = f b) → lv_has ls 9 [(6, .int (nI j)), (4, .long (nL cy)), (3, .int (nI i)), (0, .ref M), (1, .int (nI x)), (2, .int (nI y))] → va_P g.D vcl (va_pl g.LP f45) H → va_D (pc_A g s.heap.size) (va_pl g.LP f45) → va_S (pc_A g s.heap.size) s.heap H locs → W p l e ({ frames := 1, cells := 0, slots := 0, locals := 22 }) s m args below meth c H locs 0 0 (MQ below (va_Qi (fun r f1 => (∃ h1 : Nat → Int32, f1 (g.lk M 33) = .inl (g.ac (g.lk M 33), 44, .inl h1) ∧ C6 44 h1 ∧ SR r (kw (dg h1) 44) (vx * vy)) ∧ (IV g f1) ∧ (∀ b, b ≠ (g.lk M 33) → f1 b = f b)) (pc_out g s.heap.size) (pc_A g s.heap.size)) args s 0 0 (pc_A g s.heap.size)) (F0 m 14 ls []) := by
          intro k46
          induction k46 with
          | zero => intros; exfalso; omega
          | succ k46 ih47 =>
            intro cy j h2 f45 H locs ls hfu48 hcy hj hc2 hcz hzv hee e49 hI50 hv51 hu hl hP hD hS
            have eLI := hv51.at (lo_k11_30 hL _ t_M) (by decide) eLI
            have eSI := hv51.at (lo_k11_31 hL _ t_M) (by decide) eSI
            have hv8 := hv8.tr hv51 (by decide)
            refine lv_iload hx hb d_M_product_14 (lv_at hl 0 rfl) ?_
            refine lv_bipush (v := nI 21) hx hb d_M_product_16 (by decide) ?_
            refine lv_icmp_ge (tgt := 83) hx hb d_M_product_18 (by decide) (fun b52 => ?_) (fun b52 => ?_)
            · skip
              replace b52 := (nI_leI (a := 21) (b := j) (by omega) (by omega)).mp b52
              refine lv_iinc (k := 2) (v := nI (i + 1)) (lv' := [(3, .int (nI (i + 1))), (6, .int (nI j)), (4, .long (nL cy)), (0, .ref M), (1, .int (nI x)), (2, .int (nI y))]) hx hb d_M_product_83 hl rfl (by rw [nI_succ]; rfl) (by decide) rfl (fun ls hl => ?_)
              refine lv_goto (tgt := 2) hx hb d_M_product_86 (by decide) ?_
              have hl : lv_has ls 9 [(3, .int (nI (i + 1))), (0, .ref M), (1, .int (nI x)), (2, .int (nI y))] := lv_sub hl [0, 3, 4, 5] rfl
              exact ih4 (i + 1) h2 f45 H locs ls (by omega) (by omega) hc2 (fun k q1 q2 => hzv k (by omega) q2) (by have y9 : j = 21 := (by omega); subst y9; exact sp6_out (hcz (by omega)) (kw_l6 (by omega)) he hee) e49 hI50 hv8 hu hl hP hD hS
            · skip
              replace b52 := mt (nI_leI (a := 21) (b := j) (by omega) (by omega)).mpr b52
              refine lv_aload_n hx hb d_M_product_21 rfl (lv_at hl 3 rfl) ?_
              obtain ⟨th_54, n_55, dr_56, sz_57, ix_58, dp_59, wt_60, op_61, tp_62, wa_63, gi_64, pc_65, st_66, tr_67, sp_68, ma_69, lg_70, du_71, e53, c72, c73, c74, c75, c76, c77, c78, c79, c80, c81, c82, c83, c84, c85, c86⟩ := oc_11.of t_M (hI50.1 M)
              refine pf_get (v := .ref (g.lk M 33)) (C := "BigRunnerModel") (T := FT10) (N := 45) hx hb (hw10 hB _) (fun _ h9 => h9) hown hK hP (lo_in hL t_M (by decide)) e53 rfl 33 (by decide) (wd_980 hB _) rfl d_M_product_22 ?_
              refine lv_iload_n hx hb d_M_product_25 rfl (lv_at hl 2 rfl) ?_
              refine lv_iload hx hb d_M_product_26 (lv_at hl 0 rfl) ?_
              refine pf_iaddN (x := i) (y := j) hx hb d_M_product_28 ?_
              refine pf_iald (i := i + j) hx hb hK hP (lo_in hL (lo_k11_33 hL _ t_M) (by decide)) e49 (lo_t64 hL _ (lo_k11_33 hL _ t_M)) (by omega) (by decide) d_M_product_29 ?_
              have hd87 := dg6_lt hc2 (j := i + j) (by omega)
              refine lv_topi (fun z_ hz_ => ?_)
              obtain rfl : z_ = nI (dg h2 (i + j)) := hz_.trans (dg6_eq hc2 (by omega))
              refine pf_i2lN hx hb (by omega) d_M_product_30 ?_
              refine lv_aload_n hx hb d_M_product_31 rfl (lv_at hl 3 rfl) ?_
              refine lv_iload_n hx hb d_M_product_32 rfl (lv_at hl 4 rfl) ?_
              refine lv_iload_n hx hb d_M_product_33 rfl (lv_at hl 2 rfl) ?_
              refine pcc_i (va_runV (C := "BigRunnerModel") (As := [.int (nI x), .int (nI i)]) (rest := [.long (nL (dg h2 (i + j)))]) ⟨hx, hb, hml, hown, tb_nil⟩ (w_limb l g H.size f45 M x i hLI hL t_M hI50.1 eLI c6LI (by omega) (by omega)) ⟨(callB_of 2 (tb_one (wd_1232 hB _)) tb_good1 rfl rfl rfl (wd_82 hB _) (wd_1229 hB _) (by decide +kernel) ⟨Nat.le_of_ble_eq_true rfl, Nat.le_of_ble_eq_true rfl⟩), (wd_1231 hB _), (wd_64 hB _)⟩ ⟨pe_bl, pg_recv (ci := 10) hK hP (lo_in hL t_M (by decide)) e53 rfl, pe_pre hB hK hP hD⟩ rfl rfl hl.1 rfl (lv_room (Nat.le_of_ble_eq_true rfl)) d_M_product_34 ⟨Nat.le_of_ble_eq_true rfl, Nat.le_of_ble_eq_true rfl⟩) hS (fun r88 f89 H locs hq90 hP hD hS => ?_)
              obtain ⟨qv_91, rfl⟩ := hq90
              subst qv_91
              have hm92 : l6 hLI x i < 1000000 := l6_lt c6LI (by omega) _
              refine pf_i2lN hx hb (by omega) d_M_product_37 ?_
              refine lv_aload_n hx hb d_M_product_38 rfl (lv_at hl 3 rfl) ?_
              refine lv_iload_n hx hb d_M_product_39 rfl (lv_at hl 5 rfl) ?_
              refine lv_iload hx hb d_M_product_40 (lv_at hl 0 rfl) ?_
              refine pcc_i (va_runV (C := "BigRunnerModel") (As := [.int (nI y), .int (nI j)]) (rest := [.long (nL (l6 hLI x i)), .long (nL (dg h2 (i + j)))]) ⟨hx, hb, hml, hown, tb_nil⟩ (w_limb l g H.size f45 M y j hLI hL t_M hI50.1 eLI c6LI (by omega) (by omega)) ⟨(callB_of 2 (tb_one (wd_1232 hB _)) tb_good1 rfl rfl rfl (wd_82 hB _) (wd_1229 hB _) (by decide +kernel) ⟨Nat.le_of_ble_eq_true rfl, Nat.le_of_ble_eq_true rfl⟩), (wd_1231 hB _), (wd_64 hB _)⟩ ⟨pe_bl, pg_recv (ci := 10) hK hP (lo_in hL t_M (by decide)) e53 rfl, pe_pre hB hK hP hD⟩ rfl rfl hl.1 rfl (lv_room (Nat.le_of_ble_eq_true rfl)) d_M_product_42 ⟨Nat.le_of_ble_eq_true rfl, Nat.le_of_ble_eq_true rfl⟩) hS (fun r93 f94 H locs hq95 hP hD hS => ?_)
              obtain ⟨qv_96, rfl⟩ := hq95
              subst qv_96
              have hm97 : l6 hLI y j < 1000000 := l6_lt c6LI (by omega) _
              refine pf_i2lN hx hb (by omega) d_M_product_45 ?_
              refine pf_lmulN (x := l6 hLI x i) (y := l6 hLI y j) hx hb d_M_product_46 ?_
              have hm98 : (l6 hLI x i) * (l6 hLI y j) ≤ 999999 * 999999 := Nat.mul_le_mul (by omega) (by omega)
              refine pf_laddN (x := dg h2 (i + j)) (y := (l6 hLI x i) * (l6 hLI y j)) hx hb d_M_product_47 ?_
              refine lv_lload hx hb d_M_product_48 (lv_at hl 1 rfl) ?_
              refine pf_laddN (x := (dg h2 (i + j)) + ((l6 hLI x i) * (l6 hLI y j))) (y := cy) hx hb d_M_product_50 ?_
              refine lv_lstore (lv' := [(7, .long (nL (((dg h2 (i + j)) + ((l6 hLI x i) * (l6 hLI y j))) + cy))), (6, .int (nI j)), (4, .long (nL cy)), (3, .int (nI i)), (0, .ref M), (1, .int (nI x)), (2, .int (nI y))]) hx hb d_M_product_51 hl (by decide) rfl (fun ls hl => ?_)
              refine lv_aload_n hx hb d_M_product_53 rfl (lv_at hl 4 rfl) ?_
              refine pf_get (v := .ref (g.lk M 33)) (C := "BigRunnerModel") (T := FT10) (N := 45) hx hb (hw10 hB _) (fun _ h9 => h9) hown hK hP (lo_in hL t_M (by decide)) e53 rfl 33 (by decide) (wd_980 hB _) rfl d_M_product_54 ?_
              refine lv_iload_n hx hb d_M_product_57 rfl (lv_at hl 3 rfl) ?_
              refine lv_iload hx hb d_M_product_58 (lv_at hl 1 rfl) ?_
              refine pf_iaddN (x := i) (y := j) hx hb d_M_product_60 ?_
              refine lv_lload hx hb d_M_product_61 (lv_at hl 0 rfl) ?_
              refine lv_ldc2 (v := 1000000) hx hb hown (wd_1233 hB _) d_M_product_63 ?_
              refine lv_topl (fun z_ hz_ => ?_)
              obtain rfl : z_ = nL 1000000 := hz_
              refine pf_lremN (x := ((dg h2 (i + j)) + ((l6 hLI x i) * (l6 hLI y j))) + cy) (y := 1000000) hx hb (by omega) (by omega) (by omega) d_M_product_66 ?_
              refine pf_l2iN hx hb d_M_product_67 ?_
              refine pf_iast (i := i + j) hx hb hK hP hD hS (lo_in hL (lo_k11_33 hL _ t_M) (by decide)) e49 (lo_t64 hL _ (lo_k11_33 hL _ t_M)) (by omega) (by decide) d_M_product_68 (fun f99 H locs e100 k101 hP hD hS => ?_)
              have eLI := (k101 (g.lk M 30) (tg_ne (lo_k11_30 hL _ t_M) (lo_k11_33 hL _ t_M) (by decide))).trans eLI
              have eSI := (k101 (g.lk M 31) (tg_ne (lo_k11_31 hL _ t_M) (lo_k11_33 hL _ t_M) (by decide))).trans eSI
              have e53 := (k101 M (tg_ne t_M (lo_k11_33 hL _ t_M) (by decide))).trans e53
              have hu : ∀ b, b ≠ (g.lk M 33) → f99 b = f b := fun b q0 => (k101 b q0).trans (hu b q0)
              have hv8 := hv8.st k101 (lo_k11_33 hL _ t_M) (by decide)
              have hv51 := hv51.st k101 (lo_k11_33 hL _ t_M) (by decide)
              have hk102 : ∀ b, b ≠ (g.lk M 33) → f99 b = f45 b := k101
              have c103 := lb6_upd (n := 44) (i := i + j) (v := (((dg h2 (i + j)) + ((l6 hLI x i) * (l6 hLI y j))) + cy) % 1000000) hc2 (by omega)
              refine lv_lload hx hb d_M_product_69 (lv_at hl 0 rfl) ?_
              refine lv_ldc2 (v := 1000000) hx hb hown (wd_1233 hB _) d_M_product_71 ?_
              refine lv_topl (fun z_ hz_ => ?_)
              obtain rfl : z_ = nL 1000000 := hz_
              refine pf_ldivN (x := ((dg h2 (i + j)) + ((l6 hLI x i) * (l6 hLI y j))) + cy) (y := 1000000) hx hb (by omega) (by omega) (by omega) d_M_product_74 ?_
              refine lv_lstore (lv' := [(4, .long (nL ((((dg h2 (i + j)) + ((l6 hLI x i) * (l6 hLI y j))) + cy) / 1000000))), (7, .long (nL (((dg h2 (i + j)) + ((l6 hLI x i) * (l6 hLI y j))) + cy))), (6, .int (nI j)), (3, .int (nI i)), (0, .ref M), (1, .int (nI x)), (2, .int (nI y))]) hx hb d_M_product_75 hl (by decide) rfl (fun ls hl => ?_)
              refine lv_iinc (k := 2) (v := nI (j + 1)) (lv' := [(6, .int (nI (j + 1))), (4, .long (nL ((((dg h2 (i + j)) + ((l6 hLI x i) * (l6 hLI y j))) + cy) / 1000000))), (7, .long (nL (((dg h2 (i + j)) + ((l6 hLI x i) * (l6 hLI y j))) + cy))), (3, .int (nI i)), (0, .ref M), (1, .int (nI x)), (2, .int (nI y))]) hx hb d_M_product_77 hl rfl (by rw [nI_succ]; rfl) (by decide) rfl (fun ls hl => ?_)
              refine lv_goto (tgt := 14) hx hb d_M_product_80 (by decide) ?_
              have hI104 := iv_1 hI50 hL (lo_k11_33 hL _ t_M) (by decide) hk102 (oc_64.mk (lo_k11_33 hL _ t_M) (⟨_, e100⟩))
              have hl : lv_has ls 9 [(6, .int (nI (j + 1))), (4, .long (nL ((((dg h2 (i + j)) + ((l6 hLI x i) * (l6 hLI y j))) + cy) / 1000000))), (3, .int (nI i)), (0, .ref M), (1, .int (nI x)), (2, .int (nI y))] := lv_sub hl [0, 1, 3, 4, 5, 6] rfl
              exact ih47 ((((dg h2 (i + j)) + ((l6 hLI x i) * (l6 hLI y j))) + cy) / 1000000) (j + 1) (upd h2 (i + j) ((nI ((((dg h2 (i + j)) + ((l6 hLI x i) * (l6 hLI y j))) + cy) % 1000000)))) f99 H locs ls (by omega) (by omega) (by omega) c103 (fun z9 => by have y9 : j = 20 := (by omega); subst y9; have y8 := hzv (i + 20) (by omega) (by omega); have y7 : l6 hLI y 20 = 0 := rfl; rw [y8, y7]; omega) (fun k q1 q2 => by rw [dg_ne (by omega)]; exact hzv k (by omega) q2) (sp6_step (z := l6 hLI y) (by omega) hee) e100 hI104 hv51 hu hl hP hD hS
        exact lp44 22 0 0 h f2 H locs ls (by omega) (by omega) (by omega) hc (fun z9 => absurd z9 (by omega)) (fun k q1 q2 => hzu k (by omega) q2) (sp6_0 _ _ _ _ _) e6 hI7 un.rf hu hl hP hD hS
  exact lp1 21 0 hRE f s.heap [] ls (by omega) (by omega) c6RE (fun k _ q2 => hz0 k q2) (by rw [kw_z hz0]; exact (Nat.zero_mul _).symm) eRE hI un.rf hu hl hP hD hS
theorem kp_sv {hl hs hR : Nat → Int32} {k : Nat} {sg x : Int32} {v : Int} (cR : C6 44 hR) (hf : kw (dg hR) 44 < T12) (hq : ∀ j, j < 20 → dg hl (20 * k + j) = dg hR j) (hsr : SR sg (kw (dg hR) 44) v) (hx : hs k = x) (hc : (x = nI 0 ∧ ∀ j, j < 20 → dg hR j = 0) ∨ (x = sg ∧ ∃ j, j < 20 ∧ dg hR j ≠ 0)) : SV hl hs k v := by
  have hup : kw (dg hR) 44 = kw (dg hR) 20 := by
    have e : kw (dg hR) 44 = kw (dg hR) 20 + kw (fun i => dg hR (20 + i)) 24 * 1000000 ^ 20 := kw_sp (dg hR) 20 24
    have : kw (fun i => dg hR (20 + i)) 24 = 0 := by
      rcases Nat.eq_zero_or_pos (kw (fun i => dg hR (20 + i)) 24) with q | q
      · exact q
      · have h1 := Nat.mul_le_mul_right (1000000 ^ 20) q
        have h2 := pw_20
        rw [h2] at h1 e
        omega
    rw [this, Nat.zero_mul, Nat.add_zero] at e
    exact e
  have hsl : sl hl k = v.natAbs := by
    rw [← hsr.1, hup]
    exact kw_eq (fun j hj => (if_pos hj).trans (hq j hj))
  refine ⟨?_, hsl⟩
  rcases hc with ⟨e, hz⟩ | ⟨e, j, hj, hn⟩
  · have : v = 0 := by
      have := hsr.1
      rw [hup, kw_z hz] at this
      omega
    rw [hx, e, this]; rfl
  · have hv : v ≠ 0 := fun z => by
      have h0 := hsr.1
      rw [hup, z] at h0
      have : ∀ n j, j < n → kw (dg hR) n = 0 → dg hR j = 0 := by
        intro n
        induction n with
        | zero => intro j h; omega
        | succ n ih =>
          intro j h e
          rw [kw_s] at e
          by_cases q : j = n
          · subst q
            rcases Nat.eq_zero_or_pos (dg hR j) with y | y
            · exact y
            · have := Nat.mul_pos y (km_pos j); omega
          · exact ih j (by omega) (by omega)
      exact hn (this 20 j hj (h0.trans Int.natAbs_zero))
    rw [hx, e]
    exact hsr.2 hv
set_option maxHeartbeats 4000000 in
set_option maxRecDepth 100000 in
theorem w_keep (l : Launch) (g : Lay) (sz : Nat) (f : Nat → va_E) (M : Nat) (k9 : Nat) (sg : Int32) (v : Int) (hLI : Nat → Int32) (hSI : Nat → Int32) (hRE : Nat → Int32) (hL : LO g) (t_M : g.tg M = 11) (hI : IV g f) (eLI : f (g.lk M 30) = .inl (g.ac (g.lk M 30), 1600, .inl hLI)) (eSI : f (g.lk M 31) = .inl (g.ac (g.lk M 31), 80, .inl hSI)) (eRE : f (g.lk M 33) = .inl (g.ac (g.lk M 33), 44, .inl hRE)) (c6LI : C6 1600 hLI) (c6RE : C6 44 hRE) (hk : k9 < 80) (hsr : SR sg (kw (dg hRE) 44) v) (hfit : kw (dg hRE) 44 < T12) : Met l ⟨"BigRunnerModel", "keep", "(II)V"⟩ [Cond.code ⟨"BigRunnerModel", "keep", "(II)V"⟩ prog_12_method_36_code 5 none] ({ frames := 0, cells := 0, slots := 0, locals := 0 }) (va_Pc [.ref M, .int (nI k9), .int sg] (pc_in g sz f)) (va_Qv (fun f1 => (∃ (hl hs : Nat → Int32), f1 (g.lk M 30) = .inl (g.ac (g.lk M 30), 1600, .inl hl) ∧ f1 (g.lk M 31) = .inl (g.ac (g.lk M 31), 80, .inl hs) ∧ C6 1600 hl ∧ SV hl hs k9 v ∧ SF k9 hLI hl ∧ ∀ j, j ≠ k9 → hs j = hSI j) ∧ (IV g f1) ∧ (∀ b, b ≠ (g.lk M 30) → b ≠ (g.lk M 31) → f1 b = f b)) (pc_out g sz) (pc_A g sz)) 0 0 (pc_A g sz) := by
  refine pe_ofW (cc := prog_12_method_36_code) (maxL := 5) (ret := none) (lv := [(0, .ref M), (1, .int (nI k9)), (2, .int sg)]) (by decide) (Nat.le_of_ble_eq_true rfl) rfl ?_
  intro p e s m args below meth c ls hx hb hr hml hlocks hown hB hP hK hD hsz hS hl
  subst hsz
  have hu : ∀ b, b ≠ (g.lk M 30) → b ≠ (g.lk M 31) → f b = f b := fun _ _ _  => rfl
  refine lv_iconst (v := nI 0) hx hb d_M_keep_0 (by decide) ?_
  refine lv_istore_n (lv' := [(3, .int (nI 0)), (0, .ref M), (1, .int (nI k9)), (2, .int sg)]) hx hb d_M_keep_1 rfl hl (by decide) rfl (fun ls hl => ?_)
  refine lv_iconst (v := nI 0) hx hb d_M_keep_2 (by decide) ?_
  refine lv_istore (lv' := [(4, .int (nI 0)), (3, .int (nI 0)), (0, .ref M), (1, .int (nI k9)), (2, .int sg)]) hx hb d_M_keep_3 hl (by decide) rfl (fun ls hl => ?_)
  have lp1 : ∀ (k3 : Nat) (sm : Nat) (i : Nat) (h : Nat → Int32) (f2 : Nat → va_E) (H : Heap) (locs : List Loc) (ls : Array Slot), (20 < i + k3) → (sm ≤ 1) → (i ≤ 20) → (C6 1600 h) → (∀ j, j < i → dg h (20 * k9 + j) = dg hRE j) → (SF k9 hLI h) → (sm = 0 → ∀ j, j < i → dg hRE j = 0) → (sm = 1 → ∃ j, j < i ∧ dg hRE j ≠ 0) → f2 (g.lk M 30) = .inl (g.ac (g.lk M 30), 1600, .inl (h)) → IV g f2 → un [62] g f f2 → (∀ b, b ≠ (g.lk M 30) → b ≠ (g.lk M 31) → f2 b = f b) → lv_has ls 5 [(4, .int (nI i)), (3, .int (nI sm)), (0, .ref M), (1, .int (nI k9)), (2, .int sg)] → va_P g.D vcl (va_pl g.LP f2) H → va_D (pc_A g s.heap.size) (va_pl g.LP f2) → va_S (pc_A g s.heap.size) s.heap H locs → W p l e ({ frames := 0, cells := 0, slots := 0, locals := 0 }) s m args below meth c H locs 0 0 (MQ below (va_Qv (fun f1 => (∃ (hl hs : Nat → Int32), f1 (g.lk M 30) = .inl (g.ac (g.lk M 30), 1600, .inl hl) ∧ f1 (g.lk M 31) = .inl (g.ac (g.lk M 31), 80, .inl hs) ∧ C6 1600 hl ∧ SV hl hs k9 v ∧ SF k9 hLI hl ∧ ∀ j, j ≠ k9 → hs j = hSI j) ∧ (IV g f1) ∧ (∀ b, b ≠ (g.lk M 30) → b ≠ (g.lk M 31) → f1 b = f b)) (pc_out g s.heap.size) (pc_A g s.heap.size)) args s 0 0 (pc_A g s.heap.size)) (F0 m 5 ls []) := by
    intro k3
    induction k3 with
    | zero => intros; exfalso; omega
    | succ k3 ih4 =>
      intro sm i h f2 H locs ls hfu5 hsm hi hc hq hsf hs0 hs1 e6 hI7 hv8 hu hl hP hD hS
      have eSI := hv8.at (lo_k11_31 hL _ t_M) (by decide) eSI
      have eRE := hv8.at (lo_k11_33 hL _ t_M) (by decide) eRE
      refine lv_iload hx hb d_M_keep_5 (lv_at hl 0 rfl) ?_
      refine lv_bipush (v := nI 20) hx hb d_M_keep_7 (by decide) ?_
      refine lv_icmp_ge (tgt := 57) hx hb d_M_keep_9 (by decide) (fun b9 => ?_) (fun b9 => ?_)
      · skip
        replace b9 := (nI_leI (a := 20) (b := i) (by omega) (by omega)).mp b9
        refine lv_aload_n hx hb d_M_keep_57 rfl (lv_at hl 2 rfl) ?_
        obtain ⟨th_11, n_12, dr_13, sz_14, ix_15, dp_16, wt_17, op_18, tp_19, wa_20, gi_21, pc_22, st_23, tr_24, sp_25, ma_26, lg_27, du_28, e10, c29, c30, c31, c32, c33, c34, c35, c36, c37, c38, c39, c40, c41, c42, c43⟩ := oc_11.of t_M (hI7.1 M)
        refine pf_get (v := .ref (g.lk M 31)) (C := "BigRunnerModel") (T := FT10) (N := 45) hx hb (hw10 hB _) (fun _ h9 => h9) hown hK hP (lo_in hL t_M (by decide)) e10 rfl 31 (by decide) (wd_978 hB _) rfl d_M_keep_58 ?_
        refine lv_iload_n hx hb d_M_keep_61 rfl (lv_at hl 3 rfl) ?_
        refine lv_iload_n hx hb d_M_keep_62 rfl (lv_at hl 1 rfl) ?_
        refine lv_if_eq (tgt := 70) hx hb d_M_keep_63 (by decide) (fun b44 => ?_) (fun b44 => ?_)
        · skip
          replace b44 := (nI_eq (a := sm) (b := 0) (by omega) (by omega)).mp b44
          refine lv_iconst (v := nI 0) hx hb d_M_keep_70 (by decide) ?_
          refine pf_iast (i := k9) hx hb hK hP hD hS (lo_in hL (lo_k11_31 hL _ t_M) (by decide)) eSI (lo_t63 hL _ (lo_k11_31 hL _ t_M)) (by omega) (by decide) d_M_keep_71 (fun f45 H locs e46 k47 hP hD hS => ?_)
          have eRE := (k47 (g.lk M 33) (tg_ne (lo_k11_33 hL _ t_M) (lo_k11_31 hL _ t_M) (by decide))).trans eRE
          have e6 := (k47 (g.lk M 30) (tg_ne (lo_k11_30 hL _ t_M) (lo_k11_31 hL _ t_M) (by decide))).trans e6
          have e10 := (k47 M (tg_ne t_M (lo_k11_31 hL _ t_M) (by decide))).trans e10
          have hu : ∀ b, b ≠ (g.lk M 30) → b ≠ (g.lk M 31) → f45 b = f b := fun b q0 q1 => (k47 b q1).trans (hu b q0 q1)
          have hk48 : ∀ b, b ≠ (g.lk M 31) → f45 b = f2 b := k47
          have hI49 := iv_1 hI7 hL (lo_k11_31 hL _ t_M) (by decide) hk48 (oc_63.mk (lo_k11_31 hL _ t_M) (⟨_, e46⟩))
          exact pe_vret hx hb hr hlocks hK hP hD hS d_M_keep_72 ⟨⟨_, _, e6, e46, hc, kp_sv c6RE hfit (fun j hj => hq j (by omega)) hsr (upd_at _ _ _) (by first | exact Or.inl ⟨rfl, fun j hj => hs0 (by omega) j (by omega)⟩ | exact Or.inr ⟨rfl, by obtain ⟨j, j1, j2⟩ := hs1 (by omega); exact ⟨j, by omega, j2⟩⟩), hsf, fun j hj => upd_ne _ _ hj⟩, hI49, hu⟩
        · skip
          replace b44 := mt (nI_eq (a := sm) (b := 0) (by omega) (by omega)).mpr b44
          refine lv_iload_n hx hb d_M_keep_66 rfl (lv_at hl 4 rfl) ?_
          refine lv_goto (tgt := 71) hx hb d_M_keep_67 (by decide) ?_
          refine pf_iast (i := k9) hx hb hK hP hD hS (lo_in hL (lo_k11_31 hL _ t_M) (by decide)) eSI (lo_t63 hL _ (lo_k11_31 hL _ t_M)) (by omega) (by decide) d_M_keep_71 (fun f50 H locs e51 k52 hP hD hS => ?_)
          have eRE := (k52 (g.lk M 33) (tg_ne (lo_k11_33 hL _ t_M) (lo_k11_31 hL _ t_M) (by decide))).trans eRE
          have e6 := (k52 (g.lk M 30) (tg_ne (lo_k11_30 hL _ t_M) (lo_k11_31 hL _ t_M) (by decide))).trans e6
          have e10 := (k52 M (tg_ne t_M (lo_k11_31 hL _ t_M) (by decide))).trans e10
          have hu : ∀ b, b ≠ (g.lk M 30) → b ≠ (g.lk M 31) → f50 b = f b := fun b q0 q1 => (k52 b q1).trans (hu b q0 q1)
          have hk53 : ∀ b, b ≠ (g.lk M 31) → f50 b = f2 b := k52
          have hI54 := iv_1 hI7 hL (lo_k11_31 hL _ t_M) (by decide) hk53 (oc_63.mk (lo_k11_31 hL _ t_M) (⟨_, e51⟩))
          exact pe_vret hx hb hr hlocks hK hP hD hS d_M_keep_72 ⟨⟨_, _, e6, e51, hc, kp_sv c6RE hfit (fun j hj => hq j (by omega)) hsr (upd_at _ _ _) (by first | exact Or.inl ⟨rfl, fun j hj => hs0 (by omega) j (by omega)⟩ | exact Or.inr ⟨rfl, by obtain ⟨j, j1, j2⟩ := hs1 (by omega); exact ⟨j, by omega, j2⟩⟩), hsf, fun j hj => upd_ne _ _ hj⟩, hI54, hu⟩
      · skip
        replace b9 := mt (nI_leI (a := 20) (b := i) (by omega) (by omega)).mpr b9
        refine lv_aload_n hx hb d_M_keep_12 rfl (lv_at hl 2 rfl) ?_
        obtain ⟨th_56, n_57, dr_58, sz_59, ix_60, dp_61, wt_62, op_63, tp_64, wa_65, gi_66, pc_67, st_68, tr_69, sp_70, ma_71, lg_72, du_73, e55, c74, c75, c76, c77, c78, c79, c80, c81, c82, c83, c84, c85, c86, c87, c88⟩ := oc_11.of t_M (hI7.1 M)
        refine pf_get (v := .ref (g.lk M 30)) (C := "BigRunnerModel") (T := FT10) (N := 45) hx hb (hw10 hB _) (fun _ h9 => h9) hown hK hP (lo_in hL t_M (by decide)) e55 rfl 30 (by decide) (wd_977 hB _) rfl d_M_keep_13 ?_
        refine lv_bipush (v := nI 20) hx hb d_M_keep_16 (by decide) ?_
        refine lv_iload_n hx hb d_M_keep_18 rfl (lv_at hl 3 rfl) ?_
        refine pf_imulN (x := 20) (y := k9) hx hb d_M_keep_19 ?_
        refine lv_iload hx hb d_M_keep_20 (lv_at hl 0 rfl) ?_
        refine pf_iaddN (x := 20 * k9) (y := i) hx hb d_M_keep_22 ?_
        refine lv_aload_n hx hb d_M_keep_23 rfl (lv_at hl 2 rfl) ?_
        refine pf_get (v := .ref (g.lk M 33)) (C := "BigRunnerModel") (T := FT10) (N := 45) hx hb (hw10 hB _) (fun _ h9 => h9) hown hK hP (lo_in hL t_M (by decide)) e55 rfl 33 (by decide) (wd_980 hB _) rfl d_M_keep_24 ?_
        refine lv_iload hx hb d_M_keep_27 (lv_at hl 0 rfl) ?_
        refine pf_iald (i := i) hx hb hK hP (lo_in hL (lo_k11_33 hL _ t_M) (by decide)) eRE (lo_t64 hL _ (lo_k11_33 hL _ t_M)) (by omega) (by decide) d_M_keep_29 ?_
        have hd89 := dg6_lt c6RE (j := i) (by omega)
        refine lv_topi (fun z_ hz_ => ?_)
        obtain rfl : z_ = nI (dg hRE i) := hz_.trans (dg6_eq c6RE (by omega))
        refine pf_iast (i := (20 * k9) + i) hx hb hK hP hD hS (lo_in hL (lo_k11_30 hL _ t_M) (by decide)) e6 (lo_t62 hL _ (lo_k11_30 hL _ t_M)) (by omega) (by decide) d_M_keep_30 (fun f90 H locs e91 k92 hP hD hS => ?_)
        have eSI := (k92 (g.lk M 31) (tg_ne (lo_k11_31 hL _ t_M) (lo_k11_30 hL _ t_M) (by decide))).trans eSI
        have eRE := (k92 (g.lk M 33) (tg_ne (lo_k11_33 hL _ t_M) (lo_k11_30 hL _ t_M) (by decide))).trans eRE
        have e55 := (k92 M (tg_ne t_M (lo_k11_30 hL _ t_M) (by decide))).trans e55
        have hu : ∀ b, b ≠ (g.lk M 30) → b ≠ (g.lk M 31) → f90 b = f b := fun b q0 q1 => (k92 b q0).trans (hu b q0 q1)
        have hv8 := hv8.st k92 (lo_k11_30 hL _ t_M) (by decide)
        have hk93 : ∀ b, b ≠ (g.lk M 30) → f90 b = f2 b := k92
        have c94 := lb6_upd (n := 1600) (i := (20 * k9) + i) (v := dg hRE i) hc (by omega)
        refine lv_iload_n hx hb d_M_keep_31 rfl (lv_at hl 1 rfl) ?_
        refine lv_if_ne (tgt := 45) hx hb d_M_keep_32 (by decide) (fun b95 => ?_) (fun b95 => ?_)
        · skip
          replace b95 := mt (nI_eq (a := sm) (b := 0) (by omega) (by omega)).mpr b95
          refine lv_iconst (v := nI 1) hx hb d_M_keep_45 (by decide) ?_
          refine lv_goto (tgt := 50) hx hb d_M_keep_46 (by decide) ?_
          refine lv_istore_n (lv' := [(3, .int (nI 1)), (4, .int (nI i)), (0, .ref M), (1, .int (nI k9)), (2, .int sg)]) hx hb d_M_keep_50 rfl hl (by decide) rfl (fun ls hl => ?_)
          refine lv_iinc (k := 1) (v := nI (i + 1)) (lv' := [(4, .int (nI (i + 1))), (3, .int (nI 1)), (0, .ref M), (1, .int (nI k9)), (2, .int sg)]) hx hb d_M_keep_51 hl rfl (by rw [nI_succ]; rfl) (by decide) rfl (fun ls hl => ?_)
          refine lv_goto (tgt := 5) hx hb d_M_keep_54 (by decide) ?_
          have hI96 := iv_1 hI7 hL (lo_k11_30 hL _ t_M) (by decide) hk93 (oc_62.mk (lo_k11_30 hL _ t_M) (⟨_, e91⟩))
          exact ih4 1 (i + 1) (upd h ((20 * k9) + i) ((nI (dg hRE i)))) f90 H locs ls (by omega) (by omega) (by omega) c94 (fun j hj => by rcases Nat.lt_or_ge j i with q3 | q3; rw [dg_ne (by omega)]; exact hq j q3; obtain rfl : j = i := (by omega); exact dg_at (by omega)) (SF_u hsf (by omega)) (fun z9 j hj => by rcases Nat.lt_or_ge j i with q3 | q3; exact hs0 (by omega) j q3; obtain rfl : j = i := (by omega); omega) (fun _ => by obtain ⟨j, j1, j2⟩ := hs1 (by omega); exact ⟨j, by omega, j2⟩) e91 hI96 hv8 hu hl hP hD hS
        · skip
          replace b95 := (nI_eq (a := sm) (b := 0) (by omega) (by omega)).mp b95
          refine lv_aload_n hx hb d_M_keep_35 rfl (lv_at hl 2 rfl) ?_
          refine pf_get (v := .ref (g.lk M 33)) (C := "BigRunnerModel") (T := FT10) (N := 45) hx hb (hw10 hB _) (fun _ h9 => h9) hown hK hP (lo_in hL t_M (by decide)) e55 rfl 33 (by decide) (wd_980 hB _) rfl d_M_keep_36 ?_
          refine lv_iload hx hb d_M_keep_39 (lv_at hl 0 rfl) ?_
          refine pf_iald (i := i) hx hb hK hP (lo_in hL (lo_k11_33 hL _ t_M) (by decide)) eRE (lo_t64 hL _ (lo_k11_33 hL _ t_M)) (by omega) (by decide) d_M_keep_41 ?_
          have hd97 := dg6_lt c6RE (j := i) (by omega)
          refine lv_topi (fun z_ hz_ => ?_)
          obtain rfl : z_ = nI (dg hRE i) := hz_.trans (dg6_eq c6RE (by omega))
          refine lv_if_eq (tgt := 49) hx hb d_M_keep_42 (by decide) (fun b98 => ?_) (fun b98 => ?_)
          · skip
            replace b98 := (nI_eq (a := dg hRE i) (b := 0) (by omega) (by omega)).mp b98
            refine lv_iconst (v := nI 0) hx hb d_M_keep_49 (by decide) ?_
            refine lv_istore_n (lv' := [(3, .int (nI 0)), (4, .int (nI i)), (0, .ref M), (1, .int (nI k9)), (2, .int sg)]) hx hb d_M_keep_50 rfl hl (by decide) rfl (fun ls hl => ?_)
            refine lv_iinc (k := 1) (v := nI (i + 1)) (lv' := [(4, .int (nI (i + 1))), (3, .int (nI 0)), (0, .ref M), (1, .int (nI k9)), (2, .int sg)]) hx hb d_M_keep_51 hl rfl (by rw [nI_succ]; rfl) (by decide) rfl (fun ls hl => ?_)
            refine lv_goto (tgt := 5) hx hb d_M_keep_54 (by decide) ?_
            have hI99 := iv_1 hI7 hL (lo_k11_30 hL _ t_M) (by decide) hk93 (oc_62.mk (lo_k11_30 hL _ t_M) (⟨_, e91⟩))
            exact ih4 0 (i + 1) (upd h ((20 * k9) + i) ((nI (dg hRE i)))) f90 H locs ls (by omega) (by omega) (by omega) c94 (fun j hj => by rcases Nat.lt_or_ge j i with q3 | q3; rw [dg_ne (by omega)]; exact hq j q3; obtain rfl : j = i := (by omega); exact dg_at (by omega)) (SF_u hsf (by omega)) (fun z9 j hj => by rcases Nat.lt_or_ge j i with q3 | q3; exact hs0 (by omega) j q3; obtain rfl : j = i := (by omega); omega) (fun z9 => absurd z9 (by omega)) e91 hI99 hv8 hu hl hP hD hS
          · skip
            replace b98 := mt (nI_eq (a := dg hRE i) (b := 0) (by omega) (by omega)).mpr b98
            refine lv_iconst (v := nI 1) hx hb d_M_keep_45 (by decide) ?_
            refine lv_goto (tgt := 50) hx hb d_M_keep_46 (by decide) ?_
            refine lv_istore_n (lv' := [(3, .int (nI 1)), (4, .int (nI i)), (0, .ref M), (1, .int (nI k9)), (2, .int sg)]) hx hb d_M_keep_50 rfl hl (by decide) rfl (fun ls hl => ?_)
            refine lv_iinc (k := 1) (v := nI (i + 1)) (lv' := [(4, .int (nI (i + 1))), (3, .int (nI 1)), (0, .ref M), (1, .int (nI k9)), (2, .int sg)]) hx hb d_M_keep_51 hl rfl (by rw [nI_succ]; rfl) (by decide) rfl (fun ls hl => ?_)
            refine lv_goto (tgt := 5) hx hb d_M_keep_54 (by decide) ?_
            have hI100 := iv_1 hI7 hL (lo_k11_30 hL _ t_M) (by decide) hk93 (oc_62.mk (lo_k11_30 hL _ t_M) (⟨_, e91⟩))
            exact ih4 1 (i + 1) (upd h ((20 * k9) + i) ((nI (dg hRE i)))) f90 H locs ls (by omega) (by omega) (by omega) c94 (fun j hj => by rcases Nat.lt_or_ge j i with q3 | q3; rw [dg_ne (by omega)]; exact hq j q3; obtain rfl : j = i := (by omega); exact dg_at (by omega)) (SF_u hsf (by omega)) (fun z9 j hj => by rcases Nat.lt_or_ge j i with q3 | q3; exact hs0 (by omega) j q3; obtain rfl : j = i := (by omega); omega) (fun _ => ⟨i, by omega, by omega⟩) e91 hI100 hv8 hu hl hP hD hS
  exact lp1 21 0 0 hLI f s.heap [] ls (by omega) (by omega) (by omega) c6LI (fun j hj => absurd hj (by omega)) (fun _ _ => rfl) (fun _ j hj => absurd hj (by omega)) (fun z => absurd z (by omega)) eLI hI un.rf hu hl hP hD hS

