set_option maxHeartbeats 4000000 in
set_option maxRecDepth 100000 in
theorem v_store (l : Launch) (g : Lay) (sz : Nat) (f : Nat → va_E) (X : Nat) (pr : Nat) (ix : Nat) (os : Nat) (st : Nat) (mo : Int32) (lo : Int32) (tr : Nat) (i : Nat) (v : Int64) (en : Nat → IVL) (vr : Nat → Int) (V : Int) (hL : LO g) (t_X : g.tg X = 9) (t_pr : g.tg pr = 7) (hI : IV g f) (eX : f X = .inr (8, [.ref pr, .ref (g.lk X 1), .int (nI ix), .ref (g.lk X 3), .ref (g.lk X 4), .ref (g.lk X 5), .ref (g.lk X 6), .ref (g.lk X 7), .int (nI os), .int (nI st), .int mo, .int lo, .int (nI tr)])) (hix : ix ≤ 36) (hos : os ≤ st) (hst : st ≤ 3000) (htr : tr ≤ 3) (hi : i < 10) (hvv : v.toInt = V) (hm9 : -9223372036854775808 < v.toInt) (hEV : EV g f pr en) (hV : VARS g f X en vr) : Met l ⟨"BigRunner$Runner", "store", "(IJ)V"⟩ [Cond.code ⟨"BigRunner$Runner", "store", "(IJ)V"⟩ prog_9_method_10_code 4 none] ({ frames := 2, cells := 0, slots := 0, locals := 65 }) (va_Pc [.ref X, .int (nI i), .long v] (pc_in g sz f)) (va_Qv (fun f1 => (VARS g f1 X en (uI vr i V)) ∧ (FV g f f1 X) ∧ (IV g f1) ∧ (un [5, 23, 27] g f f1)) (pc_out g sz) (pc_A g sz)) 0 0 (pc_A g sz) := by
  refine pe_ofW (cc := prog_9_method_10_code) (maxL := 4) (ret := none) (lv := [(0, .ref X), (1, .int (nI i)), (2, .long v)]) (by decide) (Nat.le_of_ble_eq_true rfl) rfl ?_
  intro p e s m args below meth c ls hx hb hr hml hlocks hown hB hP hK hD hsz hS hl
  subst hsz
  have hu : un [5, 23, 27] g f f := un.rf
  obtain ⟨hM, eM, hva⟩ := hV
  have evi := hEV.2 i hi
  have hu27 : un [27] g f f := un.rf
  refine lv_aload_n hx hb d_NRunner_store_0 rfl (lv_at hl 0 rfl) ?_
  refine pf_get (v := .ref pr) (C := "BigRunner$Runner") (T := FT8) (N := 13) hx hb (hw8 hB _) (fun _ h9 => h9) hown hK hP (lo_in hL t_X (by decide)) eX rfl 0 (by decide) (wd_330 hB _) rfl d_NRunner_store_1 ?_
  obtain ⟨sc_2, nc_3, e1, c4, c5⟩ := oc_7.of t_pr (hI.1 pr)
  refine pf_get (v := .ref (g.lk pr 4)) (C := "BigRunner$Program") (T := FT6) (N := 6) hx hb (hw6 hB _) (fun _ h9 => h9) hown hK hP (lo_in hL t_pr (by decide)) e1 rfl 4 (by decide) (wd_254 hB _) rfl d_NRunner_store_4 ?_
  refine lv_iload_n hx hb d_NRunner_store_7 rfl (lv_at hl 1 rfl) ?_
  have e6 := oc_26.of (lo_k7_4 hL _ t_pr) (hI.1 (g.lk pr 4))
  refine pf_aald (i := i) hx hb hK hP (lo_in hL (lo_k7_4 hL _ t_pr) (by decide)) e6 (lo_t26 hL _ (lo_k7_4 hL _ t_pr)) (by omega) (by decide) d_NRunner_store_8 ?_
  have t7 := lo_e26 hL _ (lo_k7_4 hL _ t_pr) i (by omega)
  refine pcc_i (va_runV (C := "BigRunner$Interval") (As := []) (rest := []) ⟨hx, hb, hml, hown, tb_nil⟩ (c2_isBounded l g s.heap.size f ((g.lk (g.lk pr 4) i)) ((cL ((en i)).1)) ((cH ((en i)).2)) hL t7 hI.1 evi) ⟨(callB_of 0 (tb_one (wd_440 hB _)) tb_good1 rfl rfl rfl (wd_75 hB _) (wd_730 hB _) (by decide +kernel) ⟨Nat.le_of_ble_eq_true rfl, Nat.le_of_ble_eq_true rfl⟩), (wd_438 hB _), (wd_439 hB _)⟩ ⟨pe_bl, pg_recv (ci := 2) hK hP (lo_in hL t7 (by decide)) evi rfl, pe_pre hB hK hP hD⟩ rfl rfl hl.1 rfl (lv_room (Nat.le_of_ble_eq_true rfl)) d_NRunner_store_9 ⟨Nat.le_of_ble_eq_true rfl, Nat.le_of_ble_eq_true rfl⟩) hS (fun r8 f9 H locs hq10 hP hD hS => ?_)
  obtain ⟨bo_11, i0_12, i1_13, rfl⟩ := hq10
  refine lv_if_eq (tgt := 25) hx hb d_NRunner_store_12 (by decide) (fun b14 => ?_) (fun b14 => ?_)
  · skip
    have hr15 : r8 = nI 0 := b14
    have hi16 := i0_12 hr15
    have hbd9 : ¬ bdd (en i) := (bdd_n (hEV.1 i)).mp (by assumption)
    refine lv_aload_n hx hb d_NRunner_store_25 rfl (lv_at hl 0 rfl) ?_
    refine pf_get (v := .ref (g.lk X 4)) (C := "BigRunner$Runner") (T := FT8) (N := 13) hx hb (hw8 hB _) (fun _ h9 => h9) hown hK hP (lo_in hL t_X (by decide)) eX rfl 4 (by decide) (wd_336 hB _) rfl d_NRunner_store_26 ?_
    refine lv_iload_n hx hb d_NRunner_store_29 rfl (lv_at hl 1 rfl) ?_
    have e17 := oc_28.of (lo_k9_4 hL _ t_X) (hI.1 (g.lk X 4))
    refine pf_aald (i := i) hx hb hK hP (lo_in hL (lo_k9_4 hL _ t_X) (by decide)) e17 (lo_t28 hL _ (lo_k9_4 hL _ t_X)) (by omega) (by decide) d_NRunner_store_30 ?_
    have t18 := lo_e28 hL _ (lo_k9_4 hL _ t_X) i (by omega)
    refine lv_lload_n hx hb d_NRunner_store_31 rfl (lv_at hl 2 rfl) ?_
    obtain ⟨sg_20, n_21, e19, c22⟩ := oc_5.of t18 (hI.1 (g.lk (g.lk X 4) i))
    refine pcc_v (va_runV (C := "BigRunner$LongNumber") (As := [.long v]) (rest := []) ⟨hx, hb, hml, hown, tb_nil⟩ (v_setTo l g H.size f ((g.lk (g.lk X 4) i)) v hL t18 hI hm9) ⟨(callB_of 1 (tb_one (wd_680 hB _)) tb_good1 rfl rfl rfl (wd_78 hB _) (wd_677 hB _) (by decide +kernel) ⟨Nat.le_of_ble_eq_true rfl, Nat.le_of_ble_eq_true rfl⟩), (wd_678 hB _), (wd_679 hB _)⟩ ⟨pe_bl, pg_recv (ci := 4) hK hP (lo_in hL t18 (by decide)) e19 rfl, pe_pre hB hK hP hD⟩ rfl rfl hl.1 rfl (lv_room (Nat.le_of_ble_eq_true rfl)) d_NRunner_store_32 ⟨Nat.le_of_ble_eq_true rfl, Nat.le_of_ble_eq_true rfl⟩) hS (fun f24 H locs hq25 hP hD hS => ?_)
    obtain ⟨lv_26, hI1_27, hk1_28⟩ := hq25
    have hu := hu.st2 hk1_28 t18 (lo_k5_2 hL _ t18) (by decide) (by decide)
    have eX := (hk1_28 X (tg_ne t_X t18 (by decide)) (tg_ne t_X (lo_k5_2 hL _ t18) (by decide))).trans eX
    have eM := (hk1_28 (g.lk X 3) (tg_ne (lo_k9_3 hL _ t_X) t18 (by decide)) (tg_ne (lo_k9_3 hL _ t_X) (lo_k5_2 hL _ t18) (by decide))).trans eM
    have evi := (hk1_28 (g.lk (g.lk pr 4) i) (tg_ne t7 t18 (by decide)) (tg_ne t7 (lo_k5_2 hL _ t18) (by decide))).trans evi
    have e1 := (hk1_28 pr (tg_ne t_pr t18 (by decide)) (tg_ne t_pr (lo_k5_2 hL _ t18) (by decide))).trans e1
    have e6 := (hk1_28 (g.lk pr 4) (tg_ne (lo_k7_4 hL _ t_pr) t18 (by decide)) (tg_ne (lo_k7_4 hL _ t_pr) (lo_k5_2 hL _ t18) (by decide))).trans e6
    have e17 := (hk1_28 (g.lk X 4) (tg_ne (lo_k9_4 hL _ t_X) t18 (by decide)) (tg_ne (lo_k9_4 hL _ t_X) (lo_k5_2 hL _ t18) (by decide))).trans e17
    obtain ⟨sg29, nn30, dd31, e32, e33, hN34⟩ := lv_26
    have c35 : ∀ i, i < 15 → ∃ k, k < 1000000000 ∧ dd31 i = nI k := hN34.2.1
    have hnn30 : nn30 ≤ 15 := hN34.1
    exact pe_vret hx hb hr hlocks hK hP hD hS d_NRunner_store_35 ⟨(VARS_l hL t_X hi hva hbd9 ⟨_, _, _, e32, e33, (LNV_cast hN34 hvv)⟩ eM hk1_28), (FV_5 hL t_X hi hk1_28), hI1_27, hu⟩
  · skip
    have hr36 : r8 = nI 1 := (bl_1 bo_11 b14)
    have hi37 := i1_13 hr36
    have hbd9 : bdd (en i) := (bdd_k (hEV.1 i)).mp (by assumption)
    refine lv_aload_n hx hb d_NRunner_store_15 rfl (lv_at hl 0 rfl) ?_
    refine pf_get (v := .ref (g.lk X 3)) (C := "BigRunner$Runner") (T := FT8) (N := 13) hx hb (hw8 hB _) (fun _ h9 => h9) hown hK hP (lo_in hL t_X (by decide)) eX rfl 3 (by decide) (wd_335 hB _) rfl d_NRunner_store_16 ?_
    refine lv_iload_n hx hb d_NRunner_store_19 rfl (lv_at hl 1 rfl) ?_
    refine lv_lload_n hx hb d_NRunner_store_20 rfl (lv_at hl 2 rfl) ?_
    refine pf_last (i := i) hx hb hK hP hD hS (lo_in hL (lo_k9_3 hL _ t_X) (by decide)) eM (lo_t27 hL _ (lo_k9_3 hL _ t_X)) (by omega) (by decide) d_NRunner_store_21 (fun f38 H locs e39 k40 hP hD hS => ?_)
    have eX := (k40 X (tg_ne t_X (lo_k9_3 hL _ t_X) (by decide))).trans eX
    have evi := (k40 (g.lk (g.lk pr 4) i) (tg_ne t7 (lo_k9_3 hL _ t_X) (by decide))).trans evi
    have e1 := (k40 pr (tg_ne t_pr (lo_k9_3 hL _ t_X) (by decide))).trans e1
    have e6 := (k40 (g.lk pr 4) (tg_ne (lo_k7_4 hL _ t_pr) (lo_k9_3 hL _ t_X) (by decide))).trans e6
    have hu := hu.st k40 (lo_k9_3 hL _ t_X) (by decide)
    have hu27 := hu27.st k40 (lo_k9_3 hL _ t_X) (by decide)
    have hk41 : ∀ b, b ≠ (g.lk X 3) → f38 b = f b := k40
    refine lv_goto (tgt := 35) hx hb d_NRunner_store_22 (by decide) ?_
    have hI42 := iv_1 hI hL (lo_k9_3 hL _ t_X) (by decide) hk41 (oc_27.mk (lo_k9_3 hL _ t_X) (⟨_, e39⟩))
    exact pe_vret hx hb hr hlocks hK hP hD hS d_NRunner_store_35 ⟨(VARS_s hL t_X hi hva hbd9 hvv e39 hu27), (FV_27 hL hu27), hI42, hu⟩
set_option maxHeartbeats 4000000 in
set_option maxRecDepth 100000 in
theorem v_assign (l : Launch) (g : Lay) (sz : Nat) (f : Nat → va_E) (X : Nat) (pr : Nat) (ix : Nat) (os : Nat) (st : Nat) (mo : Int32) (lo : Int32) (tr : Nat) (i : Nat) (la : Nat) (sm : Nat) (en : Nat → IVL) (vr : Nat → Int) (V : Int) (hL : LO g) (t_X : g.tg X = 9) (t_pr : g.tg pr = 7) (hI : IV g f) (eX : f X = .inr (8, [.ref pr, .ref (g.lk X 1), .int (nI ix), .ref (g.lk X 3), .ref (g.lk X 4), .ref (g.lk X 5), .ref (g.lk X 6), .ref (g.lk X 7), .int (nI os), .int (nI st), .int mo, .int lo, .int (nI tr)])) (hix : ix ≤ 36) (hos : os ≤ st) (hst : st ≤ 3000) (htr : tr ≤ 3) (hi : i < 10) (hla : la < 72) (hVx : VL g f pr sm la V) (hsx : sm = 0 ∨ sm = 1) (hb60 : bdd (en i) → V.natAbs ≤ 1152921504606846976) (hEV : EV g f pr en) (hV : VARS g f X en vr) : Met l ⟨"BigRunner$Runner", "assign", "(ILBigRunner$Node;)V"⟩ [Cond.code ⟨"BigRunner$Runner", "assign", "(ILBigRunner$Node;)V"⟩ prog_9_method_11_code 3 none] ({ frames := 3, cells := 0, slots := 0, locals := 88 }) (va_Pc [.ref X, .int (nI i), .ref (g.lk (g.lk pr 2) la)] (pc_in g sz f)) (va_Qv (fun f1 => (VARS g f1 X en (uI vr i V)) ∧ (FV g f f1 X) ∧ (IV g f1) ∧ (un [5, 23, 27] g f f1)) (pc_out g sz) (pc_A g sz)) 0 0 (pc_A g sz) := by
  refine pe_ofW (cc := prog_9_method_11_code) (maxL := 3) (ret := none) (lv := [(0, .ref X), (1, .int (nI i)), (2, .ref (g.lk (g.lk pr 2) la))]) (by decide) (Nat.le_of_ble_eq_true rfl) rfl ?_
  intro p e s m args below meth c ls hx hb hr hml hlocks hown hB hP hK hD hsz hS hl
  subst hsz
  have hu : un [5, 23, 27] g f f := un.rf
  rcases hsx with rfl | rfl
  · skip
    obtain ⟨kx1, kx2, kx3, mx, eNx, hsx, hlx, htx⟩ := hVx
    obtain ⟨sgx, nx, dx, eax, ebx, hNx⟩ := hlx rfl
    have cbx : ∀ i, i < 15 → ∃ k, k < 1000000000 ∧ dx i = nI k := hNx.2.1
    have hnx : nx ≤ 15 := hNx.1
    obtain ⟨hM, eM, hva⟩ := hV
    have evi := hEV.2 i hi
    have hu27 : un [27] g f f := un.rf
    refine lv_aload_n hx hb d_NRunner_assign_0 rfl (lv_at hl 2 rfl) ?_
    refine pf_get (v := .int (nI 0)) (C := "BigRunner$Node") (T := FT5) (N := 7) hx hb (hw5 hB _) (fun _ h9 => h9) hown hK hP (lo_in hL (lo_e25 hL _ (lo_k7_2 hL _ t_pr) _ (by omega)) (by decide)) eNx rfl 4 (by decide) (wd_218 hB _) rfl d_NRunner_assign_1 ?_
    refine lv_if_eq (tgt := 19) hx hb d_NRunner_assign_4 (by decide) (fun b1 => ?_) (fun b1 => ?_)
    · skip
      replace b1 := (nI_eq (a := 0) (b := 0) (by omega) (by omega)).mp b1
      refine lv_aload_n hx hb d_NRunner_assign_19 rfl (lv_at hl 0 rfl) ?_
      refine pf_get (v := .ref pr) (C := "BigRunner$Runner") (T := FT8) (N := 13) hx hb (hw8 hB _) (fun _ h9 => h9) hown hK hP (lo_in hL t_X (by decide)) eX rfl 0 (by decide) (wd_330 hB _) rfl d_NRunner_assign_20 ?_
      obtain ⟨sc_3, nc_4, e2, c5, c6⟩ := oc_7.of t_pr (hI.1 pr)
      refine pf_get (v := .ref (g.lk pr 4)) (C := "BigRunner$Program") (T := FT6) (N := 6) hx hb (hw6 hB _) (fun _ h9 => h9) hown hK hP (lo_in hL t_pr (by decide)) e2 rfl 4 (by decide) (wd_254 hB _) rfl d_NRunner_assign_23 ?_
      refine lv_iload_n hx hb d_NRunner_assign_26 rfl (lv_at hl 1 rfl) ?_
      have e7 := oc_26.of (lo_k7_4 hL _ t_pr) (hI.1 (g.lk pr 4))
      refine pf_aald (i := i) hx hb hK hP (lo_in hL (lo_k7_4 hL _ t_pr) (by decide)) e7 (lo_t26 hL _ (lo_k7_4 hL _ t_pr)) (by omega) (by decide) d_NRunner_assign_27 ?_
      have t8 := lo_e26 hL _ (lo_k7_4 hL _ t_pr) i (by omega)
      refine pcc_i (va_runV (C := "BigRunner$Interval") (As := []) (rest := []) ⟨hx, hb, hml, hown, tb_nil⟩ (c2_isBounded l g s.heap.size f ((g.lk (g.lk pr 4) i)) ((cL ((en i)).1)) ((cH ((en i)).2)) hL t8 hI.1 evi) ⟨(callB_of 0 (tb_one (wd_440 hB _)) tb_good1 rfl rfl rfl (wd_75 hB _) (wd_730 hB _) (by decide +kernel) ⟨Nat.le_of_ble_eq_true rfl, Nat.le_of_ble_eq_true rfl⟩), (wd_438 hB _), (wd_439 hB _)⟩ ⟨pe_bl, pg_recv (ci := 2) hK hP (lo_in hL t8 (by decide)) evi rfl, pe_pre hB hK hP hD⟩ rfl rfl hl.1 rfl (lv_room (Nat.le_of_ble_eq_true rfl)) d_NRunner_assign_28 ⟨Nat.le_of_ble_eq_true rfl, Nat.le_of_ble_eq_true rfl⟩) hS (fun r9 f10 H locs hq11 hP hD hS => ?_)
      obtain ⟨bo_12, i0_13, i1_14, rfl⟩ := hq11
      refine lv_if_eq (tgt := 50) hx hb d_NRunner_assign_31 (by decide) (fun b15 => ?_) (fun b15 => ?_)
      · skip
        have hr16 : r9 = nI 0 := b15
        have hi17 := i0_13 hr16
        have hbd9 : ¬ bdd (en i) := (bdd_n (hEV.1 i)).mp (by assumption)
        refine lv_aload_n hx hb d_NRunner_assign_50 rfl (lv_at hl 0 rfl) ?_
        refine pf_get (v := .ref (g.lk X 4)) (C := "BigRunner$Runner") (T := FT8) (N := 13) hx hb (hw8 hB _) (fun _ h9 => h9) hown hK hP (lo_in hL t_X (by decide)) eX rfl 4 (by decide) (wd_336 hB _) rfl d_NRunner_assign_51 ?_
        refine lv_iload_n hx hb d_NRunner_assign_54 rfl (lv_at hl 1 rfl) ?_
        have e18 := oc_28.of (lo_k9_4 hL _ t_X) (hI.1 (g.lk X 4))
        refine pf_aald (i := i) hx hb hK hP (lo_in hL (lo_k9_4 hL _ t_X) (by decide)) e18 (lo_t28 hL _ (lo_k9_4 hL _ t_X)) (by omega) (by decide) d_NRunner_assign_55 ?_
        have t19 := lo_e28 hL _ (lo_k9_4 hL _ t_X) i (by omega)
        refine lv_aload_n hx hb d_NRunner_assign_56 rfl (lv_at hl 2 rfl) ?_
        refine pf_get (v := .ref (g.lk (g.lk (g.lk pr 2) la) 6)) (C := "BigRunner$Node") (T := FT5) (N := 7) hx hb (hw5 hB _) (fun _ h9 => h9) hown hK hP (lo_in hL (lo_e25 hL _ (lo_k7_2 hL _ t_pr) _ (by omega)) (by decide)) eNx rfl 6 (by decide) (wd_224 hB _) rfl d_NRunner_assign_57 ?_
        refine lv_aload_n hx hb d_NRunner_assign_60 rfl (lv_at hl 2 rfl) ?_
        refine pf_get (v := .ref (g.lk (g.lk (g.lk pr 2) la) 6)) (C := "BigRunner$Node") (T := FT5) (N := 7) hx hb (hw5 hB _) (fun _ h9 => h9) hown hK hP (lo_in hL (lo_e25 hL _ (lo_k7_2 hL _ t_pr) _ (by omega)) (by decide)) eNx rfl 6 (by decide) (wd_224 hB _) rfl d_NRunner_assign_61 ?_
        refine pf_get (v := .int sgx) (C := "BigRunner$LongNumber") (T := FT4) (N := 3) hx hb (hw4 hB _) (fun _ h9 => h9) hown hK hP (lo_in hL (lo_k6_6 hL _ (lo_e25 hL _ (lo_k7_2 hL _ t_pr) _ (by omega))) (by decide)) eax rfl 0 (by decide) (wd_189 hB _) rfl d_NRunner_assign_64 ?_
        obtain ⟨sg_21, n_22, e20, c23⟩ := oc_5.of t19 (hI.1 (g.lk (g.lk X 4) i))
        refine pcc_v (va_runV (C := "BigRunner$LongNumber") (As := [.ref (g.lk (g.lk (g.lk pr 2) la) 6), .int sgx]) (rest := []) ⟨hx, hb, hml, hown, tb_nil⟩ (v_copy l g H.size f ((g.lk (g.lk X 4) i)) ((g.lk (g.lk (g.lk pr 2) la) 6)) sgx nx dx V sgx hL t19 (lo_k6_6 hL _ (lo_e25 hL _ (lo_k7_2 hL _ t_pr) _ (by omega))) hI eax ebx hNx (tn_ne ((lo_n6 hL _ (lo_e25 hL _ (lo_k7_2 hL _ t_pr) _ (by omega))).trans (lo_n25 hL _ (lo_k7_2 hL _ t_pr) _ (by omega))) (lo_n28 hL _ (lo_k9_4 hL _ t_X) _ (by omega)) (by omega)) hNx.2.2.1) ⟨(callB_of 2 (tb_one (wd_746 hB _)) tb_good1 rfl rfl rfl (wd_78 hB _) (wd_743 hB _) (by decide +kernel) ⟨Nat.le_of_ble_eq_true rfl, Nat.le_of_ble_eq_true rfl⟩), (wd_744 hB _), (wd_745 hB _)⟩ ⟨pe_bl, pg_recv (ci := 4) hK hP (lo_in hL t19 (by decide)) e20 rfl, pe_pre hB hK hP hD⟩ rfl rfl hl.1 rfl (lv_room (Nat.le_of_ble_eq_true rfl)) d_NRunner_assign_67 ⟨Nat.le_of_ble_eq_true rfl, Nat.le_of_ble_eq_true rfl⟩) hS (fun f25 H locs hq26 hP hD hS => ?_)
        obtain ⟨lv_27, hI1_28, hk1_29⟩ := hq26
        have hu := hu.st2 hk1_29 t19 (lo_k5_2 hL _ t19) (by decide) (by decide)
        have eX := (hk1_29 X (tg_ne t_X t19 (by decide)) (tg_ne t_X (lo_k5_2 hL _ t19) (by decide))).trans eX
        have eNx := (hk1_29 (g.lk (g.lk pr 2) la) (tg_ne (lo_e25 hL _ (lo_k7_2 hL _ t_pr) _ (by omega)) t19 (by decide)) (tg_ne (lo_e25 hL _ (lo_k7_2 hL _ t_pr) _ (by omega)) (lo_k5_2 hL _ t19) (by decide))).trans eNx
        have eax := (hk1_29 (g.lk (g.lk (g.lk pr 2) la) 6) (tn_ne ((lo_n6 hL _ (lo_e25 hL _ (lo_k7_2 hL _ t_pr) _ (by omega))).trans (lo_n25 hL _ (lo_k7_2 hL _ t_pr) _ (by omega))) (lo_n28 hL _ (lo_k9_4 hL _ t_X) _ (by omega)) (by omega)) (tg_ne (lo_k6_6 hL _ (lo_e25 hL _ (lo_k7_2 hL _ t_pr) _ (by omega))) (lo_k5_2 hL _ t19) (by decide))).trans eax
        have ebx := (hk1_29 (g.lk (g.lk (g.lk (g.lk pr 2) la) 6) 2) (tg_ne (lo_k5_2 hL _ (lo_k6_6 hL _ (lo_e25 hL _ (lo_k7_2 hL _ t_pr) _ (by omega)))) t19 (by decide)) (fun q9 => (tn_ne ((lo_n6 hL _ (lo_e25 hL _ (lo_k7_2 hL _ t_pr) _ (by omega))).trans (lo_n25 hL _ (lo_k7_2 hL _ t_pr) _ (by omega))) (lo_n28 hL _ (lo_k9_4 hL _ t_X) _ (by omega)) (by omega)) (lo_inj5 hL _ _ (lo_k6_6 hL _ (lo_e25 hL _ (lo_k7_2 hL _ t_pr) _ (by omega))) t19 q9))).trans ebx
        have eM := (hk1_29 (g.lk X 3) (tg_ne (lo_k9_3 hL _ t_X) t19 (by decide)) (tg_ne (lo_k9_3 hL _ t_X) (lo_k5_2 hL _ t19) (by decide))).trans eM
        have evi := (hk1_29 (g.lk (g.lk pr 4) i) (tg_ne t8 t19 (by decide)) (tg_ne t8 (lo_k5_2 hL _ t19) (by decide))).trans evi
        have e2 := (hk1_29 pr (tg_ne t_pr t19 (by decide)) (tg_ne t_pr (lo_k5_2 hL _ t19) (by decide))).trans e2
        have e7 := (hk1_29 (g.lk pr 4) (tg_ne (lo_k7_4 hL _ t_pr) t19 (by decide)) (tg_ne (lo_k7_4 hL _ t_pr) (lo_k5_2 hL _ t19) (by decide))).trans e7
        have e18 := (hk1_29 (g.lk X 4) (tg_ne (lo_k9_4 hL _ t_X) t19 (by decide)) (tg_ne (lo_k9_4 hL _ t_X) (lo_k5_2 hL _ t19) (by decide))).trans e18
        obtain ⟨sg30, nn31, dd32, e33, e34, hN35⟩ := lv_27
        have c36 : ∀ i, i < 15 → ∃ k, k < 1000000000 ∧ dd32 i = nI k := hN35.2.1
        have hnn31 : nn31 ≤ 15 := hN35.1
        exact pe_vret hx hb hr hlocks hK hP hD hS d_NRunner_assign_70 ⟨(VARS_l hL t_X hi hva hbd9 ⟨_, _, _, e33, e34, (LNV_cast hN35 hNx.2.2.2.2.symm)⟩ eM hk1_29), (FV_5 hL t_X hi hk1_29), hI1_28, hu⟩
      · skip
        have hr37 : r9 = nI 1 := (bl_1 bo_12 b15)
        have hi38 := i1_14 hr37
        have hbd9 : bdd (en i) := (bdd_k (hEV.1 i)).mp (by assumption)
        refine lv_aload_n hx hb d_NRunner_assign_34 rfl (lv_at hl 0 rfl) ?_
        refine pf_get (v := .ref (g.lk X 3)) (C := "BigRunner$Runner") (T := FT8) (N := 13) hx hb (hw8 hB _) (fun _ h9 => h9) hown hK hP (lo_in hL t_X (by decide)) eX rfl 3 (by decide) (wd_335 hB _) rfl d_NRunner_assign_35 ?_
        refine lv_iload_n hx hb d_NRunner_assign_38 rfl (lv_at hl 1 rfl) ?_
        refine lv_aload_n hx hb d_NRunner_assign_39 rfl (lv_at hl 2 rfl) ?_
        refine pf_get (v := .ref (g.lk (g.lk (g.lk pr 2) la) 6)) (C := "BigRunner$Node") (T := FT5) (N := 7) hx hb (hw5 hB _) (fun _ h9 => h9) hown hK hP (lo_in hL (lo_e25 hL _ (lo_k7_2 hL _ t_pr) _ (by omega)) (by decide)) eNx rfl 6 (by decide) (wd_224 hB _) rfl d_NRunner_assign_40 ?_
        refine pcc_l (va_runV (C := "BigRunner$LongNumber") (As := []) (rest := [.int (nI i), .ref (g.lk X 3)]) ⟨hx, hb, hml, hown, tb_nil⟩ (v_toMachine l g H.size f ((g.lk (g.lk (g.lk pr 2) la) 6)) sgx nx dx V hL (lo_k6_6 hL _ (lo_e25 hL _ (lo_k7_2 hL _ t_pr) _ (by omega))) hI.1 eax ebx hNx (hb60 hbd9)) ⟨(callB_of 0 (tb_one (wd_838 hB _)) tb_good1 rfl rfl rfl (wd_78 hB _) (wd_835 hB _) (by decide +kernel) ⟨Nat.le_of_ble_eq_true rfl, Nat.le_of_ble_eq_true rfl⟩), (wd_836 hB _), (wd_837 hB _)⟩ ⟨pe_bl, pg_recv (ci := 4) hK hP (lo_in hL (lo_k6_6 hL _ (lo_e25 hL _ (lo_k7_2 hL _ t_pr) _ (by omega))) (by decide)) eax rfl, pe_pre hB hK hP hD⟩ rfl rfl hl.1 rfl (lv_room (Nat.le_of_ble_eq_true rfl)) d_NRunner_assign_43 ⟨Nat.le_of_ble_eq_true rfl, Nat.le_of_ble_eq_true rfl⟩) hS (fun r39 f40 H locs hq41 hP hD hS => ?_)
        obtain ⟨tm_42, rfl⟩ := hq41
        have htm9 := tm_42
        refine pf_last (i := i) hx hb hK hP hD hS (lo_in hL (lo_k9_3 hL _ t_X) (by decide)) eM (lo_t27 hL _ (lo_k9_3 hL _ t_X)) (by omega) (by decide) d_NRunner_assign_46 (fun f43 H locs e44 k45 hP hD hS => ?_)
        have eX := (k45 X (tg_ne t_X (lo_k9_3 hL _ t_X) (by decide))).trans eX
        have eNx := (k45 (g.lk (g.lk pr 2) la) (tg_ne (lo_e25 hL _ (lo_k7_2 hL _ t_pr) _ (by omega)) (lo_k9_3 hL _ t_X) (by decide))).trans eNx
        have eax := (k45 (g.lk (g.lk (g.lk pr 2) la) 6) (tg_ne (lo_k6_6 hL _ (lo_e25 hL _ (lo_k7_2 hL _ t_pr) _ (by omega))) (lo_k9_3 hL _ t_X) (by decide))).trans eax
        have ebx := (k45 (g.lk (g.lk (g.lk (g.lk pr 2) la) 6) 2) (tg_ne (lo_k5_2 hL _ (lo_k6_6 hL _ (lo_e25 hL _ (lo_k7_2 hL _ t_pr) _ (by omega)))) (lo_k9_3 hL _ t_X) (by decide))).trans ebx
        have evi := (k45 (g.lk (g.lk pr 4) i) (tg_ne t8 (lo_k9_3 hL _ t_X) (by decide))).trans evi
        have e2 := (k45 pr (tg_ne t_pr (lo_k9_3 hL _ t_X) (by decide))).trans e2
        have e7 := (k45 (g.lk pr 4) (tg_ne (lo_k7_4 hL _ t_pr) (lo_k9_3 hL _ t_X) (by decide))).trans e7
        have hu := hu.st k45 (lo_k9_3 hL _ t_X) (by decide)
        have hu27 := hu27.st k45 (lo_k9_3 hL _ t_X) (by decide)
        have hk46 : ∀ b, b ≠ (g.lk X 3) → f43 b = f b := k45
        refine lv_goto (tgt := 70) hx hb d_NRunner_assign_47 (by decide) ?_
        have hI47 := iv_1 hI hL (lo_k9_3 hL _ t_X) (by decide) hk46 (oc_27.mk (lo_k9_3 hL _ t_X) (⟨_, e44⟩))
        exact pe_vret hx hb hr hlocks hK hP hD hS d_NRunner_assign_70 ⟨(VARS_s hL t_X hi hva hbd9 htm9 e44 hu27), (FV_27 hL hu27), hI47, hu⟩
    · skip
      replace b1 := mt (nI_eq (a := 0) (b := 0) (by omega) (by omega)).mpr b1
      exfalso; omega
  · skip
    obtain ⟨kx1, kx2, kx3, mx, eNx, hsx, hlx, htx⟩ := hVx
    refine lv_aload_n hx hb d_NRunner_assign_0 rfl (lv_at hl 2 rfl) ?_
    refine pf_get (v := .int (nI 1)) (C := "BigRunner$Node") (T := FT5) (N := 7) hx hb (hw5 hB _) (fun _ h9 => h9) hown hK hP (lo_in hL (lo_e25 hL _ (lo_k7_2 hL _ t_pr) _ (by omega)) (by decide)) eNx rfl 4 (by decide) (wd_218 hB _) rfl d_NRunner_assign_1 ?_
    refine lv_if_eq (tgt := 19) hx hb d_NRunner_assign_4 (by decide) (fun b48 => ?_) (fun b48 => ?_)
    · skip
      replace b48 := (nI_eq (a := 1) (b := 0) (by omega) (by omega)).mp b48
      exfalso; omega
    · skip
      replace b48 := mt (nI_eq (a := 1) (b := 0) (by omega) (by omega)).mpr b48
      refine lv_aload_n hx hb d_NRunner_assign_7 rfl (lv_at hl 0 rfl) ?_
      refine lv_iload_n hx hb d_NRunner_assign_8 rfl (lv_at hl 1 rfl) ?_
      refine lv_aload_n hx hb d_NRunner_assign_9 rfl (lv_at hl 2 rfl) ?_
      refine pf_get (v := .long mx) (C := "BigRunner$Node") (T := FT5) (N := 7) hx hb (hw5 hB _) (fun _ h9 => h9) hown hK hP (lo_in hL (lo_e25 hL _ (lo_k7_2 hL _ t_pr) _ (by omega)) (by decide)) eNx rfl 5 (by decide) (wd_221 hB _) rfl d_NRunner_assign_10 ?_
      refine pcc_v (va_runV (C := "BigRunner$Runner") (As := [.int (nI i), .long mx]) (rest := []) ⟨hx, hb, hml, hown, tb_nil⟩ (v_store l g s.heap.size f X pr ix os st mo lo tr i mx en vr V hL t_X t_pr hI eX (by omega) (by omega) (by omega) (by omega) (by omega) ((hsx rfl).1) (by have := hsx rfl; omega) hEV hV) ⟨(callB_of 2 (tb_one (wd_729 hB _)) tb_good1 rfl rfl rfl (wd_79 hB _) (wd_726 hB _) (by decide +kernel) ⟨Nat.le_of_ble_eq_true rfl, Nat.le_of_ble_eq_true rfl⟩), (wd_728 hB _), (wd_24 hB _)⟩ ⟨pe_bl, pg_recv (ci := 8) hK hP (lo_in hL t_X (by decide)) eX rfl, pe_pre hB hK hP hD⟩ rfl rfl hl.1 rfl (lv_room (Nat.le_of_ble_eq_true rfl)) d_NRunner_assign_13 ⟨Nat.le_of_ble_eq_true rfl, Nat.le_of_ble_eq_true rfl⟩) hS (fun f50 H locs hq51 hP hD hS => ?_)
      obtain ⟨va_52, fv_53, hI1_54, hu1_55⟩ := hq51
      have hu := hu.tr hu1_55 (by decide)
      have eX := hu1_55.at t_X (by decide) eX
      have eNx := hu1_55.at (lo_e25 hL _ (lo_k7_2 hL _ t_pr) _ (by omega)) (by decide) eNx
      refine lv_goto (tgt := 70) hx hb d_NRunner_assign_16 (by decide) ?_
      exact pe_vret hx hb hr hlocks hK hP hD hS d_NRunner_assign_70 ⟨va_52, fv_53, hI1_54, hu⟩
section ok
variable {g : Lay} {f f1 f2 f3 : Nat → va_E} {X P la os : Nat} {outs : List Int} {V : Int}
theorem OF_k (hL : LO g) (hX : g.tg X = 9) (hP : g.tg P = 7) (hla : la < 72) (ho : os < 12) (h1 : ∀ b, b ≠ g.lk (g.lk (g.lk P 2) la) 6 → b ≠ g.lk (g.lk (g.lk (g.lk P 2) la) 6) 2 → f1 b = f b) (h2 : ∀ b, b ≠ g.lk (g.lk X 7) os → b ≠ g.lk (g.lk (g.lk X 7) os) 2 → f2 b = f1 b) (h3 : un [9] g f2 f3) : ∀ x, g.tg x = 5 → 100 ≤ g.tn x → g.tn x < 120 → f3 x = f x ∧ f3 (g.lk x 2) = f (g.lk x 2) := fun x hx ha hb => by
  have t29 := lo_k9_7 hL X hX
  have e1 := tn5_ne hL hx (nw_5 hL hP hla) (by rw [nw_tn hL hP hla]; omega)
  have e2 := tn5_ne hL hx (lo_e29 hL _ t29 os ho) (by rw [lo_n29 hL _ t29 os ho]; omega)
  have t23 := lo_k5_2 hL x hx
  have k5 := lo_e29 hL _ t29 os ho
  exact ⟨(h3 x (by rw [hx]; decide)).trans ((h2 x e2.1 (tg_ne hx (lo_k5_2 hL _ k5) (by decide))).trans (h1 x e1.1 (tg_ne hx (nw_23 hL hP hla) (by decide)))), (h3 _ (by rw [t23]; decide)).trans ((h2 _ (tg_ne t23 k5 (by decide)) e2.2).trans (h1 _ (tg_ne t23 (nw_5 hL hP hla) (by decide)) e1.2))⟩
theorem gd_l {k : Nat} (h : k < outs.length) : (outs ++ [V]).getD k 0 = outs.getD k 0 := by
  rw [List.getD_eq_getElem?_getD, List.getD_eq_getElem?_getD, List.getElem?_append_left h]
theorem gd_e : (outs ++ [V]).getD outs.length 0 = V := by
  rw [List.getD_eq_getElem?_getD, List.getElem?_append_right (Nat.le_refl _), Nat.sub_self]
  rfl
theorem OUTS_n (hL : LO g) (hX : g.tg X = 9) (hl : outs.length = os) (ho : 12 ≤ os) (h : OUTS g f X outs) (hu : un [9] g f f1) : OUTS g f1 X (outs ++ [V]) := fun k hk hk2 => by
  have t29 := lo_k9_7 hL X hX
  have t5 := lo_e29 hL _ t29 k hk
  rw [gd_l (by omega)]
  exact ⟨LV_eq (h k hk (by omega)).1 ⟨hu _ (by rw [t5]; decide), hu _ (by rw [lo_k5_2 hL _ t5]; decide)⟩, (h k hk (by omega)).2⟩
theorem OUTS_k (hL : LO g) (hX : g.tg X = 9) (hP : g.tg P = 7) (hla : la < 72) (hl : outs.length = os) (ho : os < 12) (h : OUTS g f X outs) (hV : V.natAbs < T12) (h1 : ∀ b, b ≠ g.lk (g.lk (g.lk P 2) la) 6 → b ≠ g.lk (g.lk (g.lk (g.lk P 2) la) 6) 2 → f1 b = f b) (h2 : ∀ b, b ≠ g.lk (g.lk X 7) os → b ≠ g.lk (g.lk (g.lk X 7) os) 2 → f2 b = f1 b) (hv : LV g f2 (g.lk (g.lk X 7) os) V) (h3 : un [9] g f2 f3) : OUTS g f3 X (outs ++ [V]) := fun k hk hk2 => by
  have t29 := lo_k9_7 hL X hX
  have k5 := lo_e29 hL _ t29 os ho
  have t5 := lo_e29 hL _ t29 k hk
  have t23 := lo_k5_2 hL _ t5
  have z3 : f3 (g.lk (g.lk X 7) k) = f2 (g.lk (g.lk X 7) k) ∧ f3 (g.lk (g.lk (g.lk X 7) k) 2) = f2 (g.lk (g.lk (g.lk X 7) k) 2) := ⟨h3 _ (by rw [t5]; decide), h3 _ (by rw [t23]; decide)⟩
  by_cases q : k = os
  · subst q
    rw [show (outs ++ [V]).getD k 0 = V by rw [← hl]; exact gd_e]
    exact ⟨LV_eq hv z3, hV⟩
  · rw [List.length_append, List.length_singleton] at hk2
    rw [gd_l (by omega)]
    have e1 := tn5_ne hL t5 (nw_5 hL hP hla) (by rw [nw_tn hL hP hla, lo_n29 hL _ t29 k hk]; omega)
    have e2 := tn5_ne hL t5 k5 (by rw [lo_n29 hL _ t29 os ho, lo_n29 hL _ t29 k hk]; omega)
    refine ⟨LV_eq (h k hk (by omega)).1 ⟨z3.1.trans ((h2 _ e2.1 (tg_ne t5 (lo_k5_2 hL _ k5) (by decide))).trans (h1 _ e1.1 (tg_ne t5 (nw_23 hL hP hla) (by decide)))), z3.2.trans ((h2 _ (tg_ne t23 k5 (by decide)) e2.2).trans (h1 _ (tg_ne t23 (nw_5 hL hP hla) (by decide)) e1.2))⟩, (h k hk (by omega)).2⟩
end ok
set_option maxHeartbeats 4000000 in
set_option maxRecDepth 100000 in
theorem v_keep (l : Launch) (g : Lay) (sz : Nat) (f : Nat → va_E) (X : Nat) (pr : Nat) (ix : Nat) (os : Nat) (st : Nat) (mo : Int32) (lo : Int32) (tr : Nat) (la : Nat) (sm : Nat) (V : Int) (outs : List Int) (hL : LO g) (t_X : g.tg X = 9) (t_pr : g.tg pr = 7) (hI : IV g f) (eX : f X = .inr (8, [.ref pr, .ref (g.lk X 1), .int (nI ix), .ref (g.lk X 3), .ref (g.lk X 4), .ref (g.lk X 5), .ref (g.lk X 6), .ref (g.lk X 7), .int (nI os), .int (nI st), .int mo, .int lo, .int (nI tr)])) (hix : ix ≤ 36) (hos : os ≤ st) (hst : st ≤ 3000) (htr : tr ≤ 3) (ho : os < st) (hla : la < 72) (hVx : VL g f pr sm la V) (hsx : sm = 0 ∨ sm = 1) (hou : OUTS g f X outs) (hol : outs.length = os) : Met l ⟨"BigRunner$Runner", "keep", "(LBigRunner$Node;)V"⟩ [Cond.code ⟨"BigRunner$Runner", "keep", "(LBigRunner$Node;)V"⟩ prog_9_method_12_code 3 none] ({ frames := 3, cells := 0, slots := 0, locals := 85 }) (va_Pc [.ref X, .ref (g.lk (g.lk pr 2) la)] (pc_in g sz f)) (va_Qv (fun f1 => (f1 X = .inr (8, [.ref pr, .ref (g.lk X 1), .int (nI ix), .ref (g.lk X 3), .ref (g.lk X 4), .ref (g.lk X 5), .ref (g.lk X 6), .ref (g.lk X 7), .int (nI (os + 1)), .int (nI st), .int mo, .int lo, .int (nI tr)])) ∧ (OUTS g f1 X (outs ++ [V])) ∧ (∀ x, g.tg x = 5 → 100 ≤ g.tn x → g.tn x < 120 → f1 x = f x ∧ f1 (g.lk x 2) = f (g.lk x 2)) ∧ (IV g f1) ∧ (un [5, 9, 23] g f f1)) (pc_out g sz) (pc_A g sz)) 0 0 (pc_A g sz) := by
  refine pe_ofW (cc := prog_9_method_12_code) (maxL := 3) (ret := none) (lv := [(0, .ref X), (1, .ref (g.lk (g.lk pr 2) la))]) (by decide) (Nat.le_of_ble_eq_true rfl) rfl ?_
  intro p e s m args below meth c ls hx hb hr hml hlocks hown hB hP hK hD hsz hS hl
  subst hsz
  have hu : un [5, 9, 23] g f f := un.rf
  rcases hsx with rfl | rfl
  · skip
    obtain ⟨kx1, kx2, kx3, mx, eNx, hsx, hlx, htx⟩ := hVx
    obtain ⟨sgx, nx, dx, eax, ebx, hNx⟩ := hlx rfl
    have cbx : ∀ i, i < 15 → ∃ k, k < 1000000000 ∧ dx i = nI k := hNx.2.1
    have hnx : nx ≤ 15 := hNx.1
    refine lv_aload_n hx hb d_NRunner_keep_0 rfl (lv_at hl 0 rfl) ?_
    refine pf_get (v := .int (nI os)) (C := "BigRunner$Runner") (T := FT8) (N := 13) hx hb (hw8 hB _) (fun _ h9 => h9) hown hK hP (lo_in hL t_X (by decide)) eX rfl 8 (by decide) (wd_341 hB _) rfl d_NRunner_keep_1 ?_
    refine lv_bipush (v := nI 12) hx hb d_NRunner_keep_4 (by decide) ?_
    refine lv_icmp_ge (tgt := 31) hx hb d_NRunner_keep_6 (by decide) (fun b1 => ?_) (fun b1 => ?_)
    · skip
      replace b1 := (nI_leI (a := 12) (b := os) (by omega) (by omega)).mp b1
      have hu99 : un [9] g f f := un.rf
      refine lv_aload_n hx hb d_NRunner_keep_31 rfl (lv_at hl 0 rfl) ?_
      refine lv_dup hx hb d_NRunner_keep_32 rfl ?_
      refine pf_get (v := .int (nI os)) (C := "BigRunner$Runner") (T := FT8) (N := 13) hx hb (hw8 hB _) (fun _ h9 => h9) hown hK hP (lo_in hL t_X (by decide)) eX rfl 8 (by decide) (wd_341 hB _) rfl d_NRunner_keep_33 ?_
      refine lv_iconst (v := nI 1) hx hb d_NRunner_keep_36 (by decide) ?_
      refine pf_iaddN (x := os) (y := 1) hx hb d_NRunner_keep_37 ?_
      refine pf_put (v := .int (nI (os + 1))) (ty := .int) (fs' := [.ref pr, .ref (g.lk X 1), .int (nI ix), .ref (g.lk X 3), .ref (g.lk X 4), .ref (g.lk X 5), .ref (g.lk X 6), .ref (g.lk X 7), .int (nI (os + 1)), .int (nI st), .int mo, .int lo, .int (nI tr)]) (C := "BigRunner$Runner") (T := FT8) (N := 13) hx hb (hw8 hB _) (fun _ h9 => h9) TY8 ok8 nm8 hown hK hP hD hS (lo_in hL t_X (by decide)) eX rfl 8 (by decide) (wd_341 hB _) rfl (by decide +kernel) rfl rfl (Nat.le_of_ble_eq_true rfl) rfl d_NRunner_keep_38 (fun f2 H locs e3 k4 hP hD hS => ?_)
      have eNx := (k4 (g.lk (g.lk pr 2) la) (tg_ne (lo_e25 hL _ (lo_k7_2 hL _ t_pr) _ (by omega)) t_X (by decide))).trans eNx
      have eax := (k4 (g.lk (g.lk (g.lk pr 2) la) 6) (tg_ne (lo_k6_6 hL _ (lo_e25 hL _ (lo_k7_2 hL _ t_pr) _ (by omega))) t_X (by decide))).trans eax
      have ebx := (k4 (g.lk (g.lk (g.lk (g.lk pr 2) la) 6) 2) (tg_ne (lo_k5_2 hL _ (lo_k6_6 hL _ (lo_e25 hL _ (lo_k7_2 hL _ t_pr) _ (by omega)))) t_X (by decide))).trans ebx
      have hu := hu.st k4 t_X (by decide)
      have hu99 := hu99.st k4 t_X (by decide)
      have hk5 : ∀ b, b ≠ X → f2 b = f b := k4
      have hI6 := iv_1 hI hL t_X (by decide) hk5 (oc_9.mk t_X (⟨pr, ix, (os + 1), st, mo, lo, tr, e3, t_pr, (by omega), (by omega), (by omega), (by omega)⟩))
      exact pe_vret hx hb hr hlocks hK hP hD hS d_NRunner_keep_41 ⟨e3, (OUTS_n hL t_X hol (by omega) hou hu99), (fun x hx _ _ => ⟨hu99 x (by rw [hx]; decide), hu99 _ (by rw [lo_k5_2 hL x hx]; decide)⟩), hI6, hu⟩
    · skip
      replace b1 := mt (nI_leI (a := 12) (b := os) (by omega) (by omega)).mpr b1
      refine lv_aload_n hx hb d_NRunner_keep_9 rfl (lv_at hl 1 rfl) ?_
      refine pcc_r (va_runV (C := "BigRunner$Node") (As := []) (rest := []) ⟨hx, hb, hml, hown, tb_nil⟩ (v_widenedL l g s.heap.size f ((g.lk (g.lk pr 2) la)) kx1 kx2 kx3 mx hL (lo_e25 hL _ (lo_k7_2 hL _ t_pr) _ (by omega)) hI.1 eNx) ⟨(callB_of 0 (tb_one (wd_761 hB _)) tb_good1 rfl rfl rfl (wd_77 hB _) (wd_758 hB _) (by decide +kernel) ⟨Nat.le_of_ble_eq_true rfl, Nat.le_of_ble_eq_true rfl⟩), (wd_759 hB _), (wd_760 hB _)⟩ ⟨pe_bl, pg_recv (ci := 5) hK hP (lo_in hL (lo_e25 hL _ (lo_k7_2 hL _ t_pr) _ (by omega)) (by decide)) eNx rfl, pe_pre hB hK hP hD⟩ rfl rfl hl.1 rfl (lv_room (Nat.le_of_ble_eq_true rfl)) d_NRunner_keep_10 ⟨Nat.le_of_ble_eq_true rfl, Nat.le_of_ble_eq_true rfl⟩) hS (fun r7 f8 H locs hq9 hP hD hS => ?_)
      obtain ⟨ra_10, rfl⟩ := hq9
      subst ra_10
      have hkw9 : ∀ b, b ≠ g.lk (g.lk (g.lk pr 2) la) 6 → b ≠ g.lk (g.lk (g.lk (g.lk pr 2) la) 6) 2 → f b = f b := fun _ _ _ => rfl
      refine lv_astore_n (lv' := [(2, .ref (g.lk (g.lk (g.lk pr 2) la) 6)), (0, .ref X), (1, .ref (g.lk (g.lk pr 2) la))]) hx hb d_NRunner_keep_13 rfl hl (by decide) rfl (fun ls hl => ?_)
      refine lv_aload_n hx hb d_NRunner_keep_14 rfl (lv_at hl 1 rfl) ?_
      refine pf_get (v := .ref (g.lk X 7)) (C := "BigRunner$Runner") (T := FT8) (N := 13) hx hb (hw8 hB _) (fun _ h9 => h9) hown hK hP (lo_in hL t_X (by decide)) eX rfl 7 (by decide) (wd_339 hB _) rfl d_NRunner_keep_15 ?_
      refine lv_aload_n hx hb d_NRunner_keep_18 rfl (lv_at hl 1 rfl) ?_
      refine pf_get (v := .int (nI os)) (C := "BigRunner$Runner") (T := FT8) (N := 13) hx hb (hw8 hB _) (fun _ h9 => h9) hown hK hP (lo_in hL t_X (by decide)) eX rfl 8 (by decide) (wd_341 hB _) rfl d_NRunner_keep_19 ?_
      have e11 := oc_29.of (lo_k9_7 hL _ t_X) (hI.1 (g.lk X 7))
      refine pf_aald (i := os) hx hb hK hP (lo_in hL (lo_k9_7 hL _ t_X) (by decide)) e11 (lo_t29 hL _ (lo_k9_7 hL _ t_X)) (by omega) (by decide) d_NRunner_keep_22 ?_
      have t12 := lo_e29 hL _ (lo_k9_7 hL _ t_X) os (by omega)
      refine lv_aload_n hx hb d_NRunner_keep_23 rfl (lv_at hl 0 rfl) ?_
      refine lv_aload_n hx hb d_NRunner_keep_24 rfl (lv_at hl 0 rfl) ?_
      refine pf_get (v := .int sgx) (C := "BigRunner$LongNumber") (T := FT4) (N := 3) hx hb (hw4 hB _) (fun _ h9 => h9) hown hK hP (lo_in hL (lo_k6_6 hL _ (lo_e25 hL _ (lo_k7_2 hL _ t_pr) _ (by omega))) (by decide)) eax rfl 0 (by decide) (wd_189 hB _) rfl d_NRunner_keep_25 ?_
      obtain ⟨sg_14, n_15, e13, c16⟩ := oc_5.of t12 (hI.1 (g.lk (g.lk X 7) os))
      refine pcc_v (va_runV (C := "BigRunner$LongNumber") (As := [.ref (g.lk (g.lk (g.lk pr 2) la) 6), .int sgx]) (rest := []) ⟨hx, hb, hml, hown, tb_nil⟩ (v_copy l g H.size f ((g.lk (g.lk X 7) os)) ((g.lk (g.lk (g.lk pr 2) la) 6)) sgx nx dx V sgx hL t12 (lo_k6_6 hL _ (lo_e25 hL _ (lo_k7_2 hL _ t_pr) _ (by omega))) hI eax ebx hNx (tn_ne ((lo_n6 hL _ (lo_e25 hL _ (lo_k7_2 hL _ t_pr) _ (by omega))).trans (lo_n25 hL _ (lo_k7_2 hL _ t_pr) _ (by omega))) (lo_n29 hL _ (lo_k9_7 hL _ t_X) _ (by omega)) (by omega)) hNx.2.2.1) ⟨(callB_of 2 (tb_one (wd_746 hB _)) tb_good1 rfl rfl rfl (wd_78 hB _) (wd_743 hB _) (by decide +kernel) ⟨Nat.le_of_ble_eq_true rfl, Nat.le_of_ble_eq_true rfl⟩), (wd_744 hB _), (wd_745 hB _)⟩ ⟨pe_bl, pg_recv (ci := 4) hK hP (lo_in hL t12 (by decide)) e13 rfl, pe_pre hB hK hP hD⟩ rfl rfl hl.1 rfl (lv_room (Nat.le_of_ble_eq_true rfl)) d_NRunner_keep_28 ⟨Nat.le_of_ble_eq_true rfl, Nat.le_of_ble_eq_true rfl⟩) hS (fun f18 H locs hq19 hP hD hS => ?_)
      obtain ⟨lv_20, hI1_21, hk1_22⟩ := hq19
      have hu := hu.st2 hk1_22 t12 (lo_k5_2 hL _ t12) (by decide) (by decide)
      have eX := (hk1_22 X (tg_ne t_X t12 (by decide)) (tg_ne t_X (lo_k5_2 hL _ t12) (by decide))).trans eX
      have eNx := (hk1_22 (g.lk (g.lk pr 2) la) (tg_ne (lo_e25 hL _ (lo_k7_2 hL _ t_pr) _ (by omega)) t12 (by decide)) (tg_ne (lo_e25 hL _ (lo_k7_2 hL _ t_pr) _ (by omega)) (lo_k5_2 hL _ t12) (by decide))).trans eNx
      have eax := (hk1_22 (g.lk (g.lk (g.lk pr 2) la) 6) (tn_ne ((lo_n6 hL _ (lo_e25 hL _ (lo_k7_2 hL _ t_pr) _ (by omega))).trans (lo_n25 hL _ (lo_k7_2 hL _ t_pr) _ (by omega))) (lo_n29 hL _ (lo_k9_7 hL _ t_X) _ (by omega)) (by omega)) (tg_ne (lo_k6_6 hL _ (lo_e25 hL _ (lo_k7_2 hL _ t_pr) _ (by omega))) (lo_k5_2 hL _ t12) (by decide))).trans eax
      have ebx := (hk1_22 (g.lk (g.lk (g.lk (g.lk pr 2) la) 6) 2) (tg_ne (lo_k5_2 hL _ (lo_k6_6 hL _ (lo_e25 hL _ (lo_k7_2 hL _ t_pr) _ (by omega)))) t12 (by decide)) (fun q9 => (tn_ne ((lo_n6 hL _ (lo_e25 hL _ (lo_k7_2 hL _ t_pr) _ (by omega))).trans (lo_n25 hL _ (lo_k7_2 hL _ t_pr) _ (by omega))) (lo_n29 hL _ (lo_k9_7 hL _ t_X) _ (by omega)) (by omega)) (lo_inj5 hL _ _ (lo_k6_6 hL _ (lo_e25 hL _ (lo_k7_2 hL _ t_pr) _ (by omega))) t12 q9))).trans ebx
      have e11 := (hk1_22 (g.lk X 7) (tg_ne (lo_k9_7 hL _ t_X) t12 (by decide)) (tg_ne (lo_k9_7 hL _ t_X) (lo_k5_2 hL _ t12) (by decide))).trans e11
      obtain ⟨sg23, nn24, dd25, e26, e27, hN28⟩ := lv_20
      have c29 : ∀ i, i < 15 → ∃ k, k < 1000000000 ∧ dd25 i = nI k := hN28.2.1
      have hnn24 : nn24 ≤ 15 := hN28.1
      have hkc9 := hk1_22
      have hlv9 : LV g f18 (g.lk (g.lk X 7) os) V := ⟨_, _, _, e26, e27, LNV_cast hN28 hNx.2.2.2.2.symm⟩
      have hu99 : un [9] g f18 f18 := un.rf
      refine lv_aload_n hx hb d_NRunner_keep_31 rfl (lv_at hl 1 rfl) ?_
      refine lv_dup hx hb d_NRunner_keep_32 rfl ?_
      refine pf_get (v := .int (nI os)) (C := "BigRunner$Runner") (T := FT8) (N := 13) hx hb (hw8 hB _) (fun _ h9 => h9) hown hK hP (lo_in hL t_X (by decide)) eX rfl 8 (by decide) (wd_341 hB _) rfl d_NRunner_keep_33 ?_
      refine lv_iconst (v := nI 1) hx hb d_NRunner_keep_36 (by decide) ?_
      refine pf_iaddN (x := os) (y := 1) hx hb d_NRunner_keep_37 ?_
      refine pf_put (v := .int (nI (os + 1))) (ty := .int) (fs' := [.ref pr, .ref (g.lk X 1), .int (nI ix), .ref (g.lk X 3), .ref (g.lk X 4), .ref (g.lk X 5), .ref (g.lk X 6), .ref (g.lk X 7), .int (nI (os + 1)), .int (nI st), .int mo, .int lo, .int (nI tr)]) (C := "BigRunner$Runner") (T := FT8) (N := 13) hx hb (hw8 hB _) (fun _ h9 => h9) TY8 ok8 nm8 hown hK hP hD hS (lo_in hL t_X (by decide)) eX rfl 8 (by decide) (wd_341 hB _) rfl (by decide +kernel) rfl rfl (Nat.le_of_ble_eq_true rfl) rfl d_NRunner_keep_38 (fun f30 H locs e31 k32 hP hD hS => ?_)
      have eNx := (k32 (g.lk (g.lk pr 2) la) (tg_ne (lo_e25 hL _ (lo_k7_2 hL _ t_pr) _ (by omega)) t_X (by decide))).trans eNx
      have eax := (k32 (g.lk (g.lk (g.lk pr 2) la) 6) (tg_ne (lo_k6_6 hL _ (lo_e25 hL _ (lo_k7_2 hL _ t_pr) _ (by omega))) t_X (by decide))).trans eax
      have ebx := (k32 (g.lk (g.lk (g.lk (g.lk pr 2) la) 6) 2) (tg_ne (lo_k5_2 hL _ (lo_k6_6 hL _ (lo_e25 hL _ (lo_k7_2 hL _ t_pr) _ (by omega)))) t_X (by decide))).trans ebx
      have e11 := (k32 (g.lk X 7) (tg_ne (lo_k9_7 hL _ t_X) t_X (by decide))).trans e11
      have e26 := (k32 (g.lk (g.lk X 7) os) (tg_ne t12 t_X (by decide))).trans e26
      have e27 := (k32 (g.lk (g.lk (g.lk X 7) os) 2) (tg_ne (lo_k5_2 hL _ t12) t_X (by decide))).trans e27
      have hu := hu.st k32 t_X (by decide)
      have hu99 := hu99.st k32 t_X (by decide)
      have hk33 : ∀ b, b ≠ X → f30 b = f18 b := k32
      have hI34 := iv_1 hI1_21 hL t_X (by decide) hk33 (oc_9.mk t_X (⟨pr, ix, (os + 1), st, mo, lo, tr, e31, t_pr, (by omega), (by omega), (by omega), (by omega)⟩))
      exact pe_vret hx hb hr hlocks hK hP hD hS d_NRunner_keep_41 ⟨e31, (OUTS_k hL t_X t_pr hla hol (by omega) hou htx hkw9 hkc9 hlv9 hu99), (OF_k hL t_X t_pr hla (by omega) hkw9 hkc9 hu99), hI34, hu⟩
  · skip
    obtain ⟨kx1, kx2, kx3, mx, eNx, hsx, hlx, htx⟩ := hVx
    refine lv_aload_n hx hb d_NRunner_keep_0 rfl (lv_at hl 0 rfl) ?_
    refine pf_get (v := .int (nI os)) (C := "BigRunner$Runner") (T := FT8) (N := 13) hx hb (hw8 hB _) (fun _ h9 => h9) hown hK hP (lo_in hL t_X (by decide)) eX rfl 8 (by decide) (wd_341 hB _) rfl d_NRunner_keep_1 ?_
    refine lv_bipush (v := nI 12) hx hb d_NRunner_keep_4 (by decide) ?_
    refine lv_icmp_ge (tgt := 31) hx hb d_NRunner_keep_6 (by decide) (fun b35 => ?_) (fun b35 => ?_)
    · skip
      replace b35 := (nI_leI (a := 12) (b := os) (by omega) (by omega)).mp b35
      have hu99 : un [9] g f f := un.rf
      refine lv_aload_n hx hb d_NRunner_keep_31 rfl (lv_at hl 0 rfl) ?_
      refine lv_dup hx hb d_NRunner_keep_32 rfl ?_
      refine pf_get (v := .int (nI os)) (C := "BigRunner$Runner") (T := FT8) (N := 13) hx hb (hw8 hB _) (fun _ h9 => h9) hown hK hP (lo_in hL t_X (by decide)) eX rfl 8 (by decide) (wd_341 hB _) rfl d_NRunner_keep_33 ?_
      refine lv_iconst (v := nI 1) hx hb d_NRunner_keep_36 (by decide) ?_
      refine pf_iaddN (x := os) (y := 1) hx hb d_NRunner_keep_37 ?_
      refine pf_put (v := .int (nI (os + 1))) (ty := .int) (fs' := [.ref pr, .ref (g.lk X 1), .int (nI ix), .ref (g.lk X 3), .ref (g.lk X 4), .ref (g.lk X 5), .ref (g.lk X 6), .ref (g.lk X 7), .int (nI (os + 1)), .int (nI st), .int mo, .int lo, .int (nI tr)]) (C := "BigRunner$Runner") (T := FT8) (N := 13) hx hb (hw8 hB _) (fun _ h9 => h9) TY8 ok8 nm8 hown hK hP hD hS (lo_in hL t_X (by decide)) eX rfl 8 (by decide) (wd_341 hB _) rfl (by decide +kernel) rfl rfl (Nat.le_of_ble_eq_true rfl) rfl d_NRunner_keep_38 (fun f36 H locs e37 k38 hP hD hS => ?_)
      have eNx := (k38 (g.lk (g.lk pr 2) la) (tg_ne (lo_e25 hL _ (lo_k7_2 hL _ t_pr) _ (by omega)) t_X (by decide))).trans eNx
      have hu := hu.st k38 t_X (by decide)
      have hu99 := hu99.st k38 t_X (by decide)
      have hk39 : ∀ b, b ≠ X → f36 b = f b := k38
      have hI40 := iv_1 hI hL t_X (by decide) hk39 (oc_9.mk t_X (⟨pr, ix, (os + 1), st, mo, lo, tr, e37, t_pr, (by omega), (by omega), (by omega), (by omega)⟩))
      exact pe_vret hx hb hr hlocks hK hP hD hS d_NRunner_keep_41 ⟨e37, (OUTS_n hL t_X hol (by omega) hou hu99), (fun x hx _ _ => ⟨hu99 x (by rw [hx]; decide), hu99 _ (by rw [lo_k5_2 hL x hx]; decide)⟩), hI40, hu⟩
    · skip
      replace b35 := mt (nI_leI (a := 12) (b := os) (by omega) (by omega)).mpr b35
      refine lv_aload_n hx hb d_NRunner_keep_9 rfl (lv_at hl 1 rfl) ?_
      refine pcc_r (va_runV (C := "BigRunner$Node") (As := []) (rest := []) ⟨hx, hb, hml, hown, tb_nil⟩ (v_widenedS l g s.heap.size f ((g.lk (g.lk pr 2) la)) kx1 kx2 kx3 mx hL (lo_e25 hL _ (lo_k7_2 hL _ t_pr) _ (by omega)) hI eNx (by rw [(hsx rfl).1]; exact (hsx rfl).2)) ⟨(callB_of 0 (tb_one (wd_761 hB _)) tb_good1 rfl rfl rfl (wd_77 hB _) (wd_758 hB _) (by decide +kernel) ⟨Nat.le_of_ble_eq_true rfl, Nat.le_of_ble_eq_true rfl⟩), (wd_759 hB _), (wd_760 hB _)⟩ ⟨pe_bl, pg_recv (ci := 5) hK hP (lo_in hL (lo_e25 hL _ (lo_k7_2 hL _ t_pr) _ (by omega)) (by decide)) eNx rfl, pe_pre hB hK hP hD⟩ rfl rfl hl.1 rfl (lv_room (Nat.le_of_ble_eq_true rfl)) d_NRunner_keep_10 ⟨Nat.le_of_ble_eq_true rfl, Nat.le_of_ble_eq_true rfl⟩) hS (fun r41 f42 H locs hq43 hP hD hS => ?_)
      obtain ⟨ra_44, lv_45, hI1_46, hk1_47⟩ := hq43
      subst ra_44
      have hu := hu.st2 hk1_47 (lo_k6_6 hL _ (lo_e25 hL _ (lo_k7_2 hL _ t_pr) _ (by omega))) (lo_k5_2 hL _ (lo_k6_6 hL _ (lo_e25 hL _ (lo_k7_2 hL _ t_pr) _ (by omega)))) (by decide) (by decide)
      have eX := (hk1_47 X (tg_ne t_X (lo_k6_6 hL _ (lo_e25 hL _ (lo_k7_2 hL _ t_pr) _ (by omega))) (by decide)) (tg_ne t_X (lo_k5_2 hL _ (lo_k6_6 hL _ (lo_e25 hL _ (lo_k7_2 hL _ t_pr) _ (by omega)))) (by decide))).trans eX
      have eNx := (hk1_47 (g.lk (g.lk pr 2) la) (tg_ne (lo_e25 hL _ (lo_k7_2 hL _ t_pr) _ (by omega)) (lo_k6_6 hL _ (lo_e25 hL _ (lo_k7_2 hL _ t_pr) _ (by omega))) (by decide)) (tg_ne (lo_e25 hL _ (lo_k7_2 hL _ t_pr) _ (by omega)) (lo_k5_2 hL _ (lo_k6_6 hL _ (lo_e25 hL _ (lo_k7_2 hL _ t_pr) _ (by omega)))) (by decide))).trans eNx
      obtain ⟨sg48, nn49, dd50, e51, e52, hN53⟩ := lv_45
      have c54 : ∀ i, i < 15 → ∃ k, k < 1000000000 ∧ dd50 i = nI k := hN53.2.1
      have hnn49 : nn49 ≤ 15 := hN53.1
      have hNx : LNV sg48 nn49 dd50 V := LNV_cast hN53 (hsx rfl).1
      have hkw9 := hk1_47
      refine lv_astore_n (lv' := [(2, .ref (g.lk (g.lk (g.lk pr 2) la) 6)), (0, .ref X), (1, .ref (g.lk (g.lk pr 2) la))]) hx hb d_NRunner_keep_13 rfl hl (by decide) rfl (fun ls hl => ?_)
      refine lv_aload_n hx hb d_NRunner_keep_14 rfl (lv_at hl 1 rfl) ?_
      refine pf_get (v := .ref (g.lk X 7)) (C := "BigRunner$Runner") (T := FT8) (N := 13) hx hb (hw8 hB _) (fun _ h9 => h9) hown hK hP (lo_in hL t_X (by decide)) eX rfl 7 (by decide) (wd_339 hB _) rfl d_NRunner_keep_15 ?_
      refine lv_aload_n hx hb d_NRunner_keep_18 rfl (lv_at hl 1 rfl) ?_
      refine pf_get (v := .int (nI os)) (C := "BigRunner$Runner") (T := FT8) (N := 13) hx hb (hw8 hB _) (fun _ h9 => h9) hown hK hP (lo_in hL t_X (by decide)) eX rfl 8 (by decide) (wd_341 hB _) rfl d_NRunner_keep_19 ?_
      have e55 := oc_29.of (lo_k9_7 hL _ t_X) (hI1_46.1 (g.lk X 7))
      refine pf_aald (i := os) hx hb hK hP (lo_in hL (lo_k9_7 hL _ t_X) (by decide)) e55 (lo_t29 hL _ (lo_k9_7 hL _ t_X)) (by omega) (by decide) d_NRunner_keep_22 ?_
      have t56 := lo_e29 hL _ (lo_k9_7 hL _ t_X) os (by omega)
      refine lv_aload_n hx hb d_NRunner_keep_23 rfl (lv_at hl 0 rfl) ?_
      refine lv_aload_n hx hb d_NRunner_keep_24 rfl (lv_at hl 0 rfl) ?_
      refine pf_get (v := .int sg48) (C := "BigRunner$LongNumber") (T := FT4) (N := 3) hx hb (hw4 hB _) (fun _ h9 => h9) hown hK hP (lo_in hL (lo_k6_6 hL _ (lo_e25 hL _ (lo_k7_2 hL _ t_pr) _ (by omega))) (by decide)) e51 rfl 0 (by decide) (wd_189 hB _) rfl d_NRunner_keep_25 ?_
      obtain ⟨sg_58, n_59, e57, c60⟩ := oc_5.of t56 (hI1_46.1 (g.lk (g.lk X 7) os))
      refine pcc_v (va_runV (C := "BigRunner$LongNumber") (As := [.ref (g.lk (g.lk (g.lk pr 2) la) 6), .int sg48]) (rest := []) ⟨hx, hb, hml, hown, tb_nil⟩ (v_copy l g H.size f42 ((g.lk (g.lk X 7) os)) ((g.lk (g.lk (g.lk pr 2) la) 6)) sg48 nn49 dd50 V sg48 hL t56 (lo_k6_6 hL _ (lo_e25 hL _ (lo_k7_2 hL _ t_pr) _ (by omega))) hI1_46 e51 e52 hNx (tn_ne ((lo_n6 hL _ (lo_e25 hL _ (lo_k7_2 hL _ t_pr) _ (by omega))).trans (lo_n25 hL _ (lo_k7_2 hL _ t_pr) _ (by omega))) (lo_n29 hL _ (lo_k9_7 hL _ t_X) _ (by omega)) (by omega)) hNx.2.2.1) ⟨(callB_of 2 (tb_one (wd_746 hB _)) tb_good1 rfl rfl rfl (wd_78 hB _) (wd_743 hB _) (by decide +kernel) ⟨Nat.le_of_ble_eq_true rfl, Nat.le_of_ble_eq_true rfl⟩), (wd_744 hB _), (wd_745 hB _)⟩ ⟨pe_bl, pg_recv (ci := 4) hK hP (lo_in hL t56 (by decide)) e57 rfl, pe_pre hB hK hP hD⟩ rfl rfl hl.1 rfl (lv_room (Nat.le_of_ble_eq_true rfl)) d_NRunner_keep_28 ⟨Nat.le_of_ble_eq_true rfl, Nat.le_of_ble_eq_true rfl⟩) hS (fun f62 H locs hq63 hP hD hS => ?_)
      obtain ⟨lv_64, hI1_65, hk1_66⟩ := hq63
      have hu := hu.st2 hk1_66 t56 (lo_k5_2 hL _ t56) (by decide) (by decide)
      have eX := (hk1_66 X (tg_ne t_X t56 (by decide)) (tg_ne t_X (lo_k5_2 hL _ t56) (by decide))).trans eX
      have eNx := (hk1_66 (g.lk (g.lk pr 2) la) (tg_ne (lo_e25 hL _ (lo_k7_2 hL _ t_pr) _ (by omega)) t56 (by decide)) (tg_ne (lo_e25 hL _ (lo_k7_2 hL _ t_pr) _ (by omega)) (lo_k5_2 hL _ t56) (by decide))).trans eNx
      have e51 := (hk1_66 (g.lk (g.lk (g.lk pr 2) la) 6) (tn_ne ((lo_n6 hL _ (lo_e25 hL _ (lo_k7_2 hL _ t_pr) _ (by omega))).trans (lo_n25 hL _ (lo_k7_2 hL _ t_pr) _ (by omega))) (lo_n29 hL _ (lo_k9_7 hL _ t_X) _ (by omega)) (by omega)) (tg_ne (lo_k6_6 hL _ (lo_e25 hL _ (lo_k7_2 hL _ t_pr) _ (by omega))) (lo_k5_2 hL _ t56) (by decide))).trans e51
      have e52 := (hk1_66 (g.lk (g.lk (g.lk (g.lk pr 2) la) 6) 2) (tg_ne (lo_k5_2 hL _ (lo_k6_6 hL _ (lo_e25 hL _ (lo_k7_2 hL _ t_pr) _ (by omega)))) t56 (by decide)) (fun q9 => (tn_ne ((lo_n6 hL _ (lo_e25 hL _ (lo_k7_2 hL _ t_pr) _ (by omega))).trans (lo_n25 hL _ (lo_k7_2 hL _ t_pr) _ (by omega))) (lo_n29 hL _ (lo_k9_7 hL _ t_X) _ (by omega)) (by omega)) (lo_inj5 hL _ _ (lo_k6_6 hL _ (lo_e25 hL _ (lo_k7_2 hL _ t_pr) _ (by omega))) t56 q9))).trans e52
      have e55 := (hk1_66 (g.lk X 7) (tg_ne (lo_k9_7 hL _ t_X) t56 (by decide)) (tg_ne (lo_k9_7 hL _ t_X) (lo_k5_2 hL _ t56) (by decide))).trans e55
      obtain ⟨sg67, nn68, dd69, e70, e71, hN72⟩ := lv_64
      have c73 : ∀ i, i < 15 → ∃ k, k < 1000000000 ∧ dd69 i = nI k := hN72.2.1
      have hnn68 : nn68 ≤ 15 := hN72.1
      have hkc9 := hk1_66
      have hlv9 : LV g f62 (g.lk (g.lk X 7) os) V := ⟨_, _, _, e70, e71, LNV_cast hN72 hNx.2.2.2.2.symm⟩
      have hu99 : un [9] g f62 f62 := un.rf
      refine lv_aload_n hx hb d_NRunner_keep_31 rfl (lv_at hl 1 rfl) ?_
      refine lv_dup hx hb d_NRunner_keep_32 rfl ?_
      refine pf_get (v := .int (nI os)) (C := "BigRunner$Runner") (T := FT8) (N := 13) hx hb (hw8 hB _) (fun _ h9 => h9) hown hK hP (lo_in hL t_X (by decide)) eX rfl 8 (by decide) (wd_341 hB _) rfl d_NRunner_keep_33 ?_
      refine lv_iconst (v := nI 1) hx hb d_NRunner_keep_36 (by decide) ?_
      refine pf_iaddN (x := os) (y := 1) hx hb d_NRunner_keep_37 ?_
      refine pf_put (v := .int (nI (os + 1))) (ty := .int) (fs' := [.ref pr, .ref (g.lk X 1), .int (nI ix), .ref (g.lk X 3), .ref (g.lk X 4), .ref (g.lk X 5), .ref (g.lk X 6), .ref (g.lk X 7), .int (nI (os + 1)), .int (nI st), .int mo, .int lo, .int (nI tr)]) (C := "BigRunner$Runner") (T := FT8) (N := 13) hx hb (hw8 hB _) (fun _ h9 => h9) TY8 ok8 nm8 hown hK hP hD hS (lo_in hL t_X (by decide)) eX rfl 8 (by decide) (wd_341 hB _) rfl (by decide +kernel) rfl rfl (Nat.le_of_ble_eq_true rfl) rfl d_NRunner_keep_38 (fun f74 H locs e75 k76 hP hD hS => ?_)
      have eNx := (k76 (g.lk (g.lk pr 2) la) (tg_ne (lo_e25 hL _ (lo_k7_2 hL _ t_pr) _ (by omega)) t_X (by decide))).trans eNx
      have e51 := (k76 (g.lk (g.lk (g.lk pr 2) la) 6) (tg_ne (lo_k6_6 hL _ (lo_e25 hL _ (lo_k7_2 hL _ t_pr) _ (by omega))) t_X (by decide))).trans e51
      have e52 := (k76 (g.lk (g.lk (g.lk (g.lk pr 2) la) 6) 2) (tg_ne (lo_k5_2 hL _ (lo_k6_6 hL _ (lo_e25 hL _ (lo_k7_2 hL _ t_pr) _ (by omega)))) t_X (by decide))).trans e52
      have e55 := (k76 (g.lk X 7) (tg_ne (lo_k9_7 hL _ t_X) t_X (by decide))).trans e55
      have e70 := (k76 (g.lk (g.lk X 7) os) (tg_ne t56 t_X (by decide))).trans e70
      have e71 := (k76 (g.lk (g.lk (g.lk X 7) os) 2) (tg_ne (lo_k5_2 hL _ t56) t_X (by decide))).trans e71
      have hu := hu.st k76 t_X (by decide)
      have hu99 := hu99.st k76 t_X (by decide)
      have hk77 : ∀ b, b ≠ X → f74 b = f62 b := k76
      have hI78 := iv_1 hI1_65 hL t_X (by decide) hk77 (oc_9.mk t_X (⟨pr, ix, (os + 1), st, mo, lo, tr, e75, t_pr, (by omega), (by omega), (by omega), (by omega)⟩))
      exact pe_vret hx hb hr hlocks hK hP hD hS d_NRunner_keep_41 ⟨e75, (OUTS_k hL t_X t_pr hla hol (by omega) hou htx hkw9 hkc9 hlv9 hu99), (OF_k hL t_X t_pr hla (by omega) hkw9 hkc9 hu99), hI78, hu⟩
set_option maxHeartbeats 4000000 in
set_option maxRecDepth 100000 in
theorem v_take (l : Launch) (g : Lay) (sz : Nat) (f : Nat → va_E) (X : Nat) (x0 : Int) (ins : List Int) (hL : LO g) (t_X : g.tg X = 9) (hI : IV g f) (hIN : INS g f X (x0 :: ins)) : Met l ⟨"BigRunner$Inputs", "take", "()I"⟩ [Cond.code ⟨"BigRunner$Inputs", "take", "()I"⟩ prog_2_method_3_code 2 (some .int)] ({ frames := 0, cells := 0, slots := 0, locals := 0 }) (va_Pc [.ref (g.lk X 1)] (pc_in g sz f)) (va_Qi (fun r f1 => (r.toInt = x0 ∧ x0.natAbs ≤ 1000000000) ∧ (INS g f1 X ins) ∧ (IV g f1) ∧ (∀ b, b ≠ (g.lk X 1) → f1 b = f b)) (pc_out g sz) (pc_A g sz)) 0 0 (pc_A g sz) := by
  refine pe_ofW (cc := prog_2_method_3_code) (maxL := 2) (ret := (some .int)) (lv := [(0, .ref (g.lk X 1))]) (by decide) (Nat.le_of_ble_eq_true rfl) rfl ?_
  intro p e s m args below meth c ls hx hb hr hml hlocks hown hB hP hK hD hsz hS hl
  subst hsz
  have hu : ∀ b, b ≠ (g.lk X 1) → f b = f b := fun _ _ => rfl
  obtain ⟨fi, wa, hR, eI, eR, hfi, hwa, hw20, hk⟩ := hIN
  have hwa1 : wa = ins.length + 1 := hwa
  have hmod : (fi + 1) % 20 < 20 := Nat.mod_lt _ (by decide)
  refine lv_aload_n hx hb d_NInputs_take_0 rfl (lv_at hl 0 rfl) ?_
  refine pf_get (v := .int (nI wa)) (C := "BigRunner$Inputs") (T := FT1) (N := 3) hx hb (hw1 hB _) (fun _ h9 => h9) hown hK hP (lo_in hL (lo_k9_1 hL _ t_X) (by decide)) eI rfl 2 (by decide) (wd_300 hB _) rfl d_NInputs_take_1 ?_
  refine lv_if_ne (tgt := 9) hx hb d_NInputs_take_4 (by decide) (fun b1 => ?_) (fun b1 => ?_)
  · skip
    replace b1 := mt (nI_eq (a := wa) (b := 0) (by omega) (by omega)).mpr b1
    refine lv_aload_n hx hb d_NInputs_take_9 rfl (lv_at hl 0 rfl) ?_
    refine pf_get (v := .ref (g.lk (g.lk X 1) 0)) (C := "BigRunner$Inputs") (T := FT1) (N := 3) hx hb (hw1 hB _) (fun _ h9 => h9) hown hK hP (lo_in hL (lo_k9_1 hL _ t_X) (by decide)) eI rfl 0 (by decide) (wd_298 hB _) rfl d_NInputs_take_10 ?_
    refine lv_aload_n hx hb d_NInputs_take_13 rfl (lv_at hl 0 rfl) ?_
    refine pf_get (v := .int (nI fi)) (C := "BigRunner$Inputs") (T := FT1) (N := 3) hx hb (hw1 hB _) (fun _ h9 => h9) hown hK hP (lo_in hL (lo_k9_1 hL _ t_X) (by decide)) eI rfl 1 (by decide) (wd_299 hB _) rfl d_NInputs_take_14 ?_
    refine pf_iald (i := fi) hx hb hK hP (lo_in hL (lo_k2_0 hL _ (lo_k9_1 hL _ t_X)) (by decide)) eR (lo_t21 hL _ (lo_k2_0 hL _ (lo_k9_1 hL _ t_X))) (by omega) (by decide) d_NInputs_take_17 ?_
    refine lv_istore_n (lv' := [(1, .int (hR fi)), (0, .ref (g.lk X 1))]) hx hb d_NInputs_take_18 rfl hl (by decide) rfl (fun ls hl => ?_)
    refine lv_aload_n hx hb d_NInputs_take_19 rfl (lv_at hl 1 rfl) ?_
    refine lv_aload_n hx hb d_NInputs_take_20 rfl (lv_at hl 1 rfl) ?_
    refine pf_get (v := .int (nI fi)) (C := "BigRunner$Inputs") (T := FT1) (N := 3) hx hb (hw1 hB _) (fun _ h9 => h9) hown hK hP (lo_in hL (lo_k9_1 hL _ t_X) (by decide)) eI rfl 1 (by decide) (wd_299 hB _) rfl d_NInputs_take_21 ?_
    refine lv_iconst (v := nI 1) hx hb d_NInputs_take_24 (by decide) ?_
    refine pf_iaddN (x := fi) (y := 1) hx hb d_NInputs_take_25 ?_
    refine lv_bipush (v := nI 20) hx hb d_NInputs_take_26 (by decide) ?_
    refine pf_iremN (x := fi + 1) (y := 20) hx hb (by omega) (by omega) (by omega) d_NInputs_take_28 ?_
    refine pf_put (v := .int (nI ((fi + 1) % 20))) (ty := .int) (fs' := [.ref (g.lk (g.lk X 1) 0), .int (nI ((fi + 1) % 20)), .int (nI wa)]) (C := "BigRunner$Inputs") (T := FT1) (N := 3) hx hb (hw1 hB _) (fun _ h9 => h9) TY1 ok1 nm1 hown hK hP hD hS (lo_in hL (lo_k9_1 hL _ t_X) (by decide)) eI rfl 1 (by decide) (wd_299 hB _) rfl (by decide +kernel) rfl rfl (Nat.le_of_ble_eq_true rfl) rfl d_NInputs_take_29 (fun f2 H locs e3 k4 hP hD hS => ?_)
    have eR := (k4 (g.lk (g.lk X 1) 0) (tg_ne (lo_k2_0 hL _ (lo_k9_1 hL _ t_X)) (lo_k9_1 hL _ t_X) (by decide))).trans eR
    have hu : ∀ b, b ≠ (g.lk X 1) → f2 b = f b := fun b q0 => (k4 b q0).trans (hu b q0)
    have hk5 : ∀ b, b ≠ (g.lk X 1) → f2 b = f b := k4
    refine lv_aload_n hx hb d_NInputs_take_32 rfl (lv_at hl 1 rfl) ?_
    refine lv_dup hx hb d_NInputs_take_33 rfl ?_
    refine pf_get (v := .int (nI wa)) (C := "BigRunner$Inputs") (T := FT1) (N := 3) hx hb (hw1 hB _) (fun _ h9 => h9) hown hK hP (lo_in hL (lo_k9_1 hL _ t_X) (by decide)) e3 rfl 2 (by decide) (wd_300 hB _) rfl d_NInputs_take_34 ?_
    refine lv_iconst (v := nI 1) hx hb d_NInputs_take_37 (by decide) ?_
    refine pf_isubN (x := wa) (y := 1) hx hb (by omega) d_NInputs_take_38 ?_
    refine pf_put (v := .int (nI (wa - 1))) (ty := .int) (fs' := [.ref (g.lk (g.lk X 1) 0), .int (nI ((fi + 1) % 20)), .int (nI (wa - 1))]) (C := "BigRunner$Inputs") (T := FT1) (N := 3) hx hb (hw1 hB _) (fun _ h9 => h9) TY1 ok1 nm1 hown hK hP hD hS (lo_in hL (lo_k9_1 hL _ t_X) (by decide)) e3 rfl 2 (by decide) (wd_300 hB _) rfl (by decide +kernel) rfl rfl (Nat.le_of_ble_eq_true rfl) rfl d_NInputs_take_39 (fun f6 H locs e7 k8 hP hD hS => ?_)
    have eR := (k8 (g.lk (g.lk X 1) 0) (tg_ne (lo_k2_0 hL _ (lo_k9_1 hL _ t_X)) (lo_k9_1 hL _ t_X) (by decide))).trans eR
    have hu : ∀ b, b ≠ (g.lk X 1) → f6 b = f b := fun b q0 => (k8 b q0).trans (hu b q0)
    have hk9 : ∀ b, b ≠ (g.lk X 1) → f6 b = f b := fun b q0 => (k8 b q0).trans (hk5 b q0)
    refine lv_iload_n hx hb d_NInputs_take_42 rfl (lv_at hl 0 rfl) ?_
    have hI10 := iv_1 hI hL (lo_k9_1 hL _ t_X) (by decide) hk9 (oc_2.mk (lo_k9_1 hL _ t_X) (⟨((fi + 1) % 20), (wa - 1), e7, (by omega), (by omega)⟩))
    exact pe_iret hx hb hr hlocks hK hP hD hS d_NInputs_take_43 ⟨(by have z9 := hk 0 (by omega); rw [Nat.add_zero, Nat.mod_eq_of_lt hfi] at z9; exact z9), ⟨(fi + 1) % 20, wa - 1, hR, e7, eR, hmod, by omega, by omega, fun k9 hk9 => by rw [ring_mod]; exact hk (k9 + 1) (by omega)⟩, hI10, hu⟩
  · skip
    replace b1 := (nI_eq (a := wa) (b := 0) (by omega) (by omega)).mp b1
    exfalso; omega
set_option maxHeartbeats 4000000 in
set_option maxRecDepth 100000 in
theorem v_proceed (l : Launch) (g : Lay) (sz : Nat) (f : Nat → va_E) (X : Nat) (pr : Nat) (ix : Nat) (os : Nat) (st : Nat) (mo : Int32) (lo : Int32) (tr : Nat) (sn : Nat) (nn : Nat) (T : TT) (nb : Nat → Nat) (en : Nat → IVL) (L : List (Nat × Nat)) (t9 : Nat) (hL : LO g) (t_X : g.tg X = 9) (t_pr : g.tg pr = 7) (hI : IV g f) (eX : f X = .inr (8, [.ref pr, .ref (g.lk X 1), .int (nI ix), .ref (g.lk X 3), .ref (g.lk X 4), .ref (g.lk X 5), .ref (g.lk X 6), .ref (g.lk X 7), .int (nI os), .int (nI st), .int mo, .int lo, .int (nI tr)])) (hix : ix ≤ 36) (hos : os ≤ st) (hst : st ≤ 3000) (htr : tr ≤ 3) (eP : f pr = .inr (6, [.ref (g.lk pr 0), .int (nI sn), .ref (g.lk pr 2), .int (nI nn), .ref (g.lk pr 4), .ref (g.lk pr 5)])) (hsn : sn ≤ 36) (hnn : nn ≤ 72) (hPT : PT T nb sn nn en L) (hTS : TPS g f pr T) (ht9 : t9 ≤ sn) : Met l ⟨"BigRunner$Runner", "proceed", "(I)V"⟩ [Cond.code ⟨"BigRunner$Runner", "proceed", "(I)V"⟩ prog_9_method_9_code 3 none] ({ frames := 1, cells := 0, slots := 0, locals := 20 }) (va_Pc [.ref X, .int (nI t9)] (pc_in g sz f)) (va_Qv (fun f1 => (∃ (ix1 : Nat), (ix1 ≤ sn) ∧ (ix1 + nb ix1 = jmp L (t9 + nb t9)) ∧ (ix1 < sn → T 5 ix1 < 5) ∧ f1 X = .inr (8, [.ref pr, .ref (g.lk X 1), .int (nI ix1), .ref (g.lk X 3), .ref (g.lk X 4), .ref (g.lk X 5), .ref (g.lk X 6), .ref (g.lk X 7), .int (nI os), .int (nI st), .int mo, .int lo, .int (nI tr)])) ∧ (IV g f1) ∧ (∀ b, b ≠ X → f1 b = f b)) (pc_out g sz) (pc_A g sz)) 0 0 (pc_A g sz) := by
  refine pe_ofW (cc := prog_9_method_9_code) (maxL := 3) (ret := none) (lv := [(0, .ref X), (1, .int (nI t9))]) (by decide) (Nat.le_of_ble_eq_true rfl) rfl ?_
  intro p e s m args below meth c ls hx hb hr hml hlocks hown hB hP hK hD hsz hS hl
  subst hsz
  have hu : ∀ b, b ≠ X → f b = f b := fun _ _ => rfl
  have hTB := hPT.2.2.2.2.2.2.2.2.2
  refine lv_aload_n hx hb d_NRunner_proceed_0 rfl (lv_at hl 0 rfl) ?_
  refine lv_iload_n hx hb d_NRunner_proceed_1 rfl (lv_at hl 1 rfl) ?_
  refine pf_put (v := .int (nI t9)) (ty := .int) (fs' := [.ref pr, .ref (g.lk X 1), .int (nI t9), .ref (g.lk X 3), .ref (g.lk X 4), .ref (g.lk X 5), .ref (g.lk X 6), .ref (g.lk X 7), .int (nI os), .int (nI st), .int mo, .int lo, .int (nI tr)]) (C := "BigRunner$Runner") (T := FT8) (N := 13) hx hb (hw8 hB _) (fun _ h9 => h9) TY8 ok8 nm8 hown hK hP hD hS (lo_in hL t_X (by decide)) eX rfl 2 (by decide) (wd_334 hB _) rfl (by decide +kernel) rfl rfl (Nat.le_of_ble_eq_true rfl) rfl d_NRunner_proceed_2 (fun f1 H locs e2 k3 hP hD hS => ?_)
  have eP := (k3 pr (tg_ne t_pr t_X (by decide))).trans eP
  have hu : ∀ b, b ≠ X → f1 b = f b := fun b q0 => (k3 b q0).trans (hu b q0)
  have hk4 : ∀ b, b ≠ X → f1 b = f b := k3
  refine lv_iconst (v := nI 0) hx hb d_NRunner_proceed_5 (by decide) ?_
  refine lv_istore_n (lv' := [(2, .int (nI 0)), (0, .ref X), (1, .int (nI t9))]) hx hb d_NRunner_proceed_6 rfl hl (by decide) rfl (fun ls hl => ?_)
  have hI5 := iv_1 hI hL t_X (by decide) hk4 (oc_9.mk t_X (⟨pr, t9, os, st, mo, lo, tr, e2, t_pr, (by omega), (by omega), (by omega), (by omega)⟩))
  have lp6 : ∀ (k8 : Nat) (ii : Nat) (jx : Nat) (f7 : Nat → va_E) (H : Heap) (locs : List Loc) (ls : Array Slot), (36 < ii + k8) → (jx ≤ sn) → (ii ≤ 36) → (ii ≤ jx ∨ (jx < sn → T 5 jx < 5)) → (jmpf L ii (t9 + nb t9) = jx + nb jx) → f7 X = .inr (8, [.ref pr, .ref (g.lk X 1), .int (nI jx), .ref (g.lk X 3), .ref (g.lk X 4), .ref (g.lk X 5), .ref (g.lk X 6), .ref (g.lk X 7), .int (nI os), .int (nI st), .int mo, .int lo, .int (nI tr)]) → IV g f7 → un [9] g f1 f7 → (∀ b, b ≠ X → f7 b = f b) → lv_has ls 3 [(2, .int (nI ii)), (0, .ref X), (1, .int (nI t9))] → va_P g.D vcl (va_pl g.LP f7) H → va_D (pc_A g s.heap.size) (va_pl g.LP f7) → va_S (pc_A g s.heap.size) s.heap H locs → W p l e ({ frames := 1, cells := 0, slots := 0, locals := 20 }) s m args below meth c H locs 0 0 (MQ below (va_Qv (fun f1 => (∃ (ix1 : Nat), (ix1 ≤ sn) ∧ (ix1 + nb ix1 = jmp L (t9 + nb t9)) ∧ (ix1 < sn → T 5 ix1 < 5) ∧ f1 X = .inr (8, [.ref pr, .ref (g.lk X 1), .int (nI ix1), .ref (g.lk X 3), .ref (g.lk X 4), .ref (g.lk X 5), .ref (g.lk X 6), .ref (g.lk X 7), .int (nI os), .int (nI st), .int mo, .int lo, .int (nI tr)])) ∧ (IV g f1) ∧ (∀ b, b ≠ X → f1 b = f b)) (pc_out g s.heap.size) (pc_A g s.heap.size)) args s 0 0 (pc_A g s.heap.size)) (F0 m 7 ls []) := by
    intro k8
    induction k8 with
    | zero => intros; exfalso; omega
    | succ k8 ih9 =>
      intro ii jx f7 H locs ls hfu10 hjx hii hv9 hjf e11 hI12 hv13 hu hl hP hD hS
      have eP := hv13.at t_pr (by decide) eP
      rcases hv9 with hv9 | hv9
      · skip
        refine lv_iload_n hx hb d_NRunner_proceed_7 rfl (lv_at hl 0 rfl) ?_
        refine lv_bipush (v := nI 36) hx hb d_NRunner_proceed_8 (by decide) ?_
        refine lv_icmp_ge (tgt := 65) hx hb d_NRunner_proceed_10 (by decide) (fun b14 => ?_) (fun b14 => ?_)
        · skip
          replace b14 := (nI_leI (a := 36) (b := ii) (by omega) (by omega)).mp b14
          have hnj9 : jx < sn → T 5 jx < 5 := fun z => by exfalso; omega
          exact pe_vret hx hb hr hlocks hK hP hD hS d_NRunner_proceed_65 ⟨⟨jx, by omega, (jmp_of hjf (PT_stop hPT (by omega) hnj9) (by omega)).symm, hnj9, e11⟩, hI12, hu⟩
        · skip
          replace b14 := mt (nI_leI (a := 36) (b := ii) (by omega) (by omega)).mpr b14
          refine lv_aload_n hx hb d_NRunner_proceed_13 rfl (lv_at hl 1 rfl) ?_
          refine pcc_i (va_runV (C := "BigRunner$Runner") (As := []) (rest := []) ⟨hx, hb, hml, hown, tb_nil⟩ (c_ended l g H.size f7 X pr jx os st mo lo tr sn nn hL t_X t_pr hI12.1 e11 (by omega) (by omega) (by omega) (by omega) eP (by omega) (by omega)) ⟨(callB_of 0 (tb_one (wd_423 hB _)) tb_good1 rfl rfl rfl (wd_79 hB _) (wd_428 hB _) (by decide +kernel) ⟨Nat.le_of_ble_eq_true rfl, Nat.le_of_ble_eq_true rfl⟩), (wd_421 hB _), (wd_422 hB _)⟩ ⟨pe_bl, pg_recv (ci := 8) hK hP (lo_in hL t_X (by decide)) e11 rfl, pe_pre hB hK hP hD⟩ rfl rfl hl.1 rfl (lv_room (Nat.le_of_ble_eq_true rfl)) d_NRunner_proceed_14 ⟨Nat.le_of_ble_eq_true rfl, Nat.le_of_ble_eq_true rfl⟩) hS (fun r15 f16 H locs hq17 hP hD hS => ?_)
          obtain ⟨bo_18, i0_19, i1_20, rfl⟩ := hq17
          refine lv_if_ne (tgt := 65) hx hb d_NRunner_proceed_17 (by decide) (fun b21 => ?_) (fun b21 => ?_)
          · skip
            have hr22 : r15 = nI 1 := (bl_1 bo_18 b21)
            have hi23 := i1_20 hr22
            have hnj9 : jx < sn → T 5 jx < 5 := fun z => by exfalso; omega
            exact pe_vret hx hb hr hlocks hK hP hD hS d_NRunner_proceed_65 ⟨⟨jx, by omega, (jmp_of hjf (PT_stop hPT (by omega) hnj9) (by omega)).symm, hnj9, e11⟩, hI12, hu⟩
          · skip
            have hr24 : r15 = nI 0 := b21
            have hi25 := i0_19 hr24
            refine lv_aload_n hx hb d_NRunner_proceed_20 rfl (lv_at hl 1 rfl) ?_
            refine pf_get (v := .ref pr) (C := "BigRunner$Runner") (T := FT8) (N := 13) hx hb (hw8 hB _) (fun _ h9 => h9) hown hK hP (lo_in hL t_X (by decide)) e11 rfl 0 (by decide) (wd_330 hB _) rfl d_NRunner_proceed_21 ?_
            refine pf_get (v := .ref (g.lk pr 0)) (C := "BigRunner$Program") (T := FT6) (N := 6) hx hb (hw6 hB _) (fun _ h9 => h9) hown hK hP (lo_in hL t_pr (by decide)) eP rfl 0 (by decide) (wd_243 hB _) rfl d_NRunner_proceed_24 ?_
            refine lv_aload_n hx hb d_NRunner_proceed_27 rfl (lv_at hl 1 rfl) ?_
            refine pf_get (v := .int (nI jx)) (C := "BigRunner$Runner") (T := FT8) (N := 13) hx hb (hw8 hB _) (fun _ h9 => h9) hown hK hP (lo_in hL t_X (by decide)) e11 rfl 2 (by decide) (wd_334 hB _) rfl d_NRunner_proceed_28 ?_
            have e26 := oc_24.of (lo_k7_0 hL _ t_pr) (hI12.1 (g.lk pr 0))
            refine pf_aald (i := jx) hx hb hK hP (lo_in hL (lo_k7_0 hL _ t_pr) (by decide)) e26 (lo_t24 hL _ (lo_k7_0 hL _ t_pr)) (by omega) (by decide) d_NRunner_proceed_31 ?_
            have t27 := lo_e24 hL _ (lo_k7_0 hL _ t_pr) jx (by omega)
            obtain ⟨hb5, hb6, hb7, hb8, hb9⟩ := hTB.2 jx (by omega)
            obtain ⟨la_28, e29, hla30⟩ := hTS jx (by omega)
            have e29 := (hu _ (tg_ne t27 t_X (by decide))).trans e29
            refine pf_get (v := .int (nI (T 5 jx))) (C := "BigRunner$Statement") (T := FT9) (N := 5) hx hb (hw9 hB _) (fun _ h9 => h9) hown hK hP (lo_in hL t27 (by decide)) e29 rfl 0 (by decide) (wd_145 hB _) rfl d_NRunner_proceed_32 ?_
            refine lv_iconst (v := nI 5) hx hb d_NRunner_proceed_35 (by decide) ?_
            refine lv_icmp_eq (tgt := 40) hx hb d_NRunner_proceed_36 (by decide) (fun b31 => ?_) (fun b31 => ?_)
            · skip
              replace b31 := (nI_eq (a := T 5 jx) (b := 5) (by omega) (by omega)).mp b31
              refine lv_aload_n hx hb d_NRunner_proceed_40 rfl (lv_at hl 1 rfl) ?_
              refine lv_aload_n hx hb d_NRunner_proceed_41 rfl (lv_at hl 1 rfl) ?_
              refine pf_get (v := .ref pr) (C := "BigRunner$Runner") (T := FT8) (N := 13) hx hb (hw8 hB _) (fun _ h9 => h9) hown hK hP (lo_in hL t_X (by decide)) e11 rfl 0 (by decide) (wd_330 hB _) rfl d_NRunner_proceed_42 ?_
              refine pf_get (v := .ref (g.lk pr 0)) (C := "BigRunner$Program") (T := FT6) (N := 6) hx hb (hw6 hB _) (fun _ h9 => h9) hown hK hP (lo_in hL t_pr (by decide)) eP rfl 0 (by decide) (wd_243 hB _) rfl d_NRunner_proceed_45 ?_
              refine lv_aload_n hx hb d_NRunner_proceed_48 rfl (lv_at hl 1 rfl) ?_
              refine pf_get (v := .int (nI jx)) (C := "BigRunner$Runner") (T := FT8) (N := 13) hx hb (hw8 hB _) (fun _ h9 => h9) hown hK hP (lo_in hL t_X (by decide)) e11 rfl 2 (by decide) (wd_334 hB _) rfl d_NRunner_proceed_49 ?_
              refine pf_aald (i := jx) hx hb hK hP (lo_in hL (lo_k7_0 hL _ t_pr) (by decide)) e26 (lo_t24 hL _ (lo_k7_0 hL _ t_pr)) (by omega) (by decide) d_NRunner_proceed_52 ?_
              refine pf_get (v := .int (nI (T 9 jx))) (C := "BigRunner$Statement") (T := FT9) (N := 5) hx hb (hw9 hB _) (fun _ h9 => h9) hown hK hP (lo_in hL t27 (by decide)) e29 rfl 4 (by decide) (wd_160 hB _) rfl d_NRunner_proceed_53 ?_
              refine pf_put (v := .int (nI (T 9 jx))) (ty := .int) (fs' := [.ref pr, .ref (g.lk X 1), .int (nI (T 9 jx)), .ref (g.lk X 3), .ref (g.lk X 4), .ref (g.lk X 5), .ref (g.lk X 6), .ref (g.lk X 7), .int (nI os), .int (nI st), .int mo, .int lo, .int (nI tr)]) (C := "BigRunner$Runner") (T := FT8) (N := 13) hx hb (hw8 hB _) (fun _ h9 => h9) TY8 ok8 nm8 hown hK hP hD hS (lo_in hL t_X (by decide)) e11 rfl 2 (by decide) (wd_334 hB _) rfl (by decide +kernel) rfl rfl (Nat.le_of_ble_eq_true rfl) rfl d_NRunner_proceed_56 (fun f32 H locs e33 k34 hP hD hS => ?_)
              have eP := (k34 pr (tg_ne t_pr t_X (by decide))).trans eP
              have e26 := (k34 (g.lk pr 0) (tg_ne (lo_k7_0 hL _ t_pr) t_X (by decide))).trans e26
              have e29 := (k34 (g.lk (g.lk pr 0) jx) (tg_ne t27 t_X (by decide))).trans e29
              have hu : ∀ b, b ≠ X → f32 b = f b := fun b q0 => (k34 b q0).trans (hu b q0)
              have hv13 := hv13.st k34 t_X (by decide)
              have hk35 : ∀ b, b ≠ X → f32 b = f7 b := k34
              refine lv_iinc (k := 0) (v := nI (ii + 1)) (lv' := [(2, .int (nI (ii + 1))), (0, .ref X), (1, .int (nI t9))]) hx hb d_NRunner_proceed_59 hl rfl (by rw [nI_succ]; rfl) (by decide) rfl (fun ls hl => ?_)
              refine lv_goto (tgt := 7) hx hb d_NRunner_proceed_62 (by decide) ?_
              have hI36 := iv_1 hI12 hL t_X (by decide) hk35 (oc_9.mk t_X (⟨pr, (T 9 jx), os, st, mo, lo, tr, e33, t_pr, (by omega), (by omega), (by omega), (by omega)⟩))
              have h59 : T 5 jx = 5 := by omega
              have hgo9 := hPT.2.2.2.2.2.2.1 jx (by omega) h59
              exact ih9 (ii + 1) (T 9 jx) f32 H locs ls (by omega) (by omega) (by omega) (by rcases hgo9 with q | q; exact Or.inl (by omega); exact Or.inr (fun _ => q.2)) (PT_jf hPT (by omega) h59 hjf) e33 hI36 hv13 hu hl hP hD hS
            · skip
              replace b31 := mt (nI_eq (a := T 5 jx) (b := 5) (by omega) (by omega)).mpr b31
              have hnj9 : jx < sn → T 5 jx < 5 := fun _ => by omega
              exact pe_vret hx hb hr hlocks hK hP hD hS d_NRunner_proceed_39 ⟨⟨jx, by omega, (jmp_of hjf (PT_stop hPT (by omega) hnj9) (by omega)).symm, hnj9, e11⟩, hI12, hu⟩
      · skip
        refine lv_iload_n hx hb d_NRunner_proceed_7 rfl (lv_at hl 0 rfl) ?_
        refine lv_bipush (v := nI 36) hx hb d_NRunner_proceed_8 (by decide) ?_
        refine lv_icmp_ge (tgt := 65) hx hb d_NRunner_proceed_10 (by decide) (fun b37 => ?_) (fun b37 => ?_)
        · skip
          replace b37 := (nI_leI (a := 36) (b := ii) (by omega) (by omega)).mp b37
          have hnj9 : jx < sn → T 5 jx < 5 := hv9
          exact pe_vret hx hb hr hlocks hK hP hD hS d_NRunner_proceed_65 ⟨⟨jx, by omega, (jmp_of hjf (PT_stop hPT (by omega) hnj9) (by omega)).symm, hnj9, e11⟩, hI12, hu⟩
        · skip
          replace b37 := mt (nI_leI (a := 36) (b := ii) (by omega) (by omega)).mpr b37
          refine lv_aload_n hx hb d_NRunner_proceed_13 rfl (lv_at hl 1 rfl) ?_
          refine pcc_i (va_runV (C := "BigRunner$Runner") (As := []) (rest := []) ⟨hx, hb, hml, hown, tb_nil⟩ (c_ended l g H.size f7 X pr jx os st mo lo tr sn nn hL t_X t_pr hI12.1 e11 (by omega) (by omega) (by omega) (by omega) eP (by omega) (by omega)) ⟨(callB_of 0 (tb_one (wd_423 hB _)) tb_good1 rfl rfl rfl (wd_79 hB _) (wd_428 hB _) (by decide +kernel) ⟨Nat.le_of_ble_eq_true rfl, Nat.le_of_ble_eq_true rfl⟩), (wd_421 hB _), (wd_422 hB _)⟩ ⟨pe_bl, pg_recv (ci := 8) hK hP (lo_in hL t_X (by decide)) e11 rfl, pe_pre hB hK hP hD⟩ rfl rfl hl.1 rfl (lv_room (Nat.le_of_ble_eq_true rfl)) d_NRunner_proceed_14 ⟨Nat.le_of_ble_eq_true rfl, Nat.le_of_ble_eq_true rfl⟩) hS (fun r38 f39 H locs hq40 hP hD hS => ?_)
          obtain ⟨bo_41, i0_42, i1_43, rfl⟩ := hq40
          refine lv_if_ne (tgt := 65) hx hb d_NRunner_proceed_17 (by decide) (fun b44 => ?_) (fun b44 => ?_)
          · skip
            have hr45 : r38 = nI 1 := (bl_1 bo_41 b44)
            have hi46 := i1_43 hr45
            have hnj9 : jx < sn → T 5 jx < 5 := hv9
            exact pe_vret hx hb hr hlocks hK hP hD hS d_NRunner_proceed_65 ⟨⟨jx, by omega, (jmp_of hjf (PT_stop hPT (by omega) hnj9) (by omega)).symm, hnj9, e11⟩, hI12, hu⟩
          · skip
            have hr47 : r38 = nI 0 := b44
            have hi48 := i0_42 hr47
            refine lv_aload_n hx hb d_NRunner_proceed_20 rfl (lv_at hl 1 rfl) ?_
            refine pf_get (v := .ref pr) (C := "BigRunner$Runner") (T := FT8) (N := 13) hx hb (hw8 hB _) (fun _ h9 => h9) hown hK hP (lo_in hL t_X (by decide)) e11 rfl 0 (by decide) (wd_330 hB _) rfl d_NRunner_proceed_21 ?_
            refine pf_get (v := .ref (g.lk pr 0)) (C := "BigRunner$Program") (T := FT6) (N := 6) hx hb (hw6 hB _) (fun _ h9 => h9) hown hK hP (lo_in hL t_pr (by decide)) eP rfl 0 (by decide) (wd_243 hB _) rfl d_NRunner_proceed_24 ?_
            refine lv_aload_n hx hb d_NRunner_proceed_27 rfl (lv_at hl 1 rfl) ?_
            refine pf_get (v := .int (nI jx)) (C := "BigRunner$Runner") (T := FT8) (N := 13) hx hb (hw8 hB _) (fun _ h9 => h9) hown hK hP (lo_in hL t_X (by decide)) e11 rfl 2 (by decide) (wd_334 hB _) rfl d_NRunner_proceed_28 ?_
            have e49 := oc_24.of (lo_k7_0 hL _ t_pr) (hI12.1 (g.lk pr 0))
            refine pf_aald (i := jx) hx hb hK hP (lo_in hL (lo_k7_0 hL _ t_pr) (by decide)) e49 (lo_t24 hL _ (lo_k7_0 hL _ t_pr)) (by omega) (by decide) d_NRunner_proceed_31 ?_
            have t50 := lo_e24 hL _ (lo_k7_0 hL _ t_pr) jx (by omega)
            obtain ⟨hb5, hb6, hb7, hb8, hb9⟩ := hTB.2 jx (by omega)
            obtain ⟨la_51, e52, hla53⟩ := hTS jx (by omega)
            have e52 := (hu _ (tg_ne t50 t_X (by decide))).trans e52
            refine pf_get (v := .int (nI (T 5 jx))) (C := "BigRunner$Statement") (T := FT9) (N := 5) hx hb (hw9 hB _) (fun _ h9 => h9) hown hK hP (lo_in hL t50 (by decide)) e52 rfl 0 (by decide) (wd_145 hB _) rfl d_NRunner_proceed_32 ?_
            refine lv_iconst (v := nI 5) hx hb d_NRunner_proceed_35 (by decide) ?_
            refine lv_icmp_eq (tgt := 40) hx hb d_NRunner_proceed_36 (by decide) (fun b54 => ?_) (fun b54 => ?_)
            · skip
              replace b54 := (nI_eq (a := T 5 jx) (b := 5) (by omega) (by omega)).mp b54
              refine lv_aload_n hx hb d_NRunner_proceed_40 rfl (lv_at hl 1 rfl) ?_
              refine lv_aload_n hx hb d_NRunner_proceed_41 rfl (lv_at hl 1 rfl) ?_
              refine pf_get (v := .ref pr) (C := "BigRunner$Runner") (T := FT8) (N := 13) hx hb (hw8 hB _) (fun _ h9 => h9) hown hK hP (lo_in hL t_X (by decide)) e11 rfl 0 (by decide) (wd_330 hB _) rfl d_NRunner_proceed_42 ?_
              refine pf_get (v := .ref (g.lk pr 0)) (C := "BigRunner$Program") (T := FT6) (N := 6) hx hb (hw6 hB _) (fun _ h9 => h9) hown hK hP (lo_in hL t_pr (by decide)) eP rfl 0 (by decide) (wd_243 hB _) rfl d_NRunner_proceed_45 ?_
              refine lv_aload_n hx hb d_NRunner_proceed_48 rfl (lv_at hl 1 rfl) ?_
              refine pf_get (v := .int (nI jx)) (C := "BigRunner$Runner") (T := FT8) (N := 13) hx hb (hw8 hB _) (fun _ h9 => h9) hown hK hP (lo_in hL t_X (by decide)) e11 rfl 2 (by decide) (wd_334 hB _) rfl d_NRunner_proceed_49 ?_
              refine pf_aald (i := jx) hx hb hK hP (lo_in hL (lo_k7_0 hL _ t_pr) (by decide)) e49 (lo_t24 hL _ (lo_k7_0 hL _ t_pr)) (by omega) (by decide) d_NRunner_proceed_52 ?_
              refine pf_get (v := .int (nI (T 9 jx))) (C := "BigRunner$Statement") (T := FT9) (N := 5) hx hb (hw9 hB _) (fun _ h9 => h9) hown hK hP (lo_in hL t50 (by decide)) e52 rfl 4 (by decide) (wd_160 hB _) rfl d_NRunner_proceed_53 ?_
              refine pf_put (v := .int (nI (T 9 jx))) (ty := .int) (fs' := [.ref pr, .ref (g.lk X 1), .int (nI (T 9 jx)), .ref (g.lk X 3), .ref (g.lk X 4), .ref (g.lk X 5), .ref (g.lk X 6), .ref (g.lk X 7), .int (nI os), .int (nI st), .int mo, .int lo, .int (nI tr)]) (C := "BigRunner$Runner") (T := FT8) (N := 13) hx hb (hw8 hB _) (fun _ h9 => h9) TY8 ok8 nm8 hown hK hP hD hS (lo_in hL t_X (by decide)) e11 rfl 2 (by decide) (wd_334 hB _) rfl (by decide +kernel) rfl rfl (Nat.le_of_ble_eq_true rfl) rfl d_NRunner_proceed_56 (fun f55 H locs e56 k57 hP hD hS => ?_)
              have eP := (k57 pr (tg_ne t_pr t_X (by decide))).trans eP
              have e49 := (k57 (g.lk pr 0) (tg_ne (lo_k7_0 hL _ t_pr) t_X (by decide))).trans e49
              have e52 := (k57 (g.lk (g.lk pr 0) jx) (tg_ne t50 t_X (by decide))).trans e52
              have hu : ∀ b, b ≠ X → f55 b = f b := fun b q0 => (k57 b q0).trans (hu b q0)
              have hv13 := hv13.st k57 t_X (by decide)
              have hk58 : ∀ b, b ≠ X → f55 b = f7 b := k57
              refine lv_iinc (k := 0) (v := nI (ii + 1)) (lv' := [(2, .int (nI (ii + 1))), (0, .ref X), (1, .int (nI t9))]) hx hb d_NRunner_proceed_59 hl rfl (by rw [nI_succ]; rfl) (by decide) rfl (fun ls hl => ?_)
              refine lv_goto (tgt := 7) hx hb d_NRunner_proceed_62 (by decide) ?_
              have hI59 := iv_1 hI12 hL t_X (by decide) hk58 (oc_9.mk t_X (⟨pr, (T 9 jx), os, st, mo, lo, tr, e56, t_pr, (by omega), (by omega), (by omega), (by omega)⟩))
              exact ih9 (ii + 1) (T 9 jx) f55 H locs ls (by omega) (by exfalso; have z9 := hv9 (by omega); omega) (by omega) (by exfalso; have z9 := hv9 (by omega); omega) (by exfalso; have z9 := hv9 (by omega); omega) e56 hI59 hv13 hu hl hP hD hS
            · skip
              replace b54 := mt (nI_eq (a := T 5 jx) (b := 5) (by omega) (by omega)).mpr b54
              have hnj9 : jx < sn → T 5 jx < 5 := fun _ => by omega
              exact pe_vret hx hb hr hlocks hK hP hD hS d_NRunner_proceed_39 ⟨⟨jx, by omega, (jmp_of hjf (PT_stop hPT (by omega) hnj9) (by omega)).symm, hnj9, e11⟩, hI12, hu⟩
  exact lp6 37 0 t9 f1 H locs ls (by omega) (by omega) (by omega) (by omega) rfl e2 hI5 un.rf hu hl hP hD hS

