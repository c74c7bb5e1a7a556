set_option maxHeartbeats 4000000 in
set_option maxRecDepth 100000 in
theorem w_limb (l : Launch) (g : Lay) (sz : Nat) (f : Nat → va_E) (M : Nat) (k9 : Nat) (i : Nat) (hLI : Nat → Int32) (hL : LO g) (t_M : g.tg M = 11) (hI : OC g f) (eLI : f (g.lk M 30) = .inl (g.ac (g.lk M 30), 1600, .inl hLI)) (c6LI : C6 1600 hLI) (hk : k9 < 80) (hi : i < 100) : Met l ⟨"BigRunnerModel", "limb", "(II)I"⟩ [Cond.code ⟨"BigRunnerModel", "limb", "(II)I"⟩ prog_12_method_26_code 3 (some .int)] ({ frames := 0, cells := 0, slots := 0, locals := 0 }) (va_Pc [.ref M, .int (nI k9), .int (nI i)] (pc_in g sz f)) (va_Qi (fun r f1 => (r = nI (l6 hLI k9 i)) ∧ (f = f1)) (pc_out g sz) (pc_A g sz)) 0 0 (pc_A g sz) := by
  refine pe_ofW (cc := prog_12_method_26_code) (maxL := 3) (ret := (some .int)) (lv := [(0, .ref M), (1, .int (nI k9)), (2, .int (nI i))]) (by decide) (Nat.le_of_ble_eq_true rfl) rfl ?_
  intro p e s m args below meth c ls hx hb hr hml hlocks hown hB hP hK hD hsz hS hl
  subst hsz
  refine lv_iload_n hx hb d_M_limb_0 rfl (lv_at hl 2 rfl) ?_
  refine lv_bipush (v := nI 20) hx hb d_M_limb_1 (by decide) ?_
  refine lv_icmp_ge (tgt := 20) hx hb d_M_limb_3 (by decide) (fun b1 => ?_) (fun b1 => ?_)
  · skip
    replace b1 := (nI_leI (a := 20) (b := i) (by omega) (by omega)).mp b1
    refine lv_iconst (v := nI 0) hx hb d_M_limb_20 (by decide) ?_
    exact pe_iret hx hb hr hlocks hK hP hD hS d_M_limb_21 ⟨(congrArg nI (show 0 = l6 hLI k9 i by unfold l6; rw [if_neg (by omega)])), rfl⟩
  · skip
    replace b1 := mt (nI_leI (a := 20) (b := i) (by omega) (by omega)).mpr b1
    refine lv_aload_n hx hb d_M_limb_6 rfl (lv_at hl 0 rfl) ?_
    obtain ⟨th_3, n_4, dr_5, sz_6, ix_7, dp_8, wt_9, op_10, tp_11, wa_12, gi_13, pc_14, st_15, tr_16, sp_17, ma_18, lg_19, du_20, e2, c21, c22, c23, c24, c25, c26, c27, c28, c29, c30, c31, c32, c33, c34, c35⟩ := oc_11.of t_M (hI M)
    refine pf_get (v := .ref (g.lk M 30)) (C := "BigRunnerModel") (T := FT10) (N := 45) hx hb (hw10 hB _) (fun _ h9 => h9) hown hK hP (lo_in hL t_M (by decide)) e2 rfl 30 (by decide) (wd_977 hB _) rfl d_M_limb_7 ?_
    refine lv_bipush (v := nI 20) hx hb d_M_limb_10 (by decide) ?_
    refine lv_iload_n hx hb d_M_limb_12 rfl (lv_at hl 1 rfl) ?_
    refine pf_imulN (x := 20) (y := k9) hx hb d_M_limb_13 ?_
    refine lv_iload_n hx hb d_M_limb_14 rfl (lv_at hl 2 rfl) ?_
    refine pf_iaddN (x := 20 * k9) (y := i) hx hb d_M_limb_15 ?_
    refine pf_iald (i := (20 * k9) + i) hx hb hK hP (lo_in hL (lo_k11_30 hL _ t_M) (by decide)) eLI (lo_t62 hL _ (lo_k11_30 hL _ t_M)) (by omega) (by decide) d_M_limb_16 ?_
    have hd36 := dg6_lt c6LI (j := (20 * k9) + i) (by omega)
    refine lv_topi (fun z_ hz_ => ?_)
    obtain rfl : z_ = nI (dg hLI ((20 * k9) + i)) := hz_.trans (dg6_eq c6LI (by omega))
    refine lv_goto (tgt := 21) hx hb d_M_limb_17 (by decide) ?_
    exact pe_iret hx hb hr hlocks hK hP hD hS d_M_limb_21 ⟨(congrArg nI (show dg hLI ((20 * k9) + i) = l6 hLI k9 i by unfold l6; rw [if_pos (by omega)])), rfl⟩
set_option maxHeartbeats 4000000 in
set_option maxRecDepth 100000 in
theorem w_setNumber (l : Launch) (g : Lay) (sz : Nat) (f : Nat → va_E) (M : Nat) (k9 : Nat) (v : Int32) (hLI : Nat → Int32) (hSI : Nat → Int32) (hL : LO g) (t_M : g.tg M = 11) (hI : IV g f) (eLI : f (g.lk M 30) = .inl (g.ac (g.lk M 30), 1600, .inl hLI)) (eSI : f (g.lk M 31) = .inl (g.ac (g.lk M 31), 80, .inl hSI)) (c6LI : C6 1600 hLI) (hk : k9 < 80) (hv9 : v.toInt.natAbs ≤ 1000000000) : Met l ⟨"BigRunnerModel", "setNumber", "(II)V"⟩ [Cond.code ⟨"BigRunnerModel", "setNumber", "(II)V"⟩ prog_12_method_27_code 4 none] ({ frames := 0, cells := 0, slots := 0, locals := 0 }) (va_Pc [.ref M, .int (nI k9), .int v] (pc_in g sz f)) (va_Qv (fun f1 => (∃ (hl hs : Nat → Int32), f1 (g.lk M 30) = .inl (g.ac (g.lk M 30), 1600, .inl hl) ∧ f1 (g.lk M 31) = .inl (g.ac (g.lk M 31), 80, .inl hs) ∧ C6 1600 hl ∧ SV hl hs k9 v.toInt ∧ SF k9 hLI hl ∧ ∀ j, j ≠ k9 → hs j = hSI j) ∧ (IV g f1) ∧ (∀ b, b ≠ (g.lk M 30) → b ≠ (g.lk M 31) → f1 b = f b)) (pc_out g sz) (pc_A g sz)) 0 0 (pc_A g sz) := by
  refine pe_ofW (cc := prog_12_method_27_code) (maxL := 4) (ret := none) (lv := [(0, .ref M), (1, .int (nI k9)), (2, .int v)]) (by decide) (Nat.le_of_ble_eq_true rfl) rfl ?_
  intro p e s m args below meth c ls hx hb hr hml hlocks hown hB hP hK hD hsz hS hl
  subst hsz
  have hu : ∀ b, b ≠ (g.lk M 30) → b ≠ (g.lk M 31) → f b = f b := fun _ _ _  => rfl
  refine lv_iconst (v := nI 0) hx hb d_M_setNumber_0 (by decide) ?_
  refine lv_istore_n (lv' := [(3, .int (nI 0)), (0, .ref M), (1, .int (nI k9)), (2, .int v)]) hx hb d_M_setNumber_1 rfl hl (by decide) rfl (fun ls hl => ?_)
  have lp1 : ∀ (k3 : Nat) (i : Nat) (h : Nat → Int32) (f2 : Nat → va_E) (H : Heap) (locs : List Loc) (ls : Array Slot), (20 < i + k3) → (i ≤ 20) → (C6 1600 h) → (∀ j, j < i → dg h (20 * k9 + j) = 0) → (SF k9 hLI h) → f2 (g.lk M 30) = .inl (g.ac (g.lk M 30), 1600, .inl (h)) → IV g f2 → un [62] g f f2 → (∀ b, b ≠ (g.lk M 30) → b ≠ (g.lk M 31) → f2 b = f b) → lv_has ls 4 [(3, .int (nI i)), (0, .ref M), (1, .int (nI k9)), (2, .int v)] → va_P g.D vcl (va_pl g.LP f2) H → va_D (pc_A g s.heap.size) (va_pl g.LP f2) → va_S (pc_A g s.heap.size) s.heap H locs → W p l e ({ frames := 0, cells := 0, slots := 0, locals := 0 }) s m args below meth c H locs 0 0 (MQ below (va_Qv (fun f1 => (∃ (hl hs : Nat → Int32), f1 (g.lk M 30) = .inl (g.ac (g.lk M 30), 1600, .inl hl) ∧ f1 (g.lk M 31) = .inl (g.ac (g.lk M 31), 80, .inl hs) ∧ C6 1600 hl ∧ SV hl hs k9 v.toInt ∧ SF k9 hLI hl ∧ ∀ j, j ≠ k9 → hs j = hSI j) ∧ (IV g f1) ∧ (∀ b, b ≠ (g.lk M 30) → b ≠ (g.lk M 31) → f1 b = f b)) (pc_out g s.heap.size) (pc_A g s.heap.size)) args s 0 0 (pc_A g s.heap.size)) (F0 m 2 ls []) := by
    intro k3
    induction k3 with
    | zero => intros; exfalso; omega
    | succ k3 ih4 =>
      intro i h f2 H locs ls hfu5 hi hc hz hsf e6 hI7 hv8 hu hl hP hD hS
      have eSI := hv8.at (lo_k11_31 hL _ t_M) (by decide) eSI
      refine lv_iload_n hx hb d_M_setNumber_2 rfl (lv_at hl 0 rfl) ?_
      refine lv_bipush (v := nI 20) hx hb d_M_setNumber_3 (by decide) ?_
      refine lv_icmp_ge (tgt := 26) hx hb d_M_setNumber_5 (by decide) (fun b9 => ?_) (fun b9 => ?_)
      · skip
        replace b9 := (nI_leI (a := 20) (b := i) (by omega) (by omega)).mp b9
        refine lv_iload_n hx hb d_M_setNumber_26 rfl (lv_at hl 3 rfl) ?_
        refine lv_if_ge (tgt := 35) hx hb d_M_setNumber_27 (by decide) (fun b10 => ?_) (fun b10 => ?_)
        · skip
          refine lv_iload_n hx hb d_M_setNumber_35 rfl (lv_at hl 3 rfl) ?_
          obtain ⟨q, hqv⟩ : ∃ q : Nat, q = v.toInt.natAbs := ⟨_, rfl⟩
          rw [← hqv] at hv9
          refine lv_topi (fun z_ hz_ => ?_)
          obtain rfl : z_ = nI q := by rw [hz_, hqv]; exact (n32 (by omega)).2 (Int32.not_lt.mpr b10)
          have hz20 : ∀ j, j < 20 → dg h (20 * k9 + j) = 0 := fun j hj => hz j (by omega)
          refine lv_istore_n (lv' := [(3, .int (nI q)), (0, .ref M), (1, .int (nI k9)), (2, .int v)]) hx hb d_M_setNumber_36 rfl hl (by decide) rfl (fun ls hl => ?_)
          refine lv_aload_n hx hb d_M_setNumber_37 rfl (lv_at hl 1 rfl) ?_
          obtain ⟨th_12, n_13, dr_14, sz_15, ix_16, dp_17, wt_18, op_19, tp_20, wa_21, gi_22, pc_23, st_24, tr_25, sp_26, ma_27, lg_28, du_29, e11, c30, c31, c32, c33, c34, c35, c36, c37, c38, c39, c40, c41, c42, c43, c44⟩ := oc_11.of t_M (hI7.1 M)
          refine pf_get (v := .ref (g.lk M 30)) (C := "BigRunnerModel") (T := FT10) (N := 45) hx hb (hw10 hB _) (fun _ h9 => h9) hown hK hP (lo_in hL t_M (by decide)) e11 rfl 30 (by decide) (wd_977 hB _) rfl d_M_setNumber_38 ?_
          refine lv_bipush (v := nI 20) hx hb d_M_setNumber_41 (by decide) ?_
          refine lv_iload_n hx hb d_M_setNumber_43 rfl (lv_at hl 2 rfl) ?_
          refine pf_imulN (x := 20) (y := k9) hx hb d_M_setNumber_44 ?_
          refine lv_iload_n hx hb d_M_setNumber_45 rfl (lv_at hl 0 rfl) ?_
          refine lv_ldc (v := 1000000) hx hb hown (wd_1212 hB _) d_M_setNumber_46 ?_
          refine lv_topi (fun z_ hz_ => ?_)
          obtain rfl : z_ = nI 1000000 := hz_
          refine pf_iremN (x := q) (y := 1000000) hx hb (by omega) (by omega) (by omega) d_M_setNumber_48 ?_
          refine pf_iast (i := 20 * k9) hx hb hK hP hD hS (lo_in hL (lo_k11_30 hL _ t_M) (by decide)) e6 (lo_t62 hL _ (lo_k11_30 hL _ t_M)) (by omega) (by decide) d_M_setNumber_49 (fun f45 H locs e46 k47 hP hD hS => ?_)
          have eSI := (k47 (g.lk M 31) (tg_ne (lo_k11_31 hL _ t_M) (lo_k11_30 hL _ t_M) (by decide))).trans eSI
          have e11 := (k47 M (tg_ne t_M (lo_k11_30 hL _ t_M) (by decide))).trans e11
          have hu : ∀ b, b ≠ (g.lk M 30) → b ≠ (g.lk M 31) → f45 b = f b := fun b q0 q1 => (k47 b q0).trans (hu b q0 q1)
          have hv8 := hv8.st k47 (lo_k11_30 hL _ t_M) (by decide)
          have hk48 : ∀ b, b ≠ (g.lk M 30) → f45 b = f2 b := k47
          have c49 := lb6_upd (n := 1600) (i := 20 * k9) (v := q % 1000000) hc (by omega)
          refine lv_aload_n hx hb d_M_setNumber_50 rfl (lv_at hl 1 rfl) ?_
          refine pf_get (v := .ref (g.lk M 30)) (C := "BigRunnerModel") (T := FT10) (N := 45) hx hb (hw10 hB _) (fun _ h9 => h9) hown hK hP (lo_in hL t_M (by decide)) e11 rfl 30 (by decide) (wd_977 hB _) rfl d_M_setNumber_51 ?_
          refine lv_bipush (v := nI 20) hx hb d_M_setNumber_54 (by decide) ?_
          refine lv_iload_n hx hb d_M_setNumber_56 rfl (lv_at hl 2 rfl) ?_
          refine pf_imulN (x := 20) (y := k9) hx hb d_M_setNumber_57 ?_
          refine lv_iconst (v := nI 1) hx hb d_M_setNumber_58 (by decide) ?_
          refine pf_iaddN (x := 20 * k9) (y := 1) hx hb d_M_setNumber_59 ?_
          refine lv_iload_n hx hb d_M_setNumber_60 rfl (lv_at hl 0 rfl) ?_
          refine lv_ldc (v := 1000000) hx hb hown (wd_1212 hB _) d_M_setNumber_61 ?_
          refine lv_topi (fun z_ hz_ => ?_)
          obtain rfl : z_ = nI 1000000 := hz_
          refine pf_idivN (x := q) (y := 1000000) hx hb (by omega) (by omega) (by omega) d_M_setNumber_63 ?_
          refine pf_iast (i := (20 * k9) + 1) hx hb hK hP hD hS (lo_in hL (lo_k11_30 hL _ t_M) (by decide)) e46 (lo_t62 hL _ (lo_k11_30 hL _ t_M)) (by omega) (by decide) d_M_setNumber_64 (fun f50 H locs e51 k52 hP hD hS => ?_)
          have eSI := (k52 (g.lk M 31) (tg_ne (lo_k11_31 hL _ t_M) (lo_k11_30 hL _ t_M) (by decide))).trans eSI
          have e11 := (k52 M (tg_ne t_M (lo_k11_30 hL _ t_M) (by decide))).trans e11
          have hu : ∀ b, b ≠ (g.lk M 30) → b ≠ (g.lk M 31) → f50 b = f b := fun b q0 q1 => (k52 b q0).trans (hu b q0 q1)
          have hv8 := hv8.st k52 (lo_k11_30 hL _ t_M) (by decide)
          have hk53 : ∀ b, b ≠ (g.lk M 30) → f50 b = f2 b := fun b q0 => (k52 b q0).trans (hk48 b q0)
          have c54 := lb6_upd (n := 1600) (i := (20 * k9) + 1) (v := q / 1000000) c49 (by omega)
          refine lv_aload_n hx hb d_M_setNumber_65 rfl (lv_at hl 1 rfl) ?_
          refine pf_get (v := .ref (g.lk M 31)) (C := "BigRunnerModel") (T := FT10) (N := 45) hx hb (hw10 hB _) (fun _ h9 => h9) hown hK hP (lo_in hL t_M (by decide)) e11 rfl 31 (by decide) (wd_978 hB _) rfl d_M_setNumber_66 ?_
          refine lv_iload_n hx hb d_M_setNumber_69 rfl (lv_at hl 2 rfl) ?_
          refine lv_iload_n hx hb d_M_setNumber_70 rfl (lv_at hl 3 rfl) ?_
          refine lv_if_ge (tgt := 78) hx hb d_M_setNumber_71 (by decide) (fun b55 => ?_) (fun b55 => ?_)
          · skip
            refine lv_iload_n hx hb d_M_setNumber_78 rfl (lv_at hl 3 rfl) ?_
            refine lv_if_le (tgt := 86) hx hb d_M_setNumber_79 (by decide) (fun b56 => ?_) (fun b56 => ?_)
            · skip
              refine lv_iconst (v := nI 0) hx hb d_M_setNumber_86 (by decide) ?_
              have hI57 := iv_1 hI7 hL (lo_k11_30 hL _ t_M) (by decide) hk53 (oc_62.mk (lo_k11_30 hL _ t_M) (⟨_, e51⟩))
              refine pf_iast (i := k9) hx hb hK hP hD hS (lo_in hL (lo_k11_31 hL _ t_M) (by decide)) eSI (lo_t63 hL _ (lo_k11_31 hL _ t_M)) (by omega) (by decide) d_M_setNumber_87 (fun f58 H locs e59 k60 hP hD hS => ?_)
              have e11 := (k60 M (tg_ne t_M (lo_k11_31 hL _ t_M) (by decide))).trans e11
              have e51 := (k60 (g.lk M 30) (tg_ne (lo_k11_30 hL _ t_M) (lo_k11_31 hL _ t_M) (by decide))).trans e51
              have hu : ∀ b, b ≠ (g.lk M 30) → b ≠ (g.lk M 31) → f58 b = f b := fun b q0 q1 => (k60 b q1).trans (hu b q0 q1)
              have hk61 : ∀ b, b ≠ (g.lk M 31) → f58 b = f50 b := k60
              have hI62 := iv_1 hI57 hL (lo_k11_31 hL _ t_M) (by decide) hk61 (oc_63.mk (lo_k11_31 hL _ t_M) (⟨_, e59⟩))
              exact pe_vret hx hb hr hlocks hK hP hD hS d_M_setNumber_88 ⟨⟨_, _, e51, e59, c54, ⟨(by rw [upd_at]; first | exact (sgI_n (i32_lt.mp (Int32.not_le.mp (by assumption)))).symm | exact (sgI_p (i32_gt.mp (Int32.not_le.mp (by assumption)))).symm | exact (sgI_0 (Int.le_antisymm (Int.not_lt.mp (fun z => absurd (i32_gt.mpr z) (Int32.not_lt.mpr (by assumption)))) (Int.not_lt.mp (fun z => absurd (i32_lt.mpr z) (Int32.not_lt.mpr (by assumption)))))).symm | (exfalso; omega)), by rw [sn_val hz20 (by omega) (by omega)]; omega⟩, SF_u (SF_u0 hsf) (by omega), fun j hj => upd_ne _ _ hj⟩, hI62, hu⟩
            · skip
              refine lv_iconst (v := nI 1) hx hb d_M_setNumber_82 (by decide) ?_
              refine lv_goto (tgt := 87) hx hb d_M_setNumber_83 (by decide) ?_
              have hI63 := iv_1 hI7 hL (lo_k11_30 hL _ t_M) (by decide) hk53 (oc_62.mk (lo_k11_30 hL _ t_M) (⟨_, e51⟩))
              refine pf_iast (i := k9) hx hb hK hP hD hS (lo_in hL (lo_k11_31 hL _ t_M) (by decide)) eSI (lo_t63 hL _ (lo_k11_31 hL _ t_M)) (by omega) (by decide) d_M_setNumber_87 (fun f64 H locs e65 k66 hP hD hS => ?_)
              have e11 := (k66 M (tg_ne t_M (lo_k11_31 hL _ t_M) (by decide))).trans e11
              have e51 := (k66 (g.lk M 30) (tg_ne (lo_k11_30 hL _ t_M) (lo_k11_31 hL _ t_M) (by decide))).trans e51
              have hu : ∀ b, b ≠ (g.lk M 30) → b ≠ (g.lk M 31) → f64 b = f b := fun b q0 q1 => (k66 b q1).trans (hu b q0 q1)
              have hk67 : ∀ b, b ≠ (g.lk M 31) → f64 b = f50 b := k66
              have hI68 := iv_1 hI63 hL (lo_k11_31 hL _ t_M) (by decide) hk67 (oc_63.mk (lo_k11_31 hL _ t_M) (⟨_, e65⟩))
              exact pe_vret hx hb hr hlocks hK hP hD hS d_M_setNumber_88 ⟨⟨_, _, e51, e65, c54, ⟨(by rw [upd_at]; first | exact (sgI_n (i32_lt.mp (Int32.not_le.mp (by assumption)))).symm | exact (sgI_p (i32_gt.mp (Int32.not_le.mp (by assumption)))).symm | exact (sgI_0 (Int.le_antisymm (Int.not_lt.mp (fun z => absurd (i32_gt.mpr z) (Int32.not_lt.mpr (by assumption)))) (Int.not_lt.mp (fun z => absurd (i32_lt.mpr z) (Int32.not_lt.mpr (by assumption)))))).symm | (exfalso; omega)), by rw [sn_val hz20 (by omega) (by omega)]; omega⟩, SF_u (SF_u0 hsf) (by omega), fun j hj => upd_ne _ _ hj⟩, hI68, hu⟩
          · skip
            refine lv_iconst (v := (-1)) hx hb d_M_setNumber_74 (by decide) ?_
            refine lv_goto (tgt := 87) hx hb d_M_setNumber_75 (by decide) ?_
            have hI69 := iv_1 hI7 hL (lo_k11_30 hL _ t_M) (by decide) hk53 (oc_62.mk (lo_k11_30 hL _ t_M) (⟨_, e51⟩))
            refine pf_iast (i := k9) hx hb hK hP hD hS (lo_in hL (lo_k11_31 hL _ t_M) (by decide)) eSI (lo_t63 hL _ (lo_k11_31 hL _ t_M)) (by omega) (by decide) d_M_setNumber_87 (fun f70 H locs e71 k72 hP hD hS => ?_)
            have e11 := (k72 M (tg_ne t_M (lo_k11_31 hL _ t_M) (by decide))).trans e11
            have e51 := (k72 (g.lk M 30) (tg_ne (lo_k11_30 hL _ t_M) (lo_k11_31 hL _ t_M) (by decide))).trans e51
            have hu : ∀ b, b ≠ (g.lk M 30) → b ≠ (g.lk M 31) → f70 b = f b := fun b q0 q1 => (k72 b q1).trans (hu b q0 q1)
            have hk73 : ∀ b, b ≠ (g.lk M 31) → f70 b = f50 b := k72
            have hI74 := iv_1 hI69 hL (lo_k11_31 hL _ t_M) (by decide) hk73 (oc_63.mk (lo_k11_31 hL _ t_M) (⟨_, e71⟩))
            exact pe_vret hx hb hr hlocks hK hP hD hS d_M_setNumber_88 ⟨⟨_, _, e51, e71, c54, ⟨(by rw [upd_at]; first | exact (sgI_n (i32_lt.mp (Int32.not_le.mp (by assumption)))).symm | exact (sgI_p (i32_gt.mp (Int32.not_le.mp (by assumption)))).symm | exact (sgI_0 (Int.le_antisymm (Int.not_lt.mp (fun z => absurd (i32_gt.mpr z) (Int32.not_lt.mpr (by assumption)))) (Int.not_lt.mp (fun z => absurd (i32_lt.mpr z) (Int32.not_lt.mpr (by assumption)))))).symm | (exfalso; omega)), by rw [sn_val hz20 (by omega) (by omega)]; omega⟩, SF_u (SF_u0 hsf) (by omega), fun j hj => upd_ne _ _ hj⟩, hI74, hu⟩
        · skip
          refine lv_iload_n hx hb d_M_setNumber_30 rfl (lv_at hl 3 rfl) ?_
          refine lv_ineg hx hb d_M_setNumber_31 ?_
          refine lv_goto (tgt := 36) hx hb d_M_setNumber_32 (by decide) ?_
          obtain ⟨q, hqv⟩ : ∃ q : Nat, q = v.toInt.natAbs := ⟨_, rfl⟩
          rw [← hqv] at hv9
          refine lv_topi (fun z_ hz_ => ?_)
          obtain rfl : z_ = nI q := by rw [hz_, hqv]; exact (n32 (by omega)).1 (Int32.not_le.mp b10)
          have hz20 : ∀ j, j < 20 → dg h (20 * k9 + j) = 0 := fun j hj => hz j (by omega)
          refine lv_istore_n (lv' := [(3, .int (nI q)), (0, .ref M), (1, .int (nI k9)), (2, .int v)]) hx hb d_M_setNumber_36 rfl hl (by decide) rfl (fun ls hl => ?_)
          refine lv_aload_n hx hb d_M_setNumber_37 rfl (lv_at hl 1 rfl) ?_
          obtain ⟨th_76, n_77, dr_78, sz_79, ix_80, dp_81, wt_82, op_83, tp_84, wa_85, gi_86, pc_87, st_88, tr_89, sp_90, ma_91, lg_92, du_93, e75, c94, c95, c96, c97, c98, c99, c100, c101, c102, c103, c104, c105, c106, c107, c108⟩ := oc_11.of t_M (hI7.1 M)
          refine pf_get (v := .ref (g.lk M 30)) (C := "BigRunnerModel") (T := FT10) (N := 45) hx hb (hw10 hB _) (fun _ h9 => h9) hown hK hP (lo_in hL t_M (by decide)) e75 rfl 30 (by decide) (wd_977 hB _) rfl d_M_setNumber_38 ?_
          refine lv_bipush (v := nI 20) hx hb d_M_setNumber_41 (by decide) ?_
          refine lv_iload_n hx hb d_M_setNumber_43 rfl (lv_at hl 2 rfl) ?_
          refine pf_imulN (x := 20) (y := k9) hx hb d_M_setNumber_44 ?_
          refine lv_iload_n hx hb d_M_setNumber_45 rfl (lv_at hl 0 rfl) ?_
          refine lv_ldc (v := 1000000) hx hb hown (wd_1212 hB _) d_M_setNumber_46 ?_
          refine lv_topi (fun z_ hz_ => ?_)
          obtain rfl : z_ = nI 1000000 := hz_
          refine pf_iremN (x := q) (y := 1000000) hx hb (by omega) (by omega) (by omega) d_M_setNumber_48 ?_
          refine pf_iast (i := 20 * k9) hx hb hK hP hD hS (lo_in hL (lo_k11_30 hL _ t_M) (by decide)) e6 (lo_t62 hL _ (lo_k11_30 hL _ t_M)) (by omega) (by decide) d_M_setNumber_49 (fun f109 H locs e110 k111 hP hD hS => ?_)
          have eSI := (k111 (g.lk M 31) (tg_ne (lo_k11_31 hL _ t_M) (lo_k11_30 hL _ t_M) (by decide))).trans eSI
          have e75 := (k111 M (tg_ne t_M (lo_k11_30 hL _ t_M) (by decide))).trans e75
          have hu : ∀ b, b ≠ (g.lk M 30) → b ≠ (g.lk M 31) → f109 b = f b := fun b q0 q1 => (k111 b q0).trans (hu b q0 q1)
          have hv8 := hv8.st k111 (lo_k11_30 hL _ t_M) (by decide)
          have hk112 : ∀ b, b ≠ (g.lk M 30) → f109 b = f2 b := k111
          have c113 := lb6_upd (n := 1600) (i := 20 * k9) (v := q % 1000000) hc (by omega)
          refine lv_aload_n hx hb d_M_setNumber_50 rfl (lv_at hl 1 rfl) ?_
          refine pf_get (v := .ref (g.lk M 30)) (C := "BigRunnerModel") (T := FT10) (N := 45) hx hb (hw10 hB _) (fun _ h9 => h9) hown hK hP (lo_in hL t_M (by decide)) e75 rfl 30 (by decide) (wd_977 hB _) rfl d_M_setNumber_51 ?_
          refine lv_bipush (v := nI 20) hx hb d_M_setNumber_54 (by decide) ?_
          refine lv_iload_n hx hb d_M_setNumber_56 rfl (lv_at hl 2 rfl) ?_
          refine pf_imulN (x := 20) (y := k9) hx hb d_M_setNumber_57 ?_
          refine lv_iconst (v := nI 1) hx hb d_M_setNumber_58 (by decide) ?_
          refine pf_iaddN (x := 20 * k9) (y := 1) hx hb d_M_setNumber_59 ?_
          refine lv_iload_n hx hb d_M_setNumber_60 rfl (lv_at hl 0 rfl) ?_
          refine lv_ldc (v := 1000000) hx hb hown (wd_1212 hB _) d_M_setNumber_61 ?_
          refine lv_topi (fun z_ hz_ => ?_)
          obtain rfl : z_ = nI 1000000 := hz_
          refine pf_idivN (x := q) (y := 1000000) hx hb (by omega) (by omega) (by omega) d_M_setNumber_63 ?_
          refine pf_iast (i := (20 * k9) + 1) hx hb hK hP hD hS (lo_in hL (lo_k11_30 hL _ t_M) (by decide)) e110 (lo_t62 hL _ (lo_k11_30 hL _ t_M)) (by omega) (by decide) d_M_setNumber_64 (fun f114 H locs e115 k116 hP hD hS => ?_)
          have eSI := (k116 (g.lk M 31) (tg_ne (lo_k11_31 hL _ t_M) (lo_k11_30 hL _ t_M) (by decide))).trans eSI
          have e75 := (k116 M (tg_ne t_M (lo_k11_30 hL _ t_M) (by decide))).trans e75
          have hu : ∀ b, b ≠ (g.lk M 30) → b ≠ (g.lk M 31) → f114 b = f b := fun b q0 q1 => (k116 b q0).trans (hu b q0 q1)
          have hv8 := hv8.st k116 (lo_k11_30 hL _ t_M) (by decide)
          have hk117 : ∀ b, b ≠ (g.lk M 30) → f114 b = f2 b := fun b q0 => (k116 b q0).trans (hk112 b q0)
          have c118 := lb6_upd (n := 1600) (i := (20 * k9) + 1) (v := q / 1000000) c113 (by omega)
          refine lv_aload_n hx hb d_M_setNumber_65 rfl (lv_at hl 1 rfl) ?_
          refine pf_get (v := .ref (g.lk M 31)) (C := "BigRunnerModel") (T := FT10) (N := 45) hx hb (hw10 hB _) (fun _ h9 => h9) hown hK hP (lo_in hL t_M (by decide)) e75 rfl 31 (by decide) (wd_978 hB _) rfl d_M_setNumber_66 ?_
          refine lv_iload_n hx hb d_M_setNumber_69 rfl (lv_at hl 2 rfl) ?_
          refine lv_iload_n hx hb d_M_setNumber_70 rfl (lv_at hl 3 rfl) ?_
          refine lv_if_ge (tgt := 78) hx hb d_M_setNumber_71 (by decide) (fun b119 => ?_) (fun b119 => ?_)
          · skip
            refine lv_iload_n hx hb d_M_setNumber_78 rfl (lv_at hl 3 rfl) ?_
            refine lv_if_le (tgt := 86) hx hb d_M_setNumber_79 (by decide) (fun b120 => ?_) (fun b120 => ?_)
            · skip
              refine lv_iconst (v := nI 0) hx hb d_M_setNumber_86 (by decide) ?_
              have hI121 := iv_1 hI7 hL (lo_k11_30 hL _ t_M) (by decide) hk117 (oc_62.mk (lo_k11_30 hL _ t_M) (⟨_, e115⟩))
              refine pf_iast (i := k9) hx hb hK hP hD hS (lo_in hL (lo_k11_31 hL _ t_M) (by decide)) eSI (lo_t63 hL _ (lo_k11_31 hL _ t_M)) (by omega) (by decide) d_M_setNumber_87 (fun f122 H locs e123 k124 hP hD hS => ?_)
              have e75 := (k124 M (tg_ne t_M (lo_k11_31 hL _ t_M) (by decide))).trans e75
              have e115 := (k124 (g.lk M 30) (tg_ne (lo_k11_30 hL _ t_M) (lo_k11_31 hL _ t_M) (by decide))).trans e115
              have hu : ∀ b, b ≠ (g.lk M 30) → b ≠ (g.lk M 31) → f122 b = f b := fun b q0 q1 => (k124 b q1).trans (hu b q0 q1)
              have hk125 : ∀ b, b ≠ (g.lk M 31) → f122 b = f114 b := k124
              have hI126 := iv_1 hI121 hL (lo_k11_31 hL _ t_M) (by decide) hk125 (oc_63.mk (lo_k11_31 hL _ t_M) (⟨_, e123⟩))
              exact pe_vret hx hb hr hlocks hK hP hD hS d_M_setNumber_88 ⟨⟨_, _, e115, e123, c118, ⟨(by rw [upd_at]; first | exact (sgI_n (i32_lt.mp (Int32.not_le.mp (by assumption)))).symm | exact (sgI_p (i32_gt.mp (Int32.not_le.mp (by assumption)))).symm | exact (sgI_0 (Int.le_antisymm (Int.not_lt.mp (fun z => absurd (i32_gt.mpr z) (Int32.not_lt.mpr (by assumption)))) (Int.not_lt.mp (fun z => absurd (i32_lt.mpr z) (Int32.not_lt.mpr (by assumption)))))).symm | (exfalso; omega)), by rw [sn_val hz20 (by omega) (by omega)]; omega⟩, SF_u (SF_u0 hsf) (by omega), fun j hj => upd_ne _ _ hj⟩, hI126, hu⟩
            · skip
              refine lv_iconst (v := nI 1) hx hb d_M_setNumber_82 (by decide) ?_
              refine lv_goto (tgt := 87) hx hb d_M_setNumber_83 (by decide) ?_
              have hI127 := iv_1 hI7 hL (lo_k11_30 hL _ t_M) (by decide) hk117 (oc_62.mk (lo_k11_30 hL _ t_M) (⟨_, e115⟩))
              refine pf_iast (i := k9) hx hb hK hP hD hS (lo_in hL (lo_k11_31 hL _ t_M) (by decide)) eSI (lo_t63 hL _ (lo_k11_31 hL _ t_M)) (by omega) (by decide) d_M_setNumber_87 (fun f128 H locs e129 k130 hP hD hS => ?_)
              have e75 := (k130 M (tg_ne t_M (lo_k11_31 hL _ t_M) (by decide))).trans e75
              have e115 := (k130 (g.lk M 30) (tg_ne (lo_k11_30 hL _ t_M) (lo_k11_31 hL _ t_M) (by decide))).trans e115
              have hu : ∀ b, b ≠ (g.lk M 30) → b ≠ (g.lk M 31) → f128 b = f b := fun b q0 q1 => (k130 b q1).trans (hu b q0 q1)
              have hk131 : ∀ b, b ≠ (g.lk M 31) → f128 b = f114 b := k130
              have hI132 := iv_1 hI127 hL (lo_k11_31 hL _ t_M) (by decide) hk131 (oc_63.mk (lo_k11_31 hL _ t_M) (⟨_, e129⟩))
              exact pe_vret hx hb hr hlocks hK hP hD hS d_M_setNumber_88 ⟨⟨_, _, e115, e129, c118, ⟨(by rw [upd_at]; first | exact (sgI_n (i32_lt.mp (Int32.not_le.mp (by assumption)))).symm | exact (sgI_p (i32_gt.mp (Int32.not_le.mp (by assumption)))).symm | exact (sgI_0 (Int.le_antisymm (Int.not_lt.mp (fun z => absurd (i32_gt.mpr z) (Int32.not_lt.mpr (by assumption)))) (Int.not_lt.mp (fun z => absurd (i32_lt.mpr z) (Int32.not_lt.mpr (by assumption)))))).symm | (exfalso; omega)), by rw [sn_val hz20 (by omega) (by omega)]; omega⟩, SF_u (SF_u0 hsf) (by omega), fun j hj => upd_ne _ _ hj⟩, hI132, hu⟩
          · skip
            refine lv_iconst (v := (-1)) hx hb d_M_setNumber_74 (by decide) ?_
            refine lv_goto (tgt := 87) hx hb d_M_setNumber_75 (by decide) ?_
            have hI133 := iv_1 hI7 hL (lo_k11_30 hL _ t_M) (by decide) hk117 (oc_62.mk (lo_k11_30 hL _ t_M) (⟨_, e115⟩))
            refine pf_iast (i := k9) hx hb hK hP hD hS (lo_in hL (lo_k11_31 hL _ t_M) (by decide)) eSI (lo_t63 hL _ (lo_k11_31 hL _ t_M)) (by omega) (by decide) d_M_setNumber_87 (fun f134 H locs e135 k136 hP hD hS => ?_)
            have e75 := (k136 M (tg_ne t_M (lo_k11_31 hL _ t_M) (by decide))).trans e75
            have e115 := (k136 (g.lk M 30) (tg_ne (lo_k11_30 hL _ t_M) (lo_k11_31 hL _ t_M) (by decide))).trans e115
            have hu : ∀ b, b ≠ (g.lk M 30) → b ≠ (g.lk M 31) → f134 b = f b := fun b q0 q1 => (k136 b q1).trans (hu b q0 q1)
            have hk137 : ∀ b, b ≠ (g.lk M 31) → f134 b = f114 b := k136
            have hI138 := iv_1 hI133 hL (lo_k11_31 hL _ t_M) (by decide) hk137 (oc_63.mk (lo_k11_31 hL _ t_M) (⟨_, e135⟩))
            exact pe_vret hx hb hr hlocks hK hP hD hS d_M_setNumber_88 ⟨⟨_, _, e115, e135, c118, ⟨(by rw [upd_at]; first | exact (sgI_n (i32_lt.mp (Int32.not_le.mp (by assumption)))).symm | exact (sgI_p (i32_gt.mp (Int32.not_le.mp (by assumption)))).symm | exact (sgI_0 (Int.le_antisymm (Int.not_lt.mp (fun z => absurd (i32_gt.mpr z) (Int32.not_lt.mpr (by assumption)))) (Int.not_lt.mp (fun z => absurd (i32_lt.mpr z) (Int32.not_lt.mpr (by assumption)))))).symm | (exfalso; omega)), by rw [sn_val hz20 (by omega) (by omega)]; omega⟩, SF_u (SF_u0 hsf) (by omega), fun j hj => upd_ne _ _ hj⟩, hI138, hu⟩
      · skip
        replace b9 := mt (nI_leI (a := 20) (b := i) (by omega) (by omega)).mpr b9
        refine lv_aload_n hx hb d_M_setNumber_8 rfl (lv_at hl 1 rfl) ?_
        obtain ⟨th_140, n_141, dr_142, sz_143, ix_144, dp_145, wt_146, op_147, tp_148, wa_149, gi_150, pc_151, st_152, tr_153, sp_154, ma_155, lg_156, du_157, e139, c158, c159, c160, c161, c162, c163, c164, c165, c166, c167, c168, c169, c170, c171, c172⟩ := oc_11.of t_M (hI7.1 M)
        refine pf_get (v := .ref (g.lk M 30)) (C := "BigRunnerModel") (T := FT10) (N := 45) hx hb (hw10 hB _) (fun _ h9 => h9) hown hK hP (lo_in hL t_M (by decide)) e139 rfl 30 (by decide) (wd_977 hB _) rfl d_M_setNumber_9 ?_
        refine lv_bipush (v := nI 20) hx hb d_M_setNumber_12 (by decide) ?_
        refine lv_iload_n hx hb d_M_setNumber_14 rfl (lv_at hl 2 rfl) ?_
        refine pf_imulN (x := 20) (y := k9) hx hb d_M_setNumber_15 ?_
        refine lv_iload_n hx hb d_M_setNumber_16 rfl (lv_at hl 0 rfl) ?_
        refine pf_iaddN (x := 20 * k9) (y := i) hx hb d_M_setNumber_17 ?_
        refine lv_iconst (v := nI 0) hx hb d_M_setNumber_18 (by decide) ?_
        refine pf_iast (i := (20 * k9) + i) hx hb hK hP hD hS (lo_in hL (lo_k11_30 hL _ t_M) (by decide)) e6 (lo_t62 hL _ (lo_k11_30 hL _ t_M)) (by omega) (by decide) d_M_setNumber_19 (fun f173 H locs e174 k175 hP hD hS => ?_)
        have eSI := (k175 (g.lk M 31) (tg_ne (lo_k11_31 hL _ t_M) (lo_k11_30 hL _ t_M) (by decide))).trans eSI
        have e139 := (k175 M (tg_ne t_M (lo_k11_30 hL _ t_M) (by decide))).trans e139
        have hu : ∀ b, b ≠ (g.lk M 30) → b ≠ (g.lk M 31) → f173 b = f b := fun b q0 q1 => (k175 b q0).trans (hu b q0 q1)
        have hv8 := hv8.st k175 (lo_k11_30 hL _ t_M) (by decide)
        have hk176 : ∀ b, b ≠ (g.lk M 30) → f173 b = f2 b := k175
        have c177 := lb6_upd (n := 1600) (i := (20 * k9) + i) (v := 0) hc (by omega)
        refine lv_iinc (k := 0) (v := nI (i + 1)) (lv' := [(3, .int (nI (i + 1))), (0, .ref M), (1, .int (nI k9)), (2, .int v)]) hx hb d_M_setNumber_20 hl rfl (by rw [nI_succ]; rfl) (by decide) rfl (fun ls hl => ?_)
        refine lv_goto (tgt := 2) hx hb d_M_setNumber_23 (by decide) ?_
        have hI178 := iv_1 hI7 hL (lo_k11_30 hL _ t_M) (by decide) hk176 (oc_62.mk (lo_k11_30 hL _ t_M) (⟨_, e174⟩))
        exact ih4 (i + 1) (upd h ((20 * k9) + i) ((nI 0))) f173 H locs ls (by omega) (by omega) c177 (fun j hj => by rcases Nat.lt_or_ge j i with q3 | q3; rw [dg_ne (by omega)]; exact hz j q3; obtain rfl : j = i := (by omega); exact dg_at (by decide)) (SF_u hsf (by omega)) e174 hI178 hv8 hu hl hP hD hS
  exact lp1 21 0 hLI f s.heap [] ls (by omega) (by omega) c6LI (fun j hj => absurd hj (by omega)) (fun _ _ => rfl) eLI hI un.rf hu hl hP hD hS
set_option maxHeartbeats 4000000 in
set_option maxRecDepth 100000 in
theorem w_order (l : Launch) (g : Lay) (sz : Nat) (f : Nat → va_E) (M : Nat) (x : Nat) (y : Nat) (hLI : Nat → Int32) (hL : LO g) (t_M : g.tg M = 11) (hI : OC g f) (eLI : f (g.lk M 30) = .inl (g.ac (g.lk M 30), 1600, .inl hLI)) (c6LI : C6 1600 hLI) (hx9 : x < 80) (hy9 : y < 80) : Met l ⟨"BigRunnerModel", "order", "(II)I"⟩ [Cond.code ⟨"BigRunnerModel", "order", "(II)I"⟩ prog_12_method_28_code 4 (some .int)] ({ frames := 1, cells := 0, slots := 0, locals := 22 }) (va_Pc [.ref M, .int (nI x), .int (nI y)] (pc_in g sz f)) (va_Qi (fun r f1 => (ORD r (sl hLI x) (sl hLI y)) ∧ (f = f1)) (pc_out g sz) (pc_A g sz)) 0 0 (pc_A g sz) := by
  refine pe_ofW (cc := prog_12_method_28_code) (maxL := 4) (ret := (some .int)) (lv := [(0, .ref M), (1, .int (nI x)), (2, .int (nI y))]) (by decide) (Nat.le_of_ble_eq_true rfl) rfl ?_
  intro p e s m args below meth c ls hx hb hr hml hlocks hown hB hP hK hD hsz hS hl
  subst hsz
  refine lv_bipush (v := nI 19) hx hb d_M_order_0 (by decide) ?_
  refine lv_istore_n (lv' := [(3, .int (nI 19)), (0, .ref M), (1, .int (nI x)), (2, .int (nI y))]) hx hb d_M_order_2 rfl hl (by decide) rfl (fun ls hl => ?_)
  have hl : lv_has ls 4 [(3, .int (nI 20 - nI 1)), (0, .ref M), (1, .int (nI x)), (2, .int (nI y))] := by rw [show nI 20 - nI 1 = nI 19 by decide]; exact hl
  have lp1 : ∀ (k3 : Nat) (j : Nat) (H : Heap) (locs : List Loc) (ls : Array Slot), (j < k3) → (j ≤ 20) → (∀ i, j ≤ i → i < 20 → l6 hLI x i = l6 hLI y i) → lv_has ls 4 [(3, .int (nI j - nI 1)), (0, .ref M), (1, .int (nI x)), (2, .int (nI y))] → va_P g.D vcl (va_pl g.LP f) H → va_D (pc_A g s.heap.size) (va_pl g.LP f) → va_S (pc_A g s.heap.size) s.heap H locs → W p l e ({ frames := 1, cells := 0, slots := 0, locals := 22 }) s m args below meth c H locs 0 0 (MQ below (va_Qi (fun r f1 => (ORD r (sl hLI x) (sl hLI y)) ∧ (f = f1)) (pc_out g s.heap.size) (pc_A g s.heap.size)) args s 0 0 (pc_A g s.heap.size)) (F0 m 3 ls []) := by
    intro k3
    induction k3 with
    | zero => intros; exfalso; omega
    | succ k3 ih4 =>
      intro j H locs ls hfu5 hj hq hl hP hD hS
      cases j with
      | zero =>
        have hl : lv_has ls 4 [(3, .int (-1)), (0, .ref M), (1, .int (nI x)), (2, .int (nI y))] := by rw [show nI 0 - nI 1 = (-1 : Int32) by decide] at hl; exact hl
        refine lv_iload_n hx hb d_M_order_3 rfl (lv_at hl 0 rfl) ?_
        refine lv_if_lt (tgt := 49) hx hb d_M_order_4 (by decide) (fun b8 => ?_) (fun b8 => ?_)
        · skip
          refine lv_iconst (v := nI 0) hx hb d_M_order_49 (by decide) ?_
          exact pe_iret hx hb hr hlocks hK hP hD hS d_M_order_50 ⟨(Or.inr (Or.inr ⟨rfl, kw_eq (fun i hi => hq i (by omega) hi)⟩)), rfl⟩
        · skip
          exact absurd (by decide) b8
      | succ j =>
        have hl : lv_has ls 4 [(3, .int (nI j)), (0, .ref M), (1, .int (nI x)), (2, .int (nI y))] := by rw [nI_pr1] at hl; exact hl
        refine lv_iload_n hx hb d_M_order_3 rfl (lv_at hl 0 rfl) ?_
        refine lv_if_lt (tgt := 49) hx hb d_M_order_4 (by decide) (fun b9 => ?_) (fun b9 => ?_)
        · skip
          replace b9 := (nI_ltI (a := j) (b := 0) (by omega) (by omega)).mp b9
          exfalso; omega
        · skip
          replace b9 := mt (nI_ltI (a := j) (b := 0) (by omega) (by omega)).mpr b9
          refine lv_aload_n hx hb d_M_order_7 rfl (lv_at hl 1 rfl) ?_
          refine lv_iload_n hx hb d_M_order_8 rfl (lv_at hl 2 rfl) ?_
          refine lv_iload_n hx hb d_M_order_9 rfl (lv_at hl 0 rfl) ?_
          obtain ⟨th_11, n_12, dr_13, sz_14, ix_15, dp_16, wt_17, op_18, tp_19, wa_20, gi_21, pc_22, st_23, tr_24, sp_25, ma_26, lg_27, du_28, e10, c29, c30, c31, c32, c33, c34, c35, c36, c37, c38, c39, c40, c41, c42, c43⟩ := oc_11.of t_M (hI M)
          refine pcc_i (va_runV (C := "BigRunnerModel") (As := [.int (nI x), .int (nI j)]) (rest := []) ⟨hx, hb, hml, hown, tb_nil⟩ (w_limb l g H.size f M x j hLI hL t_M hI eLI c6LI (by omega) (by omega)) ⟨(callB_of 2 (tb_one (wd_1232 hB _)) tb_good1 rfl rfl rfl (wd_82 hB _) (wd_1229 hB _) (by decide +kernel) ⟨Nat.le_of_ble_eq_true rfl, Nat.le_of_ble_eq_true rfl⟩), (wd_1231 hB _), (wd_64 hB _)⟩ ⟨pe_bl, pg_recv (ci := 10) hK hP (lo_in hL t_M (by decide)) e10 rfl, pe_pre hB hK hP hD⟩ rfl rfl hl.1 rfl (lv_room (Nat.le_of_ble_eq_true rfl)) d_M_order_10 ⟨Nat.le_of_ble_eq_true rfl, Nat.le_of_ble_eq_true rfl⟩) hS (fun r44 f45 H locs hq46 hP hD hS => ?_)
          obtain ⟨qv_47, rfl⟩ := hq46
          subst qv_47
          have hm48 : l6 hLI x j < 1000000 := l6_lt c6LI (by omega) _
          refine lv_aload_n hx hb d_M_order_13 rfl (lv_at hl 1 rfl) ?_
          refine lv_iload_n hx hb d_M_order_14 rfl (lv_at hl 3 rfl) ?_
          refine lv_iload_n hx hb d_M_order_15 rfl (lv_at hl 0 rfl) ?_
          refine pcc_i (va_runV (C := "BigRunnerModel") (As := [.int (nI y), .int (nI j)]) (rest := [.int (nI (l6 hLI x j))]) ⟨hx, hb, hml, hown, tb_nil⟩ (w_limb l g H.size f M y j hLI hL t_M hI eLI c6LI (by omega) (by omega)) ⟨(callB_of 2 (tb_one (wd_1232 hB _)) tb_good1 rfl rfl rfl (wd_82 hB _) (wd_1229 hB _) (by decide +kernel) ⟨Nat.le_of_ble_eq_true rfl, Nat.le_of_ble_eq_true rfl⟩), (wd_1231 hB _), (wd_64 hB _)⟩ ⟨pe_bl, pg_recv (ci := 10) hK hP (lo_in hL t_M (by decide)) e10 rfl, pe_pre hB hK hP hD⟩ rfl rfl hl.1 rfl (lv_room (Nat.le_of_ble_eq_true rfl)) d_M_order_16 ⟨Nat.le_of_ble_eq_true rfl, Nat.le_of_ble_eq_true rfl⟩) hS (fun r49 f50 H locs hq51 hP hD hS => ?_)
          obtain ⟨qv_52, rfl⟩ := hq51
          subst qv_52
          have hm53 : l6 hLI y j < 1000000 := l6_lt c6LI (by omega) _
          refine lv_icmp_eq (tgt := 43) hx hb d_M_order_19 (by decide) (fun b54 => ?_) (fun b54 => ?_)
          · skip
            replace b54 := (nI_eq (a := l6 hLI x j) (b := l6 hLI y j) (by omega) (by omega)).mp b54
            refine lv_iinc (k := 0) (v := nI j - nI 1) (lv' := [(3, .int (nI j - nI 1)), (0, .ref M), (1, .int (nI x)), (2, .int (nI y))]) hx hb d_M_order_43 hl rfl (by rw [Int32.sub_eq_add_neg]; rfl) (by decide) rfl (fun ls hl => ?_)
            refine lv_goto (tgt := 3) hx hb d_M_order_46 (by decide) ?_
            exact ih4 j H locs ls (by omega) (by omega) (fun i q1 q2 => by rcases Nat.lt_or_ge j i with q3 | q3; exact hq i (by omega) q2; obtain rfl : i = j := (by omega); omega) hl hP hD hS
          · skip
            replace b54 := mt (nI_eq (a := l6 hLI x j) (b := l6 hLI y j) (by omega) (by omega)).mpr b54
            refine lv_aload_n hx hb d_M_order_22 rfl (lv_at hl 1 rfl) ?_
            refine lv_iload_n hx hb d_M_order_23 rfl (lv_at hl 2 rfl) ?_
            refine lv_iload_n hx hb d_M_order_24 rfl (lv_at hl 0 rfl) ?_
            refine pcc_i (va_runV (C := "BigRunnerModel") (As := [.int (nI x), .int (nI j)]) (rest := []) ⟨hx, hb, hml, hown, tb_nil⟩ (w_limb l g H.size f M x j hLI hL t_M hI eLI c6LI (by omega) (by omega)) ⟨(callB_of 2 (tb_one (wd_1232 hB _)) tb_good1 rfl rfl rfl (wd_82 hB _) (wd_1229 hB _) (by decide +kernel) ⟨Nat.le_of_ble_eq_true rfl, Nat.le_of_ble_eq_true rfl⟩), (wd_1231 hB _), (wd_64 hB _)⟩ ⟨pe_bl, pg_recv (ci := 10) hK hP (lo_in hL t_M (by decide)) e10 rfl, pe_pre hB hK hP hD⟩ rfl rfl hl.1 rfl (lv_room (Nat.le_of_ble_eq_true rfl)) d_M_order_25 ⟨Nat.le_of_ble_eq_true rfl, Nat.le_of_ble_eq_true rfl⟩) hS (fun r55 f56 H locs hq57 hP hD hS => ?_)
            obtain ⟨qv_58, rfl⟩ := hq57
            subst qv_58
            have hm59 : l6 hLI x j < 1000000 := l6_lt c6LI (by omega) _
            refine lv_aload_n hx hb d_M_order_28 rfl (lv_at hl 1 rfl) ?_
            refine lv_iload_n hx hb d_M_order_29 rfl (lv_at hl 3 rfl) ?_
            refine lv_iload_n hx hb d_M_order_30 rfl (lv_at hl 0 rfl) ?_
            refine pcc_i (va_runV (C := "BigRunnerModel") (As := [.int (nI y), .int (nI j)]) (rest := [.int (nI (l6 hLI x j))]) ⟨hx, hb, hml, hown, tb_nil⟩ (w_limb l g H.size f M y j hLI hL t_M hI eLI c6LI (by omega) (by omega)) ⟨(callB_of 2 (tb_one (wd_1232 hB _)) tb_good1 rfl rfl rfl (wd_82 hB _) (wd_1229 hB _) (by decide +kernel) ⟨Nat.le_of_ble_eq_true rfl, Nat.le_of_ble_eq_true rfl⟩), (wd_1231 hB _), (wd_64 hB _)⟩ ⟨pe_bl, pg_recv (ci := 10) hK hP (lo_in hL t_M (by decide)) e10 rfl, pe_pre hB hK hP hD⟩ rfl rfl hl.1 rfl (lv_room (Nat.le_of_ble_eq_true rfl)) d_M_order_31 ⟨Nat.le_of_ble_eq_true rfl, Nat.le_of_ble_eq_true rfl⟩) hS (fun r60 f61 H locs hq62 hP hD hS => ?_)
            obtain ⟨qv_63, rfl⟩ := hq62
            subst qv_63
            have hm64 : l6 hLI y j < 1000000 := l6_lt c6LI (by omega) _
            refine lv_icmp_ge (tgt := 41) hx hb d_M_order_34 (by decide) (fun b65 => ?_) (fun b65 => ?_)
            · skip
              replace b65 := (nI_leI (a := l6 hLI y j) (b := l6 hLI x j) (by omega) (by omega)).mp b65
              refine lv_iconst (v := nI 1) hx hb d_M_order_41 (by decide) ?_
              exact pe_iret hx hb hr hlocks hK hP hD hS d_M_order_42 ⟨(Or.inr (Or.inl ⟨rfl, (far6 (a := l6 hLI x) (b := l6 hLI y) (j := j) (n := 20) (fun i _ => l6_lt c6LI (by omega) i) (by omega) (fun i q1 q2 => by have := hq i (by omega) q2; omega) (by omega))⟩)), rfl⟩
            · skip
              replace b65 := mt (nI_leI (a := l6 hLI y j) (b := l6 hLI x j) (by omega) (by omega)).mpr b65
              refine lv_iconst (v := (-1)) hx hb d_M_order_37 (by decide) ?_
              refine lv_goto (tgt := 42) hx hb d_M_order_38 (by decide) ?_
              exact pe_iret hx hb hr hlocks hK hP hD hS d_M_order_42 ⟨(Or.inl ⟨rfl, (far6 (a := l6 hLI y) (b := l6 hLI x) (j := j) (n := 20) (fun i _ => l6_lt c6LI (by omega) i) (by omega) (fun i q1 q2 => by have := hq i (by omega) q2; omega) (by omega))⟩), rfl⟩
  exact lp1 (20 + 1) 20 s.heap [] ls (by omega) (by omega) (fun i q1 q2 => absurd q2 (by omega)) hl hP hD hS
set_option maxHeartbeats 4000000 in
set_option maxRecDepth 100000 in
theorem w_clear (l : Launch) (g : Lay) (sz : Nat) (f : Nat → va_E) (M : Nat) (hRE : Nat → Int32) (hRS : Nat → Int32) (hL : LO g) (t_M : g.tg M = 11) (hI : IV g f) (eRE : f (g.lk M 33) = .inl (g.ac (g.lk M 33), 44, .inl hRE)) (eRS : f (g.lk M 34) = .inl (g.ac (g.lk M 34), 44, .inl hRS)) (c6RE : C6 44 hRE) (c6RS : C6 44 hRS) : Met l ⟨"BigRunnerModel", "clear", "()V"⟩ [Cond.code ⟨"BigRunnerModel", "clear", "()V"⟩ prog_12_method_29_code 2 none] ({ frames := 0, cells := 0, slots := 0, locals := 0 }) (va_Pc [.ref M] (pc_in g sz f)) (va_Qv (fun f1 => (∃ (h1 h2 : Nat → Int32), f1 (g.lk M 33) = .inl (g.ac (g.lk M 33), 44, .inl h1) ∧ f1 (g.lk M 34) = .inl (g.ac (g.lk M 34), 44, .inl h2) ∧ C6 44 h1 ∧ C6 44 h2 ∧ (∀ k, k < 44 → dg h1 k = 0) ∧ ∀ k, k < 44 → dg h2 k = 0) ∧ (IV g f1) ∧ (∀ b, b ≠ (g.lk M 33) → b ≠ (g.lk M 34) → f1 b = f b)) (pc_out g sz) (pc_A g sz)) 0 0 (pc_A g sz) := by
  refine pe_ofW (cc := prog_12_method_29_code) (maxL := 2) (ret := none) (lv := [(0, .ref M)]) (by decide) (Nat.le_of_ble_eq_true rfl) rfl ?_
  intro p e s m args below meth c ls hx hb hr hml hlocks hown hB hP hK hD hsz hS hl
  subst hsz
  have hu : ∀ b, b ≠ (g.lk M 33) → b ≠ (g.lk M 34) → f b = f b := fun _ _ _  => rfl
  refine lv_iconst (v := nI 0) hx hb d_M_clear_0 (by decide) ?_
  refine lv_istore_n (lv' := [(1, .int (nI 0)), (0, .ref M)]) hx hb d_M_clear_1 rfl hl (by decide) rfl (fun ls hl => ?_)
  have lp1 : ∀ (k3 : Nat) (i : Nat) (h : Nat → Int32) (h2 : Nat → Int32) (f2 : Nat → va_E) (H : Heap) (locs : List Loc) (ls : Array Slot), (44 < i + k3) → (i ≤ 44) → (C6 44 h) → (C6 44 h2) → (∀ k, k < i → dg h k = 0) → (∀ k, k < i → dg h2 k = 0) → f2 (g.lk M 33) = .inl (g.ac (g.lk M 33), 44, .inl (h)) → f2 (g.lk M 34) = .inl (g.ac (g.lk M 34), 44, .inl (h2)) → IV g f2 → un [64, 65] g f f2 → (∀ b, b ≠ (g.lk M 33) → b ≠ (g.lk M 34) → f2 b = f b) → lv_has ls 2 [(1, .int (nI i)), (0, .ref M)] → va_P g.D vcl (va_pl g.LP f2) H → va_D (pc_A g s.heap.size) (va_pl g.LP f2) → va_S (pc_A g s.heap.size) s.heap H locs → W p l e ({ frames := 0, cells := 0, slots := 0, locals := 0 }) s m args below meth c H locs 0 0 (MQ below (va_Qv (fun f1 => (∃ (h1 h2 : Nat → Int32), f1 (g.lk M 33) = .inl (g.ac (g.lk M 33), 44, .inl h1) ∧ f1 (g.lk M 34) = .inl (g.ac (g.lk M 34), 44, .inl h2) ∧ C6 44 h1 ∧ C6 44 h2 ∧ (∀ k, k < 44 → dg h1 k = 0) ∧ ∀ k, k < 44 → dg h2 k = 0) ∧ (IV g f1) ∧ (∀ b, b ≠ (g.lk M 33) → b ≠ (g.lk M 34) → f1 b = f b)) (pc_out g s.heap.size) (pc_A g s.heap.size)) args s 0 0 (pc_A g s.heap.size)) (F0 m 2 ls []) := by
    intro k3
    induction k3 with
    | zero => intros; exfalso; omega
    | succ k3 ih4 =>
      intro i h h2 f2 H locs ls hfu5 hi hc hc2 hz hz2 e6 e7 hI8 hv9 hu hl hP hD hS
      refine lv_iload_n hx hb d_M_clear_2 rfl (lv_at hl 0 rfl) ?_
      refine lv_bipush (v := nI 44) hx hb d_M_clear_3 (by decide) ?_
      refine lv_icmp_ge (tgt := 28) hx hb d_M_clear_5 (by decide) (fun b10 => ?_) (fun b10 => ?_)
      · skip
        replace b10 := (nI_leI (a := 44) (b := i) (by omega) (by omega)).mp b10
        exact pe_vret hx hb hr hlocks hK hP hD hS d_M_clear_28 ⟨⟨_, _, e6, e7, hc, hc2, fun k hk => hz k (by omega), fun k hk => hz2 k (by omega)⟩, hI8, hu⟩
      · skip
        replace b10 := mt (nI_leI (a := 44) (b := i) (by omega) (by omega)).mpr b10
        refine lv_aload_n hx hb d_M_clear_8 rfl (lv_at hl 1 rfl) ?_
        obtain ⟨th_12, n_13, dr_14, sz_15, ix_16, dp_17, wt_18, op_19, tp_20, wa_21, gi_22, pc_23, st_24, tr_25, sp_26, ma_27, lg_28, du_29, e11, c30, c31, c32, c33, c34, c35, c36, c37, c38, c39, c40, c41, c42, c43, c44⟩ := oc_11.of t_M (hI8.1 M)
        refine pf_get (v := .ref (g.lk M 33)) (C := "BigRunnerModel") (T := FT10) (N := 45) hx hb (hw10 hB _) (fun _ h9 => h9) hown hK hP (lo_in hL t_M (by decide)) e11 rfl 33 (by decide) (wd_980 hB _) rfl d_M_clear_9 ?_
        refine lv_iload_n hx hb d_M_clear_12 rfl (lv_at hl 0 rfl) ?_
        refine lv_iconst (v := nI 0) hx hb d_M_clear_13 (by decide) ?_
        refine pf_iast (i := i) hx hb hK hP hD hS (lo_in hL (lo_k11_33 hL _ t_M) (by decide)) e6 (lo_t64 hL _ (lo_k11_33 hL _ t_M)) (by omega) (by decide) d_M_clear_14 (fun f45 H locs e46 k47 hP hD hS => ?_)
        have e7 := (k47 (g.lk M 34) (tg_ne (lo_k11_34 hL _ t_M) (lo_k11_33 hL _ t_M) (by decide))).trans e7
        have e11 := (k47 M (tg_ne t_M (lo_k11_33 hL _ t_M) (by decide))).trans e11
        have hu : ∀ b, b ≠ (g.lk M 33) → b ≠ (g.lk M 34) → f45 b = f b := fun b q0 q1 => (k47 b q0).trans (hu b q0 q1)
        have hv9 := hv9.st k47 (lo_k11_33 hL _ t_M) (by decide)
        have hk48 : ∀ b, b ≠ (g.lk M 33) → f45 b = f2 b := k47
        have c49 := lb6_upd (n := 44) (i := i) (v := 0) hc (by omega)
        refine lv_aload_n hx hb d_M_clear_15 rfl (lv_at hl 1 rfl) ?_
        refine pf_get (v := .ref (g.lk M 34)) (C := "BigRunnerModel") (T := FT10) (N := 45) hx hb (hw10 hB _) (fun _ h9 => h9) hown hK hP (lo_in hL t_M (by decide)) e11 rfl 34 (by decide) (wd_981 hB _) rfl d_M_clear_16 ?_
        refine lv_iload_n hx hb d_M_clear_19 rfl (lv_at hl 0 rfl) ?_
        refine lv_iconst (v := nI 0) hx hb d_M_clear_20 (by decide) ?_
        have hI50 := iv_1 hI8 hL (lo_k11_33 hL _ t_M) (by decide) hk48 (oc_64.mk (lo_k11_33 hL _ t_M) (⟨_, e46⟩))
        refine pf_iast (i := i) hx hb hK hP hD hS (lo_in hL (lo_k11_34 hL _ t_M) (by decide)) e7 (lo_t65 hL _ (lo_k11_34 hL _ t_M)) (by omega) (by decide) d_M_clear_21 (fun f51 H locs e52 k53 hP hD hS => ?_)
        have e11 := (k53 M (tg_ne t_M (lo_k11_34 hL _ t_M) (by decide))).trans e11
        have e46 := (k53 (g.lk M 33) (tg_ne (lo_k11_33 hL _ t_M) (lo_k11_34 hL _ t_M) (by decide))).trans e46
        have hu : ∀ b, b ≠ (g.lk M 33) → b ≠ (g.lk M 34) → f51 b = f b := fun b q0 q1 => (k53 b q1).trans (hu b q0 q1)
        have hv9 := hv9.st k53 (lo_k11_34 hL _ t_M) (by decide)
        have hk54 : ∀ b, b ≠ (g.lk M 34) → f51 b = f45 b := k53
        have c55 := lb6_upd (n := 44) (i := i) (v := 0) hc2 (by omega)
        refine lv_iinc (k := 0) (v := nI (i + 1)) (lv' := [(1, .int (nI (i + 1))), (0, .ref M)]) hx hb d_M_clear_22 hl rfl (by rw [nI_succ]; rfl) (by decide) rfl (fun ls hl => ?_)
        refine lv_goto (tgt := 2) hx hb d_M_clear_25 (by decide) ?_
        have hI56 := iv_1 hI50 hL (lo_k11_34 hL _ t_M) (by decide) hk54 (oc_65.mk (lo_k11_34 hL _ t_M) (⟨_, e52⟩))
        exact ih4 (i + 1) (upd h i ((nI 0))) (upd h2 i ((nI 0))) f51 H locs ls (by omega) (by omega) c49 c55 (fun k hk => by rcases Nat.lt_or_ge k i with q3 | q3; rw [dg_ne (by omega)]; exact hz k q3; obtain rfl : k = i := (by omega); exact dg_at (by decide)) (fun k hk => by rcases Nat.lt_or_ge k i with q3 | q3; rw [dg_ne (by omega)]; exact hz2 k q3; obtain rfl : k = i := (by omega); exact dg_at (by decide)) e46 e52 hI56 hv9 hu hl hP hD hS
  exact lp1 45 0 hRE hRS f s.heap [] ls (by omega) (by omega) c6RE c6RS (fun k hk => absurd hk (by omega)) (fun k hk => absurd hk (by omega)) eRE eRS hI un.rf hu hl hP hD hS
theorem nI_bor {a b : Nat} (h : b ≤ a + 1000000) : nI a - nI b - (-1) * nI 1000000 = nI (a + 1000000 - b) := by
  rw [← pk_sub h, ← nI_add]
  generalize nI a = x
  generalize nI b = y
  generalize nI 1000000 = z
  have : (-1 : Int32) * z = -z := by rw [Int32.neg_mul, Int32.one_mul]
  rw [this]
  simp only [Int32.sub_eq_add_neg, Int32.neg_neg, Int32.add_assoc, Int32.add_comm z]
set_option maxHeartbeats 4000000 in
set_option maxRecDepth 100000 in
theorem w_addUpp (l : Launch) (g : Lay) (sz : Nat) (f : Nat → va_E) (M : Nat) (x : Nat) (y : Nat) (hLI : Nat → Int32) (hRE : Nat → Int32) (hL : LO g) (t_M : g.tg M = 11) (hI : IV g f) (eLI : f (g.lk M 30) = .inl (g.ac (g.lk M 30), 1600, .inl hLI)) (eRE : f (g.lk M 33) = .inl (g.ac (g.lk M 33), 44, .inl hRE)) (c6LI : C6 1600 hLI) (c6RE : C6 44 hRE) (hx9 : x < 80) (hy9 : y < 80) (hz0 : ∀ k, k < 44 → dg hRE k = 0) : Met l ⟨"BigRunnerModel", "addUp", "(III)V"⟩ [Cond.code ⟨"BigRunnerModel", "addUp", "(III)V"⟩ prog_12_method_30_code 7 none] ({ frames := 1, cells := 0, slots := 0, locals := 22 }) (va_Pc [.ref M, .int (nI x), .int (nI y), .int (nI 1)] (pc_in g sz f)) (va_Qv (fun f1 => (∃ h1 : Nat → Int32, f1 (g.lk M 33) = .inl (g.ac (g.lk M 33), 44, .inl h1) ∧ C6 44 h1 ∧ kw (dg h1) 44 = sl hLI x + sl hLI y) ∧ (IV g f1) ∧ (∀ b, b ≠ (g.lk M 33) → f1 b = f b)) (pc_out g sz) (pc_A g sz)) 0 0 (pc_A g sz) := by
  refine pe_ofW (cc := prog_12_method_30_code) (maxL := 7) (ret := none) (lv := [(0, .ref M), (1, .int (nI x)), (2, .int (nI y)), (3, .int (nI 1))]) (by decide) (Nat.le_of_ble_eq_true rfl) rfl ?_
  intro p e s m args below meth c ls hx hb hr hml hlocks hown hB hP hK hD hsz hS hl
  subst hsz
  have hu : ∀ b, b ≠ (g.lk M 33) → f b = f b := fun _ _ => rfl
  refine lv_iconst (v := nI 0) hx hb d_M_addUp_0 (by decide) ?_
  refine lv_istore (lv' := [(4, .int (nI 0)), (0, .ref M), (1, .int (nI x)), (2, .int (nI y)), (3, .int (nI 1))]) hx hb d_M_addUp_1 hl (by decide) rfl (fun ls hl => ?_)
  refine lv_iconst (v := nI 0) hx hb d_M_addUp_3 (by decide) ?_
  refine lv_istore (lv' := [(5, .int (nI 0)), (4, .int (nI 0)), (0, .ref M), (1, .int (nI x)), (2, .int (nI y)), (3, .int (nI 1))]) hx hb d_M_addUp_4 hl (by decide) rfl (fun ls hl => ?_)
  have lp1 : ∀ (k3 : Nat) (cy : Nat) (i : Nat) (h : Nat → Int32) (f2 : Nat → va_E) (H : Heap) (locs : List Loc) (ls : Array Slot), (21 < i + k3) → (cy ≤ 1) → (i ≤ 21) → (C6 44 h) → (∀ k, i ≤ k → k < 44 → dg h k = 0) → (kw (dg h) i + cy * 1000000 ^ i = kw (l6 hLI x) i + kw (l6 hLI y) i) → f2 (g.lk M 33) = .inl (g.ac (g.lk M 33), 44, .inl (h)) → IV g f2 → un [64] g f f2 → (∀ b, b ≠ (g.lk M 33) → f2 b = f b) → lv_has ls 7 [(5, .int (nI i)), (4, .int (nI cy)), (0, .ref M), (1, .int (nI x)), (2, .int (nI y)), (3, .int (nI 1))] → va_P g.D vcl (va_pl g.LP f2) H → va_D (pc_A g s.heap.size) (va_pl g.LP f2) → va_S (pc_A g s.heap.size) s.heap H locs → W p l e ({ frames := 1, cells := 0, slots := 0, locals := 22 }) s m args below meth c H locs 0 0 (MQ below (va_Qv (fun f1 => (∃ h1 : Nat → Int32, f1 (g.lk M 33) = .inl (g.ac (g.lk M 33), 44, .inl h1) ∧ C6 44 h1 ∧ kw (dg h1) 44 = sl hLI x + sl hLI y) ∧ (IV g f1) ∧ (∀ b, b ≠ (g.lk M 33) → f1 b = f b)) (pc_out g s.heap.size) (pc_A g s.heap.size)) args s 0 0 (pc_A g s.heap.size)) (F0 m 6 ls []) := by
    intro k3
    induction k3 with
    | zero => intros; exfalso; omega
    | succ k3 ih4 =>
      intro cy i h f2 H locs ls hfu5 hcy hi hc hz he e6 hI7 hv8 hu hl hP hD hS
      have eLI := hv8.at (lo_k11_30 hL _ t_M) (by decide) eLI
      refine lv_iload hx hb d_M_addUp_6 (lv_at hl 0 rfl) ?_
      refine lv_bipush (v := nI 21) hx hb d_M_addUp_8 (by decide) ?_
      refine lv_icmp_ge (tgt := 79) hx hb d_M_addUp_10 (by decide) (fun b9 => ?_) (fun b9 => ?_)
      · skip
        replace b9 := (nI_leI (a := 21) (b := i) (by omega) (by omega)).mp b9
        exact pe_vret hx hb hr hlocks hK hP hD hS d_M_addUp_79 ⟨⟨_, e6, hc, by have y9 : i = 21 := (by omega); subst y9; exact au_end c6LI hx9 hy9 hz he⟩, hI7, hu⟩
      · skip
        replace b9 := mt (nI_leI (a := 21) (b := i) (by omega) (by omega)).mpr b9
        refine lv_aload_n hx hb d_M_addUp_13 rfl (lv_at hl 2 rfl) ?_
        refine lv_iload_n hx hb d_M_addUp_14 rfl (lv_at hl 3 rfl) ?_
        refine lv_iload hx hb d_M_addUp_15 (lv_at hl 0 rfl) ?_
        obtain ⟨th_11, n_12, dr_13, sz_14, ix_15, dp_16, wt_17, op_18, tp_19, wa_20, gi_21, pc_22, st_23, tr_24, sp_25, ma_26, lg_27, du_28, e10, c29, c30, c31, c32, c33, c34, c35, c36, c37, c38, c39, c40, c41, c42, c43⟩ := oc_11.of t_M (hI7.1 M)
        refine pcc_i (va_runV (C := "BigRunnerModel") (As := [.int (nI x), .int (nI i)]) (rest := []) ⟨hx, hb, hml, hown, tb_nil⟩ (w_limb l g H.size f2 M x i hLI hL t_M hI7.1 eLI c6LI (by omega) (by omega)) ⟨(callB_of 2 (tb_one (wd_1232 hB _)) tb_good1 rfl rfl rfl (wd_82 hB _) (wd_1229 hB _) (by decide +kernel) ⟨Nat.le_of_ble_eq_true rfl, Nat.le_of_ble_eq_true rfl⟩), (wd_1231 hB _), (wd_64 hB _)⟩ ⟨pe_bl, pg_recv (ci := 10) hK hP (lo_in hL t_M (by decide)) e10 rfl, pe_pre hB hK hP hD⟩ rfl rfl hl.1 rfl (lv_room (Nat.le_of_ble_eq_true rfl)) d_M_addUp_17 ⟨Nat.le_of_ble_eq_true rfl, Nat.le_of_ble_eq_true rfl⟩) hS (fun r44 f45 H locs hq46 hP hD hS => ?_)
        obtain ⟨qv_47, rfl⟩ := hq46
        subst qv_47
        have hm48 : l6 hLI x i < 1000000 := l6_lt c6LI (by omega) _
        refine lv_iload_n hx hb d_M_addUp_20 rfl (lv_at hl 5 rfl) ?_
        refine lv_aload_n hx hb d_M_addUp_21 rfl (lv_at hl 2 rfl) ?_
        refine lv_iload_n hx hb d_M_addUp_22 rfl (lv_at hl 4 rfl) ?_
        refine lv_iload hx hb d_M_addUp_23 (lv_at hl 0 rfl) ?_
        refine pcc_i (va_runV (C := "BigRunnerModel") (As := [.int (nI y), .int (nI i)]) (rest := [.int (nI 1), .int (nI (l6 hLI x i))]) ⟨hx, hb, hml, hown, tb_nil⟩ (w_limb l g H.size f2 M y i hLI hL t_M hI7.1 eLI c6LI (by omega) (by omega)) ⟨(callB_of 2 (tb_one (wd_1232 hB _)) tb_good1 rfl rfl rfl (wd_82 hB _) (wd_1229 hB _) (by decide +kernel) ⟨Nat.le_of_ble_eq_true rfl, Nat.le_of_ble_eq_true rfl⟩), (wd_1231 hB _), (wd_64 hB _)⟩ ⟨pe_bl, pg_recv (ci := 10) hK hP (lo_in hL t_M (by decide)) e10 rfl, pe_pre hB hK hP hD⟩ rfl rfl hl.1 rfl (lv_room (Nat.le_of_ble_eq_true rfl)) d_M_addUp_25 ⟨Nat.le_of_ble_eq_true rfl, Nat.le_of_ble_eq_true rfl⟩) hS (fun r49 f50 H locs hq51 hP hD hS => ?_)
        obtain ⟨qv_52, rfl⟩ := hq51
        subst qv_52
        have hm53 : l6 hLI y i < 1000000 := l6_lt c6LI (by omega) _
        refine pf_imulN (x := 1) (y := l6 hLI y i) hx hb d_M_addUp_28 ?_
        refine lv_topi (fun z_ hz_ => ?_)
        obtain rfl : z_ = nI (l6 hLI y i) := hz_.trans (congrArg nI (Nat.one_mul (l6 hLI y i)))
        refine pf_iaddN (x := l6 hLI x i) (y := l6 hLI y i) hx hb d_M_addUp_29 ?_
        refine lv_iload hx hb d_M_addUp_30 (lv_at hl 1 rfl) ?_
        refine pf_iaddN (x := (l6 hLI x i) + (l6 hLI y i)) (y := cy) hx hb d_M_addUp_32 ?_
        refine lv_istore (lv' := [(6, .int (nI (((l6 hLI x i) + (l6 hLI y i)) + cy))), (5, .int (nI i)), (4, .int (nI cy)), (0, .ref M), (1, .int (nI x)), (2, .int (nI y)), (3, .int (nI 1))]) hx hb d_M_addUp_33 hl (by decide) rfl (fun ls hl => ?_)
        refine lv_iload hx hb d_M_addUp_35 (lv_at hl 0 rfl) ?_
        refine lv_if_ge (tgt := 44) hx hb d_M_addUp_37 (by decide) (fun b54 => ?_) (fun b54 => ?_)
        · skip
          replace b54 := (nI_leI (a := 0) (b := ((l6 hLI x i) + (l6 hLI y i)) + cy) (by omega) (by omega)).mp b54
          refine lv_iload hx hb d_M_addUp_44 (lv_at hl 0 rfl) ?_
          refine lv_ldc (v := 1000000) hx hb hown (wd_1212 hB _) d_M_addUp_46 ?_
          refine lv_topi (fun z_ hz_ => ?_)
          obtain rfl : z_ = nI 1000000 := hz_
          refine lv_icmp_lt (tgt := 55) hx hb d_M_addUp_48 (by decide) (fun b55 => ?_) (fun b55 => ?_)
          · skip
            replace b55 := (nI_ltI (a := ((l6 hLI x i) + (l6 hLI y i)) + cy) (b := 1000000) (by omega) (by omega)).mp b55
            refine lv_iconst (v := nI 0) hx hb d_M_addUp_55 (by decide) ?_
            refine lv_istore (lv' := [(4, .int (nI 0)), (6, .int (nI (((l6 hLI x i) + (l6 hLI y i)) + cy))), (5, .int (nI i)), (0, .ref M), (1, .int (nI x)), (2, .int (nI y)), (3, .int (nI 1))]) hx hb d_M_addUp_56 hl (by decide) rfl (fun ls hl => ?_)
            refine lv_aload_n hx hb d_M_addUp_58 rfl (lv_at hl 3 rfl) ?_
            refine pf_get (v := .ref (g.lk M 33)) (C := "BigRunnerModel") (T := FT10) (N := 45) hx hb (hw10 hB _) (fun _ h9 => h9) hown hK hP (lo_in hL t_M (by decide)) e10 rfl 33 (by decide) (wd_980 hB _) rfl d_M_addUp_59 ?_
            refine lv_iload hx hb d_M_addUp_62 (lv_at hl 2 rfl) ?_
            refine lv_iload hx hb d_M_addUp_64 (lv_at hl 1 rfl) ?_
            refine lv_iload hx hb d_M_addUp_66 (lv_at hl 0 rfl) ?_
            refine lv_ldc (v := 1000000) hx hb hown (wd_1212 hB _) d_M_addUp_68 ?_
            refine lv_topi (fun z_ hz_ => ?_)
            obtain rfl : z_ = nI 1000000 := hz_
            refine pf_imulN (x := 0) (y := 1000000) hx hb d_M_addUp_70 ?_
            refine lv_topi (fun z_ hz_ => ?_)
            obtain rfl : z_ = nI 0 := hz_.trans (congrArg nI (Nat.zero_mul 1000000))
            refine pf_isubN (x := ((l6 hLI x i) + (l6 hLI y i)) + cy) (y := 0) hx hb (by omega) d_M_addUp_71 ?_
            refine pf_iast (i := i) hx hb hK hP hD hS (lo_in hL (lo_k11_33 hL _ t_M) (by decide)) e6 (lo_t64 hL _ (lo_k11_33 hL _ t_M)) (by omega) (by decide) d_M_addUp_72 (fun f56 H locs e57 k58 hP hD hS => ?_)
            have eLI := (k58 (g.lk M 30) (tg_ne (lo_k11_30 hL _ t_M) (lo_k11_33 hL _ t_M) (by decide))).trans eLI
            have e10 := (k58 M (tg_ne t_M (lo_k11_33 hL _ t_M) (by decide))).trans e10
            have hu : ∀ b, b ≠ (g.lk M 33) → f56 b = f b := fun b q0 => (k58 b q0).trans (hu b q0)
            have hv8 := hv8.st k58 (lo_k11_33 hL _ t_M) (by decide)
            have hk59 : ∀ b, b ≠ (g.lk M 33) → f56 b = f2 b := k58
            have c60 := lb6_upd (n := 44) (i := i) (v := (((l6 hLI x i) + (l6 hLI y i)) + cy) - 0) hc (by omega)
            refine lv_iinc (k := 2) (v := nI (i + 1)) (lv' := [(5, .int (nI (i + 1))), (4, .int (nI 0)), (6, .int (nI (((l6 hLI x i) + (l6 hLI y i)) + cy))), (0, .ref M), (1, .int (nI x)), (2, .int (nI y)), (3, .int (nI 1))]) hx hb d_M_addUp_73 hl rfl (by rw [nI_succ]; rfl) (by decide) rfl (fun ls hl => ?_)
            refine lv_goto (tgt := 6) hx hb d_M_addUp_76 (by decide) ?_
            have hI61 := iv_1 hI7 hL (lo_k11_33 hL _ t_M) (by decide) hk59 (oc_64.mk (lo_k11_33 hL _ t_M) (⟨_, e57⟩))
            have hl : lv_has ls 7 [(5, .int (nI (i + 1))), (4, .int (nI 0)), (0, .ref M), (1, .int (nI x)), (2, .int (nI y)), (3, .int (nI 1))] := lv_sub hl [0, 1, 3, 4, 5, 6] rfl
            exact ih4 0 (i + 1) (upd h i ((nI ((((l6 hLI x i) + (l6 hLI y i)) + cy) - 0)))) f56 H locs ls (by omega) (by omega) (by omega) c60 (fun k q1 q2 => by rw [dg_ne (by omega)]; exact hz k (by omega) q2) (au_2 (a := l6 hLI x) (b := l6 hLI y) he (by omega)) e57 hI61 hv8 hu hl hP hD hS
          · skip
            replace b55 := mt (nI_ltI (a := ((l6 hLI x i) + (l6 hLI y i)) + cy) (b := 1000000) (by omega) (by omega)).mpr b55
            refine lv_iconst (v := nI 1) hx hb d_M_addUp_51 (by decide) ?_
            refine lv_goto (tgt := 56) hx hb d_M_addUp_52 (by decide) ?_
            refine lv_istore (lv' := [(4, .int (nI 1)), (6, .int (nI (((l6 hLI x i) + (l6 hLI y i)) + cy))), (5, .int (nI i)), (0, .ref M), (1, .int (nI x)), (2, .int (nI y)), (3, .int (nI 1))]) hx hb d_M_addUp_56 hl (by decide) rfl (fun ls hl => ?_)
            refine lv_aload_n hx hb d_M_addUp_58 rfl (lv_at hl 3 rfl) ?_
            refine pf_get (v := .ref (g.lk M 33)) (C := "BigRunnerModel") (T := FT10) (N := 45) hx hb (hw10 hB _) (fun _ h9 => h9) hown hK hP (lo_in hL t_M (by decide)) e10 rfl 33 (by decide) (wd_980 hB _) rfl d_M_addUp_59 ?_
            refine lv_iload hx hb d_M_addUp_62 (lv_at hl 2 rfl) ?_
            refine lv_iload hx hb d_M_addUp_64 (lv_at hl 1 rfl) ?_
            refine lv_iload hx hb d_M_addUp_66 (lv_at hl 0 rfl) ?_
            refine lv_ldc (v := 1000000) hx hb hown (wd_1212 hB _) d_M_addUp_68 ?_
            refine lv_topi (fun z_ hz_ => ?_)
            obtain rfl : z_ = nI 1000000 := hz_
            refine pf_imulN (x := 1) (y := 1000000) hx hb d_M_addUp_70 ?_
            refine lv_topi (fun z_ hz_ => ?_)
            obtain rfl : z_ = nI 1000000 := hz_.trans (congrArg nI (Nat.one_mul 1000000))
            refine pf_isubN (x := ((l6 hLI x i) + (l6 hLI y i)) + cy) (y := 1000000) hx hb (by omega) d_M_addUp_71 ?_
            refine pf_iast (i := i) hx hb hK hP hD hS (lo_in hL (lo_k11_33 hL _ t_M) (by decide)) e6 (lo_t64 hL _ (lo_k11_33 hL _ t_M)) (by omega) (by decide) d_M_addUp_72 (fun f62 H locs e63 k64 hP hD hS => ?_)
            have eLI := (k64 (g.lk M 30) (tg_ne (lo_k11_30 hL _ t_M) (lo_k11_33 hL _ t_M) (by decide))).trans eLI
            have e10 := (k64 M (tg_ne t_M (lo_k11_33 hL _ t_M) (by decide))).trans e10
            have hu : ∀ b, b ≠ (g.lk M 33) → f62 b = f b := fun b q0 => (k64 b q0).trans (hu b q0)
            have hv8 := hv8.st k64 (lo_k11_33 hL _ t_M) (by decide)
            have hk65 : ∀ b, b ≠ (g.lk M 33) → f62 b = f2 b := k64
            have c66 := lb6_upd (n := 44) (i := i) (v := (((l6 hLI x i) + (l6 hLI y i)) + cy) - 1000000) hc (by omega)
            refine lv_iinc (k := 2) (v := nI (i + 1)) (lv' := [(5, .int (nI (i + 1))), (4, .int (nI 1)), (6, .int (nI (((l6 hLI x i) + (l6 hLI y i)) + cy))), (0, .ref M), (1, .int (nI x)), (2, .int (nI y)), (3, .int (nI 1))]) hx hb d_M_addUp_73 hl rfl (by rw [nI_succ]; rfl) (by decide) rfl (fun ls hl => ?_)
            refine lv_goto (tgt := 6) hx hb d_M_addUp_76 (by decide) ?_
            have hI67 := iv_1 hI7 hL (lo_k11_33 hL _ t_M) (by decide) hk65 (oc_64.mk (lo_k11_33 hL _ t_M) (⟨_, e63⟩))
            have hl : lv_has ls 7 [(5, .int (nI (i + 1))), (4, .int (nI 1)), (0, .ref M), (1, .int (nI x)), (2, .int (nI y)), (3, .int (nI 1))] := lv_sub hl [0, 1, 3, 4, 5, 6] rfl
            exact ih4 1 (i + 1) (upd h i ((nI ((((l6 hLI x i) + (l6 hLI y i)) + cy) - 1000000)))) f62 H locs ls (by omega) (by omega) (by omega) c66 (fun k q1 q2 => by rw [dg_ne (by omega)]; exact hz k (by omega) q2) (au_1 (a := l6 hLI x) (b := l6 hLI y) he (by omega) (by omega)) e63 hI67 hv8 hu hl hP hD hS
        · skip
          replace b54 := mt (nI_leI (a := 0) (b := ((l6 hLI x i) + (l6 hLI y i)) + cy) (by omega) (by omega)).mpr b54
          exfalso; omega
  exact lp1 22 0 0 hRE f s.heap [] ls (by omega) (by omega) (by omega) c6RE (fun k _ q2 => hz0 k q2) (by simp [kw]) eRE hI un.rf hu hl hP hD hS
set_option maxHeartbeats 4000000 in
set_option maxRecDepth 100000 in
theorem w_addUpm (l : Launch) (g : Lay) (sz : Nat) (f : Nat → va_E) (M : Nat) (x : Nat) (y : Nat) (hLI : Nat → Int32) (hRE : Nat → Int32) (hL : LO g) (t_M : g.tg M = 11) (hI : IV g f) (eLI : f (g.lk M 30) = .inl (g.ac (g.lk M 30), 1600, .inl hLI)) (eRE : f (g.lk M 33) = .inl (g.ac (g.lk M 33), 44, .inl hRE)) (c6LI : C6 1600 hLI) (c6RE : C6 44 hRE) (hx9 : x < 80) (hy9 : y < 80) (hz0 : ∀ k, k < 44 → dg hRE k = 0) (hle : sl hLI y ≤ sl hLI x) : Met l ⟨"BigRunnerModel", "addUp", "(III)V"⟩ [Cond.code ⟨"BigRunnerModel", "addUp", "(III)V"⟩ prog_12_method_30_code 7 none] ({ frames := 1, cells := 0, slots := 0, locals := 22 }) (va_Pc [.ref M, .int (nI x), .int (nI y), .int (-1)] (pc_in g sz f)) (va_Qv (fun f1 => (∃ h1 : Nat → Int32, f1 (g.lk M 33) = .inl (g.ac (g.lk M 33), 44, .inl h1) ∧ C6 44 h1 ∧ kw (dg h1) 44 = sl hLI x - sl hLI y) ∧ (IV g f1) ∧ (∀ b, b ≠ (g.lk M 33) → f1 b = f b)) (pc_out g sz) (pc_A g sz)) 0 0 (pc_A g sz) := by
  refine pe_ofW (cc := prog_12_method_30_code) (maxL := 7) (ret := none) (lv := [(0, .ref M), (1, .int (nI x)), (2, .int (nI y)), (3, .int (-1))]) (by decide) (Nat.le_of_ble_eq_true rfl) rfl ?_
  intro p e s m args below meth c ls hx hb hr hml hlocks hown hB hP hK hD hsz hS hl
  subst hsz
  have hu : ∀ b, b ≠ (g.lk M 33) → f b = f b := fun _ _ => rfl
  refine lv_iconst (v := nI 0) hx hb d_M_addUp_0 (by decide) ?_
  refine lv_istore (lv' := [(4, .int (nI 0)), (0, .ref M), (1, .int (nI x)), (2, .int (nI y)), (3, .int (-1))]) hx hb d_M_addUp_1 hl (by decide) rfl (fun ls hl => ?_)
  refine lv_iconst (v := nI 0) hx hb d_M_addUp_3 (by decide) ?_
  refine lv_istore (lv' := [(5, .int (nI 0)), (4, .int (nI 0)), (0, .ref M), (1, .int (nI x)), (2, .int (nI y)), (3, .int (-1))]) hx hb d_M_addUp_4 hl (by decide) rfl (fun ls hl => ?_)
  have hl : lv_has ls 7 [(5, .int (nI 0)), (4, .int (nI 0 - nI 0)), (0, .ref M), (1, .int (nI x)), (2, .int (nI y)), (3, .int (-1))] := by rw [show nI 0 - nI 0 = nI 0 by decide]; exact hl
  have lp1 : ∀ (k3 : Nat) (cy : Nat) (i : Nat) (h : Nat → Int32) (f2 : Nat → va_E) (H : Heap) (locs : List Loc) (ls : Array Slot), (21 < i + k3) → (cy ≤ 1) → (i ≤ 21) → (C6 44 h) → (∀ k, i ≤ k → k < 44 → dg h k = 0) → (kw (dg h) i + kw (l6 hLI y) i = kw (l6 hLI x) i + cy * 1000000 ^ i) → f2 (g.lk M 33) = .inl (g.ac (g.lk M 33), 44, .inl (h)) → IV g f2 → un [64] g f f2 → (∀ b, b ≠ (g.lk M 33) → f2 b = f b) → lv_has ls 7 [(5, .int (nI i)), (4, .int (nI 0 - nI cy)), (0, .ref M), (1, .int (nI x)), (2, .int (nI y)), (3, .int (-1))] → va_P g.D vcl (va_pl g.LP f2) H → va_D (pc_A g s.heap.size) (va_pl g.LP f2) → va_S (pc_A g s.heap.size) s.heap H locs → W p l e ({ frames := 1, cells := 0, slots := 0, locals := 22 }) s m args below meth c H locs 0 0 (MQ below (va_Qv (fun f1 => (∃ h1 : Nat → Int32, f1 (g.lk M 33) = .inl (g.ac (g.lk M 33), 44, .inl h1) ∧ C6 44 h1 ∧ kw (dg h1) 44 = sl hLI x - sl hLI y) ∧ (IV g f1) ∧ (∀ b, b ≠ (g.lk M 33) → f1 b = f b)) (pc_out g s.heap.size) (pc_A g s.heap.size)) args s 0 0 (pc_A g s.heap.size)) (F0 m 6 ls []) := by
    intro k3
    induction k3 with
    | zero => intros; exfalso; omega
    | succ k3 ih4 =>
      intro cy i h f2 H locs ls hfu5 hcy hi hc hz he e6 hI7 hv8 hu hl hP hD hS
      have eLI := hv8.at (lo_k11_30 hL _ t_M) (by decide) eLI
      refine lv_iload hx hb d_M_addUp_6 (lv_at hl 0 rfl) ?_
      refine lv_bipush (v := nI 21) hx hb d_M_addUp_8 (by decide) ?_
      refine lv_icmp_ge (tgt := 79) hx hb d_M_addUp_10 (by decide) (fun b9 => ?_) (fun b9 => ?_)
      · skip
        replace b9 := (nI_leI (a := 21) (b := i) (by omega) (by omega)).mp b9
        exact pe_vret hx hb hr hlocks hK hP hD hS d_M_addUp_79 ⟨⟨_, e6, hc, by have y9 : i = 21 := (by omega); subst y9; exact ad_end hc hz hle he⟩, hI7, hu⟩
      · skip
        replace b9 := mt (nI_leI (a := 21) (b := i) (by omega) (by omega)).mpr b9
        refine lv_aload_n hx hb d_M_addUp_13 rfl (lv_at hl 2 rfl) ?_
        refine lv_iload_n hx hb d_M_addUp_14 rfl (lv_at hl 3 rfl) ?_
        refine lv_iload hx hb d_M_addUp_15 (lv_at hl 0 rfl) ?_
        obtain ⟨th_11, n_12, dr_13, sz_14, ix_15, dp_16, wt_17, op_18, tp_19, wa_20, gi_21, pc_22, st_23, tr_24, sp_25, ma_26, lg_27, du_28, e10, c29, c30, c31, c32, c33, c34, c35, c36, c37, c38, c39, c40, c41, c42, c43⟩ := oc_11.of t_M (hI7.1 M)
        refine pcc_i (va_runV (C := "BigRunnerModel") (As := [.int (nI x), .int (nI i)]) (rest := []) ⟨hx, hb, hml, hown, tb_nil⟩ (w_limb l g H.size f2 M x i hLI hL t_M hI7.1 eLI c6LI (by omega) (by omega)) ⟨(callB_of 2 (tb_one (wd_1232 hB _)) tb_good1 rfl rfl rfl (wd_82 hB _) (wd_1229 hB _) (by decide +kernel) ⟨Nat.le_of_ble_eq_true rfl, Nat.le_of_ble_eq_true rfl⟩), (wd_1231 hB _), (wd_64 hB _)⟩ ⟨pe_bl, pg_recv (ci := 10) hK hP (lo_in hL t_M (by decide)) e10 rfl, pe_pre hB hK hP hD⟩ rfl rfl hl.1 rfl (lv_room (Nat.le_of_ble_eq_true rfl)) d_M_addUp_17 ⟨Nat.le_of_ble_eq_true rfl, Nat.le_of_ble_eq_true rfl⟩) hS (fun r44 f45 H locs hq46 hP hD hS => ?_)
        obtain ⟨qv_47, rfl⟩ := hq46
        subst qv_47
        have hm48 : l6 hLI x i < 1000000 := l6_lt c6LI (by omega) _
        refine lv_iload_n hx hb d_M_addUp_20 rfl (lv_at hl 5 rfl) ?_
        refine lv_aload_n hx hb d_M_addUp_21 rfl (lv_at hl 2 rfl) ?_
        refine lv_iload_n hx hb d_M_addUp_22 rfl (lv_at hl 4 rfl) ?_
        refine lv_iload hx hb d_M_addUp_23 (lv_at hl 0 rfl) ?_
        refine pcc_i (va_runV (C := "BigRunnerModel") (As := [.int (nI y), .int (nI i)]) (rest := [.int (-1), .int (nI (l6 hLI x i))]) ⟨hx, hb, hml, hown, tb_nil⟩ (w_limb l g H.size f2 M y i hLI hL t_M hI7.1 eLI c6LI (by omega) (by omega)) ⟨(callB_of 2 (tb_one (wd_1232 hB _)) tb_good1 rfl rfl rfl (wd_82 hB _) (wd_1229 hB _) (by decide +kernel) ⟨Nat.le_of_ble_eq_true rfl, Nat.le_of_ble_eq_true rfl⟩), (wd_1231 hB _), (wd_64 hB _)⟩ ⟨pe_bl, pg_recv (ci := 10) hK hP (lo_in hL t_M (by decide)) e10 rfl, pe_pre hB hK hP hD⟩ rfl rfl hl.1 rfl (lv_room (Nat.le_of_ble_eq_true rfl)) d_M_addUp_25 ⟨Nat.le_of_ble_eq_true rfl, Nat.le_of_ble_eq_true rfl⟩) hS (fun r49 f50 H locs hq51 hP hD hS => ?_)
        obtain ⟨qv_52, rfl⟩ := hq51
        subst qv_52
        have hm53 : l6 hLI y i < 1000000 := l6_lt c6LI (by omega) _
        refine lv_imul hx hb d_M_addUp_28 ?_
        refine lv_iadd hx hb d_M_addUp_29 ?_
        refine lv_iload hx hb d_M_addUp_30 (lv_at hl 1 rfl) ?_
        refine lv_iadd hx hb d_M_addUp_32 ?_
        refine lv_topi (fun z_ hz_ => ?_)
        obtain rfl : z_ = nI (l6 hLI x i) - nI (l6 hLI y i + cy) := hz_.trans (nI_dif _ _ _)
        refine lv_istore (lv' := [(6, .int (nI (l6 hLI x i) - nI (l6 hLI y i + cy))), (5, .int (nI i)), (4, .int (nI 0 - nI cy)), (0, .ref M), (1, .int (nI x)), (2, .int (nI y)), (3, .int (-1))]) hx hb d_M_addUp_33 hl (by decide) rfl (fun ls hl => ?_)
        refine lv_iload hx hb d_M_addUp_35 (lv_at hl 0 rfl) ?_
        refine lv_if_ge (tgt := 44) hx hb d_M_addUp_37 (by decide) (fun b54 => ?_) (fun b54 => ?_)
        · skip
          replace b54 : ¬ (l6 hLI x i) < (l6 hLI y i + cy) := fun q9 => absurd ((nI_dlt (u := l6 hLI x i) (m := l6 hLI y i + cy) (by omega) (by omega)).mpr q9) (Int32.not_lt.mpr b54)
          have hl : lv_has ls 7 [(6, .int (nI (l6 hLI x i - (l6 hLI y i + cy)))), (5, .int (nI i)), (4, .int (nI 0 - nI cy)), (0, .ref M), (1, .int (nI x)), (2, .int (nI y)), (3, .int (-1))] := by rw [pk_sub (by omega)] at hl; exact hl
          refine lv_iload hx hb d_M_addUp_44 (lv_at hl 0 rfl) ?_
          refine lv_ldc (v := 1000000) hx hb hown (wd_1212 hB _) d_M_addUp_46 ?_
          refine lv_topi (fun z_ hz_ => ?_)
          obtain rfl : z_ = nI 1000000 := hz_
          refine lv_icmp_lt (tgt := 55) hx hb d_M_addUp_48 (by decide) (fun b55 => ?_) (fun b55 => ?_)
          · skip
            replace b55 := (nI_ltI (a := l6 hLI x i - (l6 hLI y i + cy)) (b := 1000000) (by omega) (by omega)).mp b55
            refine lv_iconst (v := nI 0) hx hb d_M_addUp_55 (by decide) ?_
            refine lv_istore (lv' := [(4, .int (nI 0)), (6, .int (nI (l6 hLI x i - (l6 hLI y i + cy)))), (5, .int (nI i)), (0, .ref M), (1, .int (nI x)), (2, .int (nI y)), (3, .int (-1))]) hx hb d_M_addUp_56 hl (by decide) rfl (fun ls hl => ?_)
            refine lv_aload_n hx hb d_M_addUp_58 rfl (lv_at hl 3 rfl) ?_
            refine pf_get (v := .ref (g.lk M 33)) (C := "BigRunnerModel") (T := FT10) (N := 45) hx hb (hw10 hB _) (fun _ h9 => h9) hown hK hP (lo_in hL t_M (by decide)) e10 rfl 33 (by decide) (wd_980 hB _) rfl d_M_addUp_59 ?_
            refine lv_iload hx hb d_M_addUp_62 (lv_at hl 2 rfl) ?_
            refine lv_iload hx hb d_M_addUp_64 (lv_at hl 1 rfl) ?_
            refine lv_iload hx hb d_M_addUp_66 (lv_at hl 0 rfl) ?_
            refine lv_ldc (v := 1000000) hx hb hown (wd_1212 hB _) d_M_addUp_68 ?_
            refine lv_topi (fun z_ hz_ => ?_)
            obtain rfl : z_ = nI 1000000 := hz_
            refine pf_imulN (x := 0) (y := 1000000) hx hb d_M_addUp_70 ?_
            refine lv_topi (fun z_ hz_ => ?_)
            obtain rfl : z_ = nI 0 := hz_.trans (congrArg nI (Nat.zero_mul 1000000))
            refine pf_isubN (x := l6 hLI x i - (l6 hLI y i + cy)) (y := 0) hx hb (by omega) d_M_addUp_71 ?_
            refine lv_topi (fun z_ hz_ => ?_)
            obtain rfl : z_ = nI (l6 hLI x i - (l6 hLI y i + cy)) := hz_.trans (congrArg nI (show (l6 hLI x i - (l6 hLI y i + cy)) - 0 = l6 hLI x i - (l6 hLI y i + cy) by omega))
            refine pf_iast (i := i) hx hb hK hP hD hS (lo_in hL (lo_k11_33 hL _ t_M) (by decide)) e6 (lo_t64 hL _ (lo_k11_33 hL _ t_M)) (by omega) (by decide) d_M_addUp_72 (fun f56 H locs e57 k58 hP hD hS => ?_)
            have eLI := (k58 (g.lk M 30) (tg_ne (lo_k11_30 hL _ t_M) (lo_k11_33 hL _ t_M) (by decide))).trans eLI
            have e10 := (k58 M (tg_ne t_M (lo_k11_33 hL _ t_M) (by decide))).trans e10
            have hu : ∀ b, b ≠ (g.lk M 33) → f56 b = f b := fun b q0 => (k58 b q0).trans (hu b q0)
            have hv8 := hv8.st k58 (lo_k11_33 hL _ t_M) (by decide)
            have hk59 : ∀ b, b ≠ (g.lk M 33) → f56 b = f2 b := k58
            have c60 := lb6_upd (n := 44) (i := i) (v := l6 hLI x i - (l6 hLI y i + cy)) hc (by omega)
            have hl : lv_has ls 7 [(4, .int (nI 0 - nI 0)), (6, .int (nI (l6 hLI x i - (l6 hLI y i + cy)))), (5, .int (nI i)), (0, .ref M), (1, .int (nI x)), (2, .int (nI y)), (3, .int (-1))] := by rw [show nI 0 - nI 0 = nI 0 by decide]; exact hl
            refine lv_iinc (k := 2) (v := nI (i + 1)) (lv' := [(5, .int (nI (i + 1))), (4, .int (nI 0 - nI 0)), (6, .int (nI (l6 hLI x i - (l6 hLI y i + cy)))), (0, .ref M), (1, .int (nI x)), (2, .int (nI y)), (3, .int (-1))]) hx hb d_M_addUp_73 hl rfl (by rw [nI_succ]; rfl) (by decide) rfl (fun ls hl => ?_)
            refine lv_goto (tgt := 6) hx hb d_M_addUp_76 (by decide) ?_
            have hI61 := iv_1 hI7 hL (lo_k11_33 hL _ t_M) (by decide) hk59 (oc_64.mk (lo_k11_33 hL _ t_M) (⟨_, e57⟩))
            have hl : lv_has ls 7 [(5, .int (nI (i + 1))), (4, .int (nI 0 - nI 0)), (0, .ref M), (1, .int (nI x)), (2, .int (nI y)), (3, .int (-1))] := lv_sub hl [0, 1, 3, 4, 5, 6] rfl
            exact ih4 0 (i + 1) (upd h i ((nI (l6 hLI x i - (l6 hLI y i + cy))))) f56 H locs ls (by omega) (by omega) (by omega) c60 (fun k q1 q2 => by rw [dg_ne (by omega)]; exact hz k (by omega) q2) (ad_2 (a := l6 hLI x) (b := l6 hLI y) he (by omega) (by omega)) e57 hI61 hv8 hu hl hP hD hS
          · skip
            replace b55 := mt (nI_ltI (a := l6 hLI x i - (l6 hLI y i + cy)) (b := 1000000) (by omega) (by omega)).mpr b55
            exfalso; omega
        · skip
          replace b54 := ((nI_dlt (u := l6 hLI x i) (m := l6 hLI y i + cy) (by omega) (by omega)).mp (Int32.not_le.mp b54))
          refine lv_iconst (v := (-1)) hx hb d_M_addUp_40 (by decide) ?_
          refine lv_goto (tgt := 56) hx hb d_M_addUp_41 (by decide) ?_
          refine lv_istore (lv' := [(4, .int (-1)), (6, .int (nI (l6 hLI x i) - nI (l6 hLI y i + cy))), (5, .int (nI i)), (0, .ref M), (1, .int (nI x)), (2, .int (nI y)), (3, .int (-1))]) hx hb d_M_addUp_56 hl (by decide) rfl (fun ls hl => ?_)
          refine lv_aload_n hx hb d_M_addUp_58 rfl (lv_at hl 3 rfl) ?_
          refine pf_get (v := .ref (g.lk M 33)) (C := "BigRunnerModel") (T := FT10) (N := 45) hx hb (hw10 hB _) (fun _ h9 => h9) hown hK hP (lo_in hL t_M (by decide)) e10 rfl 33 (by decide) (wd_980 hB _) rfl d_M_addUp_59 ?_
          refine lv_iload hx hb d_M_addUp_62 (lv_at hl 2 rfl) ?_
          refine lv_iload hx hb d_M_addUp_64 (lv_at hl 1 rfl) ?_
          refine lv_iload hx hb d_M_addUp_66 (lv_at hl 0 rfl) ?_
          refine lv_ldc (v := 1000000) hx hb hown (wd_1212 hB _) d_M_addUp_68 ?_
          refine lv_topi (fun z_ hz_ => ?_)
          obtain rfl : z_ = nI 1000000 := hz_
          refine lv_imul hx hb d_M_addUp_70 ?_
          refine lv_isub hx hb d_M_addUp_71 ?_
          refine lv_topi (fun z_ hz_ => ?_)
          obtain rfl : z_ = nI (l6 hLI x i + 1000000 - (l6 hLI y i + cy)) := hz_.trans (nI_bor (by omega))
          refine pf_iast (i := i) hx hb hK hP hD hS (lo_in hL (lo_k11_33 hL _ t_M) (by decide)) e6 (lo_t64 hL _ (lo_k11_33 hL _ t_M)) (by omega) (by decide) d_M_addUp_72 (fun f62 H locs e63 k64 hP hD hS => ?_)
          have eLI := (k64 (g.lk M 30) (tg_ne (lo_k11_30 hL _ t_M) (lo_k11_33 hL _ t_M) (by decide))).trans eLI
          have e10 := (k64 M (tg_ne t_M (lo_k11_33 hL _ t_M) (by decide))).trans e10
          have hu : ∀ b, b ≠ (g.lk M 33) → f62 b = f b := fun b q0 => (k64 b q0).trans (hu b q0)
          have hv8 := hv8.st k64 (lo_k11_33 hL _ t_M) (by decide)
          have hk65 : ∀ b, b ≠ (g.lk M 33) → f62 b = f2 b := k64
          have c66 := lb6_upd (n := 44) (i := i) (v := l6 hLI x i + 1000000 - (l6 hLI y i + cy)) hc (by omega)
          have hl : lv_has ls 7 [(4, .int (nI 0 - nI 1)), (6, .int (nI (l6 hLI x i) - nI (l6 hLI y i + cy))), (5, .int (nI i)), (0, .ref M), (1, .int (nI x)), (2, .int (nI y)), (3, .int (-1))] := by rw [show nI 0 - nI 1 = -1 by decide]; exact hl
          refine lv_iinc (k := 2) (v := nI (i + 1)) (lv' := [(5, .int (nI (i + 1))), (4, .int (nI 0 - nI 1)), (6, .int (nI (l6 hLI x i) - nI (l6 hLI y i + cy))), (0, .ref M), (1, .int (nI x)), (2, .int (nI y)), (3, .int (-1))]) hx hb d_M_addUp_73 hl rfl (by rw [nI_succ]; rfl) (by decide) rfl (fun ls hl => ?_)
          refine lv_goto (tgt := 6) hx hb d_M_addUp_76 (by decide) ?_
          have hI67 := iv_1 hI7 hL (lo_k11_33 hL _ t_M) (by decide) hk65 (oc_64.mk (lo_k11_33 hL _ t_M) (⟨_, e63⟩))
          have hl : lv_has ls 7 [(5, .int (nI (i + 1))), (4, .int (nI 0 - nI 1)), (0, .ref M), (1, .int (nI x)), (2, .int (nI y)), (3, .int (-1))] := lv_sub hl [0, 1, 3, 4, 5, 6] rfl
          exact ih4 1 (i + 1) (upd h i ((nI (l6 hLI x i + 1000000 - (l6 hLI y i + cy))))) f62 H locs ls (by omega) (by omega) (by omega) c66 (fun k q1 q2 => by rw [dg_ne (by omega)]; exact hz k (by omega) q2) (ad_1 (a := l6 hLI x) (b := l6 hLI y) he (by omega) (by omega) (by omega) (by omega)) e63 hI67 hv8 hu hl hP hD hS
  exact lp1 22 0 0 hRE f s.heap [] ls (by omega) (by omega) (by omega) c6RE (fun k _ q2 => hz0 k q2) (by simp [kw]) eRE hI un.rf hu hl hP hD hS

