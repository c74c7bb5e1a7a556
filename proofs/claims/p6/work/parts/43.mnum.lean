set_option maxHeartbeats 4000000 in
set_option maxRecDepth 100000 in
theorem m_limb (l : Launch) (g : Lay) (sz : Nat) (f : Nat → va_E) (M : Nat) (k9 : Nat) (i : Nat) (hL : LO g) (t_M : g.tg M = 11) (hI : OC g f) (hk : k9 < 80) (hi : i < 100) : Met l ⟨"BigRunnerModel", "limb", "(II)I"⟩ [Cond.code ⟨"BigRunnerModel", "limb", "(II)I"⟩ prog_12_method_26_code 3 (some .int)] ({ frames := 0, cells := 0, slots := 0, locals := 0 }) (va_Pc [.ref M, .int (nI k9), .int (nI i)] (pc_in g sz f)) (va_Qi (fun r f1 => (f = f1)) (pc_out g sz) (pc_A g sz)) 0 0 (pc_A g sz) := by
  refine pe_ofW (cc := prog_12_method_26_code) (maxL := 3) (ret := (some .int)) (lv := [(0, .ref M), (1, .int (nI k9)), (2, .int (nI i))]) (by decide) (Nat.le_of_ble_eq_true rfl) rfl ?_
  intro p e s m args below meth c ls hx hb hr hml hlocks hown hB hP hK hD hsz hS hl
  subst hsz
  refine lv_iload_n hx hb d_M_limb_0 rfl (lv_at hl 2 rfl) ?_
  refine lv_bipush (v := nI 20) hx hb d_M_limb_1 (by decide) ?_
  refine lv_icmp_ge (tgt := 20) hx hb d_M_limb_3 (by decide) (fun b1 => ?_) (fun b1 => ?_)
  · skip
    replace b1 := (nI_leI (a := 20) (b := i) (by omega) (by omega)).mp b1
    refine lv_iconst (v := nI 0) hx hb d_M_limb_20 (by decide) ?_
    exact pe_iret hx hb hr hlocks hK hP hD hS d_M_limb_21 rfl
  · skip
    replace b1 := mt (nI_leI (a := 20) (b := i) (by omega) (by omega)).mpr b1
    refine lv_aload_n hx hb d_M_limb_6 rfl (lv_at hl 0 rfl) ?_
    obtain ⟨th_3, n_4, dr_5, sz_6, ix_7, dp_8, wt_9, op_10, tp_11, wa_12, gi_13, pc_14, st_15, tr_16, sp_17, ma_18, lg_19, du_20, e2, c21, c22, c23, c24, c25, c26, c27, c28, c29, c30, c31, c32, c33, c34, c35⟩ := oc_11.of t_M (hI M)
    refine pf_get (v := .ref (g.lk M 30)) (C := "BigRunnerModel") (T := FT10) (N := 45) hx hb (hw10 hB _) (fun _ h9 => h9) hown hK hP (lo_in hL t_M (by decide)) e2 rfl 30 (by decide) (wd_977 hB _) rfl d_M_limb_7 ?_
    refine lv_bipush (v := nI 20) hx hb d_M_limb_10 (by decide) ?_
    refine lv_iload_n hx hb d_M_limb_12 rfl (lv_at hl 1 rfl) ?_
    refine pf_imulN (x := 20) (y := k9) hx hb d_M_limb_13 ?_
    refine lv_iload_n hx hb d_M_limb_14 rfl (lv_at hl 2 rfl) ?_
    refine pf_iaddN (x := 20 * k9) (y := i) hx hb d_M_limb_15 ?_
    obtain ⟨h_37, e36⟩ := oc_62.of (lo_k11_30 hL _ t_M) (hI (g.lk M 30))
    refine pf_iald (i := (20 * k9) + i) hx hb hK hP (lo_in hL (lo_k11_30 hL _ t_M) (by decide)) e36 (lo_t62 hL _ (lo_k11_30 hL _ t_M)) (by omega) (by decide) d_M_limb_16 ?_
    refine lv_topi (fun iv39 _ => ?_)
    refine lv_goto (tgt := 21) hx hb d_M_limb_17 (by decide) ?_
    exact pe_iret hx hb hr hlocks hK hP hD hS d_M_limb_21 rfl
set_option maxHeartbeats 4000000 in
set_option maxRecDepth 100000 in
theorem m_setNumber (l : Launch) (g : Lay) (sz : Nat) (f : Nat → va_E) (M : Nat) (k9 : Nat) (v : Int32) (hL : LO g) (t_M : g.tg M = 11) (hI : IV g f) (hk : k9 < 80) : Met l ⟨"BigRunnerModel", "setNumber", "(II)V"⟩ [Cond.code ⟨"BigRunnerModel", "setNumber", "(II)V"⟩ prog_12_method_27_code 4 none] ({ frames := 0, cells := 0, slots := 0, locals := 0 }) (va_Pc [.ref M, .int (nI k9), .int v] (pc_in g sz f)) (va_Qv (fun f1 => (IV g f1) ∧ (un [62, 63] g f f1)) (pc_out g sz) (pc_A g sz)) 0 0 (pc_A g sz) := by
  refine pe_ofW (cc := prog_12_method_27_code) (maxL := 4) (ret := none) (lv := [(0, .ref M), (1, .int (nI k9)), (2, .int v)]) (by decide) (Nat.le_of_ble_eq_true rfl) rfl ?_
  intro p e s m args below meth c ls hx hb hr hml hlocks hown hB hP hK hD hsz hS hl
  subst hsz
  have hu : un [62, 63] g f f := un.rf
  refine lv_iconst (v := nI 0) hx hb d_M_setNumber_0 (by decide) ?_
  refine lv_istore_n (lv' := [(3, .int (nI 0)), (0, .ref M), (1, .int (nI k9)), (2, .int v)]) hx hb d_M_setNumber_1 rfl hl (by decide) rfl (fun ls hl => ?_)
  have lp1 : ∀ (k3 : Nat) (i : Nat) (f2 : Nat → va_E) (H : Heap) (locs : List Loc) (ls : Array Slot), (20 < i + k3) → (i ≤ 20) → IV g f2 → un [62] g f f2 → lv_has ls 4 [(3, .int (nI i)), (0, .ref M), (1, .int (nI k9)), (2, .int v)] → va_P g.D vcl (va_pl g.LP f2) H → va_D (pc_A g s.heap.size) (va_pl g.LP f2) → va_S (pc_A g s.heap.size) s.heap H locs → W p l e ({ frames := 0, cells := 0, slots := 0, locals := 0 }) s m args below meth c H locs 0 0 (MQ below (va_Qv (fun f1 => (IV g f1) ∧ (un [62, 63] g f f1)) (pc_out g s.heap.size) (pc_A g s.heap.size)) args s 0 0 (pc_A g s.heap.size)) (F0 m 2 ls []) := by
    intro k3
    induction k3 with
    | zero => intros; exfalso; omega
    | succ k3 ih4 =>
      intro i f2 H locs ls hfu5 hi hI6 hv7 hl hP hD hS
      have hu := hu.tr hv7 (by decide)
      refine lv_iload_n hx hb d_M_setNumber_2 rfl (lv_at hl 0 rfl) ?_
      refine lv_bipush (v := nI 20) hx hb d_M_setNumber_3 (by decide) ?_
      refine lv_icmp_ge (tgt := 26) hx hb d_M_setNumber_5 (by decide) (fun b8 => ?_) (fun b8 => ?_)
      · skip
        replace b8 := (nI_leI (a := 20) (b := i) (by omega) (by omega)).mp b8
        have jn9 : ∀ (bj10 : Int32) (H : Heap) (locs : List Loc), va_P g.D vcl (va_pl g.LP f2) H → va_D (pc_A g s.heap.size) (va_pl g.LP f2) → va_S (pc_A g s.heap.size) s.heap H locs → W p l e ({ frames := 0, cells := 0, slots := 0, locals := 0 }) s m args below meth c H locs 0 0 (MQ below (va_Qv (fun f1 => (IV g f1) ∧ (un [62, 63] g f f1)) (pc_out g s.heap.size) (pc_A g s.heap.size)) args s 0 0 (pc_A g s.heap.size)) (F0 m 36 ls [.int bj10]) := by
          intro bj10 H locs hP hD hS
          refine lv_istore_n (lv' := [(3, .int bj10), (0, .ref M), (1, .int (nI k9)), (2, .int v)]) hx hb d_M_setNumber_36 rfl hl (by decide) rfl (fun ls hl => ?_)
          refine lv_aload_n hx hb d_M_setNumber_37 rfl (lv_at hl 1 rfl) ?_
          obtain ⟨th_12, n_13, dr_14, sz_15, ix_16, dp_17, wt_18, op_19, tp_20, wa_21, gi_22, pc_23, st_24, tr_25, sp_26, ma_27, lg_28, du_29, e11, c30, c31, c32, c33, c34, c35, c36, c37, c38, c39, c40, c41, c42, c43, c44⟩ := oc_11.of t_M (hI6.1 M)
          refine pf_get (v := .ref (g.lk M 30)) (C := "BigRunnerModel") (T := FT10) (N := 45) hx hb (hw10 hB _) (fun _ h9 => h9) hown hK hP (lo_in hL t_M (by decide)) e11 rfl 30 (by decide) (wd_977 hB _) rfl d_M_setNumber_38 ?_
          refine lv_bipush (v := nI 20) hx hb d_M_setNumber_41 (by decide) ?_
          refine lv_iload_n hx hb d_M_setNumber_43 rfl (lv_at hl 2 rfl) ?_
          refine pf_imulN (x := 20) (y := k9) hx hb d_M_setNumber_44 ?_
          refine lv_iload_n hx hb d_M_setNumber_45 rfl (lv_at hl 0 rfl) ?_
          refine lv_ldc (v := 1000000) hx hb hown (wd_1212 hB _) d_M_setNumber_46 ?_
          refine lv_topi (fun z_ hz_ => ?_)
          obtain rfl : z_ = nI 1000000 := hz_
          refine lv_irem hx hb d_M_setNumber_48 (by decide) ?_
          refine lv_topi (fun iv45 _ => ?_)
          obtain ⟨h_47, e46⟩ := oc_62.of (lo_k11_30 hL _ t_M) (hI6.1 (g.lk M 30))
          refine pf_iast (i := 20 * k9) hx hb hK hP hD hS (lo_in hL (lo_k11_30 hL _ t_M) (by decide)) e46 (lo_t62 hL _ (lo_k11_30 hL _ t_M)) (by omega) (by decide) d_M_setNumber_49 (fun f49 H locs e50 k51 hP hD hS => ?_)
          have e11 := (k51 M (tg_ne t_M (lo_k11_30 hL _ t_M) (by decide))).trans e11
          have hu := hu.st k51 (lo_k11_30 hL _ t_M) (by decide)
          have hv7 := hv7.st k51 (lo_k11_30 hL _ t_M) (by decide)
          have hk52 : ∀ b, b ≠ (g.lk M 30) → f49 b = f2 b := k51
          refine lv_aload_n hx hb d_M_setNumber_50 rfl (lv_at hl 1 rfl) ?_
          refine pf_get (v := .ref (g.lk M 30)) (C := "BigRunnerModel") (T := FT10) (N := 45) hx hb (hw10 hB _) (fun _ h9 => h9) hown hK hP (lo_in hL t_M (by decide)) e11 rfl 30 (by decide) (wd_977 hB _) rfl d_M_setNumber_51 ?_
          refine lv_bipush (v := nI 20) hx hb d_M_setNumber_54 (by decide) ?_
          refine lv_iload_n hx hb d_M_setNumber_56 rfl (lv_at hl 2 rfl) ?_
          refine pf_imulN (x := 20) (y := k9) hx hb d_M_setNumber_57 ?_
          refine lv_iconst (v := nI 1) hx hb d_M_setNumber_58 (by decide) ?_
          refine pf_iaddN (x := 20 * k9) (y := 1) hx hb d_M_setNumber_59 ?_
          refine lv_iload_n hx hb d_M_setNumber_60 rfl (lv_at hl 0 rfl) ?_
          refine lv_ldc (v := 1000000) hx hb hown (wd_1212 hB _) d_M_setNumber_61 ?_
          refine lv_topi (fun z_ hz_ => ?_)
          obtain rfl : z_ = nI 1000000 := hz_
          refine lv_idiv hx hb d_M_setNumber_63 (by decide) ?_
          refine lv_topi (fun iv53 _ => ?_)
          refine pf_iast (i := (20 * k9) + 1) hx hb hK hP hD hS (lo_in hL (lo_k11_30 hL _ t_M) (by decide)) e50 (lo_t62 hL _ (lo_k11_30 hL _ t_M)) (by omega) (by decide) d_M_setNumber_64 (fun f54 H locs e55 k56 hP hD hS => ?_)
          have e11 := (k56 M (tg_ne t_M (lo_k11_30 hL _ t_M) (by decide))).trans e11
          have hu := hu.st k56 (lo_k11_30 hL _ t_M) (by decide)
          have hv7 := hv7.st k56 (lo_k11_30 hL _ t_M) (by decide)
          have hk57 : ∀ b, b ≠ (g.lk M 30) → f54 b = f2 b := fun b q0 => (k56 b q0).trans (hk52 b q0)
          refine lv_aload_n hx hb d_M_setNumber_65 rfl (lv_at hl 1 rfl) ?_
          refine pf_get (v := .ref (g.lk M 31)) (C := "BigRunnerModel") (T := FT10) (N := 45) hx hb (hw10 hB _) (fun _ h9 => h9) hown hK hP (lo_in hL t_M (by decide)) e11 rfl 31 (by decide) (wd_978 hB _) rfl d_M_setNumber_66 ?_
          refine lv_iload_n hx hb d_M_setNumber_69 rfl (lv_at hl 2 rfl) ?_
          have jn58 : ∀ (bj59 : Int32) (H : Heap) (locs : List Loc), va_P g.D vcl (va_pl g.LP f54) H → va_D (pc_A g s.heap.size) (va_pl g.LP f54) → va_S (pc_A g s.heap.size) s.heap H locs → W p l e ({ frames := 0, cells := 0, slots := 0, locals := 0 }) s m args below meth c H locs 0 0 (MQ below (va_Qv (fun f1 => (IV g f1) ∧ (un [62, 63] g f f1)) (pc_out g s.heap.size) (pc_A g s.heap.size)) args s 0 0 (pc_A g s.heap.size)) (F0 m 87 ls [.int bj59, .int (nI k9), .ref (g.lk M 31)]) := by
            intro bj59 H locs hP hD hS
            have hI60 := iv_1 hI6 hL (lo_k11_30 hL _ t_M) (by decide) hk57 (oc_62.mk (lo_k11_30 hL _ t_M) (⟨_, e55⟩))
            obtain ⟨h_62, e61⟩ := oc_63.of (lo_k11_31 hL _ t_M) (hI60.1 (g.lk M 31))
            refine pf_iast (i := k9) hx hb hK hP hD hS (lo_in hL (lo_k11_31 hL _ t_M) (by decide)) e61 (lo_t63 hL _ (lo_k11_31 hL _ t_M)) (by omega) (by decide) d_M_setNumber_87 (fun f64 H locs e65 k66 hP hD hS => ?_)
            have e11 := (k66 M (tg_ne t_M (lo_k11_31 hL _ t_M) (by decide))).trans e11
            have e55 := (k66 (g.lk M 30) (tg_ne (lo_k11_30 hL _ t_M) (lo_k11_31 hL _ t_M) (by decide))).trans e55
            have hu := hu.st k66 (lo_k11_31 hL _ t_M) (by decide)
            have hk67 : ∀ b, b ≠ (g.lk M 31) → f64 b = f54 b := k66
            have hI68 := iv_1 hI60 hL (lo_k11_31 hL _ t_M) (by decide) hk67 (oc_63.mk (lo_k11_31 hL _ t_M) (⟨_, e65⟩))
            exact pe_vret hx hb hr hlocks hK hP hD hS d_M_setNumber_88 ⟨hI68, hu⟩
          refine lv_iload_n hx hb d_M_setNumber_70 rfl (lv_at hl 3 rfl) ?_
          refine lv_if_ge (tgt := 78) hx hb d_M_setNumber_71 (by decide) (fun b69 => ?_) (fun b69 => ?_)
          · skip
            refine lv_iload_n hx hb d_M_setNumber_78 rfl (lv_at hl 3 rfl) ?_
            refine lv_if_le (tgt := 86) hx hb d_M_setNumber_79 (by decide) (fun b70 => ?_) (fun b70 => ?_)
            · skip
              refine lv_iconst (v := nI 0) hx hb d_M_setNumber_86 (by decide) ?_
              exact jn58 ((nI 0)) _ _ hP hD hS
            · skip
              refine lv_iconst (v := nI 1) hx hb d_M_setNumber_82 (by decide) ?_
              refine lv_goto (tgt := 87) hx hb d_M_setNumber_83 (by decide) ?_
              exact jn58 ((nI 1)) _ _ hP hD hS
          · skip
            refine lv_iconst (v := (-1)) hx hb d_M_setNumber_74 (by decide) ?_
            refine lv_goto (tgt := 87) hx hb d_M_setNumber_75 (by decide) ?_
            exact jn58 ((-1)) _ _ hP hD hS
        refine lv_iload_n hx hb d_M_setNumber_26 rfl (lv_at hl 3 rfl) ?_
        refine lv_if_ge (tgt := 35) hx hb d_M_setNumber_27 (by decide) (fun b71 => ?_) (fun b71 => ?_)
        · skip
          refine lv_iload_n hx hb d_M_setNumber_35 rfl (lv_at hl 3 rfl) ?_
          exact jn9 v _ _ hP hD hS
        · skip
          refine lv_iload_n hx hb d_M_setNumber_30 rfl (lv_at hl 3 rfl) ?_
          refine lv_ineg hx hb d_M_setNumber_31 ?_
          refine lv_topi (fun iv72 _ => ?_)
          refine lv_goto (tgt := 36) hx hb d_M_setNumber_32 (by decide) ?_
          exact jn9 iv72 _ _ hP hD hS
      · skip
        replace b8 := mt (nI_leI (a := 20) (b := i) (by omega) (by omega)).mpr b8
        refine lv_aload_n hx hb d_M_setNumber_8 rfl (lv_at hl 1 rfl) ?_
        obtain ⟨th_74, n_75, dr_76, sz_77, ix_78, dp_79, wt_80, op_81, tp_82, wa_83, gi_84, pc_85, st_86, tr_87, sp_88, ma_89, lg_90, du_91, e73, c92, c93, c94, c95, c96, c97, c98, c99, c100, c101, c102, c103, c104, c105, c106⟩ := oc_11.of t_M (hI6.1 M)
        refine pf_get (v := .ref (g.lk M 30)) (C := "BigRunnerModel") (T := FT10) (N := 45) hx hb (hw10 hB _) (fun _ h9 => h9) hown hK hP (lo_in hL t_M (by decide)) e73 rfl 30 (by decide) (wd_977 hB _) rfl d_M_setNumber_9 ?_
        refine lv_bipush (v := nI 20) hx hb d_M_setNumber_12 (by decide) ?_
        refine lv_iload_n hx hb d_M_setNumber_14 rfl (lv_at hl 2 rfl) ?_
        refine pf_imulN (x := 20) (y := k9) hx hb d_M_setNumber_15 ?_
        refine lv_iload_n hx hb d_M_setNumber_16 rfl (lv_at hl 0 rfl) ?_
        refine pf_iaddN (x := 20 * k9) (y := i) hx hb d_M_setNumber_17 ?_
        refine lv_iconst (v := nI 0) hx hb d_M_setNumber_18 (by decide) ?_
        obtain ⟨h_108, e107⟩ := oc_62.of (lo_k11_30 hL _ t_M) (hI6.1 (g.lk M 30))
        refine pf_iast (i := (20 * k9) + i) hx hb hK hP hD hS (lo_in hL (lo_k11_30 hL _ t_M) (by decide)) e107 (lo_t62 hL _ (lo_k11_30 hL _ t_M)) (by omega) (by decide) d_M_setNumber_19 (fun f110 H locs e111 k112 hP hD hS => ?_)
        have e73 := (k112 M (tg_ne t_M (lo_k11_30 hL _ t_M) (by decide))).trans e73
        have hu := hu.st k112 (lo_k11_30 hL _ t_M) (by decide)
        have hv7 := hv7.st k112 (lo_k11_30 hL _ t_M) (by decide)
        have hk113 : ∀ b, b ≠ (g.lk M 30) → f110 b = f2 b := k112
        refine lv_iinc (k := 0) (v := nI (i + 1)) (lv' := [(3, .int (nI (i + 1))), (0, .ref M), (1, .int (nI k9)), (2, .int v)]) hx hb d_M_setNumber_20 hl rfl (by rw [nI_succ]; rfl) (by decide) rfl (fun ls hl => ?_)
        refine lv_goto (tgt := 2) hx hb d_M_setNumber_23 (by decide) ?_
        have hI114 := iv_1 hI6 hL (lo_k11_30 hL _ t_M) (by decide) hk113 (oc_62.mk (lo_k11_30 hL _ t_M) (⟨_, e111⟩))
        exact ih4 (i + 1) f110 H locs ls (by omega) (by omega) hI114 hv7 hl hP hD hS
  exact lp1 21 0 f s.heap [] ls (by omega) (by omega) hI un.rf hl hP hD hS
set_option maxHeartbeats 4000000 in
set_option maxRecDepth 100000 in
theorem m_order (l : Launch) (g : Lay) (sz : Nat) (f : Nat → va_E) (M : Nat) (x : Nat) (y : Nat) (hL : LO g) (t_M : g.tg M = 11) (hI : OC g f) (hx9 : x < 80) (hy9 : y < 80) : Met l ⟨"BigRunnerModel", "order", "(II)I"⟩ [Cond.code ⟨"BigRunnerModel", "order", "(II)I"⟩ prog_12_method_28_code 4 (some .int)] ({ frames := 1, cells := 0, slots := 0, locals := 22 }) (va_Pc [.ref M, .int (nI x), .int (nI y)] (pc_in g sz f)) (va_Qi (fun r f1 => (f = f1)) (pc_out g sz) (pc_A g sz)) 0 0 (pc_A g sz) := by
  refine pe_ofW (cc := prog_12_method_28_code) (maxL := 4) (ret := (some .int)) (lv := [(0, .ref M), (1, .int (nI x)), (2, .int (nI y))]) (by decide) (Nat.le_of_ble_eq_true rfl) rfl ?_
  intro p e s m args below meth c ls hx hb hr hml hlocks hown hB hP hK hD hsz hS hl
  subst hsz
  refine lv_bipush (v := nI 19) hx hb d_M_order_0 (by decide) ?_
  refine lv_istore_n (lv' := [(3, .int (nI 19)), (0, .ref M), (1, .int (nI x)), (2, .int (nI y))]) hx hb d_M_order_2 rfl hl (by decide) rfl (fun ls hl => ?_)
  have hl : lv_has ls 4 [(3, .int (nI 20 - nI 1)), (0, .ref M), (1, .int (nI x)), (2, .int (nI y))] := by rw [show nI 20 - nI 1 = nI 19 by decide]; exact hl
  have lp1 : ∀ (k3 : Nat) (j : Nat) (H : Heap) (locs : List Loc) (ls : Array Slot), (j < k3) → (j ≤ 20) → lv_has ls 4 [(3, .int (nI j - nI 1)), (0, .ref M), (1, .int (nI x)), (2, .int (nI y))] → va_P g.D vcl (va_pl g.LP f) H → va_D (pc_A g s.heap.size) (va_pl g.LP f) → va_S (pc_A g s.heap.size) s.heap H locs → W p l e ({ frames := 1, cells := 0, slots := 0, locals := 22 }) s m args below meth c H locs 0 0 (MQ below (va_Qi (fun r f1 => (f = f1)) (pc_out g s.heap.size) (pc_A g s.heap.size)) args s 0 0 (pc_A g s.heap.size)) (F0 m 3 ls []) := by
    intro k3
    induction k3 with
    | zero => intros; exfalso; omega
    | succ k3 ih4 =>
      intro j H locs ls hfu5 hj hl hP hD hS
      cases j with
      | zero =>
        have hl : lv_has ls 4 [(3, .int (-1)), (0, .ref M), (1, .int (nI x)), (2, .int (nI y))] := by rw [show nI 0 - nI 1 = (-1 : Int32) by decide] at hl; exact hl
        refine lv_iload_n hx hb d_M_order_3 rfl (lv_at hl 0 rfl) ?_
        refine lv_if_lt (tgt := 49) hx hb d_M_order_4 (by decide) (fun b8 => ?_) (fun b8 => ?_)
        · skip
          refine lv_iconst (v := nI 0) hx hb d_M_order_49 (by decide) ?_
          exact pe_iret hx hb hr hlocks hK hP hD hS d_M_order_50 rfl
        · skip
          exact absurd (by decide) b8
      | succ j =>
        have hl : lv_has ls 4 [(3, .int (nI j)), (0, .ref M), (1, .int (nI x)), (2, .int (nI y))] := by rw [nI_pr1] at hl; exact hl
        refine lv_iload_n hx hb d_M_order_3 rfl (lv_at hl 0 rfl) ?_
        refine lv_if_lt (tgt := 49) hx hb d_M_order_4 (by decide) (fun b9 => ?_) (fun b9 => ?_)
        · skip
          replace b9 := (nI_ltI (a := j) (b := 0) (by omega) (by omega)).mp b9
          exfalso; omega
        · skip
          replace b9 := mt (nI_ltI (a := j) (b := 0) (by omega) (by omega)).mpr b9
          refine lv_aload_n hx hb d_M_order_7 rfl (lv_at hl 1 rfl) ?_
          refine lv_iload_n hx hb d_M_order_8 rfl (lv_at hl 2 rfl) ?_
          refine lv_iload_n hx hb d_M_order_9 rfl (lv_at hl 0 rfl) ?_
          obtain ⟨th_11, n_12, dr_13, sz_14, ix_15, dp_16, wt_17, op_18, tp_19, wa_20, gi_21, pc_22, st_23, tr_24, sp_25, ma_26, lg_27, du_28, e10, c29, c30, c31, c32, c33, c34, c35, c36, c37, c38, c39, c40, c41, c42, c43⟩ := oc_11.of t_M (hI M)
          refine pcc_i (va_runV (C := "BigRunnerModel") (As := [.int (nI x), .int (nI j)]) (rest := []) ⟨hx, hb, hml, hown, tb_nil⟩ (m_limb l g H.size f M x j hL t_M hI (by omega) (by omega)) ⟨(callB_of 2 (tb_one (wd_1232 hB _)) tb_good1 rfl rfl rfl (wd_82 hB _) (wd_1229 hB _) (by decide +kernel) ⟨Nat.le_of_ble_eq_true rfl, Nat.le_of_ble_eq_true rfl⟩), (wd_1231 hB _), (wd_64 hB _)⟩ ⟨pe_bl, pg_recv (ci := 10) hK hP (lo_in hL t_M (by decide)) e10 rfl, pe_pre hB hK hP hD⟩ rfl rfl hl.1 rfl (lv_room (Nat.le_of_ble_eq_true rfl)) d_M_order_10 ⟨Nat.le_of_ble_eq_true rfl, Nat.le_of_ble_eq_true rfl⟩) hS (fun r44 f45 H locs hq46 hP hD hS => ?_)
          subst hq46
          refine lv_aload_n hx hb d_M_order_13 rfl (lv_at hl 1 rfl) ?_
          refine lv_iload_n hx hb d_M_order_14 rfl (lv_at hl 3 rfl) ?_
          refine lv_iload_n hx hb d_M_order_15 rfl (lv_at hl 0 rfl) ?_
          refine pcc_i (va_runV (C := "BigRunnerModel") (As := [.int (nI y), .int (nI j)]) (rest := [.int r44]) ⟨hx, hb, hml, hown, tb_nil⟩ (m_limb l g H.size f M y j hL t_M hI (by omega) (by omega)) ⟨(callB_of 2 (tb_one (wd_1232 hB _)) tb_good1 rfl rfl rfl (wd_82 hB _) (wd_1229 hB _) (by decide +kernel) ⟨Nat.le_of_ble_eq_true rfl, Nat.le_of_ble_eq_true rfl⟩), (wd_1231 hB _), (wd_64 hB _)⟩ ⟨pe_bl, pg_recv (ci := 10) hK hP (lo_in hL t_M (by decide)) e10 rfl, pe_pre hB hK hP hD⟩ rfl rfl hl.1 rfl (lv_room (Nat.le_of_ble_eq_true rfl)) d_M_order_16 ⟨Nat.le_of_ble_eq_true rfl, Nat.le_of_ble_eq_true rfl⟩) hS (fun r47 f48 H locs hq49 hP hD hS => ?_)
          subst hq49
          refine lv_icmp_eq (tgt := 43) hx hb d_M_order_19 (by decide) (fun b50 => ?_) (fun b50 => ?_)
          · skip
            refine lv_iinc (k := 0) (v := nI j - nI 1) (lv' := [(3, .int (nI j - nI 1)), (0, .ref M), (1, .int (nI x)), (2, .int (nI y))]) hx hb d_M_order_43 hl rfl (by rw [Int32.sub_eq_add_neg]; rfl) (by decide) rfl (fun ls hl => ?_)
            refine lv_goto (tgt := 3) hx hb d_M_order_46 (by decide) ?_
            exact ih4 j H locs ls (by omega) (by omega) hl hP hD hS
          · skip
            refine lv_aload_n hx hb d_M_order_22 rfl (lv_at hl 1 rfl) ?_
            refine lv_iload_n hx hb d_M_order_23 rfl (lv_at hl 2 rfl) ?_
            refine lv_iload_n hx hb d_M_order_24 rfl (lv_at hl 0 rfl) ?_
            refine pcc_i (va_runV (C := "BigRunnerModel") (As := [.int (nI x), .int (nI j)]) (rest := []) ⟨hx, hb, hml, hown, tb_nil⟩ (m_limb l g H.size f M x j hL t_M hI (by omega) (by omega)) ⟨(callB_of 2 (tb_one (wd_1232 hB _)) tb_good1 rfl rfl rfl (wd_82 hB _) (wd_1229 hB _) (by decide +kernel) ⟨Nat.le_of_ble_eq_true rfl, Nat.le_of_ble_eq_true rfl⟩), (wd_1231 hB _), (wd_64 hB _)⟩ ⟨pe_bl, pg_recv (ci := 10) hK hP (lo_in hL t_M (by decide)) e10 rfl, pe_pre hB hK hP hD⟩ rfl rfl hl.1 rfl (lv_room (Nat.le_of_ble_eq_true rfl)) d_M_order_25 ⟨Nat.le_of_ble_eq_true rfl, Nat.le_of_ble_eq_true rfl⟩) hS (fun r51 f52 H locs hq53 hP hD hS => ?_)
            subst hq53
            refine lv_aload_n hx hb d_M_order_28 rfl (lv_at hl 1 rfl) ?_
            refine lv_iload_n hx hb d_M_order_29 rfl (lv_at hl 3 rfl) ?_
            refine lv_iload_n hx hb d_M_order_30 rfl (lv_at hl 0 rfl) ?_
            refine pcc_i (va_runV (C := "BigRunnerModel") (As := [.int (nI y), .int (nI j)]) (rest := [.int r51]) ⟨hx, hb, hml, hown, tb_nil⟩ (m_limb l g H.size f M y j hL t_M hI (by omega) (by omega)) ⟨(callB_of 2 (tb_one (wd_1232 hB _)) tb_good1 rfl rfl rfl (wd_82 hB _) (wd_1229 hB _) (by decide +kernel) ⟨Nat.le_of_ble_eq_true rfl, Nat.le_of_ble_eq_true rfl⟩), (wd_1231 hB _), (wd_64 hB _)⟩ ⟨pe_bl, pg_recv (ci := 10) hK hP (lo_in hL t_M (by decide)) e10 rfl, pe_pre hB hK hP hD⟩ rfl rfl hl.1 rfl (lv_room (Nat.le_of_ble_eq_true rfl)) d_M_order_31 ⟨Nat.le_of_ble_eq_true rfl, Nat.le_of_ble_eq_true rfl⟩) hS (fun r54 f55 H locs hq56 hP hD hS => ?_)
            subst hq56
            refine lv_icmp_ge (tgt := 41) hx hb d_M_order_34 (by decide) (fun b57 => ?_) (fun b57 => ?_)
            · skip
              refine lv_iconst (v := nI 1) hx hb d_M_order_41 (by decide) ?_
              exact pe_iret hx hb hr hlocks hK hP hD hS d_M_order_42 rfl
            · skip
              refine lv_iconst (v := (-1)) hx hb d_M_order_37 (by decide) ?_
              refine lv_goto (tgt := 42) hx hb d_M_order_38 (by decide) ?_
              exact pe_iret hx hb hr hlocks hK hP hD hS d_M_order_42 rfl
  exact lp1 (20 + 1) 20 s.heap [] ls (by omega) (by omega) hl hP hD hS
set_option maxHeartbeats 4000000 in
set_option maxRecDepth 100000 in
theorem m_clear (l : Launch) (g : Lay) (sz : Nat) (f : Nat → va_E) (M : Nat) (hL : LO g) (t_M : g.tg M = 11) (hI : IV g f) : Met l ⟨"BigRunnerModel", "clear", "()V"⟩ [Cond.code ⟨"BigRunnerModel", "clear", "()V"⟩ prog_12_method_29_code 2 none] ({ frames := 0, cells := 0, slots := 0, locals := 0 }) (va_Pc [.ref M] (pc_in g sz f)) (va_Qv (fun f1 => (IV g f1) ∧ (un [64, 65] g f f1)) (pc_out g sz) (pc_A g sz)) 0 0 (pc_A g sz) := by
  refine pe_ofW (cc := prog_12_method_29_code) (maxL := 2) (ret := none) (lv := [(0, .ref M)]) (by decide) (Nat.le_of_ble_eq_true rfl) rfl ?_
  intro p e s m args below meth c ls hx hb hr hml hlocks hown hB hP hK hD hsz hS hl
  subst hsz
  have hu : un [64, 65] g f f := un.rf
  refine lv_iconst (v := nI 0) hx hb d_M_clear_0 (by decide) ?_
  refine lv_istore_n (lv' := [(1, .int (nI 0)), (0, .ref M)]) hx hb d_M_clear_1 rfl hl (by decide) rfl (fun ls hl => ?_)
  have lp1 : ∀ (k3 : Nat) (i : Nat) (f2 : Nat → va_E) (H : Heap) (locs : List Loc) (ls : Array Slot), (44 < i + k3) → (i ≤ 44) → IV g f2 → un [64, 65] g f f2 → lv_has ls 2 [(1, .int (nI i)), (0, .ref M)] → va_P g.D vcl (va_pl g.LP f2) H → va_D (pc_A g s.heap.size) (va_pl g.LP f2) → va_S (pc_A g s.heap.size) s.heap H locs → W p l e ({ frames := 0, cells := 0, slots := 0, locals := 0 }) s m args below meth c H locs 0 0 (MQ below (va_Qv (fun f1 => (IV g f1) ∧ (un [64, 65] g f f1)) (pc_out g s.heap.size) (pc_A g s.heap.size)) args s 0 0 (pc_A g s.heap.size)) (F0 m 2 ls []) := by
    intro k3
    induction k3 with
    | zero => intros; exfalso; omega
    | succ k3 ih4 =>
      intro i f2 H locs ls hfu5 hi hI6 hv7 hl hP hD hS
      have hu := hu.tr hv7 (by decide)
      refine lv_iload_n hx hb d_M_clear_2 rfl (lv_at hl 0 rfl) ?_
      refine lv_bipush (v := nI 44) hx hb d_M_clear_3 (by decide) ?_
      refine lv_icmp_ge (tgt := 28) hx hb d_M_clear_5 (by decide) (fun b8 => ?_) (fun b8 => ?_)
      · skip
        replace b8 := (nI_leI (a := 44) (b := i) (by omega) (by omega)).mp b8
        exact pe_vret hx hb hr hlocks hK hP hD hS d_M_clear_28 ⟨hI6, hu⟩
      · skip
        replace b8 := mt (nI_leI (a := 44) (b := i) (by omega) (by omega)).mpr b8
        refine lv_aload_n hx hb d_M_clear_8 rfl (lv_at hl 1 rfl) ?_
        obtain ⟨th_10, n_11, dr_12, sz_13, ix_14, dp_15, wt_16, op_17, tp_18, wa_19, gi_20, pc_21, st_22, tr_23, sp_24, ma_25, lg_26, du_27, e9, c28, c29, c30, c31, c32, c33, c34, c35, c36, c37, c38, c39, c40, c41, c42⟩ := oc_11.of t_M (hI6.1 M)
        refine pf_get (v := .ref (g.lk M 33)) (C := "BigRunnerModel") (T := FT10) (N := 45) hx hb (hw10 hB _) (fun _ h9 => h9) hown hK hP (lo_in hL t_M (by decide)) e9 rfl 33 (by decide) (wd_980 hB _) rfl d_M_clear_9 ?_
        refine lv_iload_n hx hb d_M_clear_12 rfl (lv_at hl 0 rfl) ?_
        refine lv_iconst (v := nI 0) hx hb d_M_clear_13 (by decide) ?_
        obtain ⟨h_44, e43⟩ := oc_64.of (lo_k11_33 hL _ t_M) (hI6.1 (g.lk M 33))
        refine pf_iast (i := i) hx hb hK hP hD hS (lo_in hL (lo_k11_33 hL _ t_M) (by decide)) e43 (lo_t64 hL _ (lo_k11_33 hL _ t_M)) (by omega) (by decide) d_M_clear_14 (fun f46 H locs e47 k48 hP hD hS => ?_)
        have e9 := (k48 M (tg_ne t_M (lo_k11_33 hL _ t_M) (by decide))).trans e9
        have hu := hu.st k48 (lo_k11_33 hL _ t_M) (by decide)
        have hv7 := hv7.st k48 (lo_k11_33 hL _ t_M) (by decide)
        have hk49 : ∀ b, b ≠ (g.lk M 33) → f46 b = f2 b := k48
        refine lv_aload_n hx hb d_M_clear_15 rfl (lv_at hl 1 rfl) ?_
        refine pf_get (v := .ref (g.lk M 34)) (C := "BigRunnerModel") (T := FT10) (N := 45) hx hb (hw10 hB _) (fun _ h9 => h9) hown hK hP (lo_in hL t_M (by decide)) e9 rfl 34 (by decide) (wd_981 hB _) rfl d_M_clear_16 ?_
        refine lv_iload_n hx hb d_M_clear_19 rfl (lv_at hl 0 rfl) ?_
        refine lv_iconst (v := nI 0) hx hb d_M_clear_20 (by decide) ?_
        have hI50 := iv_1 hI6 hL (lo_k11_33 hL _ t_M) (by decide) hk49 (oc_64.mk (lo_k11_33 hL _ t_M) (⟨_, e47⟩))
        obtain ⟨h_52, e51⟩ := oc_65.of (lo_k11_34 hL _ t_M) (hI50.1 (g.lk M 34))
        refine pf_iast (i := i) hx hb hK hP hD hS (lo_in hL (lo_k11_34 hL _ t_M) (by decide)) e51 (lo_t65 hL _ (lo_k11_34 hL _ t_M)) (by omega) (by decide) d_M_clear_21 (fun f54 H locs e55 k56 hP hD hS => ?_)
        have e9 := (k56 M (tg_ne t_M (lo_k11_34 hL _ t_M) (by decide))).trans e9
        have e47 := (k56 (g.lk M 33) (tg_ne (lo_k11_33 hL _ t_M) (lo_k11_34 hL _ t_M) (by decide))).trans e47
        have hu := hu.st k56 (lo_k11_34 hL _ t_M) (by decide)
        have hv7 := hv7.st k56 (lo_k11_34 hL _ t_M) (by decide)
        have hk57 : ∀ b, b ≠ (g.lk M 34) → f54 b = f46 b := k56
        refine lv_iinc (k := 0) (v := nI (i + 1)) (lv' := [(1, .int (nI (i + 1))), (0, .ref M)]) hx hb d_M_clear_22 hl rfl (by rw [nI_succ]; rfl) (by decide) rfl (fun ls hl => ?_)
        refine lv_goto (tgt := 2) hx hb d_M_clear_25 (by decide) ?_
        have hI58 := iv_1 hI50 hL (lo_k11_34 hL _ t_M) (by decide) hk57 (oc_65.mk (lo_k11_34 hL _ t_M) (⟨_, e55⟩))
        exact ih4 (i + 1) f54 H locs ls (by omega) (by omega) hI58 hv7 hl hP hD hS
  exact lp1 45 0 f s.heap [] ls (by omega) (by omega) hI un.rf hl hP hD hS
set_option maxHeartbeats 4000000 in
set_option maxRecDepth 100000 in
theorem m_addUp (l : Launch) (g : Lay) (sz : Nat) (f : Nat → va_E) (M : Nat) (x : Nat) (y : Nat) (bz : Int32) (hL : LO g) (t_M : g.tg M = 11) (hI : IV g f) (hx9 : x < 80) (hy9 : y < 80) : Met l ⟨"BigRunnerModel", "addUp", "(III)V"⟩ [Cond.code ⟨"BigRunnerModel", "addUp", "(III)V"⟩ prog_12_method_30_code 7 none] ({ frames := 1, cells := 0, slots := 0, locals := 22 }) (va_Pc [.ref M, .int (nI x), .int (nI y), .int bz] (pc_in g sz f)) (va_Qv (fun f1 => (IV g f1) ∧ (un [64] g f f1)) (pc_out g sz) (pc_A g sz)) 0 0 (pc_A g sz) := by
  refine pe_ofW (cc := prog_12_method_30_code) (maxL := 7) (ret := none) (lv := [(0, .ref M), (1, .int (nI x)), (2, .int (nI y)), (3, .int bz)]) (by decide) (Nat.le_of_ble_eq_true rfl) rfl ?_
  intro p e s m args below meth c ls hx hb hr hml hlocks hown hB hP hK hD hsz hS hl
  subst hsz
  have hu : un [64] g f f := un.rf
  refine lv_iconst (v := nI 0) hx hb d_M_addUp_0 (by decide) ?_
  refine lv_istore (lv' := [(4, .int (nI 0)), (0, .ref M), (1, .int (nI x)), (2, .int (nI y)), (3, .int bz)]) hx hb d_M_addUp_1 hl (by decide) rfl (fun ls hl => ?_)
  refine lv_iconst (v := nI 0) hx hb d_M_addUp_3 (by decide) ?_
  refine lv_istore (lv' := [(5, .int (nI 0)), (4, .int (nI 0)), (0, .ref M), (1, .int (nI x)), (2, .int (nI y)), (3, .int bz)]) hx hb d_M_addUp_4 hl (by decide) rfl (fun ls hl => ?_)
  have lp1 : ∀ (k3 : Nat) (cy : Int32) (i : Nat) (f2 : Nat → va_E) (H : Heap) (locs : List Loc) (ls : Array Slot), (21 < i + k3) → (i ≤ 21) → IV g f2 → un [64] g f f2 → lv_has ls 7 [(5, .int (nI i)), (4, .int cy), (0, .ref M), (1, .int (nI x)), (2, .int (nI y)), (3, .int bz)] → va_P g.D vcl (va_pl g.LP f2) H → va_D (pc_A g s.heap.size) (va_pl g.LP f2) → va_S (pc_A g s.heap.size) s.heap H locs → W p l e ({ frames := 1, cells := 0, slots := 0, locals := 22 }) s m args below meth c H locs 0 0 (MQ below (va_Qv (fun f1 => (IV g f1) ∧ (un [64] g f f1)) (pc_out g s.heap.size) (pc_A g s.heap.size)) args s 0 0 (pc_A g s.heap.size)) (F0 m 6 ls []) := by
    intro k3
    induction k3 with
    | zero => intros; exfalso; omega
    | succ k3 ih4 =>
      intro cy i f2 H locs ls hfu5 hi hI6 hv7 hl hP hD hS
      have hu := hu.tr hv7 (by decide)
      refine lv_iload hx hb d_M_addUp_6 (lv_at hl 0 rfl) ?_
      refine lv_bipush (v := nI 21) hx hb d_M_addUp_8 (by decide) ?_
      refine lv_icmp_ge (tgt := 79) hx hb d_M_addUp_10 (by decide) (fun b8 => ?_) (fun b8 => ?_)
      · skip
        replace b8 := (nI_leI (a := 21) (b := i) (by omega) (by omega)).mp b8
        exact pe_vret hx hb hr hlocks hK hP hD hS d_M_addUp_79 ⟨hI6, hu⟩
      · skip
        replace b8 := mt (nI_leI (a := 21) (b := i) (by omega) (by omega)).mpr b8
        refine lv_aload_n hx hb d_M_addUp_13 rfl (lv_at hl 2 rfl) ?_
        refine lv_iload_n hx hb d_M_addUp_14 rfl (lv_at hl 3 rfl) ?_
        refine lv_iload hx hb d_M_addUp_15 (lv_at hl 0 rfl) ?_
        obtain ⟨th_10, n_11, dr_12, sz_13, ix_14, dp_15, wt_16, op_17, tp_18, wa_19, gi_20, pc_21, st_22, tr_23, sp_24, ma_25, lg_26, du_27, e9, c28, c29, c30, c31, c32, c33, c34, c35, c36, c37, c38, c39, c40, c41, c42⟩ := oc_11.of t_M (hI6.1 M)
        refine pcc_i (va_runV (C := "BigRunnerModel") (As := [.int (nI x), .int (nI i)]) (rest := []) ⟨hx, hb, hml, hown, tb_nil⟩ (m_limb l g H.size f2 M x i hL t_M hI6.1 (by omega) (by omega)) ⟨(callB_of 2 (tb_one (wd_1232 hB _)) tb_good1 rfl rfl rfl (wd_82 hB _) (wd_1229 hB _) (by decide +kernel) ⟨Nat.le_of_ble_eq_true rfl, Nat.le_of_ble_eq_true rfl⟩), (wd_1231 hB _), (wd_64 hB _)⟩ ⟨pe_bl, pg_recv (ci := 10) hK hP (lo_in hL t_M (by decide)) e9 rfl, pe_pre hB hK hP hD⟩ rfl rfl hl.1 rfl (lv_room (Nat.le_of_ble_eq_true rfl)) d_M_addUp_17 ⟨Nat.le_of_ble_eq_true rfl, Nat.le_of_ble_eq_true rfl⟩) hS (fun r43 f44 H locs hq45 hP hD hS => ?_)
        subst hq45
        refine lv_iload_n hx hb d_M_addUp_20 rfl (lv_at hl 5 rfl) ?_
        refine lv_aload_n hx hb d_M_addUp_21 rfl (lv_at hl 2 rfl) ?_
        refine lv_iload_n hx hb d_M_addUp_22 rfl (lv_at hl 4 rfl) ?_
        refine lv_iload hx hb d_M_addUp_23 (lv_at hl 0 rfl) ?_
        refine pcc_i (va_runV (C := "BigRunnerModel") (As := [.int (nI y), .int (nI i)]) (rest := [.int bz, .int r43]) ⟨hx, hb, hml, hown, tb_nil⟩ (m_limb l g H.size f2 M y i hL t_M hI6.1 (by omega) (by omega)) ⟨(callB_of 2 (tb_one (wd_1232 hB _)) tb_good1 rfl rfl rfl (wd_82 hB _) (wd_1229 hB _) (by decide +kernel) ⟨Nat.le_of_ble_eq_true rfl, Nat.le_of_ble_eq_true rfl⟩), (wd_1231 hB _), (wd_64 hB _)⟩ ⟨pe_bl, pg_recv (ci := 10) hK hP (lo_in hL t_M (by decide)) e9 rfl, pe_pre hB hK hP hD⟩ rfl rfl hl.1 rfl (lv_room (Nat.le_of_ble_eq_true rfl)) d_M_addUp_25 ⟨Nat.le_of_ble_eq_true rfl, Nat.le_of_ble_eq_true rfl⟩) hS (fun r46 f47 H locs hq48 hP hD hS => ?_)
        subst hq48
        refine lv_imul hx hb d_M_addUp_28 ?_
        refine lv_topi (fun iv49 _ => ?_)
        refine lv_iadd hx hb d_M_addUp_29 ?_
        refine lv_topi (fun iv50 _ => ?_)
        refine lv_iload hx hb d_M_addUp_30 (lv_at hl 1 rfl) ?_
        refine lv_iadd hx hb d_M_addUp_32 ?_
        refine lv_topi (fun iv51 _ => ?_)
        refine lv_istore (lv' := [(6, .int iv51), (5, .int (nI i)), (4, .int cy), (0, .ref M), (1, .int (nI x)), (2, .int (nI y)), (3, .int bz)]) hx hb d_M_addUp_33 hl (by decide) rfl (fun ls hl => ?_)
        refine lv_iload hx hb d_M_addUp_35 (lv_at hl 0 rfl) ?_
        refine lv_if_ge (tgt := 44) hx hb d_M_addUp_37 (by decide) (fun b52 => ?_) (fun b52 => ?_)
        · skip
          refine lv_iload hx hb d_M_addUp_44 (lv_at hl 0 rfl) ?_
          refine lv_ldc (v := 1000000) hx hb hown (wd_1212 hB _) d_M_addUp_46 ?_
          refine lv_topi (fun z_ hz_ => ?_)
          obtain rfl : z_ = nI 1000000 := hz_
          refine lv_icmp_lt (tgt := 55) hx hb d_M_addUp_48 (by decide) (fun b53 => ?_) (fun b53 => ?_)
          · skip
            refine lv_iconst (v := nI 0) hx hb d_M_addUp_55 (by decide) ?_
            refine lv_istore (lv' := [(4, .int (nI 0)), (6, .int iv51), (5, .int (nI i)), (0, .ref M), (1, .int (nI x)), (2, .int (nI y)), (3, .int bz)]) hx hb d_M_addUp_56 hl (by decide) rfl (fun ls hl => ?_)
            refine lv_aload_n hx hb d_M_addUp_58 rfl (lv_at hl 3 rfl) ?_
            refine pf_get (v := .ref (g.lk M 33)) (C := "BigRunnerModel") (T := FT10) (N := 45) hx hb (hw10 hB _) (fun _ h9 => h9) hown hK hP (lo_in hL t_M (by decide)) e9 rfl 33 (by decide) (wd_980 hB _) rfl d_M_addUp_59 ?_
            refine lv_iload hx hb d_M_addUp_62 (lv_at hl 2 rfl) ?_
            refine lv_iload hx hb d_M_addUp_64 (lv_at hl 1 rfl) ?_
            refine lv_iload hx hb d_M_addUp_66 (lv_at hl 0 rfl) ?_
            refine lv_ldc (v := 1000000) hx hb hown (wd_1212 hB _) d_M_addUp_68 ?_
            refine lv_topi (fun z_ hz_ => ?_)
            obtain rfl : z_ = nI 1000000 := hz_
            refine pf_imulN (x := 0) (y := 1000000) hx hb d_M_addUp_70 ?_
            refine lv_topi (fun z_ hz_ => ?_)
            obtain rfl : z_ = nI 0 := hz_.trans (congrArg nI (Nat.zero_mul 1000000))
            refine lv_isub hx hb d_M_addUp_71 ?_
            refine lv_topi (fun iv54 _ => ?_)
            obtain ⟨h_56, e55⟩ := oc_64.of (lo_k11_33 hL _ t_M) (hI6.1 (g.lk M 33))
            refine pf_iast (i := i) hx hb hK hP hD hS (lo_in hL (lo_k11_33 hL _ t_M) (by decide)) e55 (lo_t64 hL _ (lo_k11_33 hL _ t_M)) (by omega) (by decide) d_M_addUp_72 (fun f58 H locs e59 k60 hP hD hS => ?_)
            have e9 := (k60 M (tg_ne t_M (lo_k11_33 hL _ t_M) (by decide))).trans e9
            have hu := hu.st k60 (lo_k11_33 hL _ t_M) (by decide)
            have hv7 := hv7.st k60 (lo_k11_33 hL _ t_M) (by decide)
            have hk61 : ∀ b, b ≠ (g.lk M 33) → f58 b = f2 b := k60
            refine lv_iinc (k := 2) (v := nI (i + 1)) (lv' := [(5, .int (nI (i + 1))), (4, .int (nI 0)), (6, .int iv51), (0, .ref M), (1, .int (nI x)), (2, .int (nI y)), (3, .int bz)]) hx hb d_M_addUp_73 hl rfl (by rw [nI_succ]; rfl) (by decide) rfl (fun ls hl => ?_)
            refine lv_goto (tgt := 6) hx hb d_M_addUp_76 (by decide) ?_
            have hI62 := iv_1 hI6 hL (lo_k11_33 hL _ t_M) (by decide) hk61 (oc_64.mk (lo_k11_33 hL _ t_M) (⟨_, e59⟩))
            have hl : lv_has ls 7 [(5, .int (nI (i + 1))), (4, .int (nI 0)), (0, .ref M), (1, .int (nI x)), (2, .int (nI y)), (3, .int bz)] := lv_sub hl [0, 1, 3, 4, 5, 6] rfl
            exact ih4 (nI 0) (i + 1) f58 H locs ls (by omega) (by omega) hI62 hv7 hl hP hD hS
          · skip
            refine lv_iconst (v := nI 1) hx hb d_M_addUp_51 (by decide) ?_
            refine lv_goto (tgt := 56) hx hb d_M_addUp_52 (by decide) ?_
            refine lv_istore (lv' := [(4, .int (nI 1)), (6, .int iv51), (5, .int (nI i)), (0, .ref M), (1, .int (nI x)), (2, .int (nI y)), (3, .int bz)]) hx hb d_M_addUp_56 hl (by decide) rfl (fun ls hl => ?_)
            refine lv_aload_n hx hb d_M_addUp_58 rfl (lv_at hl 3 rfl) ?_
            refine pf_get (v := .ref (g.lk M 33)) (C := "BigRunnerModel") (T := FT10) (N := 45) hx hb (hw10 hB _) (fun _ h9 => h9) hown hK hP (lo_in hL t_M (by decide)) e9 rfl 33 (by decide) (wd_980 hB _) rfl d_M_addUp_59 ?_
            refine lv_iload hx hb d_M_addUp_62 (lv_at hl 2 rfl) ?_
            refine lv_iload hx hb d_M_addUp_64 (lv_at hl 1 rfl) ?_
            refine lv_iload hx hb d_M_addUp_66 (lv_at hl 0 rfl) ?_
            refine lv_ldc (v := 1000000) hx hb hown (wd_1212 hB _) d_M_addUp_68 ?_
            refine lv_topi (fun z_ hz_ => ?_)
            obtain rfl : z_ = nI 1000000 := hz_
            refine pf_imulN (x := 1) (y := 1000000) hx hb d_M_addUp_70 ?_
            refine lv_topi (fun z_ hz_ => ?_)
            obtain rfl : z_ = nI 1000000 := hz_.trans (congrArg nI (Nat.one_mul 1000000))
            refine lv_isub hx hb d_M_addUp_71 ?_
            refine lv_topi (fun iv63 _ => ?_)
            obtain ⟨h_65, e64⟩ := oc_64.of (lo_k11_33 hL _ t_M) (hI6.1 (g.lk M 33))
            refine pf_iast (i := i) hx hb hK hP hD hS (lo_in hL (lo_k11_33 hL _ t_M) (by decide)) e64 (lo_t64 hL _ (lo_k11_33 hL _ t_M)) (by omega) (by decide) d_M_addUp_72 (fun f67 H locs e68 k69 hP hD hS => ?_)
            have e9 := (k69 M (tg_ne t_M (lo_k11_33 hL _ t_M) (by decide))).trans e9
            have hu := hu.st k69 (lo_k11_33 hL _ t_M) (by decide)
            have hv7 := hv7.st k69 (lo_k11_33 hL _ t_M) (by decide)
            have hk70 : ∀ b, b ≠ (g.lk M 33) → f67 b = f2 b := k69
            refine lv_iinc (k := 2) (v := nI (i + 1)) (lv' := [(5, .int (nI (i + 1))), (4, .int (nI 1)), (6, .int iv51), (0, .ref M), (1, .int (nI x)), (2, .int (nI y)), (3, .int bz)]) hx hb d_M_addUp_73 hl rfl (by rw [nI_succ]; rfl) (by decide) rfl (fun ls hl => ?_)
            refine lv_goto (tgt := 6) hx hb d_M_addUp_76 (by decide) ?_
            have hI71 := iv_1 hI6 hL (lo_k11_33 hL _ t_M) (by decide) hk70 (oc_64.mk (lo_k11_33 hL _ t_M) (⟨_, e68⟩))
            have hl : lv_has ls 7 [(5, .int (nI (i + 1))), (4, .int (nI 1)), (0, .ref M), (1, .int (nI x)), (2, .int (nI y)), (3, .int bz)] := lv_sub hl [0, 1, 3, 4, 5, 6] rfl
            exact ih4 (nI 1) (i + 1) f67 H locs ls (by omega) (by omega) hI71 hv7 hl hP hD hS
        · skip
          refine lv_iconst (v := (-1)) hx hb d_M_addUp_40 (by decide) ?_
          refine lv_goto (tgt := 56) hx hb d_M_addUp_41 (by decide) ?_
          refine lv_istore (lv' := [(4, .int (-1)), (6, .int iv51), (5, .int (nI i)), (0, .ref M), (1, .int (nI x)), (2, .int (nI y)), (3, .int bz)]) hx hb d_M_addUp_56 hl (by decide) rfl (fun ls hl => ?_)
          refine lv_aload_n hx hb d_M_addUp_58 rfl (lv_at hl 3 rfl) ?_
          refine pf_get (v := .ref (g.lk M 33)) (C := "BigRunnerModel") (T := FT10) (N := 45) hx hb (hw10 hB _) (fun _ h9 => h9) hown hK hP (lo_in hL t_M (by decide)) e9 rfl 33 (by decide) (wd_980 hB _) rfl d_M_addUp_59 ?_
          refine lv_iload hx hb d_M_addUp_62 (lv_at hl 2 rfl) ?_
          refine lv_iload hx hb d_M_addUp_64 (lv_at hl 1 rfl) ?_
          refine lv_iload hx hb d_M_addUp_66 (lv_at hl 0 rfl) ?_
          refine lv_ldc (v := 1000000) hx hb hown (wd_1212 hB _) d_M_addUp_68 ?_
          refine lv_topi (fun z_ hz_ => ?_)
          obtain rfl : z_ = nI 1000000 := hz_
          refine lv_imul hx hb d_M_addUp_70 ?_
          refine lv_topi (fun iv72 _ => ?_)
          refine lv_isub hx hb d_M_addUp_71 ?_
          refine lv_topi (fun iv73 _ => ?_)
          obtain ⟨h_75, e74⟩ := oc_64.of (lo_k11_33 hL _ t_M) (hI6.1 (g.lk M 33))
          refine pf_iast (i := i) hx hb hK hP hD hS (lo_in hL (lo_k11_33 hL _ t_M) (by decide)) e74 (lo_t64 hL _ (lo_k11_33 hL _ t_M)) (by omega) (by decide) d_M_addUp_72 (fun f77 H locs e78 k79 hP hD hS => ?_)
          have e9 := (k79 M (tg_ne t_M (lo_k11_33 hL _ t_M) (by decide))).trans e9
          have hu := hu.st k79 (lo_k11_33 hL _ t_M) (by decide)
          have hv7 := hv7.st k79 (lo_k11_33 hL _ t_M) (by decide)
          have hk80 : ∀ b, b ≠ (g.lk M 33) → f77 b = f2 b := k79
          refine lv_iinc (k := 2) (v := nI (i + 1)) (lv' := [(5, .int (nI (i + 1))), (4, .int (-1)), (6, .int iv51), (0, .ref M), (1, .int (nI x)), (2, .int (nI y)), (3, .int bz)]) hx hb d_M_addUp_73 hl rfl (by rw [nI_succ]; rfl) (by decide) rfl (fun ls hl => ?_)
          refine lv_goto (tgt := 6) hx hb d_M_addUp_76 (by decide) ?_
          have hI81 := iv_1 hI6 hL (lo_k11_33 hL _ t_M) (by decide) hk80 (oc_64.mk (lo_k11_33 hL _ t_M) (⟨_, e78⟩))
          have hl : lv_has ls 7 [(5, .int (nI (i + 1))), (4, .int (-1)), (0, .ref M), (1, .int (nI x)), (2, .int (nI y)), (3, .int bz)] := lv_sub hl [0, 1, 3, 4, 5, 6] rfl
          exact ih4 (-1) (i + 1) f77 H locs ls (by omega) (by omega) hI81 hv7 hl hP hD hS
  exact lp1 22 (nI 0) 0 f s.heap [] ls (by omega) (by omega) hI un.rf hl hP hD hS
set_option maxHeartbeats 4000000 in
set_option maxRecDepth 100000 in
theorem m_sum (l : Launch) (g : Lay) (sz : Nat) (f : Nat → va_E) (M : Nat) (x : Nat) (y : Nat) (bz : Int32) (hL : LO g) (t_M : g.tg M = 11) (hI : IV g f) (hx9 : x < 80) (hy9 : y < 80) : Met l ⟨"BigRunnerModel", "sum", "(III)I"⟩ [Cond.code ⟨"BigRunnerModel", "sum", "(III)I"⟩ prog_12_method_31_code 6 (some .int)] ({ frames := 2, cells := 0, slots := 0, locals := 48 }) (va_Pc [.ref M, .int (nI x), .int (nI y), .int bz] (pc_in g sz f)) (va_Qi (fun r f1 => (IV g f1) ∧ (un [64] g f f1)) (pc_out g sz) (pc_A g sz)) 0 0 (pc_A g sz) := by
  refine pe_ofW (cc := prog_12_method_31_code) (maxL := 6) (ret := (some .int)) (lv := [(0, .ref M), (1, .int (nI x)), (2, .int (nI y)), (3, .int bz)]) (by decide) (Nat.le_of_ble_eq_true rfl) rfl ?_
  intro p e s m args below meth c ls hx hb hr hml hlocks hown hB hP hK hD hsz hS hl
  subst hsz
  have hu : un [64] g f f := un.rf
  refine lv_aload_n hx hb d_M_sum_0 rfl (lv_at hl 0 rfl) ?_
  obtain ⟨th_2, n_3, dr_4, sz_5, ix_6, dp_7, wt_8, op_9, tp_10, wa_11, gi_12, pc_13, st_14, tr_15, sp_16, ma_17, lg_18, du_19, e1, c20, c21, c22, c23, c24, c25, c26, c27, c28, c29, c30, c31, c32, c33, c34⟩ := oc_11.of t_M (hI.1 M)
  refine pf_get (v := .ref (g.lk M 31)) (C := "BigRunnerModel") (T := FT10) (N := 45) hx hb (hw10 hB _) (fun _ h9 => h9) hown hK hP (lo_in hL t_M (by decide)) e1 rfl 31 (by decide) (wd_978 hB _) rfl d_M_sum_1 ?_
  refine lv_iload_n hx hb d_M_sum_4 rfl (lv_at hl 2 rfl) ?_
  obtain ⟨h_36, e35⟩ := oc_63.of (lo_k11_31 hL _ t_M) (hI.1 (g.lk M 31))
  refine pf_iald (i := y) hx hb hK hP (lo_in hL (lo_k11_31 hL _ t_M) (by decide)) e35 (lo_t63 hL _ (lo_k11_31 hL _ t_M)) (by omega) (by decide) d_M_sum_5 ?_
  refine lv_topi (fun iv38 _ => ?_)
  refine lv_iload_n hx hb d_M_sum_6 rfl (lv_at hl 3 rfl) ?_
  refine lv_imul hx hb d_M_sum_7 ?_
  refine lv_topi (fun iv39 _ => ?_)
  refine lv_istore (lv' := [(4, .int iv39), (0, .ref M), (1, .int (nI x)), (2, .int (nI y)), (3, .int bz)]) hx hb d_M_sum_8 hl (by decide) rfl (fun ls hl => ?_)
  refine lv_aload_n hx hb d_M_sum_10 rfl (lv_at hl 1 rfl) ?_
  refine pf_get (v := .ref (g.lk M 31)) (C := "BigRunnerModel") (T := FT10) (N := 45) hx hb (hw10 hB _) (fun _ h9 => h9) hown hK hP (lo_in hL t_M (by decide)) e1 rfl 31 (by decide) (wd_978 hB _) rfl d_M_sum_11 ?_
  refine lv_iload_n hx hb d_M_sum_14 rfl (lv_at hl 2 rfl) ?_
  refine pf_iald (i := x) hx hb hK hP (lo_in hL (lo_k11_31 hL _ t_M) (by decide)) e35 (lo_t63 hL _ (lo_k11_31 hL _ t_M)) (by omega) (by decide) d_M_sum_15 ?_
  refine lv_topi (fun iv40 _ => ?_)
  refine lv_if_eq (tgt := 35) hx hb d_M_sum_16 (by decide) (fun b41 => ?_) (fun b41 => ?_)
  · skip
    refine lv_aload_n hx hb d_M_sum_35 rfl (lv_at hl 1 rfl) ?_
    refine lv_iload_n hx hb d_M_sum_36 rfl (lv_at hl 2 rfl) ?_
    refine lv_iload_n hx hb d_M_sum_37 rfl (lv_at hl 3 rfl) ?_
    refine lv_iconst (v := nI 1) hx hb d_M_sum_38 (by decide) ?_
    refine pcc_v (va_runV (C := "BigRunnerModel") (As := [.int (nI x), .int (nI y), .int (nI 1)]) (rest := []) ⟨hx, hb, hml, hown, tb_nil⟩ (m_addUp l g s.heap.size f M x y ((nI 1)) hL t_M hI (by omega) (by omega)) ⟨(callB_of 3 (tb_one (wd_1241 hB _)) tb_good1 rfl rfl rfl (wd_82 hB _) (wd_1238 hB _) (by decide +kernel) ⟨Nat.le_of_ble_eq_true rfl, Nat.le_of_ble_eq_true rfl⟩), (wd_1240 hB _), (wd_66 hB _)⟩ ⟨pe_bl, pg_recv (ci := 10) hK hP (lo_in hL t_M (by decide)) e1 rfl, pe_pre hB hK hP hD⟩ rfl rfl hl.1 rfl (lv_room (Nat.le_of_ble_eq_true rfl)) d_M_sum_39 ⟨Nat.le_of_ble_eq_true rfl, Nat.le_of_ble_eq_true rfl⟩) hS (fun f43 H locs hq44 hP hD hS => ?_)
    obtain ⟨hI1_45, hu1_46⟩ := hq44
    have hu := hu.tr hu1_46 (by decide)
    have e1 := hu1_46.at t_M (by decide) e1
    have e35 := hu1_46.at (lo_k11_31 hL _ t_M) (by decide) e35
    refine lv_aload_n hx hb d_M_sum_42 rfl (lv_at hl 1 rfl) ?_
    refine pf_get (v := .ref (g.lk M 31)) (C := "BigRunnerModel") (T := FT10) (N := 45) hx hb (hw10 hB _) (fun _ h9 => h9) hown hK hP (lo_in hL t_M (by decide)) e1 rfl 31 (by decide) (wd_978 hB _) rfl d_M_sum_43 ?_
    refine lv_iload_n hx hb d_M_sum_46 rfl (lv_at hl 2 rfl) ?_
    refine pf_iald (i := x) hx hb hK hP (lo_in hL (lo_k11_31 hL _ t_M) (by decide)) e35 (lo_t63 hL _ (lo_k11_31 hL _ t_M)) (by omega) (by decide) d_M_sum_47 ?_
    refine lv_topi (fun iv47 _ => ?_)
    refine lv_if_ne (tgt := 56) hx hb d_M_sum_48 (by decide) (fun b48 => ?_) (fun b48 => ?_)
    · skip
      refine lv_aload_n hx hb d_M_sum_56 rfl (lv_at hl 1 rfl) ?_
      refine pf_get (v := .ref (g.lk M 31)) (C := "BigRunnerModel") (T := FT10) (N := 45) hx hb (hw10 hB _) (fun _ h9 => h9) hown hK hP (lo_in hL t_M (by decide)) e1 rfl 31 (by decide) (wd_978 hB _) rfl d_M_sum_57 ?_
      refine lv_iload_n hx hb d_M_sum_60 rfl (lv_at hl 2 rfl) ?_
      refine pf_iald (i := x) hx hb hK hP (lo_in hL (lo_k11_31 hL _ t_M) (by decide)) e35 (lo_t63 hL _ (lo_k11_31 hL _ t_M)) (by omega) (by decide) d_M_sum_61 ?_
      refine lv_topi (fun iv49 _ => ?_)
      exact pe_iret hx hb hr hlocks hK hP hD hS d_M_sum_62 ⟨hI1_45, hu⟩
    · skip
      refine lv_iload hx hb d_M_sum_51 (lv_at hl 0 rfl) ?_
      refine lv_goto (tgt := 62) hx hb d_M_sum_53 (by decide) ?_
      exact pe_iret hx hb hr hlocks hK hP hD hS d_M_sum_62 ⟨hI1_45, hu⟩
  · skip
    refine lv_iload hx hb d_M_sum_19 (lv_at hl 0 rfl) ?_
    refine lv_if_eq (tgt := 35) hx hb d_M_sum_21 (by decide) (fun b50 => ?_) (fun b50 => ?_)
    · skip
      refine lv_aload_n hx hb d_M_sum_35 rfl (lv_at hl 1 rfl) ?_
      refine lv_iload_n hx hb d_M_sum_36 rfl (lv_at hl 2 rfl) ?_
      refine lv_iload_n hx hb d_M_sum_37 rfl (lv_at hl 3 rfl) ?_
      refine lv_iconst (v := nI 1) hx hb d_M_sum_38 (by decide) ?_
      refine pcc_v (va_runV (C := "BigRunnerModel") (As := [.int (nI x), .int (nI y), .int (nI 1)]) (rest := []) ⟨hx, hb, hml, hown, tb_nil⟩ (m_addUp l g s.heap.size f M x y ((nI 1)) hL t_M hI (by omega) (by omega)) ⟨(callB_of 3 (tb_one (wd_1241 hB _)) tb_good1 rfl rfl rfl (wd_82 hB _) (wd_1238 hB _) (by decide +kernel) ⟨Nat.le_of_ble_eq_true rfl, Nat.le_of_ble_eq_true rfl⟩), (wd_1240 hB _), (wd_66 hB _)⟩ ⟨pe_bl, pg_recv (ci := 10) hK hP (lo_in hL t_M (by decide)) e1 rfl, pe_pre hB hK hP hD⟩ rfl rfl hl.1 rfl (lv_room (Nat.le_of_ble_eq_true rfl)) d_M_sum_39 ⟨Nat.le_of_ble_eq_true rfl, Nat.le_of_ble_eq_true rfl⟩) hS (fun f52 H locs hq53 hP hD hS => ?_)
      obtain ⟨hI1_54, hu1_55⟩ := hq53
      have hu := hu.tr hu1_55 (by decide)
      have e1 := hu1_55.at t_M (by decide) e1
      have e35 := hu1_55.at (lo_k11_31 hL _ t_M) (by decide) e35
      refine lv_aload_n hx hb d_M_sum_42 rfl (lv_at hl 1 rfl) ?_
      refine pf_get (v := .ref (g.lk M 31)) (C := "BigRunnerModel") (T := FT10) (N := 45) hx hb (hw10 hB _) (fun _ h9 => h9) hown hK hP (lo_in hL t_M (by decide)) e1 rfl 31 (by decide) (wd_978 hB _) rfl d_M_sum_43 ?_
      refine lv_iload_n hx hb d_M_sum_46 rfl (lv_at hl 2 rfl) ?_
      refine pf_iald (i := x) hx hb hK hP (lo_in hL (lo_k11_31 hL _ t_M) (by decide)) e35 (lo_t63 hL _ (lo_k11_31 hL _ t_M)) (by omega) (by decide) d_M_sum_47 ?_
      refine lv_topi (fun iv56 _ => ?_)
      refine lv_if_ne (tgt := 56) hx hb d_M_sum_48 (by decide) (fun b57 => ?_) (fun b57 => ?_)
      · skip
        refine lv_aload_n hx hb d_M_sum_56 rfl (lv_at hl 1 rfl) ?_
        refine pf_get (v := .ref (g.lk M 31)) (C := "BigRunnerModel") (T := FT10) (N := 45) hx hb (hw10 hB _) (fun _ h9 => h9) hown hK hP (lo_in hL t_M (by decide)) e1 rfl 31 (by decide) (wd_978 hB _) rfl d_M_sum_57 ?_
        refine lv_iload_n hx hb d_M_sum_60 rfl (lv_at hl 2 rfl) ?_
        refine pf_iald (i := x) hx hb hK hP (lo_in hL (lo_k11_31 hL _ t_M) (by decide)) e35 (lo_t63 hL _ (lo_k11_31 hL _ t_M)) (by omega) (by decide) d_M_sum_61 ?_
        refine lv_topi (fun iv58 _ => ?_)
        exact pe_iret hx hb hr hlocks hK hP hD hS d_M_sum_62 ⟨hI1_54, hu⟩
      · skip
        refine lv_iload hx hb d_M_sum_51 (lv_at hl 0 rfl) ?_
        refine lv_goto (tgt := 62) hx hb d_M_sum_53 (by decide) ?_
        exact pe_iret hx hb hr hlocks hK hP hD hS d_M_sum_62 ⟨hI1_54, hu⟩
    · skip
      refine lv_aload_n hx hb d_M_sum_24 rfl (lv_at hl 1 rfl) ?_
      refine pf_get (v := .ref (g.lk M 31)) (C := "BigRunnerModel") (T := FT10) (N := 45) hx hb (hw10 hB _) (fun _ h9 => h9) hown hK hP (lo_in hL t_M (by decide)) e1 rfl 31 (by decide) (wd_978 hB _) rfl d_M_sum_25 ?_
      refine lv_iload_n hx hb d_M_sum_28 rfl (lv_at hl 2 rfl) ?_
      refine pf_iald (i := x) hx hb hK hP (lo_in hL (lo_k11_31 hL _ t_M) (by decide)) e35 (lo_t63 hL _ (lo_k11_31 hL _ t_M)) (by omega) (by decide) d_M_sum_29 ?_
      refine lv_topi (fun iv59 _ => ?_)
      refine lv_iload hx hb d_M_sum_30 (lv_at hl 0 rfl) ?_
      refine lv_icmp_ne (tgt := 63) hx hb d_M_sum_32 (by decide) (fun b60 => ?_) (fun b60 => ?_)
      · skip
        refine lv_aload_n hx hb d_M_sum_63 rfl (lv_at hl 1 rfl) ?_
        refine lv_iload_n hx hb d_M_sum_64 rfl (lv_at hl 2 rfl) ?_
        refine lv_iload_n hx hb d_M_sum_65 rfl (lv_at hl 3 rfl) ?_
        refine pcc_i (va_runV (C := "BigRunnerModel") (As := [.int (nI x), .int (nI y)]) (rest := []) ⟨hx, hb, hml, hown, tb_nil⟩ (m_order l g s.heap.size f M x y hL t_M hI.1 (by omega) (by omega)) ⟨(callB_of 2 (tb_one (wd_1245 hB _)) tb_good1 rfl rfl rfl (wd_82 hB _) (wd_1242 hB _) (by decide +kernel) ⟨Nat.le_of_ble_eq_true rfl, Nat.le_of_ble_eq_true rfl⟩), (wd_1244 hB _), (wd_67 hB _)⟩ ⟨pe_bl, pg_recv (ci := 10) hK hP (lo_in hL t_M (by decide)) e1 rfl, pe_pre hB hK hP hD⟩ rfl rfl hl.1 rfl (lv_room (Nat.le_of_ble_eq_true rfl)) d_M_sum_66 ⟨Nat.le_of_ble_eq_true rfl, Nat.le_of_ble_eq_true rfl⟩) hS (fun r61 f62 H locs hq63 hP hD hS => ?_)
        subst hq63
        refine lv_istore (lv' := [(5, .int r61), (4, .int iv39), (0, .ref M), (1, .int (nI x)), (2, .int (nI y)), (3, .int bz)]) hx hb d_M_sum_69 hl (by decide) rfl (fun ls hl => ?_)
        refine lv_iload hx hb d_M_sum_71 (lv_at hl 0 rfl) ?_
        refine lv_if_ne (tgt := 78) hx hb d_M_sum_73 (by decide) (fun b64 => ?_) (fun b64 => ?_)
        · skip
          refine lv_aload_n hx hb d_M_sum_78 rfl (lv_at hl 2 rfl) ?_
          refine lv_iload hx hb d_M_sum_79 (lv_at hl 0 rfl) ?_
          refine lv_if_le (tgt := 88) hx hb d_M_sum_81 (by decide) (fun b65 => ?_) (fun b65 => ?_)
          · skip
            refine lv_iload_n hx hb d_M_sum_88 rfl (lv_at hl 4 rfl) ?_
            refine lv_iload hx hb d_M_sum_89 (lv_at hl 0 rfl) ?_
            refine lv_if_le (tgt := 98) hx hb d_M_sum_91 (by decide) (fun b66 => ?_) (fun b66 => ?_)
            · skip
              refine lv_iload_n hx hb d_M_sum_98 rfl (lv_at hl 3 rfl) ?_
              refine lv_iconst (v := (-1)) hx hb d_M_sum_99 (by decide) ?_
              refine pcc_v (va_runV (C := "BigRunnerModel") (As := [.int (nI y), .int (nI x), .int (-1)]) (rest := []) ⟨hx, hb, hml, hown, tb_nil⟩ (m_addUp l g H.size f M y x ((-1)) hL t_M hI (by omega) (by omega)) ⟨(callB_of 3 (tb_one (wd_1241 hB _)) tb_good1 rfl rfl rfl (wd_82 hB _) (wd_1238 hB _) (by decide +kernel) ⟨Nat.le_of_ble_eq_true rfl, Nat.le_of_ble_eq_true rfl⟩), (wd_1240 hB _), (wd_66 hB _)⟩ ⟨pe_bl, pg_recv (ci := 10) hK hP (lo_in hL t_M (by decide)) e1 rfl, pe_pre hB hK hP hD⟩ rfl rfl hl.1 rfl (lv_room (Nat.le_of_ble_eq_true rfl)) d_M_sum_100 ⟨Nat.le_of_ble_eq_true rfl, Nat.le_of_ble_eq_true rfl⟩) hS (fun f68 H locs hq69 hP hD hS => ?_)
              obtain ⟨hI1_70, hu1_71⟩ := hq69
              have hu := hu.tr hu1_71 (by decide)
              have e1 := hu1_71.at t_M (by decide) e1
              have e35 := hu1_71.at (lo_k11_31 hL _ t_M) (by decide) e35
              refine lv_iload hx hb d_M_sum_103 (lv_at hl 0 rfl) ?_
              refine lv_if_le (tgt := 117) hx hb d_M_sum_105 (by decide) (fun b72 => ?_) (fun b72 => ?_)
              · skip
                refine lv_iload hx hb d_M_sum_117 (lv_at hl 1 rfl) ?_
                exact pe_iret hx hb hr hlocks hK hP hD hS d_M_sum_119 ⟨hI1_70, hu⟩
              · skip
                refine lv_aload_n hx hb d_M_sum_108 rfl (lv_at hl 2 rfl) ?_
                refine pf_get (v := .ref (g.lk M 31)) (C := "BigRunnerModel") (T := FT10) (N := 45) hx hb (hw10 hB _) (fun _ h9 => h9) hown hK hP (lo_in hL t_M (by decide)) e1 rfl 31 (by decide) (wd_978 hB _) rfl d_M_sum_109 ?_
                refine lv_iload_n hx hb d_M_sum_112 rfl (lv_at hl 3 rfl) ?_
                refine pf_iald (i := x) hx hb hK hP (lo_in hL (lo_k11_31 hL _ t_M) (by decide)) e35 (lo_t63 hL _ (lo_k11_31 hL _ t_M)) (by omega) (by decide) d_M_sum_113 ?_
                refine lv_topi (fun iv73 _ => ?_)
                refine lv_goto (tgt := 119) hx hb d_M_sum_114 (by decide) ?_
                exact pe_iret hx hb hr hlocks hK hP hD hS d_M_sum_119 ⟨hI1_70, hu⟩
            · skip
              refine lv_iload_n hx hb d_M_sum_94 rfl (lv_at hl 4 rfl) ?_
              refine lv_goto (tgt := 99) hx hb d_M_sum_95 (by decide) ?_
              refine lv_iconst (v := (-1)) hx hb d_M_sum_99 (by decide) ?_
              refine pcc_v (va_runV (C := "BigRunnerModel") (As := [.int (nI y), .int (nI y), .int (-1)]) (rest := []) ⟨hx, hb, hml, hown, tb_nil⟩ (m_addUp l g H.size f M y y ((-1)) hL t_M hI (by omega) (by omega)) ⟨(callB_of 3 (tb_one (wd_1241 hB _)) tb_good1 rfl rfl rfl (wd_82 hB _) (wd_1238 hB _) (by decide +kernel) ⟨Nat.le_of_ble_eq_true rfl, Nat.le_of_ble_eq_true rfl⟩), (wd_1240 hB _), (wd_66 hB _)⟩ ⟨pe_bl, pg_recv (ci := 10) hK hP (lo_in hL t_M (by decide)) e1 rfl, pe_pre hB hK hP hD⟩ rfl rfl hl.1 rfl (lv_room (Nat.le_of_ble_eq_true rfl)) d_M_sum_100 ⟨Nat.le_of_ble_eq_true rfl, Nat.le_of_ble_eq_true rfl⟩) hS (fun f75 H locs hq76 hP hD hS => ?_)
              obtain ⟨hI1_77, hu1_78⟩ := hq76
              have hu := hu.tr hu1_78 (by decide)
              have e1 := hu1_78.at t_M (by decide) e1
              have e35 := hu1_78.at (lo_k11_31 hL _ t_M) (by decide) e35
              refine lv_iload hx hb d_M_sum_103 (lv_at hl 0 rfl) ?_
              refine lv_if_le (tgt := 117) hx hb d_M_sum_105 (by decide) (fun b79 => ?_) (fun b79 => ?_)
              · skip
                refine lv_iload hx hb d_M_sum_117 (lv_at hl 1 rfl) ?_
                exact pe_iret hx hb hr hlocks hK hP hD hS d_M_sum_119 ⟨hI1_77, hu⟩
              · skip
                refine lv_aload_n hx hb d_M_sum_108 rfl (lv_at hl 2 rfl) ?_
                refine pf_get (v := .ref (g.lk M 31)) (C := "BigRunnerModel") (T := FT10) (N := 45) hx hb (hw10 hB _) (fun _ h9 => h9) hown hK hP (lo_in hL t_M (by decide)) e1 rfl 31 (by decide) (wd_978 hB _) rfl d_M_sum_109 ?_
                refine lv_iload_n hx hb d_M_sum_112 rfl (lv_at hl 3 rfl) ?_
                refine pf_iald (i := x) hx hb hK hP (lo_in hL (lo_k11_31 hL _ t_M) (by decide)) e35 (lo_t63 hL _ (lo_k11_31 hL _ t_M)) (by omega) (by decide) d_M_sum_113 ?_
                refine lv_topi (fun iv80 _ => ?_)
                refine lv_goto (tgt := 119) hx hb d_M_sum_114 (by decide) ?_
                exact pe_iret hx hb hr hlocks hK hP hD hS d_M_sum_119 ⟨hI1_77, hu⟩
          · skip
            refine lv_iload_n hx hb d_M_sum_84 rfl (lv_at hl 3 rfl) ?_
            refine lv_goto (tgt := 89) hx hb d_M_sum_85 (by decide) ?_
            refine lv_iload hx hb d_M_sum_89 (lv_at hl 0 rfl) ?_
            refine lv_if_le (tgt := 98) hx hb d_M_sum_91 (by decide) (fun b81 => ?_) (fun b81 => ?_)
            · skip
              refine lv_iload_n hx hb d_M_sum_98 rfl (lv_at hl 3 rfl) ?_
              refine lv_iconst (v := (-1)) hx hb d_M_sum_99 (by decide) ?_
              refine pcc_v (va_runV (C := "BigRunnerModel") (As := [.int (nI x), .int (nI x), .int (-1)]) (rest := []) ⟨hx, hb, hml, hown, tb_nil⟩ (m_addUp l g H.size f M x x ((-1)) hL t_M hI (by omega) (by omega)) ⟨(callB_of 3 (tb_one (wd_1241 hB _)) tb_good1 rfl rfl rfl (wd_82 hB _) (wd_1238 hB _) (by decide +kernel) ⟨Nat.le_of_ble_eq_true rfl, Nat.le_of_ble_eq_true rfl⟩), (wd_1240 hB _), (wd_66 hB _)⟩ ⟨pe_bl, pg_recv (ci := 10) hK hP (lo_in hL t_M (by decide)) e1 rfl, pe_pre hB hK hP hD⟩ rfl rfl hl.1 rfl (lv_room (Nat.le_of_ble_eq_true rfl)) d_M_sum_100 ⟨Nat.le_of_ble_eq_true rfl, Nat.le_of_ble_eq_true rfl⟩) hS (fun f83 H locs hq84 hP hD hS => ?_)
              obtain ⟨hI1_85, hu1_86⟩ := hq84
              have hu := hu.tr hu1_86 (by decide)
              have e1 := hu1_86.at t_M (by decide) e1
              have e35 := hu1_86.at (lo_k11_31 hL _ t_M) (by decide) e35
              refine lv_iload hx hb d_M_sum_103 (lv_at hl 0 rfl) ?_
              refine lv_if_le (tgt := 117) hx hb d_M_sum_105 (by decide) (fun b87 => ?_) (fun b87 => ?_)
              · skip
                refine lv_iload hx hb d_M_sum_117 (lv_at hl 1 rfl) ?_
                exact pe_iret hx hb hr hlocks hK hP hD hS d_M_sum_119 ⟨hI1_85, hu⟩
              · skip
                refine lv_aload_n hx hb d_M_sum_108 rfl (lv_at hl 2 rfl) ?_
                refine pf_get (v := .ref (g.lk M 31)) (C := "BigRunnerModel") (T := FT10) (N := 45) hx hb (hw10 hB _) (fun _ h9 => h9) hown hK hP (lo_in hL t_M (by decide)) e1 rfl 31 (by decide) (wd_978 hB _) rfl d_M_sum_109 ?_
                refine lv_iload_n hx hb d_M_sum_112 rfl (lv_at hl 3 rfl) ?_
                refine pf_iald (i := x) hx hb hK hP (lo_in hL (lo_k11_31 hL _ t_M) (by decide)) e35 (lo_t63 hL _ (lo_k11_31 hL _ t_M)) (by omega) (by decide) d_M_sum_113 ?_
                refine lv_topi (fun iv88 _ => ?_)
                refine lv_goto (tgt := 119) hx hb d_M_sum_114 (by decide) ?_
                exact pe_iret hx hb hr hlocks hK hP hD hS d_M_sum_119 ⟨hI1_85, hu⟩
            · skip
              refine lv_iload_n hx hb d_M_sum_94 rfl (lv_at hl 4 rfl) ?_
              refine lv_goto (tgt := 99) hx hb d_M_sum_95 (by decide) ?_
              refine lv_iconst (v := (-1)) hx hb d_M_sum_99 (by decide) ?_
              refine pcc_v (va_runV (C := "BigRunnerModel") (As := [.int (nI x), .int (nI y), .int (-1)]) (rest := []) ⟨hx, hb, hml, hown, tb_nil⟩ (m_addUp l g H.size f M x y ((-1)) hL t_M hI (by omega) (by omega)) ⟨(callB_of 3 (tb_one (wd_1241 hB _)) tb_good1 rfl rfl rfl (wd_82 hB _) (wd_1238 hB _) (by decide +kernel) ⟨Nat.le_of_ble_eq_true rfl, Nat.le_of_ble_eq_true rfl⟩), (wd_1240 hB _), (wd_66 hB _)⟩ ⟨pe_bl, pg_recv (ci := 10) hK hP (lo_in hL t_M (by decide)) e1 rfl, pe_pre hB hK hP hD⟩ rfl rfl hl.1 rfl (lv_room (Nat.le_of_ble_eq_true rfl)) d_M_sum_100 ⟨Nat.le_of_ble_eq_true rfl, Nat.le_of_ble_eq_true rfl⟩) hS (fun f90 H locs hq91 hP hD hS => ?_)
              obtain ⟨hI1_92, hu1_93⟩ := hq91
              have hu := hu.tr hu1_93 (by decide)
              have e1 := hu1_93.at t_M (by decide) e1
              have e35 := hu1_93.at (lo_k11_31 hL _ t_M) (by decide) e35
              refine lv_iload hx hb d_M_sum_103 (lv_at hl 0 rfl) ?_
              refine lv_if_le (tgt := 117) hx hb d_M_sum_105 (by decide) (fun b94 => ?_) (fun b94 => ?_)
              · skip
                refine lv_iload hx hb d_M_sum_117 (lv_at hl 1 rfl) ?_
                exact pe_iret hx hb hr hlocks hK hP hD hS d_M_sum_119 ⟨hI1_92, hu⟩
              · skip
                refine lv_aload_n hx hb d_M_sum_108 rfl (lv_at hl 2 rfl) ?_
                refine pf_get (v := .ref (g.lk M 31)) (C := "BigRunnerModel") (T := FT10) (N := 45) hx hb (hw10 hB _) (fun _ h9 => h9) hown hK hP (lo_in hL t_M (by decide)) e1 rfl 31 (by decide) (wd_978 hB _) rfl d_M_sum_109 ?_
                refine lv_iload_n hx hb d_M_sum_112 rfl (lv_at hl 3 rfl) ?_
                refine pf_iald (i := x) hx hb hK hP (lo_in hL (lo_k11_31 hL _ t_M) (by decide)) e35 (lo_t63 hL _ (lo_k11_31 hL _ t_M)) (by omega) (by decide) d_M_sum_113 ?_
                refine lv_topi (fun iv95 _ => ?_)
                refine lv_goto (tgt := 119) hx hb d_M_sum_114 (by decide) ?_
                exact pe_iret hx hb hr hlocks hK hP hD hS d_M_sum_119 ⟨hI1_92, hu⟩
        · skip
          refine lv_iconst (v := nI 0) hx hb d_M_sum_76 (by decide) ?_
          exact pe_iret hx hb hr hlocks hK hP hD hS d_M_sum_77 ⟨hI, hu⟩
      · skip
        refine lv_aload_n hx hb d_M_sum_35 rfl (lv_at hl 1 rfl) ?_
        refine lv_iload_n hx hb d_M_sum_36 rfl (lv_at hl 2 rfl) ?_
        refine lv_iload_n hx hb d_M_sum_37 rfl (lv_at hl 3 rfl) ?_
        refine lv_iconst (v := nI 1) hx hb d_M_sum_38 (by decide) ?_
        refine pcc_v (va_runV (C := "BigRunnerModel") (As := [.int (nI x), .int (nI y), .int (nI 1)]) (rest := []) ⟨hx, hb, hml, hown, tb_nil⟩ (m_addUp l g s.heap.size f M x y ((nI 1)) hL t_M hI (by omega) (by omega)) ⟨(callB_of 3 (tb_one (wd_1241 hB _)) tb_good1 rfl rfl rfl (wd_82 hB _) (wd_1238 hB _) (by decide +kernel) ⟨Nat.le_of_ble_eq_true rfl, Nat.le_of_ble_eq_true rfl⟩), (wd_1240 hB _), (wd_66 hB _)⟩ ⟨pe_bl, pg_recv (ci := 10) hK hP (lo_in hL t_M (by decide)) e1 rfl, pe_pre hB hK hP hD⟩ rfl rfl hl.1 rfl (lv_room (Nat.le_of_ble_eq_true rfl)) d_M_sum_39 ⟨Nat.le_of_ble_eq_true rfl, Nat.le_of_ble_eq_true rfl⟩) hS (fun f97 H locs hq98 hP hD hS => ?_)
        obtain ⟨hI1_99, hu1_100⟩ := hq98
        have hu := hu.tr hu1_100 (by decide)
        have e1 := hu1_100.at t_M (by decide) e1
        have e35 := hu1_100.at (lo_k11_31 hL _ t_M) (by decide) e35
        refine lv_aload_n hx hb d_M_sum_42 rfl (lv_at hl 1 rfl) ?_
        refine pf_get (v := .ref (g.lk M 31)) (C := "BigRunnerModel") (T := FT10) (N := 45) hx hb (hw10 hB _) (fun _ h9 => h9) hown hK hP (lo_in hL t_M (by decide)) e1 rfl 31 (by decide) (wd_978 hB _) rfl d_M_sum_43 ?_
        refine lv_iload_n hx hb d_M_sum_46 rfl (lv_at hl 2 rfl) ?_
        refine pf_iald (i := x) hx hb hK hP (lo_in hL (lo_k11_31 hL _ t_M) (by decide)) e35 (lo_t63 hL _ (lo_k11_31 hL _ t_M)) (by omega) (by decide) d_M_sum_47 ?_
        refine lv_topi (fun iv101 _ => ?_)
        refine lv_if_ne (tgt := 56) hx hb d_M_sum_48 (by decide) (fun b102 => ?_) (fun b102 => ?_)
        · skip
          refine lv_aload_n hx hb d_M_sum_56 rfl (lv_at hl 1 rfl) ?_
          refine pf_get (v := .ref (g.lk M 31)) (C := "BigRunnerModel") (T := FT10) (N := 45) hx hb (hw10 hB _) (fun _ h9 => h9) hown hK hP (lo_in hL t_M (by decide)) e1 rfl 31 (by decide) (wd_978 hB _) rfl d_M_sum_57 ?_
          refine lv_iload_n hx hb d_M_sum_60 rfl (lv_at hl 2 rfl) ?_
          refine pf_iald (i := x) hx hb hK hP (lo_in hL (lo_k11_31 hL _ t_M) (by decide)) e35 (lo_t63 hL _ (lo_k11_31 hL _ t_M)) (by omega) (by decide) d_M_sum_61 ?_
          refine lv_topi (fun iv103 _ => ?_)
          exact pe_iret hx hb hr hlocks hK hP hD hS d_M_sum_62 ⟨hI1_99, hu⟩
        · skip
          refine lv_iload hx hb d_M_sum_51 (lv_at hl 0 rfl) ?_
          refine lv_goto (tgt := 62) hx hb d_M_sum_53 (by decide) ?_
          exact pe_iret hx hb hr hlocks hK hP hD hS d_M_sum_62 ⟨hI1_99, hu⟩
set_option maxHeartbeats 4000000 in
set_option maxRecDepth 100000 in
theorem m_product (l : Launch) (g : Lay) (sz : Nat) (f : Nat → va_E) (M : Nat) (x : Nat) (y : Nat) (hL : LO g) (t_M : g.tg M = 11) (hI : IV g f) (hx9 : x < 80) (hy9 : y < 80) : Met l ⟨"BigRunnerModel", "product", "(II)I"⟩ [Cond.code ⟨"BigRunnerModel", "product", "(II)I"⟩ prog_12_method_32_code 9 (some .int)] ({ frames := 1, cells := 0, slots := 0, locals := 22 }) (va_Pc [.ref M, .int (nI x), .int (nI y)] (pc_in g sz f)) (va_Qi (fun r f1 => (IV g f1) ∧ (un [64] g f f1)) (pc_out g sz) (pc_A g sz)) 0 0 (pc_A g sz) := by
  refine pe_ofW (cc := prog_12_method_32_code) (maxL := 9) (ret := (some .int)) (lv := [(0, .ref M), (1, .int (nI x)), (2, .int (nI y))]) (by decide) (Nat.le_of_ble_eq_true rfl) rfl ?_
  intro p e s m args below meth c ls hx hb hr hml hlocks hown hB hP hK hD hsz hS hl
  subst hsz
  have hu : un [64] g f f := un.rf
  refine lv_iconst (v := nI 0) hx hb d_M_product_0 (by decide) ?_
  refine lv_istore_n (lv' := [(3, .int (nI 0)), (0, .ref M), (1, .int (nI x)), (2, .int (nI y))]) hx hb d_M_product_1 rfl hl (by decide) rfl (fun ls hl => ?_)
  have lp1 : ∀ (k3 : Nat) (i : Nat) (f2 : Nat → va_E) (H : Heap) (locs : List Loc) (ls : Array Slot), (20 < i + k3) → (i ≤ 20) → IV g f2 → un [64] g f f2 → lv_has ls 9 [(3, .int (nI i)), (0, .ref M), (1, .int (nI x)), (2, .int (nI y))] → va_P g.D vcl (va_pl g.LP f2) H → va_D (pc_A g s.heap.size) (va_pl g.LP f2) → va_S (pc_A g s.heap.size) s.heap H locs → W p l e ({ frames := 1, cells := 0, slots := 0, locals := 22 }) s m args below meth c H locs 0 0 (MQ below (va_Qi (fun r f1 => (IV g f1) ∧ (un [64] g f f1)) (pc_out g s.heap.size) (pc_A g s.heap.size)) args s 0 0 (pc_A g s.heap.size)) (F0 m 2 ls []) := by
    intro k3
    induction k3 with
    | zero => intros; exfalso; omega
    | succ k3 ih4 =>
      intro i f2 H locs ls hfu5 hi hI6 hv7 hl hP hD hS
      have hu := hu.tr hv7 (by decide)
      refine lv_iload_n hx hb d_M_product_2 rfl (lv_at hl 0 rfl) ?_
      refine lv_bipush (v := nI 20) hx hb d_M_product_3 (by decide) ?_
      refine lv_icmp_ge (tgt := 89) hx hb d_M_product_5 (by decide) (fun b8 => ?_) (fun b8 => ?_)
      · skip
        replace b8 := (nI_leI (a := 20) (b := i) (by omega) (by omega)).mp b8
        refine lv_aload_n hx hb d_M_product_89 rfl (lv_at hl 1 rfl) ?_
        obtain ⟨th_10, n_11, dr_12, sz_13, ix_14, dp_15, wt_16, op_17, tp_18, wa_19, gi_20, pc_21, st_22, tr_23, sp_24, ma_25, lg_26, du_27, e9, c28, c29, c30, c31, c32, c33, c34, c35, c36, c37, c38, c39, c40, c41, c42⟩ := oc_11.of t_M (hI6.1 M)
        refine pf_get (v := .ref (g.lk M 31)) (C := "BigRunnerModel") (T := FT10) (N := 45) hx hb (hw10 hB _) (fun _ h9 => h9) hown hK hP (lo_in hL t_M (by decide)) e9 rfl 31 (by decide) (wd_978 hB _) rfl d_M_product_90 ?_
        refine lv_iload_n hx hb d_M_product_93 rfl (lv_at hl 2 rfl) ?_
        obtain ⟨h_44, e43⟩ := oc_63.of (lo_k11_31 hL _ t_M) (hI6.1 (g.lk M 31))
        refine pf_iald (i := x) hx hb hK hP (lo_in hL (lo_k11_31 hL _ t_M) (by decide)) e43 (lo_t63 hL _ (lo_k11_31 hL _ t_M)) (by omega) (by decide) d_M_product_94 ?_
        refine lv_topi (fun iv46 _ => ?_)
        refine lv_aload_n hx hb d_M_product_95 rfl (lv_at hl 1 rfl) ?_
        refine pf_get (v := .ref (g.lk M 31)) (C := "BigRunnerModel") (T := FT10) (N := 45) hx hb (hw10 hB _) (fun _ h9 => h9) hown hK hP (lo_in hL t_M (by decide)) e9 rfl 31 (by decide) (wd_978 hB _) rfl d_M_product_96 ?_
        refine lv_iload_n hx hb d_M_product_99 rfl (lv_at hl 3 rfl) ?_
        refine pf_iald (i := y) hx hb hK hP (lo_in hL (lo_k11_31 hL _ t_M) (by decide)) e43 (lo_t63 hL _ (lo_k11_31 hL _ t_M)) (by omega) (by decide) d_M_product_100 ?_
        refine lv_topi (fun iv47 _ => ?_)
        refine lv_imul hx hb d_M_product_101 ?_
        refine lv_topi (fun iv48 _ => ?_)
        exact pe_iret hx hb hr hlocks hK hP hD hS d_M_product_102 ⟨hI6, hu⟩
      · skip
        replace b8 := mt (nI_leI (a := 20) (b := i) (by omega) (by omega)).mpr b8
        refine lv_lconst (v := nL 0) hx hb d_M_product_8 (by decide) ?_
        refine lv_lstore (lv' := [(4, .long (nL 0)), (3, .int (nI i)), (0, .ref M), (1, .int (nI x)), (2, .int (nI y))]) hx hb d_M_product_9 hl (by decide) rfl (fun ls hl => ?_)
        refine lv_iconst (v := nI 0) hx hb d_M_product_11 (by decide) ?_
        refine lv_istore (lv' := [(6, .int (nI 0)), (4, .long (nL 0)), (3, .int (nI i)), (0, .ref M), (1, .int (nI x)), (2, .int (nI y))]) hx hb d_M_product_12 hl (by decide) rfl (fun ls hl => ?_)
        have lp49 : ∀ (k51 : Nat) (cy : Int64) (j : Nat) (f50 : Nat → va_E) (H : Heap) (locs : List Loc) (ls : Array Slot), (21 < j + k51) → (j ≤ 21) → IV g f50 → un [64] g f2 f50 → lv_has ls 9 [(6, .int (nI j)), (4, .long cy), (3, .int (nI i)), (0, .ref M), (1, .int (nI x)), (2, .int (nI y))] → va_P g.D vcl (va_pl g.LP f50) H → va_D (pc_A g s.heap.size) (va_pl g.LP f50) → va_S (pc_A g s.heap.size) s.heap H locs → W p l e ({ frames := 1, cells := 0, slots := 0, locals := 22 }) s m args below meth c H locs 0 0 (MQ below (va_Qi (fun r f1 => (IV g f1) ∧ (un [64] g f f1)) (pc_out g s.heap.size) (pc_A g s.heap.size)) args s 0 0 (pc_A g s.heap.size)) (F0 m 14 ls []) := by
          intro k51
          induction k51 with
          | zero => intros; exfalso; omega
          | succ k51 ih52 =>
            intro cy j f50 H locs ls hfu53 hj hI54 hv55 hl hP hD hS
            have hu := hu.tr hv55 (by decide)
            have hv7 := hv7.tr hv55 (by decide)
            refine lv_iload hx hb d_M_product_14 (lv_at hl 0 rfl) ?_
            refine lv_bipush (v := nI 21) hx hb d_M_product_16 (by decide) ?_
            refine lv_icmp_ge (tgt := 83) hx hb d_M_product_18 (by decide) (fun b56 => ?_) (fun b56 => ?_)
            · skip
              replace b56 := (nI_leI (a := 21) (b := j) (by omega) (by omega)).mp b56
              refine lv_iinc (k := 2) (v := nI (i + 1)) (lv' := [(3, .int (nI (i + 1))), (6, .int (nI j)), (4, .long cy), (0, .ref M), (1, .int (nI x)), (2, .int (nI y))]) hx hb d_M_product_83 hl rfl (by rw [nI_succ]; rfl) (by decide) rfl (fun ls hl => ?_)
              refine lv_goto (tgt := 2) hx hb d_M_product_86 (by decide) ?_
              have hl : lv_has ls 9 [(3, .int (nI (i + 1))), (0, .ref M), (1, .int (nI x)), (2, .int (nI y))] := lv_sub hl [0, 3, 4, 5] rfl
              exact ih4 (i + 1) f50 H locs ls (by omega) (by omega) hI54 hv7 hl hP hD hS
            · skip
              replace b56 := mt (nI_leI (a := 21) (b := j) (by omega) (by omega)).mpr b56
              refine lv_aload_n hx hb d_M_product_21 rfl (lv_at hl 3 rfl) ?_
              obtain ⟨th_58, n_59, dr_60, sz_61, ix_62, dp_63, wt_64, op_65, tp_66, wa_67, gi_68, pc_69, st_70, tr_71, sp_72, ma_73, lg_74, du_75, e57, c76, c77, c78, c79, c80, c81, c82, c83, c84, c85, c86, c87, c88, c89, c90⟩ := oc_11.of t_M (hI54.1 M)
              refine pf_get (v := .ref (g.lk M 33)) (C := "BigRunnerModel") (T := FT10) (N := 45) hx hb (hw10 hB _) (fun _ h9 => h9) hown hK hP (lo_in hL t_M (by decide)) e57 rfl 33 (by decide) (wd_980 hB _) rfl d_M_product_22 ?_
              refine lv_iload_n hx hb d_M_product_25 rfl (lv_at hl 2 rfl) ?_
              refine lv_iload hx hb d_M_product_26 (lv_at hl 0 rfl) ?_
              refine pf_iaddN (x := i) (y := j) hx hb d_M_product_28 ?_
              obtain ⟨h_92, e91⟩ := oc_64.of (lo_k11_33 hL _ t_M) (hI54.1 (g.lk M 33))
              refine pf_iald (i := i + j) hx hb hK hP (lo_in hL (lo_k11_33 hL _ t_M) (by decide)) e91 (lo_t64 hL _ (lo_k11_33 hL _ t_M)) (by omega) (by decide) d_M_product_29 ?_
              refine lv_topi (fun iv94 _ => ?_)
              refine lv_i2l hx hb d_M_product_30 rfl ?_
              refine lv_topl (fun lv95 _ => ?_)
              refine lv_aload_n hx hb d_M_product_31 rfl (lv_at hl 3 rfl) ?_
              refine lv_iload_n hx hb d_M_product_32 rfl (lv_at hl 4 rfl) ?_
              refine lv_iload_n hx hb d_M_product_33 rfl (lv_at hl 2 rfl) ?_
              refine pcc_i (va_runV (C := "BigRunnerModel") (As := [.int (nI x), .int (nI i)]) (rest := [.long lv95]) ⟨hx, hb, hml, hown, tb_nil⟩ (m_limb l g H.size f50 M x i hL t_M hI54.1 (by omega) (by omega)) ⟨(callB_of 2 (tb_one (wd_1232 hB _)) tb_good1 rfl rfl rfl (wd_82 hB _) (wd_1229 hB _) (by decide +kernel) ⟨Nat.le_of_ble_eq_true rfl, Nat.le_of_ble_eq_true rfl⟩), (wd_1231 hB _), (wd_64 hB _)⟩ ⟨pe_bl, pg_recv (ci := 10) hK hP (lo_in hL t_M (by decide)) e57 rfl, pe_pre hB hK hP hD⟩ rfl rfl hl.1 rfl (lv_room (Nat.le_of_ble_eq_true rfl)) d_M_product_34 ⟨Nat.le_of_ble_eq_true rfl, Nat.le_of_ble_eq_true rfl⟩) hS (fun r96 f97 H locs hq98 hP hD hS => ?_)
              subst hq98
              refine lv_i2l hx hb d_M_product_37 rfl ?_
              refine lv_topl (fun lv99 _ => ?_)
              refine lv_aload_n hx hb d_M_product_38 rfl (lv_at hl 3 rfl) ?_
              refine lv_iload_n hx hb d_M_product_39 rfl (lv_at hl 5 rfl) ?_
              refine lv_iload hx hb d_M_product_40 (lv_at hl 0 rfl) ?_
              refine pcc_i (va_runV (C := "BigRunnerModel") (As := [.int (nI y), .int (nI j)]) (rest := [.long lv99, .long lv95]) ⟨hx, hb, hml, hown, tb_nil⟩ (m_limb l g H.size f50 M y j hL t_M hI54.1 (by omega) (by omega)) ⟨(callB_of 2 (tb_one (wd_1232 hB _)) tb_good1 rfl rfl rfl (wd_82 hB _) (wd_1229 hB _) (by decide +kernel) ⟨Nat.le_of_ble_eq_true rfl, Nat.le_of_ble_eq_true rfl⟩), (wd_1231 hB _), (wd_64 hB _)⟩ ⟨pe_bl, pg_recv (ci := 10) hK hP (lo_in hL t_M (by decide)) e57 rfl, pe_pre hB hK hP hD⟩ rfl rfl hl.1 rfl (lv_room (Nat.le_of_ble_eq_true rfl)) d_M_product_42 ⟨Nat.le_of_ble_eq_true rfl, Nat.le_of_ble_eq_true rfl⟩) hS (fun r100 f101 H locs hq102 hP hD hS => ?_)
              subst hq102
              refine lv_i2l hx hb d_M_product_45 rfl ?_
              refine lv_topl (fun lv103 _ => ?_)
              refine lv_lmul hx hb d_M_product_46 ?_
              refine lv_topl (fun lv104 _ => ?_)
              refine lv_ladd hx hb d_M_product_47 ?_
              refine lv_topl (fun lv105 _ => ?_)
              refine lv_lload hx hb d_M_product_48 (lv_at hl 1 rfl) ?_
              refine lv_ladd hx hb d_M_product_50 ?_
              refine lv_topl (fun lv106 _ => ?_)
              refine lv_lstore (lv' := [(7, .long lv106), (6, .int (nI j)), (4, .long cy), (3, .int (nI i)), (0, .ref M), (1, .int (nI x)), (2, .int (nI y))]) hx hb d_M_product_51 hl (by decide) rfl (fun ls hl => ?_)
              refine lv_aload_n hx hb d_M_product_53 rfl (lv_at hl 4 rfl) ?_
              refine pf_get (v := .ref (g.lk M 33)) (C := "BigRunnerModel") (T := FT10) (N := 45) hx hb (hw10 hB _) (fun _ h9 => h9) hown hK hP (lo_in hL t_M (by decide)) e57 rfl 33 (by decide) (wd_980 hB _) rfl d_M_product_54 ?_
              refine lv_iload_n hx hb d_M_product_57 rfl (lv_at hl 3 rfl) ?_
              refine lv_iload hx hb d_M_product_58 (lv_at hl 1 rfl) ?_
              refine pf_iaddN (x := i) (y := j) hx hb d_M_product_60 ?_
              refine lv_lload hx hb d_M_product_61 (lv_at hl 0 rfl) ?_
              refine lv_ldc2 (v := 1000000) hx hb hown (wd_1233 hB _) d_M_product_63 ?_
              refine lv_topl (fun z_ hz_ => ?_)
              obtain rfl : z_ = nL 1000000 := hz_
              refine lv_lrem hx hb d_M_product_66 (by decide) ?_
              refine lv_topl (fun lv107 _ => ?_)
              refine lv_l2i hx hb d_M_product_67 rfl ?_
              refine lv_topi (fun iv108 _ => ?_)
              refine pf_iast (i := i + j) hx hb hK hP hD hS (lo_in hL (lo_k11_33 hL _ t_M) (by decide)) e91 (lo_t64 hL _ (lo_k11_33 hL _ t_M)) (by omega) (by decide) d_M_product_68 (fun f109 H locs e110 k111 hP hD hS => ?_)
              have e57 := (k111 M (tg_ne t_M (lo_k11_33 hL _ t_M) (by decide))).trans e57
              have hu := hu.st k111 (lo_k11_33 hL _ t_M) (by decide)
              have hv7 := hv7.st k111 (lo_k11_33 hL _ t_M) (by decide)
              have hv55 := hv55.st k111 (lo_k11_33 hL _ t_M) (by decide)
              have hk112 : ∀ b, b ≠ (g.lk M 33) → f109 b = f50 b := k111
              refine lv_lload hx hb d_M_product_69 (lv_at hl 0 rfl) ?_
              refine lv_ldc2 (v := 1000000) hx hb hown (wd_1233 hB _) d_M_product_71 ?_
              refine lv_topl (fun z_ hz_ => ?_)
              obtain rfl : z_ = nL 1000000 := hz_
              refine lv_ldiv hx hb d_M_product_74 (by decide) ?_
              refine lv_topl (fun lv113 _ => ?_)
              refine lv_lstore (lv' := [(4, .long lv113), (7, .long lv106), (6, .int (nI j)), (3, .int (nI i)), (0, .ref M), (1, .int (nI x)), (2, .int (nI y))]) hx hb d_M_product_75 hl (by decide) rfl (fun ls hl => ?_)
              refine lv_iinc (k := 2) (v := nI (j + 1)) (lv' := [(6, .int (nI (j + 1))), (4, .long lv113), (7, .long lv106), (3, .int (nI i)), (0, .ref M), (1, .int (nI x)), (2, .int (nI y))]) hx hb d_M_product_77 hl rfl (by rw [nI_succ]; rfl) (by decide) rfl (fun ls hl => ?_)
              refine lv_goto (tgt := 14) hx hb d_M_product_80 (by decide) ?_
              have hI114 := iv_1 hI54 hL (lo_k11_33 hL _ t_M) (by decide) hk112 (oc_64.mk (lo_k11_33 hL _ t_M) (⟨_, e110⟩))
              have hl : lv_has ls 9 [(6, .int (nI (j + 1))), (4, .long lv113), (3, .int (nI i)), (0, .ref M), (1, .int (nI x)), (2, .int (nI y))] := lv_sub hl [0, 1, 3, 4, 5, 6] rfl
              exact ih52 lv113 (j + 1) f109 H locs ls (by omega) (by omega) hI114 hv55 hl hP hD hS
        exact lp49 22 (nL 0) 0 f2 H locs ls (by omega) (by omega) hI6 un.rf hl hP hD hS
  exact lp1 21 0 f s.heap [] ls (by omega) (by omega) hI un.rf hl hP hD hS
set_option maxHeartbeats 4000000 in
set_option maxRecDepth 100000 in
theorem m_holds (l : Launch) (g : Lay) (sz : Nat) (f : Nat → va_E) (M : Nat) (y : Nat) (fq : Int32) (tk9 : Int32) (hL : LO g) (t_M : g.tg M = 11) (hI : IV g f) (hy9 : y < 80) : Met l ⟨"BigRunnerModel", "holds", "(IIZ)Z"⟩ [Cond.code ⟨"BigRunnerModel", "holds", "(IIZ)Z"⟩ prog_12_method_33_code 12 (some .boolean)] ({ frames := 1, cells := 0, slots := 0, locals := 22 }) (va_Pc [.ref M, .int (nI y), .int fq, .int tk9] (pc_in g sz f)) (va_Qi (fun r f1 => (r = nI 0 ∨ r = nI 1) ∧ (IV g f1) ∧ (un [65] g f f1)) (pc_out g sz) (pc_A g sz)) 0 0 (pc_A g sz) := by
  refine pe_ofW (cc := prog_12_method_33_code) (maxL := 12) (ret := (some .boolean)) (lv := [(0, .ref M), (1, .int (nI y)), (2, .int fq), (3, .int tk9)]) (by decide) (Nat.le_of_ble_eq_true rfl) rfl ?_
  intro p e s m args below meth c ls hx hb hr hml hlocks hown hB hP hK hD hsz hS hl
  subst hsz
  have hu : un [65] g f f := un.rf
  refine lv_lconst (v := nL 0) hx hb d_M_holds_0 (by decide) ?_
  refine lv_lstore (lv' := [(4, .long (nL 0)), (0, .ref M), (1, .int (nI y)), (2, .int fq), (3, .int tk9)]) hx hb d_M_holds_1 hl (by decide) rfl (fun ls hl => ?_)
  refine lv_iconst (v := nI 0) hx hb d_M_holds_3 (by decide) ?_
  refine lv_istore (lv' := [(6, .int (nI 0)), (4, .long (nL 0)), (0, .ref M), (1, .int (nI y)), (2, .int fq), (3, .int tk9)]) hx hb d_M_holds_4 hl (by decide) rfl (fun ls hl => ?_)
  refine lv_iconst (v := nI 0) hx hb d_M_holds_6 (by decide) ?_
  refine lv_istore (lv' := [(7, .int (nI 0)), (6, .int (nI 0)), (4, .long (nL 0)), (0, .ref M), (1, .int (nI y)), (2, .int fq), (3, .int tk9)]) hx hb d_M_holds_7 hl (by decide) rfl (fun ls hl => ?_)
  have lp1 : ∀ (k3 : Nat) (cy : Int64) (ls9 : Int32) (i : Nat) (f2 : Nat → va_E) (H : Heap) (locs : List Loc) (ls : Array Slot), (22 < i + k3) → (i ≤ 22) → IV g f2 → un [65] g f f2 → lv_has ls 12 [(7, .int (nI i)), (6, .int ls9), (4, .long cy), (0, .ref M), (1, .int (nI y)), (2, .int fq), (3, .int tk9)] → va_P g.D vcl (va_pl g.LP f2) H → va_D (pc_A g s.heap.size) (va_pl g.LP f2) → va_S (pc_A g s.heap.size) s.heap H locs → W p l e ({ frames := 1, cells := 0, slots := 0, locals := 22 }) s m args below meth c H locs 0 0 (MQ below (va_Qi (fun r f1 => (r = nI 0 ∨ r = nI 1) ∧ (IV g f1) ∧ (un [65] g f f1)) (pc_out g s.heap.size) (pc_A g s.heap.size)) args s 0 0 (pc_A g s.heap.size)) (F0 m 9 ls []) := by
    intro k3
    induction k3 with
    | zero => intros; exfalso; omega
    | succ k3 ih4 =>
      intro cy ls9 i f2 H locs ls hfu5 hi hI6 hv7 hl hP hD hS
      have hu := hu.tr hv7 (by decide)
      refine lv_iload hx hb d_M_holds_9 (lv_at hl 0 rfl) ?_
      refine lv_bipush (v := nI 22) hx hb d_M_holds_11 (by decide) ?_
      refine lv_icmp_ge (tgt := 102) hx hb d_M_holds_13 (by decide) (fun b8 => ?_) (fun b8 => ?_)
      · skip
        replace b8 := (nI_leI (a := 22) (b := i) (by omega) (by omega)).mp b8
        refine lv_iload hx hb d_M_holds_102 (lv_at hl 1 rfl) ?_
        refine lv_if_ne (tgt := 111) hx hb d_M_holds_104 (by decide) (fun b9 => ?_) (fun b9 => ?_)
        · skip
          refine lv_iconst (v := nI 0) hx hb d_M_holds_111 (by decide) ?_
          exact pe_zret hx hb hr hlocks hK hP hD hS d_M_holds_112 rfl ⟨(Or.inl rfl), hI6, hu⟩
        · skip
          refine lv_iconst (v := nI 1) hx hb d_M_holds_107 (by decide) ?_
          refine lv_goto (tgt := 112) hx hb d_M_holds_108 (by decide) ?_
          exact pe_zret hx hb hr hlocks hK hP hD hS d_M_holds_112 rfl ⟨(Or.inr rfl), hI6, hu⟩
      · skip
        replace b8 := mt (nI_leI (a := 22) (b := i) (by omega) (by omega)).mpr b8
        refine lv_aload_n hx hb d_M_holds_16 rfl (lv_at hl 3 rfl) ?_
        obtain ⟨th_11, n_12, dr_13, sz_14, ix_15, dp_16, wt_17, op_18, tp_19, wa_20, gi_21, pc_22, st_23, tr_24, sp_25, ma_26, lg_27, du_28, e10, c29, c30, c31, c32, c33, c34, c35, c36, c37, c38, c39, c40, c41, c42, c43⟩ := oc_11.of t_M (hI6.1 M)
        refine pf_get (v := .ref (g.lk M 34)) (C := "BigRunnerModel") (T := FT10) (N := 45) hx hb (hw10 hB _) (fun _ h9 => h9) hown hK hP (lo_in hL t_M (by decide)) e10 rfl 34 (by decide) (wd_981 hB _) rfl d_M_holds_17 ?_
        refine lv_iload hx hb d_M_holds_20 (lv_at hl 0 rfl) ?_
        obtain ⟨h_45, e44⟩ := oc_65.of (lo_k11_34 hL _ t_M) (hI6.1 (g.lk M 34))
        refine pf_iald (i := i) hx hb hK hP (lo_in hL (lo_k11_34 hL _ t_M) (by decide)) e44 (lo_t65 hL _ (lo_k11_34 hL _ t_M)) (by omega) (by decide) d_M_holds_22 ?_
        refine lv_topi (fun iv47 _ => ?_)
        refine lv_i2l hx hb d_M_holds_23 rfl ?_
        refine lv_topl (fun lv48 _ => ?_)
        refine lv_aload_n hx hb d_M_holds_24 rfl (lv_at hl 3 rfl) ?_
        refine lv_iload_n hx hb d_M_holds_25 rfl (lv_at hl 4 rfl) ?_
        refine lv_iload hx hb d_M_holds_26 (lv_at hl 0 rfl) ?_
        refine pcc_i (va_runV (C := "BigRunnerModel") (As := [.int (nI y), .int (nI i)]) (rest := [.long lv48]) ⟨hx, hb, hml, hown, tb_nil⟩ (m_limb l g H.size f2 M y i hL t_M hI6.1 (by omega) (by omega)) ⟨(callB_of 2 (tb_one (wd_1232 hB _)) tb_good1 rfl rfl rfl (wd_82 hB _) (wd_1229 hB _) (by decide +kernel) ⟨Nat.le_of_ble_eq_true rfl, Nat.le_of_ble_eq_true rfl⟩), (wd_1231 hB _), (wd_64 hB _)⟩ ⟨pe_bl, pg_recv (ci := 10) hK hP (lo_in hL t_M (by decide)) e10 rfl, pe_pre hB hK hP hD⟩ rfl rfl hl.1 rfl (lv_room (Nat.le_of_ble_eq_true rfl)) d_M_holds_28 ⟨Nat.le_of_ble_eq_true rfl, Nat.le_of_ble_eq_true rfl⟩) hS (fun r49 f50 H locs hq51 hP hD hS => ?_)
        subst hq51
        refine lv_i2l hx hb d_M_holds_31 rfl ?_
        refine lv_topl (fun lv52 _ => ?_)
        refine lv_iload_n hx hb d_M_holds_32 rfl (lv_at hl 5 rfl) ?_
        refine lv_i2l hx hb d_M_holds_33 rfl ?_
        refine lv_topl (fun lv53 _ => ?_)
        refine lv_lmul hx hb d_M_holds_34 ?_
        refine lv_topl (fun lv54 _ => ?_)
        refine lv_lsub hx hb d_M_holds_35 ?_
        refine lv_topl (fun lv55 _ => ?_)
        refine lv_lload hx hb d_M_holds_36 (lv_at hl 2 rfl) ?_
        refine lv_ladd hx hb d_M_holds_38 ?_
        refine lv_topl (fun lv56 _ => ?_)
        refine lv_lstore (lv' := [(8, .long lv56), (7, .int (nI i)), (6, .int ls9), (4, .long cy), (0, .ref M), (1, .int (nI y)), (2, .int fq), (3, .int tk9)]) hx hb d_M_holds_39 hl (by decide) rfl (fun ls hl => ?_)
        refine lv_lload hx hb d_M_holds_41 (lv_at hl 0 rfl) ?_
        refine lv_ldc2 (v := 1000000) hx hb hown (wd_1233 hB _) d_M_holds_43 ?_
        refine lv_topl (fun z_ hz_ => ?_)
        obtain rfl : z_ = nL 1000000 := hz_
        refine lv_lrem hx hb d_M_holds_46 (by decide) ?_
        refine lv_topl (fun lv57 _ => ?_)
        refine lv_ldc2 (v := 1000000) hx hb hown (wd_1233 hB _) d_M_holds_47 ?_
        refine lv_topl (fun z_ hz_ => ?_)
        obtain rfl : z_ = nL 1000000 := hz_
        refine lv_ladd hx hb d_M_holds_50 ?_
        refine lv_topl (fun lv58 _ => ?_)
        refine lv_ldc2 (v := 1000000) hx hb hown (wd_1233 hB _) d_M_holds_51 ?_
        refine lv_topl (fun z_ hz_ => ?_)
        obtain rfl : z_ = nL 1000000 := hz_
        refine lv_lrem hx hb d_M_holds_54 (by decide) ?_
        refine lv_topl (fun lv59 _ => ?_)
        refine lv_lstore (lv' := [(10, .long lv59), (8, .long lv56), (7, .int (nI i)), (6, .int ls9), (4, .long cy), (0, .ref M), (1, .int (nI y)), (2, .int fq), (3, .int tk9)]) hx hb d_M_holds_55 hl (by decide) rfl (fun ls hl => ?_)
        refine lv_lload hx hb d_M_holds_57 (lv_at hl 1 rfl) ?_
        refine lv_lload hx hb d_M_holds_59 (lv_at hl 0 rfl) ?_
        refine lv_lsub hx hb d_M_holds_61 ?_
        refine lv_topl (fun lv60 _ => ?_)
        refine lv_ldc2 (v := 1000000) hx hb hown (wd_1233 hB _) d_M_holds_62 ?_
        refine lv_topl (fun z_ hz_ => ?_)
        obtain rfl : z_ = nL 1000000 := hz_
        refine lv_ldiv hx hb d_M_holds_65 (by decide) ?_
        refine lv_topl (fun lv61 _ => ?_)
        refine lv_lstore (lv' := [(4, .long lv61), (10, .long lv59), (8, .long lv56), (7, .int (nI i)), (6, .int ls9), (0, .ref M), (1, .int (nI y)), (2, .int fq), (3, .int tk9)]) hx hb d_M_holds_66 hl (by decide) rfl (fun ls hl => ?_)
        refine lv_iload_n hx hb d_M_holds_68 rfl (lv_at hl 8 rfl) ?_
        refine lv_if_eq (tgt := 82) hx hb d_M_holds_69 (by decide) (fun b62 => ?_) (fun b62 => ?_)
        · skip
          refine lv_lload hx hb d_M_holds_82 (lv_at hl 0 rfl) ?_
          refine lv_lconst (v := nL 0) hx hb d_M_holds_84 (by decide) ?_
          refine W.lcmp hx hb d_M_holds_85 ?_
          refine lv_if_ge (tgt := 93) hx hb d_M_holds_86 (by decide) (fun b63 => ?_) (fun b63 => ?_)
          · skip
            replace b63 := pl_ge.mp b63
            refine lv_iconst (v := nI 0) hx hb d_M_holds_93 (by decide) ?_
            refine lv_istore (lv' := [(6, .int (nI 0)), (4, .long lv61), (10, .long lv59), (8, .long lv56), (7, .int (nI i)), (0, .ref M), (1, .int (nI y)), (2, .int fq), (3, .int tk9)]) hx hb d_M_holds_94 hl (by decide) rfl (fun ls hl => ?_)
            refine lv_iinc (k := 4) (v := nI (i + 1)) (lv' := [(7, .int (nI (i + 1))), (6, .int (nI 0)), (4, .long lv61), (10, .long lv59), (8, .long lv56), (0, .ref M), (1, .int (nI y)), (2, .int fq), (3, .int tk9)]) hx hb d_M_holds_96 hl rfl (by rw [nI_succ]; rfl) (by decide) rfl (fun ls hl => ?_)
            refine lv_goto (tgt := 9) hx hb d_M_holds_99 (by decide) ?_
            have hl : lv_has ls 12 [(7, .int (nI (i + 1))), (6, .int (nI 0)), (4, .long lv61), (0, .ref M), (1, .int (nI y)), (2, .int fq), (3, .int tk9)] := lv_sub hl [0, 1, 2, 5, 6, 7, 8] rfl
            exact ih4 lv61 (nI 0) (i + 1) f2 H locs ls (by omega) (by omega) hI6 hv7 hl hP hD hS
          · skip
            replace b63 := mt pl_ge.mpr b63
            refine lv_iconst (v := nI 1) hx hb d_M_holds_89 (by decide) ?_
            refine lv_goto (tgt := 94) hx hb d_M_holds_90 (by decide) ?_
            refine lv_istore (lv' := [(6, .int (nI 1)), (4, .long lv61), (10, .long lv59), (8, .long lv56), (7, .int (nI i)), (0, .ref M), (1, .int (nI y)), (2, .int fq), (3, .int tk9)]) hx hb d_M_holds_94 hl (by decide) rfl (fun ls hl => ?_)
            refine lv_iinc (k := 4) (v := nI (i + 1)) (lv' := [(7, .int (nI (i + 1))), (6, .int (nI 1)), (4, .long lv61), (10, .long lv59), (8, .long lv56), (0, .ref M), (1, .int (nI y)), (2, .int fq), (3, .int tk9)]) hx hb d_M_holds_96 hl rfl (by rw [nI_succ]; rfl) (by decide) rfl (fun ls hl => ?_)
            refine lv_goto (tgt := 9) hx hb d_M_holds_99 (by decide) ?_
            have hl : lv_has ls 12 [(7, .int (nI (i + 1))), (6, .int (nI 1)), (4, .long lv61), (0, .ref M), (1, .int (nI y)), (2, .int fq), (3, .int tk9)] := lv_sub hl [0, 1, 2, 5, 6, 7, 8] rfl
            exact ih4 lv61 (nI 1) (i + 1) f2 H locs ls (by omega) (by omega) hI6 hv7 hl hP hD hS
        · skip
          refine lv_aload_n hx hb d_M_holds_72 rfl (lv_at hl 5 rfl) ?_
          refine pf_get (v := .ref (g.lk M 34)) (C := "BigRunnerModel") (T := FT10) (N := 45) hx hb (hw10 hB _) (fun _ h9 => h9) hown hK hP (lo_in hL t_M (by decide)) e10 rfl 34 (by decide) (wd_981 hB _) rfl d_M_holds_73 ?_
          refine lv_iload hx hb d_M_holds_76 (lv_at hl 3 rfl) ?_
          refine lv_lload hx hb d_M_holds_78 (lv_at hl 1 rfl) ?_
          refine lv_l2i hx hb d_M_holds_80 rfl ?_
          refine lv_topi (fun iv64 _ => ?_)
          refine pf_iast (i := i) hx hb hK hP hD hS (lo_in hL (lo_k11_34 hL _ t_M) (by decide)) e44 (lo_t65 hL _ (lo_k11_34 hL _ t_M)) (by omega) (by decide) d_M_holds_81 (fun f65 H locs e66 k67 hP hD hS => ?_)
          have e10 := (k67 M (tg_ne t_M (lo_k11_34 hL _ t_M) (by decide))).trans e10
          have hu := hu.st k67 (lo_k11_34 hL _ t_M) (by decide)
          have hv7 := hv7.st k67 (lo_k11_34 hL _ t_M) (by decide)
          have hk68 : ∀ b, b ≠ (g.lk M 34) → f65 b = f2 b := k67
          refine lv_lload hx hb d_M_holds_82 (lv_at hl 0 rfl) ?_
          refine lv_lconst (v := nL 0) hx hb d_M_holds_84 (by decide) ?_
          refine W.lcmp hx hb d_M_holds_85 ?_
          refine lv_if_ge (tgt := 93) hx hb d_M_holds_86 (by decide) (fun b69 => ?_) (fun b69 => ?_)
          · skip
            replace b69 := pl_ge.mp b69
            refine lv_iconst (v := nI 0) hx hb d_M_holds_93 (by decide) ?_
            refine lv_istore (lv' := [(6, .int (nI 0)), (4, .long lv61), (10, .long lv59), (8, .long lv56), (7, .int (nI i)), (0, .ref M), (1, .int (nI y)), (2, .int fq), (3, .int tk9)]) hx hb d_M_holds_94 hl (by decide) rfl (fun ls hl => ?_)
            refine lv_iinc (k := 4) (v := nI (i + 1)) (lv' := [(7, .int (nI (i + 1))), (6, .int (nI 0)), (4, .long lv61), (10, .long lv59), (8, .long lv56), (0, .ref M), (1, .int (nI y)), (2, .int fq), (3, .int tk9)]) hx hb d_M_holds_96 hl rfl (by rw [nI_succ]; rfl) (by decide) rfl (fun ls hl => ?_)
            refine lv_goto (tgt := 9) hx hb d_M_holds_99 (by decide) ?_
            have hI70 := iv_1 hI6 hL (lo_k11_34 hL _ t_M) (by decide) hk68 (oc_65.mk (lo_k11_34 hL _ t_M) (⟨_, e66⟩))
            have hl : lv_has ls 12 [(7, .int (nI (i + 1))), (6, .int (nI 0)), (4, .long lv61), (0, .ref M), (1, .int (nI y)), (2, .int fq), (3, .int tk9)] := lv_sub hl [0, 1, 2, 5, 6, 7, 8] rfl
            exact ih4 lv61 (nI 0) (i + 1) f65 H locs ls (by omega) (by omega) hI70 hv7 hl hP hD hS
          · skip
            replace b69 := mt pl_ge.mpr b69
            refine lv_iconst (v := nI 1) hx hb d_M_holds_89 (by decide) ?_
            refine lv_goto (tgt := 94) hx hb d_M_holds_90 (by decide) ?_
            refine lv_istore (lv' := [(6, .int (nI 1)), (4, .long lv61), (10, .long lv59), (8, .long lv56), (7, .int (nI i)), (0, .ref M), (1, .int (nI y)), (2, .int fq), (3, .int tk9)]) hx hb d_M_holds_94 hl (by decide) rfl (fun ls hl => ?_)
            refine lv_iinc (k := 4) (v := nI (i + 1)) (lv' := [(7, .int (nI (i + 1))), (6, .int (nI 1)), (4, .long lv61), (10, .long lv59), (8, .long lv56), (0, .ref M), (1, .int (nI y)), (2, .int fq), (3, .int tk9)]) hx hb d_M_holds_96 hl rfl (by rw [nI_succ]; rfl) (by decide) rfl (fun ls hl => ?_)
            refine lv_goto (tgt := 9) hx hb d_M_holds_99 (by decide) ?_
            have hI71 := iv_1 hI6 hL (lo_k11_34 hL _ t_M) (by decide) hk68 (oc_65.mk (lo_k11_34 hL _ t_M) (⟨_, e66⟩))
            have hl : lv_has ls 12 [(7, .int (nI (i + 1))), (6, .int (nI 1)), (4, .long lv61), (0, .ref M), (1, .int (nI y)), (2, .int fq), (3, .int tk9)] := lv_sub hl [0, 1, 2, 5, 6, 7, 8] rfl
            exact ih4 lv61 (nI 1) (i + 1) f65 H locs ls (by omega) (by omega) hI71 hv7 hl hP hD hS
  exact lp1 23 (nL 0) (nI 0) 0 f s.heap [] ls (by omega) (by omega) hI un.rf hl hP hD hS
set_option maxHeartbeats 4000000 in
set_option maxRecDepth 100000 in
theorem m_divide (l : Launch) (g : Lay) (sz : Nat) (f : Nat → va_E) (M : Nat) (x : Nat) (y : Nat) (hL : LO g) (t_M : g.tg M = 11) (hI : IV g f) (hx9 : x < 80) (hy9 : y < 80) : Met l ⟨"BigRunnerModel", "divide", "(II)V"⟩ [Cond.code ⟨"BigRunnerModel", "divide", "(II)V"⟩ prog_12_method_34_code 6 none] ({ frames := 2, cells := 0, slots := 0, locals := 53 }) (va_Pc [.ref M, .int (nI x), .int (nI y)] (pc_in g sz f)) (va_Qv (fun f1 => (IV g f1) ∧ (un [64, 65] g f f1)) (pc_out g sz) (pc_A g sz)) 0 0 (pc_A g sz) := by
  refine pe_ofW (cc := prog_12_method_34_code) (maxL := 6) (ret := none) (lv := [(0, .ref M), (1, .int (nI x)), (2, .int (nI y))]) (by decide) (Nat.le_of_ble_eq_true rfl) rfl ?_
  intro p e s m args below meth c ls hx hb hr hml hlocks hown hB hP hK hD hsz hS hl
  subst hsz
  have hu : un [64, 65] g f f := un.rf
  refine lv_bipush (v := nI 19) hx hb d_M_divide_0 (by decide) ?_
  refine lv_istore_n (lv' := [(3, .int (nI 19)), (0, .ref M), (1, .int (nI x)), (2, .int (nI y))]) hx hb d_M_divide_2 rfl hl (by decide) rfl (fun ls hl => ?_)
  have hl : lv_has ls 6 [(3, .int (nI 20 - nI 1)), (0, .ref M), (1, .int (nI x)), (2, .int (nI y))] := by rw [show nI 20 - nI 1 = nI 19 by decide]; exact hl
  have lp1 : ∀ (k3 : Nat) (j : Nat) (f2 : Nat → va_E) (H : Heap) (locs : List Loc) (ls : Array Slot), (j < k3) → (j ≤ 20) → IV g f2 → un [64, 65] g f f2 → lv_has ls 6 [(3, .int (nI j - nI 1)), (0, .ref M), (1, .int (nI x)), (2, .int (nI y))] → va_P g.D vcl (va_pl g.LP f2) H → va_D (pc_A g s.heap.size) (va_pl g.LP f2) → va_S (pc_A g s.heap.size) s.heap H locs → W p l e ({ frames := 2, cells := 0, slots := 0, locals := 53 }) s m args below meth c H locs 0 0 (MQ below (va_Qv (fun f1 => (IV g f1) ∧ (un [64, 65] g f f1)) (pc_out g s.heap.size) (pc_A g s.heap.size)) args s 0 0 (pc_A g s.heap.size)) (F0 m 3 ls []) := by
    intro k3
    induction k3 with
    | zero => intros; exfalso; omega
    | succ k3 ih4 =>
      intro j f2 H locs ls hfu5 hj hI6 hv7 hl hP hD hS
      have hu := hu.tr hv7 (by decide)
      cases j with
      | zero =>
        have hl : lv_has ls 6 [(3, .int (-1)), (0, .ref M), (1, .int (nI x)), (2, .int (nI y))] := by rw [show nI 0 - nI 1 = (-1 : Int32) by decide] at hl; exact hl
        refine lv_iload_n hx hb d_M_divide_3 rfl (lv_at hl 0 rfl) ?_
        refine lv_if_lt (tgt := 126) hx hb d_M_divide_4 (by decide) (fun b8 => ?_) (fun b8 => ?_)
        · skip
          exact pe_vret hx hb hr hlocks hK hP hD hS d_M_divide_126 ⟨hI6, hu⟩
        · skip
          exact absurd (by decide) b8
      | succ j =>
        have hl : lv_has ls 6 [(3, .int (nI j)), (0, .ref M), (1, .int (nI x)), (2, .int (nI y))] := by rw [nI_pr1] at hl; exact hl
        refine lv_iload_n hx hb d_M_divide_3 rfl (lv_at hl 0 rfl) ?_
        refine lv_if_lt (tgt := 126) hx hb d_M_divide_4 (by decide) (fun b9 => ?_) (fun b9 => ?_)
        · skip
          replace b9 := (nI_ltI (a := j) (b := 0) (by omega) (by omega)).mp b9
          exfalso; omega
        · skip
          replace b9 := mt (nI_ltI (a := j) (b := 0) (by omega) (by omega)).mpr b9
          refine lv_bipush (v := nI 22) hx hb d_M_divide_7 (by decide) ?_
          refine lv_istore (lv' := [(4, .int (nI 22)), (3, .int (nI j)), (0, .ref M), (1, .int (nI x)), (2, .int (nI y))]) hx hb d_M_divide_9 hl (by decide) rfl (fun ls hl => ?_)
          have lp10 : ∀ (k12 : Nat) (q : Nat) (f11 : Nat → va_E) (H : Heap) (locs : List Loc) (ls : Array Slot), (q < k12) → (q ≤ 22) → IV g f11 → un [65] g f2 f11 → lv_has ls 6 [(4, .int (nI q)), (3, .int (nI j)), (0, .ref M), (1, .int (nI x)), (2, .int (nI y))] → va_P g.D vcl (va_pl g.LP f11) H → va_D (pc_A g s.heap.size) (va_pl g.LP f11) → va_S (pc_A g s.heap.size) s.heap H locs → W p l e ({ frames := 2, cells := 0, slots := 0, locals := 53 }) s m args below meth c H locs 0 0 (MQ below (va_Qv (fun f1 => (IV g f1) ∧ (un [64, 65] g f f1)) (pc_out g s.heap.size) (pc_A g s.heap.size)) args s 0 0 (pc_A g s.heap.size)) (F0 m 11 ls []) := by
            intro k12
            induction k12 with
            | zero => intros; exfalso; omega
            | succ k12 ih13 =>
              intro q f11 H locs ls hfu14 hq hI15 hv16 hl hP hD hS
              have hu := hu.tr hv16 (by decide)
              have hv7 := hv7.tr hv16 (by decide)
              refine lv_iload hx hb d_M_divide_11 (lv_at hl 0 rfl) ?_
              refine lv_if_le (tgt := 38) hx hb d_M_divide_13 (by decide) (fun b17 => ?_) (fun b17 => ?_)
              · skip
                replace b17 := (nI_leI (a := q) (b := 0) (by omega) (by omega)).mp b17
                refine lv_aload_n hx hb d_M_divide_38 rfl (lv_at hl 2 rfl) ?_
                obtain ⟨th_19, n_20, dr_21, sz_22, ix_23, dp_24, wt_25, op_26, tp_27, wa_28, gi_29, pc_30, st_31, tr_32, sp_33, ma_34, lg_35, du_36, e18, c37, c38, c39, c40, c41, c42, c43, c44, c45, c46, c47, c48, c49, c50, c51⟩ := oc_11.of t_M (hI15.1 M)
                refine pf_get (v := .ref (g.lk M 34)) (C := "BigRunnerModel") (T := FT10) (N := 45) hx hb (hw10 hB _) (fun _ h9 => h9) hown hK hP (lo_in hL t_M (by decide)) e18 rfl 34 (by decide) (wd_981 hB _) rfl d_M_divide_39 ?_
                refine lv_iconst (v := nI 0) hx hb d_M_divide_42 (by decide) ?_
                refine lv_aload_n hx hb d_M_divide_43 rfl (lv_at hl 2 rfl) ?_
                refine lv_iload_n hx hb d_M_divide_44 rfl (lv_at hl 3 rfl) ?_
                refine lv_iload_n hx hb d_M_divide_45 rfl (lv_at hl 1 rfl) ?_
                refine pcc_i (va_runV (C := "BigRunnerModel") (As := [.int (nI x), .int (nI j)]) (rest := [.int (nI 0), .ref (g.lk M 34)]) ⟨hx, hb, hml, hown, tb_nil⟩ (m_limb l g H.size f11 M x j hL t_M hI15.1 (by omega) (by omega)) ⟨(callB_of 2 (tb_one (wd_1232 hB _)) tb_good1 rfl rfl rfl (wd_82 hB _) (wd_1229 hB _) (by decide +kernel) ⟨Nat.le_of_ble_eq_true rfl, Nat.le_of_ble_eq_true rfl⟩), (wd_1231 hB _), (wd_64 hB _)⟩ ⟨pe_bl, pg_recv (ci := 10) hK hP (lo_in hL t_M (by decide)) e18 rfl, pe_pre hB hK hP hD⟩ rfl rfl hl.1 rfl (lv_room (Nat.le_of_ble_eq_true rfl)) d_M_divide_46 ⟨Nat.le_of_ble_eq_true rfl, Nat.le_of_ble_eq_true rfl⟩) hS (fun r52 f53 H locs hq54 hP hD hS => ?_)
                subst hq54
                obtain ⟨h_56, e55⟩ := oc_65.of (lo_k11_34 hL _ t_M) (hI15.1 (g.lk M 34))
                refine pf_iast (i := 0) hx hb hK hP hD hS (lo_in hL (lo_k11_34 hL _ t_M) (by decide)) e55 (lo_t65 hL _ (lo_k11_34 hL _ t_M)) (by omega) (by decide) d_M_divide_49 (fun f58 H locs e59 k60 hP hD hS => ?_)
                have e18 := (k60 M (tg_ne t_M (lo_k11_34 hL _ t_M) (by decide))).trans e18
                have hu := hu.st k60 (lo_k11_34 hL _ t_M) (by decide)
                have hv7 := hv7.st k60 (lo_k11_34 hL _ t_M) (by decide)
                have hv16 := hv16.st k60 (lo_k11_34 hL _ t_M) (by decide)
                have hk61 : ∀ b, b ≠ (g.lk M 34) → f58 b = f11 b := k60
                refine lv_iconst (v := nI 0) hx hb d_M_divide_50 (by decide) ?_
                refine lv_istore (lv' := [(4, .int (nI 0)), (3, .int (nI j)), (0, .ref M), (1, .int (nI x)), (2, .int (nI y))]) hx hb d_M_divide_51 hl (by decide) rfl (fun ls hl => ?_)
                refine lv_ldc (v := 524288) hx hb hown (wd_1250 hB _) d_M_divide_53 ?_
                refine lv_topi (fun z_ hz_ => ?_)
                obtain rfl : z_ = nI 524288 := hz_
                refine lv_istore (lv' := [(5, .int (nI 524288)), (4, .int (nI 0)), (3, .int (nI j)), (0, .ref M), (1, .int (nI x)), (2, .int (nI y))]) hx hb d_M_divide_55 hl (by decide) rfl (fun ls hl => ?_)
                have hI62 := iv_1 hI15 hL (lo_k11_34 hL _ t_M) (by decide) hk61 (oc_65.mk (lo_k11_34 hL _ t_M) (⟨_, e59⟩))
                have lp63 : ∀ (k65 : Nat) (ff : Nat) (bt : Nat) (f64 : Nat → va_E) (H : Heap) (locs : List Loc) (ls : Array Slot), (bt < k65) → (ff < 1000000) → (bt ≤ 524288) → IV g f64 → un [65] g f58 f64 → lv_has ls 6 [(5, .int (nI bt)), (4, .int (nI ff)), (3, .int (nI j)), (0, .ref M), (1, .int (nI x)), (2, .int (nI y))] → va_P g.D vcl (va_pl g.LP f64) H → va_D (pc_A g s.heap.size) (va_pl g.LP f64) → va_S (pc_A g s.heap.size) s.heap H locs → W p l e ({ frames := 2, cells := 0, slots := 0, locals := 53 }) s m args below meth c H locs 0 0 (MQ below (va_Qv (fun f1 => (IV g f1) ∧ (un [64, 65] g f f1)) (pc_out g s.heap.size) (pc_A g s.heap.size)) args s 0 0 (pc_A g s.heap.size)) (F0 m 57 ls []) := by
                  intro k65
                  induction k65 with
                  | zero => intros; exfalso; omega
                  | succ k65 ih66 =>
                    intro ff bt f64 H locs ls hfu67 hff hbt hI68 hv69 hl hP hD hS
                    have e18 := hv69.at t_M (by decide) e18
                    have hu := hu.tr hv69 (by decide)
                    have hv7 := hv7.tr hv69 (by decide)
                    have hv16 := hv16.tr hv69 (by decide)
                    refine lv_iload hx hb d_M_divide_57 (lv_at hl 0 rfl) ?_
                    refine lv_if_le (tgt := 102) hx hb d_M_divide_59 (by decide) (fun b70 => ?_) (fun b70 => ?_)
                    · skip
                      replace b70 := (nI_leI (a := bt) (b := 0) (by omega) (by omega)).mp b70
                      refine lv_aload_n hx hb d_M_divide_102 rfl (lv_at hl 3 rfl) ?_
                      refine lv_iload_n hx hb d_M_divide_103 rfl (lv_at hl 5 rfl) ?_
                      refine lv_iload hx hb d_M_divide_104 (lv_at hl 1 rfl) ?_
                      refine lv_iconst (v := nI 1) hx hb d_M_divide_106 (by decide) ?_
                      refine pcc_i (va_runV (C := "BigRunnerModel") (As := [.int (nI y), .int (nI ff), .int (nI 1)]) (rest := []) ⟨hx, hb, hml, hown, tb_nil⟩ (m_holds l g H.size f64 M y ((nI ff)) ((nI 1)) hL t_M hI68 (by omega)) ⟨(callB_of 3 (tb_one (wd_1254 hB _)) tb_good1 rfl rfl rfl (wd_82 hB _) (wd_1251 hB _) (by decide +kernel) ⟨Nat.le_of_ble_eq_true rfl, Nat.le_of_ble_eq_true rfl⟩), (wd_1253 hB _), (wd_69 hB _)⟩ ⟨pe_bl, pg_recv (ci := 10) hK hP (lo_in hL t_M (by decide)) e18 rfl, pe_pre hB hK hP hD⟩ rfl rfl hl.1 rfl (lv_room (Nat.le_of_ble_eq_true rfl)) d_M_divide_107 ⟨Nat.le_of_ble_eq_true rfl, Nat.le_of_ble_eq_true rfl⟩) hS (fun r71 f72 H locs hq73 hP hD hS => ?_)
                      obtain ⟨bo_74, hI1_75, hu1_76⟩ := hq73
                      have hu := hu.tr hu1_76 (by decide)
                      have hv7 := hv7.tr hu1_76 (by decide)
                      have hv16 := hv16.tr hu1_76 (by decide)
                      have hv69 := hv69.tr hu1_76 (by decide)
                      have e18 := hu1_76.at t_M (by decide) e18
                      refine lv_istore (lv' := [(5, .int r71), (4, .int (nI ff)), (3, .int (nI j)), (0, .ref M), (1, .int (nI x)), (2, .int (nI y))]) hx hb d_M_divide_110 hl (by decide) rfl (fun ls hl => ?_)
                      refine lv_aload_n hx hb d_M_divide_112 rfl (lv_at hl 3 rfl) ?_
                      refine pf_get (v := .ref (g.lk M 33)) (C := "BigRunnerModel") (T := FT10) (N := 45) hx hb (hw10 hB _) (fun _ h9 => h9) hown hK hP (lo_in hL t_M (by decide)) e18 rfl 33 (by decide) (wd_980 hB _) rfl d_M_divide_113 ?_
                      refine lv_iload_n hx hb d_M_divide_116 rfl (lv_at hl 2 rfl) ?_
                      refine lv_iload hx hb d_M_divide_117 (lv_at hl 1 rfl) ?_
                      obtain ⟨h_78, e77⟩ := oc_64.of (lo_k11_33 hL _ t_M) (hI1_75.1 (g.lk M 33))
                      refine pf_iast (i := j) hx hb hK hP hD hS (lo_in hL (lo_k11_33 hL _ t_M) (by decide)) e77 (lo_t64 hL _ (lo_k11_33 hL _ t_M)) (by omega) (by decide) d_M_divide_119 (fun f80 H locs e81 k82 hP hD hS => ?_)
                      have e18 := (k82 M (tg_ne t_M (lo_k11_33 hL _ t_M) (by decide))).trans e18
                      have hu := hu.st k82 (lo_k11_33 hL _ t_M) (by decide)
                      have hv7 := hv7.st k82 (lo_k11_33 hL _ t_M) (by decide)
                      have hk83 : ∀ b, b ≠ (g.lk M 33) → f80 b = f72 b := k82
                      refine lv_iinc (k := 2) (v := nI j - nI 1) (lv' := [(3, .int (nI j - nI 1)), (5, .int r71), (4, .int (nI ff)), (0, .ref M), (1, .int (nI x)), (2, .int (nI y))]) hx hb d_M_divide_120 hl rfl (by rw [Int32.sub_eq_add_neg]; rfl) (by decide) rfl (fun ls hl => ?_)
                      refine lv_goto (tgt := 3) hx hb d_M_divide_123 (by decide) ?_
                      have hI84 := iv_1 hI1_75 hL (lo_k11_33 hL _ t_M) (by decide) hk83 (oc_64.mk (lo_k11_33 hL _ t_M) (⟨_, e81⟩))
                      have hl : lv_has ls 6 [(3, .int (nI j - nI 1)), (0, .ref M), (1, .int (nI x)), (2, .int (nI y))] := lv_sub hl [0, 3, 4, 5] rfl
                      exact ih4 j f80 H locs ls (by omega) (by omega) hI84 hv7 hl hP hD hS
                    · skip
                      replace b70 := mt (nI_leI (a := bt) (b := 0) (by omega) (by omega)).mpr b70
                      refine lv_iload hx hb d_M_divide_62 (lv_at hl 1 rfl) ?_
                      refine lv_iload hx hb d_M_divide_64 (lv_at hl 0 rfl) ?_
                      refine pf_iaddN (x := ff) (y := bt) hx hb d_M_divide_66 ?_
                      refine lv_ldc (v := 1000000) hx hb hown (wd_1212 hB _) d_M_divide_67 ?_
                      refine lv_topi (fun z_ hz_ => ?_)
                      obtain rfl : z_ = nI 1000000 := hz_
                      refine lv_icmp_ge (tgt := 93) hx hb d_M_divide_69 (by decide) (fun b85 => ?_) (fun b85 => ?_)
                      · skip
                        replace b85 := (nI_leI (a := 1000000) (b := ff + bt) (by omega) (by omega)).mp b85
                        refine lv_iload hx hb d_M_divide_93 (lv_at hl 0 rfl) ?_
                        refine lv_iconst (v := nI 2) hx hb d_M_divide_95 (by decide) ?_
                        refine pf_idivN (x := bt) (y := 2) hx hb (by omega) (by omega) (by omega) d_M_divide_96 ?_
                        refine lv_istore (lv' := [(5, .int (nI (bt / 2))), (4, .int (nI ff)), (3, .int (nI j)), (0, .ref M), (1, .int (nI x)), (2, .int (nI y))]) hx hb d_M_divide_97 hl (by decide) rfl (fun ls hl => ?_)
                        refine lv_goto (tgt := 57) hx hb d_M_divide_99 (by decide) ?_
                        exact ih66 ff (bt / 2) f64 H locs ls (by omega) (by omega) (by omega) hI68 hv69 hl hP hD hS
                      · skip
                        replace b85 := mt (nI_leI (a := 1000000) (b := ff + bt) (by omega) (by omega)).mpr b85
                        refine lv_aload_n hx hb d_M_divide_72 rfl (lv_at hl 3 rfl) ?_
                        refine lv_iload_n hx hb d_M_divide_73 rfl (lv_at hl 5 rfl) ?_
                        refine lv_iload hx hb d_M_divide_74 (lv_at hl 1 rfl) ?_
                        refine lv_iload hx hb d_M_divide_76 (lv_at hl 0 rfl) ?_
                        refine pf_iaddN (x := ff) (y := bt) hx hb d_M_divide_78 ?_
                        refine lv_iconst (v := nI 0) hx hb d_M_divide_79 (by decide) ?_
                        refine pcc_i (va_runV (C := "BigRunnerModel") (As := [.int (nI y), .int (nI (ff + bt)), .int (nI 0)]) (rest := []) ⟨hx, hb, hml, hown, tb_nil⟩ (m_holds l g H.size f64 M y ((nI (ff + bt))) ((nI 0)) hL t_M hI68 (by omega)) ⟨(callB_of 3 (tb_one (wd_1254 hB _)) tb_good1 rfl rfl rfl (wd_82 hB _) (wd_1251 hB _) (by decide +kernel) ⟨Nat.le_of_ble_eq_true rfl, Nat.le_of_ble_eq_true rfl⟩), (wd_1253 hB _), (wd_69 hB _)⟩ ⟨pe_bl, pg_recv (ci := 10) hK hP (lo_in hL t_M (by decide)) e18 rfl, pe_pre hB hK hP hD⟩ rfl rfl hl.1 rfl (lv_room (Nat.le_of_ble_eq_true rfl)) d_M_divide_80 ⟨Nat.le_of_ble_eq_true rfl, Nat.le_of_ble_eq_true rfl⟩) hS (fun r86 f87 H locs hq88 hP hD hS => ?_)
                        obtain ⟨bo_89, hI1_90, hu1_91⟩ := hq88
                        have hu := hu.tr hu1_91 (by decide)
                        have hv7 := hv7.tr hu1_91 (by decide)
                        have hv16 := hv16.tr hu1_91 (by decide)
                        have hv69 := hv69.tr hu1_91 (by decide)
                        have e18 := hu1_91.at t_M (by decide) e18
                        refine lv_if_eq (tgt := 93) hx hb d_M_divide_83 (by decide) (fun b92 => ?_) (fun b92 => ?_)
                        · skip
                          have hr93 : r86 = nI 0 := b92
                          refine lv_iload hx hb d_M_divide_93 (lv_at hl 0 rfl) ?_
                          refine lv_iconst (v := nI 2) hx hb d_M_divide_95 (by decide) ?_
                          refine pf_idivN (x := bt) (y := 2) hx hb (by omega) (by omega) (by omega) d_M_divide_96 ?_
                          refine lv_istore (lv' := [(5, .int (nI (bt / 2))), (4, .int (nI ff)), (3, .int (nI j)), (0, .ref M), (1, .int (nI x)), (2, .int (nI y))]) hx hb d_M_divide_97 hl (by decide) rfl (fun ls hl => ?_)
                          refine lv_goto (tgt := 57) hx hb d_M_divide_99 (by decide) ?_
                          exact ih66 ff (bt / 2) f87 H locs ls (by omega) (by omega) (by omega) hI1_90 hv69 hl hP hD hS
                        · skip
                          have hr94 : r86 = nI 1 := (bl_1 bo_89 b92)
                          refine lv_iload hx hb d_M_divide_86 (lv_at hl 1 rfl) ?_
                          refine lv_iload hx hb d_M_divide_88 (lv_at hl 0 rfl) ?_
                          refine pf_iaddN (x := ff) (y := bt) hx hb d_M_divide_90 ?_
                          refine lv_istore (lv' := [(4, .int (nI (ff + bt))), (5, .int (nI bt)), (3, .int (nI j)), (0, .ref M), (1, .int (nI x)), (2, .int (nI y))]) hx hb d_M_divide_91 hl (by decide) rfl (fun ls hl => ?_)
                          refine lv_iload hx hb d_M_divide_93 (lv_at hl 1 rfl) ?_
                          refine lv_iconst (v := nI 2) hx hb d_M_divide_95 (by decide) ?_
                          refine pf_idivN (x := bt) (y := 2) hx hb (by omega) (by omega) (by omega) d_M_divide_96 ?_
                          refine lv_istore (lv' := [(5, .int (nI (bt / 2))), (4, .int (nI (ff + bt))), (3, .int (nI j)), (0, .ref M), (1, .int (nI x)), (2, .int (nI y))]) hx hb d_M_divide_97 hl (by decide) rfl (fun ls hl => ?_)
                          refine lv_goto (tgt := 57) hx hb d_M_divide_99 (by decide) ?_
                          exact ih66 (ff + bt) (bt / 2) f87 H locs ls (by omega) (by omega) (by omega) hI1_90 hv69 hl hP hD hS
                exact lp63 (524288 + 1) 0 524288 f58 H locs ls (by omega) (by omega) (by omega) hI62 un.rf hl hP hD hS
              · skip
                replace b17 := mt (nI_leI (a := q) (b := 0) (by omega) (by omega)).mpr b17
                refine lv_aload_n hx hb d_M_divide_16 rfl (lv_at hl 2 rfl) ?_
                obtain ⟨th_96, n_97, dr_98, sz_99, ix_100, dp_101, wt_102, op_103, tp_104, wa_105, gi_106, pc_107, st_108, tr_109, sp_110, ma_111, lg_112, du_113, e95, c114, c115, c116, c117, c118, c119, c120, c121, c122, c123, c124, c125, c126, c127, c128⟩ := oc_11.of t_M (hI15.1 M)
                refine pf_get (v := .ref (g.lk M 34)) (C := "BigRunnerModel") (T := FT10) (N := 45) hx hb (hw10 hB _) (fun _ h9 => h9) hown hK hP (lo_in hL t_M (by decide)) e95 rfl 34 (by decide) (wd_981 hB _) rfl d_M_divide_17 ?_
                refine lv_iload hx hb d_M_divide_20 (lv_at hl 0 rfl) ?_
                refine lv_aload_n hx hb d_M_divide_22 rfl (lv_at hl 2 rfl) ?_
                refine pf_get (v := .ref (g.lk M 34)) (C := "BigRunnerModel") (T := FT10) (N := 45) hx hb (hw10 hB _) (fun _ h9 => h9) hown hK hP (lo_in hL t_M (by decide)) e95 rfl 34 (by decide) (wd_981 hB _) rfl d_M_divide_23 ?_
                refine lv_iload hx hb d_M_divide_26 (lv_at hl 0 rfl) ?_
                refine lv_iconst (v := nI 1) hx hb d_M_divide_28 (by decide) ?_
                refine pf_isubN (x := q) (y := 1) hx hb (by omega) d_M_divide_29 ?_
                obtain ⟨h_130, e129⟩ := oc_65.of (lo_k11_34 hL _ t_M) (hI15.1 (g.lk M 34))
                refine pf_iald (i := q - 1) hx hb hK hP (lo_in hL (lo_k11_34 hL _ t_M) (by decide)) e129 (lo_t65 hL _ (lo_k11_34 hL _ t_M)) (by omega) (by decide) d_M_divide_30 ?_
                refine lv_topi (fun iv132 _ => ?_)
                refine pf_iast (i := q) hx hb hK hP hD hS (lo_in hL (lo_k11_34 hL _ t_M) (by decide)) e129 (lo_t65 hL _ (lo_k11_34 hL _ t_M)) (by omega) (by decide) d_M_divide_31 (fun f133 H locs e134 k135 hP hD hS => ?_)
                have e95 := (k135 M (tg_ne t_M (lo_k11_34 hL _ t_M) (by decide))).trans e95
                have hu := hu.st k135 (lo_k11_34 hL _ t_M) (by decide)
                have hv7 := hv7.st k135 (lo_k11_34 hL _ t_M) (by decide)
                have hv16 := hv16.st k135 (lo_k11_34 hL _ t_M) (by decide)
                have hk136 : ∀ b, b ≠ (g.lk M 34) → f133 b = f11 b := k135
                refine lv_iinc (k := 0) (v := nI (q - 1)) (lv' := [(4, .int (nI (q - 1))), (3, .int (nI j)), (0, .ref M), (1, .int (nI x)), (2, .int (nI y))]) hx hb d_M_divide_32 hl rfl (by rw [← pk_sub (show 1 ≤ q by omega), Int32.sub_eq_add_neg]; rfl) (by decide) rfl (fun ls hl => ?_)
                refine lv_goto (tgt := 11) hx hb d_M_divide_35 (by decide) ?_
                have hI137 := iv_1 hI15 hL (lo_k11_34 hL _ t_M) (by decide) hk136 (oc_65.mk (lo_k11_34 hL _ t_M) (⟨_, e134⟩))
                exact ih13 (q - 1) f133 H locs ls (by omega) (by omega) hI137 hv16 hl hP hD hS
          exact lp10 (22 + 1) 22 f2 H locs ls (by omega) (by omega) hI6 un.rf hl hP hD hS
  exact lp1 (20 + 1) 20 f s.heap [] ls (by omega) (by omega) hI un.rf hl hP hD hS
set_option maxHeartbeats 4000000 in
set_option maxRecDepth 100000 in
theorem m_digitsOf64 (l : Launch) (g : Lay) (sz : Nat) (f : Nat → va_E) (A : Nat) (fr9 : Nat) (n9 : Nat) (hL : LO g) (t_A : g.tg A = 64) (hI : OC g f) (hfn : fr9 + n9 ≤ 44) : Met l ⟨"BigRunnerModel", "digitsOf", "([III)I"⟩ [Cond.code ⟨"BigRunnerModel", "digitsOf", "([III)I"⟩ prog_12_method_35_code 7 (some .int)] ({ frames := 0, cells := 0, slots := 0, locals := 0 }) (va_Pc [.ref A, .int (nI fr9), .int (nI n9)] (pc_in g sz f)) (va_Qi (fun r f1 => (f = f1)) (pc_out g sz) (pc_A g sz)) 0 0 (pc_A g sz) := by
  refine pe_ofW (cc := prog_12_method_35_code) (maxL := 7) (ret := (some .int)) (lv := [(0, .ref A), (1, .int (nI fr9)), (2, .int (nI n9))]) (by decide) (Nat.le_of_ble_eq_true rfl) rfl ?_
  intro p e s m args below meth c ls hx hb hr hml hlocks hown hB hP hK hD hsz hS hl
  subst hsz
  refine lv_iconst (v := nI 1) hx hb d_M_digitsOf_0 (by decide) ?_
  refine lv_istore_n (lv' := [(3, .int (nI 1)), (0, .ref A), (1, .int (nI fr9)), (2, .int (nI n9))]) hx hb d_M_digitsOf_1 rfl hl (by decide) rfl (fun ls hl => ?_)
  refine lv_iconst (v := nI 0) hx hb d_M_digitsOf_2 (by decide) ?_
  refine lv_istore (lv' := [(4, .int (nI 0)), (3, .int (nI 1)), (0, .ref A), (1, .int (nI fr9)), (2, .int (nI n9))]) hx hb d_M_digitsOf_3 hl (by decide) rfl (fun ls hl => ?_)
  have lp1 : ∀ (k3 : Nat) (dg9 : Int32) (i : Nat) (H : Heap) (locs : List Loc) (ls : Array Slot), (n9 < i + k3) → (i ≤ n9) → lv_has ls 7 [(4, .int (nI i)), (3, .int dg9), (0, .ref A), (1, .int (nI fr9)), (2, .int (nI n9))] → va_P g.D vcl (va_pl g.LP f) H → va_D (pc_A g s.heap.size) (va_pl g.LP f) → va_S (pc_A g s.heap.size) s.heap H locs → W p l e ({ frames := 0, cells := 0, slots := 0, locals := 0 }) s m args below meth c H locs 0 0 (MQ below (va_Qi (fun r f1 => (f = f1)) (pc_out g s.heap.size) (pc_A g s.heap.size)) args s 0 0 (pc_A g s.heap.size)) (F0 m 5 ls []) := by
    intro k3
    induction k3 with
    | zero => intros; exfalso; omega
    | succ k3 ih4 =>
      intro dg9 i H locs ls hfu5 hi hl hP hD hS
      refine lv_iload hx hb d_M_digitsOf_5 (lv_at hl 0 rfl) ?_
      refine lv_iload_n hx hb d_M_digitsOf_7 rfl (lv_at hl 4 rfl) ?_
      refine lv_icmp_ge (tgt := 55) hx hb d_M_digitsOf_8 (by decide) (fun b8 => ?_) (fun b8 => ?_)
      · skip
        replace b8 := (nI_leI (a := n9) (b := i) (by omega) (by omega)).mp b8
        refine lv_iload_n hx hb d_M_digitsOf_55 rfl (lv_at hl 1 rfl) ?_
        exact pe_iret hx hb hr hlocks hK hP hD hS d_M_digitsOf_56 rfl
      · skip
        replace b8 := mt (nI_leI (a := n9) (b := i) (by omega) (by omega)).mpr b8
        refine lv_aload_n hx hb d_M_digitsOf_11 rfl (lv_at hl 2 rfl) ?_
        refine lv_iload_n hx hb d_M_digitsOf_12 rfl (lv_at hl 3 rfl) ?_
        refine lv_iload hx hb d_M_digitsOf_13 (lv_at hl 0 rfl) ?_
        refine pf_iaddN (x := fr9) (y := i) hx hb d_M_digitsOf_15 ?_
        obtain ⟨h_10, e9⟩ := oc_64.of t_A (hI A)
        refine pf_iald (i := fr9 + i) hx hb hK hP (lo_in hL t_A (by decide)) e9 (lo_t64 hL _ t_A) (by omega) (by decide) d_M_digitsOf_16 ?_
        refine lv_topi (fun iv12 _ => ?_)
        refine lv_istore (lv' := [(5, .int iv12), (4, .int (nI i)), (3, .int dg9), (0, .ref A), (1, .int (nI fr9)), (2, .int (nI n9))]) hx hb d_M_digitsOf_17 hl (by decide) rfl (fun ls hl => ?_)
        refine lv_iconst (v := nI 1) hx hb d_M_digitsOf_19 (by decide) ?_
        refine lv_istore (lv' := [(6, .int (nI 1)), (5, .int iv12), (4, .int (nI i)), (3, .int dg9), (0, .ref A), (1, .int (nI fr9)), (2, .int (nI n9))]) hx hb d_M_digitsOf_20 hl (by decide) rfl (fun ls hl => ?_)
        by_cases hz : iv12 < 0
        · skip
          refine lv_iload hx hb d_M_digitsOf_22 (lv_at hl 1 rfl) ?_
          refine lv_if_le (tgt := 49) hx hb d_M_digitsOf_24 (by decide) (fun b13 => ?_) (fun b13 => ?_)
          · skip
            refine lv_iinc (k := 2) (v := nI (i + 1)) (lv' := [(4, .int (nI (i + 1))), (6, .int (nI 1)), (5, .int iv12), (3, .int dg9), (0, .ref A), (1, .int (nI fr9)), (2, .int (nI n9))]) hx hb d_M_digitsOf_49 hl rfl (by rw [nI_succ]; rfl) (by decide) rfl (fun ls hl => ?_)
            refine lv_goto (tgt := 5) hx hb d_M_digitsOf_52 (by decide) ?_
            have hl : lv_has ls 7 [(4, .int (nI (i + 1))), (3, .int dg9), (0, .ref A), (1, .int (nI fr9)), (2, .int (nI n9))] := lv_sub hl [0, 3, 4, 5, 6] rfl
            exact ih4 dg9 (i + 1) H locs ls (by omega) (by omega) hl hP hD hS
          · skip
            exact absurd (Int32.le_of_lt hz) b13
        · skip
          obtain ⟨q, hq, rfl⟩ := nI_of hz
          have lp14 : ∀ (k16 : Nat) (dg8 : Int32) (q : Nat) (kk : Int32) (H : Heap) (locs : List Loc) (ls : Array Slot), (q < k16) → (q < 2 ^ 31) → lv_has ls 7 [(6, .int kk), (5, .int (nI q)), (4, .int (nI i)), (3, .int dg8), (0, .ref A), (1, .int (nI fr9)), (2, .int (nI n9))] → va_P g.D vcl (va_pl g.LP f) H → va_D (pc_A g s.heap.size) (va_pl g.LP f) → va_S (pc_A g s.heap.size) s.heap H locs → W p l e ({ frames := 0, cells := 0, slots := 0, locals := 0 }) s m args below meth c H locs 0 0 (MQ below (va_Qi (fun r f1 => (f = f1)) (pc_out g s.heap.size) (pc_A g s.heap.size)) args s 0 0 (pc_A g s.heap.size)) (F0 m 22 ls []) := by
            intro k16
            induction k16 with
            | zero => intros; exfalso; omega
            | succ k16 ih17 =>
              intro dg8 q kk H locs ls hfu18 hq hl hP hD hS
              refine lv_iload hx hb d_M_digitsOf_22 (lv_at hl 1 rfl) ?_
              refine lv_if_le (tgt := 49) hx hb d_M_digitsOf_24 (by decide) (fun b21 => ?_) (fun b21 => ?_)
              · skip
                replace b21 := (nI_leI (a := q) (b := 0) (by omega) (by omega)).mp b21
                refine lv_iinc (k := 2) (v := nI (i + 1)) (lv' := [(4, .int (nI (i + 1))), (6, .int kk), (5, .int (nI q)), (3, .int dg8), (0, .ref A), (1, .int (nI fr9)), (2, .int (nI n9))]) hx hb d_M_digitsOf_49 hl rfl (by rw [nI_succ]; rfl) (by decide) rfl (fun ls hl => ?_)
                refine lv_goto (tgt := 5) hx hb d_M_digitsOf_52 (by decide) ?_
                have hl : lv_has ls 7 [(4, .int (nI (i + 1))), (3, .int dg8), (0, .ref A), (1, .int (nI fr9)), (2, .int (nI n9))] := lv_sub hl [0, 3, 4, 5, 6] rfl
                exact ih4 dg8 (i + 1) H locs ls (by omega) (by omega) hl hP hD hS
              · skip
                replace b21 := mt (nI_leI (a := q) (b := 0) (by omega) (by omega)).mpr b21
                refine lv_bipush (v := nI 6) hx hb d_M_digitsOf_27 (by decide) ?_
                refine lv_iload hx hb d_M_digitsOf_29 (lv_at hl 2 rfl) ?_
                refine pf_imulN (x := 6) (y := i) hx hb d_M_digitsOf_31 ?_
                refine lv_iload hx hb d_M_digitsOf_32 (lv_at hl 0 rfl) ?_
                refine lv_iadd hx hb d_M_digitsOf_34 ?_
                refine lv_topi (fun iv22 _ => ?_)
                refine lv_istore_n (lv' := [(3, .int iv22), (6, .int kk), (5, .int (nI q)), (4, .int (nI i)), (0, .ref A), (1, .int (nI fr9)), (2, .int (nI n9))]) hx hb d_M_digitsOf_35 rfl hl (by decide) rfl (fun ls hl => ?_)
                refine lv_iload hx hb d_M_digitsOf_36 (lv_at hl 2 rfl) ?_
                refine lv_bipush (v := nI 10) hx hb d_M_digitsOf_38 (by decide) ?_
                refine pf_idivN (x := q) (y := 10) hx hb (by omega) (by omega) (by omega) d_M_digitsOf_40 ?_
                refine lv_istore (lv' := [(5, .int (nI (q / 10))), (3, .int iv22), (6, .int kk), (4, .int (nI i)), (0, .ref A), (1, .int (nI fr9)), (2, .int (nI n9))]) hx hb d_M_digitsOf_41 hl (by decide) rfl (fun ls hl => ?_)
                refine lv_iinc (k := 2) (v := kk + 1) (lv' := [(6, .int (kk + 1)), (5, .int (nI (q / 10))), (3, .int iv22), (4, .int (nI i)), (0, .ref A), (1, .int (nI fr9)), (2, .int (nI n9))]) hx hb d_M_digitsOf_43 hl rfl rfl (by decide) rfl (fun ls hl => ?_)
                refine lv_goto (tgt := 22) hx hb d_M_digitsOf_46 (by decide) ?_
                have hl : lv_has ls 7 [(6, .int (kk + 1)), (5, .int (nI (q / 10))), (4, .int (nI i)), (3, .int iv22), (0, .ref A), (1, .int (nI fr9)), (2, .int (nI n9))] := lv_sub hl [0, 1, 3, 2, 4, 5, 6] rfl
                exact ih17 iv22 (q / 10) (kk + 1) H locs ls (by omega) (by omega) hl hP hD hS
          exact lp14 (q + 1) dg9 q (nI 1) H locs ls (by omega) (by omega) hl hP hD hS
  exact lp1 (n9 + 1) (nI 1) 0 s.heap [] ls (by omega) (by omega) hl hP hD hS
set_option maxHeartbeats 4000000 in
set_option maxRecDepth 100000 in
theorem m_digitsOf58 (l : Launch) (g : Lay) (sz : Nat) (f : Nat → va_E) (A : Nat) (fr9 : Nat) (n9 : Nat) (hL : LO g) (t_A : g.tg A = 58) (hI : OC g f) (hfn : fr9 + n9 ≤ 200) : Met l ⟨"BigRunnerModel", "digitsOf", "([III)I"⟩ [Cond.code ⟨"BigRunnerModel", "digitsOf", "([III)I"⟩ prog_12_method_35_code 7 (some .int)] ({ frames := 0, cells := 0, slots := 0, locals := 0 }) (va_Pc [.ref A, .int (nI fr9), .int (nI n9)] (pc_in g sz f)) (va_Qi (fun r f1 => (f = f1)) (pc_out g sz) (pc_A g sz)) 0 0 (pc_A g sz) := by
  refine pe_ofW (cc := prog_12_method_35_code) (maxL := 7) (ret := (some .int)) (lv := [(0, .ref A), (1, .int (nI fr9)), (2, .int (nI n9))]) (by decide) (Nat.le_of_ble_eq_true rfl) rfl ?_
  intro p e s m args below meth c ls hx hb hr hml hlocks hown hB hP hK hD hsz hS hl
  subst hsz
  refine lv_iconst (v := nI 1) hx hb d_M_digitsOf_0 (by decide) ?_
  refine lv_istore_n (lv' := [(3, .int (nI 1)), (0, .ref A), (1, .int (nI fr9)), (2, .int (nI n9))]) hx hb d_M_digitsOf_1 rfl hl (by decide) rfl (fun ls hl => ?_)
  refine lv_iconst (v := nI 0) hx hb d_M_digitsOf_2 (by decide) ?_
  refine lv_istore (lv' := [(4, .int (nI 0)), (3, .int (nI 1)), (0, .ref A), (1, .int (nI fr9)), (2, .int (nI n9))]) hx hb d_M_digitsOf_3 hl (by decide) rfl (fun ls hl => ?_)
  have lp1 : ∀ (k3 : Nat) (dg9 : Int32) (i : Nat) (H : Heap) (locs : List Loc) (ls : Array Slot), (n9 < i + k3) → (i ≤ n9) → lv_has ls 7 [(4, .int (nI i)), (3, .int dg9), (0, .ref A), (1, .int (nI fr9)), (2, .int (nI n9))] → va_P g.D vcl (va_pl g.LP f) H → va_D (pc_A g s.heap.size) (va_pl g.LP f) → va_S (pc_A g s.heap.size) s.heap H locs → W p l e ({ frames := 0, cells := 0, slots := 0, locals := 0 }) s m args below meth c H locs 0 0 (MQ below (va_Qi (fun r f1 => (f = f1)) (pc_out g s.heap.size) (pc_A g s.heap.size)) args s 0 0 (pc_A g s.heap.size)) (F0 m 5 ls []) := by
    intro k3
    induction k3 with
    | zero => intros; exfalso; omega
    | succ k3 ih4 =>
      intro dg9 i H locs ls hfu5 hi hl hP hD hS
      refine lv_iload hx hb d_M_digitsOf_5 (lv_at hl 0 rfl) ?_
      refine lv_iload_n hx hb d_M_digitsOf_7 rfl (lv_at hl 4 rfl) ?_
      refine lv_icmp_ge (tgt := 55) hx hb d_M_digitsOf_8 (by decide) (fun b8 => ?_) (fun b8 => ?_)
      · skip
        replace b8 := (nI_leI (a := n9) (b := i) (by omega) (by omega)).mp b8
        refine lv_iload_n hx hb d_M_digitsOf_55 rfl (lv_at hl 1 rfl) ?_
        exact pe_iret hx hb hr hlocks hK hP hD hS d_M_digitsOf_56 rfl
      · skip
        replace b8 := mt (nI_leI (a := n9) (b := i) (by omega) (by omega)).mpr b8
        refine lv_aload_n hx hb d_M_digitsOf_11 rfl (lv_at hl 2 rfl) ?_
        refine lv_iload_n hx hb d_M_digitsOf_12 rfl (lv_at hl 3 rfl) ?_
        refine lv_iload hx hb d_M_digitsOf_13 (lv_at hl 0 rfl) ?_
        refine pf_iaddN (x := fr9) (y := i) hx hb d_M_digitsOf_15 ?_
        obtain ⟨h_10, e9⟩ := oc_58.of t_A (hI A)
        refine pf_iald (i := fr9 + i) hx hb hK hP (lo_in hL t_A (by decide)) e9 (lo_t58 hL _ t_A) (by omega) (by decide) d_M_digitsOf_16 ?_
        refine lv_topi (fun iv12 _ => ?_)
        refine lv_istore (lv' := [(5, .int iv12), (4, .int (nI i)), (3, .int dg9), (0, .ref A), (1, .int (nI fr9)), (2, .int (nI n9))]) hx hb d_M_digitsOf_17 hl (by decide) rfl (fun ls hl => ?_)
        refine lv_iconst (v := nI 1) hx hb d_M_digitsOf_19 (by decide) ?_
        refine lv_istore (lv' := [(6, .int (nI 1)), (5, .int iv12), (4, .int (nI i)), (3, .int dg9), (0, .ref A), (1, .int (nI fr9)), (2, .int (nI n9))]) hx hb d_M_digitsOf_20 hl (by decide) rfl (fun ls hl => ?_)
        by_cases hz : iv12 < 0
        · skip
          refine lv_iload hx hb d_M_digitsOf_22 (lv_at hl 1 rfl) ?_
          refine lv_if_le (tgt := 49) hx hb d_M_digitsOf_24 (by decide) (fun b13 => ?_) (fun b13 => ?_)
          · skip
            refine lv_iinc (k := 2) (v := nI (i + 1)) (lv' := [(4, .int (nI (i + 1))), (6, .int (nI 1)), (5, .int iv12), (3, .int dg9), (0, .ref A), (1, .int (nI fr9)), (2, .int (nI n9))]) hx hb d_M_digitsOf_49 hl rfl (by rw [nI_succ]; rfl) (by decide) rfl (fun ls hl => ?_)
            refine lv_goto (tgt := 5) hx hb d_M_digitsOf_52 (by decide) ?_
            have hl : lv_has ls 7 [(4, .int (nI (i + 1))), (3, .int dg9), (0, .ref A), (1, .int (nI fr9)), (2, .int (nI n9))] := lv_sub hl [0, 3, 4, 5, 6] rfl
            exact ih4 dg9 (i + 1) H locs ls (by omega) (by omega) hl hP hD hS
          · skip
            exact absurd (Int32.le_of_lt hz) b13
        · skip
          obtain ⟨q, hq, rfl⟩ := nI_of hz
          have lp14 : ∀ (k16 : Nat) (dg8 : Int32) (q : Nat) (kk : Int32) (H : Heap) (locs : List Loc) (ls : Array Slot), (q < k16) → (q < 2 ^ 31) → lv_has ls 7 [(6, .int kk), (5, .int (nI q)), (4, .int (nI i)), (3, .int dg8), (0, .ref A), (1, .int (nI fr9)), (2, .int (nI n9))] → va_P g.D vcl (va_pl g.LP f) H → va_D (pc_A g s.heap.size) (va_pl g.LP f) → va_S (pc_A g s.heap.size) s.heap H locs → W p l e ({ frames := 0, cells := 0, slots := 0, locals := 0 }) s m args below meth c H locs 0 0 (MQ below (va_Qi (fun r f1 => (f = f1)) (pc_out g s.heap.size) (pc_A g s.heap.size)) args s 0 0 (pc_A g s.heap.size)) (F0 m 22 ls []) := by
            intro k16
            induction k16 with
            | zero => intros; exfalso; omega
            | succ k16 ih17 =>
              intro dg8 q kk H locs ls hfu18 hq hl hP hD hS
              refine lv_iload hx hb d_M_digitsOf_22 (lv_at hl 1 rfl) ?_
              refine lv_if_le (tgt := 49) hx hb d_M_digitsOf_24 (by decide) (fun b21 => ?_) (fun b21 => ?_)
              · skip
                replace b21 := (nI_leI (a := q) (b := 0) (by omega) (by omega)).mp b21
                refine lv_iinc (k := 2) (v := nI (i + 1)) (lv' := [(4, .int (nI (i + 1))), (6, .int kk), (5, .int (nI q)), (3, .int dg8), (0, .ref A), (1, .int (nI fr9)), (2, .int (nI n9))]) hx hb d_M_digitsOf_49 hl rfl (by rw [nI_succ]; rfl) (by decide) rfl (fun ls hl => ?_)
                refine lv_goto (tgt := 5) hx hb d_M_digitsOf_52 (by decide) ?_
                have hl : lv_has ls 7 [(4, .int (nI (i + 1))), (3, .int dg8), (0, .ref A), (1, .int (nI fr9)), (2, .int (nI n9))] := lv_sub hl [0, 3, 4, 5, 6] rfl
                exact ih4 dg8 (i + 1) H locs ls (by omega) (by omega) hl hP hD hS
              · skip
                replace b21 := mt (nI_leI (a := q) (b := 0) (by omega) (by omega)).mpr b21
                refine lv_bipush (v := nI 6) hx hb d_M_digitsOf_27 (by decide) ?_
                refine lv_iload hx hb d_M_digitsOf_29 (lv_at hl 2 rfl) ?_
                refine pf_imulN (x := 6) (y := i) hx hb d_M_digitsOf_31 ?_
                refine lv_iload hx hb d_M_digitsOf_32 (lv_at hl 0 rfl) ?_
                refine lv_iadd hx hb d_M_digitsOf_34 ?_
                refine lv_topi (fun iv22 _ => ?_)
                refine lv_istore_n (lv' := [(3, .int iv22), (6, .int kk), (5, .int (nI q)), (4, .int (nI i)), (0, .ref A), (1, .int (nI fr9)), (2, .int (nI n9))]) hx hb d_M_digitsOf_35 rfl hl (by decide) rfl (fun ls hl => ?_)
                refine lv_iload hx hb d_M_digitsOf_36 (lv_at hl 2 rfl) ?_
                refine lv_bipush (v := nI 10) hx hb d_M_digitsOf_38 (by decide) ?_
                refine pf_idivN (x := q) (y := 10) hx hb (by omega) (by omega) (by omega) d_M_digitsOf_40 ?_
                refine lv_istore (lv' := [(5, .int (nI (q / 10))), (3, .int iv22), (6, .int kk), (4, .int (nI i)), (0, .ref A), (1, .int (nI fr9)), (2, .int (nI n9))]) hx hb d_M_digitsOf_41 hl (by decide) rfl (fun ls hl => ?_)
                refine lv_iinc (k := 2) (v := kk + 1) (lv' := [(6, .int (kk + 1)), (5, .int (nI (q / 10))), (3, .int iv22), (4, .int (nI i)), (0, .ref A), (1, .int (nI fr9)), (2, .int (nI n9))]) hx hb d_M_digitsOf_43 hl rfl rfl (by decide) rfl (fun ls hl => ?_)
                refine lv_goto (tgt := 22) hx hb d_M_digitsOf_46 (by decide) ?_
                have hl : lv_has ls 7 [(6, .int (kk + 1)), (5, .int (nI (q / 10))), (4, .int (nI i)), (3, .int iv22), (0, .ref A), (1, .int (nI fr9)), (2, .int (nI n9))] := lv_sub hl [0, 1, 3, 2, 4, 5, 6] rfl
                exact ih17 iv22 (q / 10) (kk + 1) H locs ls (by omega) (by omega) hl hP hD hS
          exact lp14 (q + 1) dg9 q (nI 1) H locs ls (by omega) (by omega) hl hP hD hS
  exact lp1 (n9 + 1) (nI 1) 0 s.heap [] ls (by omega) (by omega) hl hP hD hS
set_option maxHeartbeats 4000000 in
set_option maxRecDepth 100000 in
theorem m_digitsOf60 (l : Launch) (g : Lay) (sz : Nat) (f : Nat → va_E) (A : Nat) (fr9 : Nat) (n9 : Nat) (hL : LO g) (t_A : g.tg A = 60) (hI : OC g f) (hfn : fr9 + n9 ≤ 240) : Met l ⟨"BigRunnerModel", "digitsOf", "([III)I"⟩ [Cond.code ⟨"BigRunnerModel", "digitsOf", "([III)I"⟩ prog_12_method_35_code 7 (some .int)] ({ frames := 0, cells := 0, slots := 0, locals := 0 }) (va_Pc [.ref A, .int (nI fr9), .int (nI n9)] (pc_in g sz f)) (va_Qi (fun r f1 => (f = f1)) (pc_out g sz) (pc_A g sz)) 0 0 (pc_A g sz) := by
  refine pe_ofW (cc := prog_12_method_35_code) (maxL := 7) (ret := (some .int)) (lv := [(0, .ref A), (1, .int (nI fr9)), (2, .int (nI n9))]) (by decide) (Nat.le_of_ble_eq_true rfl) rfl ?_
  intro p e s m args below meth c ls hx hb hr hml hlocks hown hB hP hK hD hsz hS hl
  subst hsz
  refine lv_iconst (v := nI 1) hx hb d_M_digitsOf_0 (by decide) ?_
  refine lv_istore_n (lv' := [(3, .int (nI 1)), (0, .ref A), (1, .int (nI fr9)), (2, .int (nI n9))]) hx hb d_M_digitsOf_1 rfl hl (by decide) rfl (fun ls hl => ?_)
  refine lv_iconst (v := nI 0) hx hb d_M_digitsOf_2 (by decide) ?_
  refine lv_istore (lv' := [(4, .int (nI 0)), (3, .int (nI 1)), (0, .ref A), (1, .int (nI fr9)), (2, .int (nI n9))]) hx hb d_M_digitsOf_3 hl (by decide) rfl (fun ls hl => ?_)
  have lp1 : ∀ (k3 : Nat) (dg9 : Int32) (i : Nat) (H : Heap) (locs : List Loc) (ls : Array Slot), (n9 < i + k3) → (i ≤ n9) → lv_has ls 7 [(4, .int (nI i)), (3, .int dg9), (0, .ref A), (1, .int (nI fr9)), (2, .int (nI n9))] → va_P g.D vcl (va_pl g.LP f) H → va_D (pc_A g s.heap.size) (va_pl g.LP f) → va_S (pc_A g s.heap.size) s.heap H locs → W p l e ({ frames := 0, cells := 0, slots := 0, locals := 0 }) s m args below meth c H locs 0 0 (MQ below (va_Qi (fun r f1 => (f = f1)) (pc_out g s.heap.size) (pc_A g s.heap.size)) args s 0 0 (pc_A g s.heap.size)) (F0 m 5 ls []) := by
    intro k3
    induction k3 with
    | zero => intros; exfalso; omega
    | succ k3 ih4 =>
      intro dg9 i H locs ls hfu5 hi hl hP hD hS
      refine lv_iload hx hb d_M_digitsOf_5 (lv_at hl 0 rfl) ?_
      refine lv_iload_n hx hb d_M_digitsOf_7 rfl (lv_at hl 4 rfl) ?_
      refine lv_icmp_ge (tgt := 55) hx hb d_M_digitsOf_8 (by decide) (fun b8 => ?_) (fun b8 => ?_)
      · skip
        replace b8 := (nI_leI (a := n9) (b := i) (by omega) (by omega)).mp b8
        refine lv_iload_n hx hb d_M_digitsOf_55 rfl (lv_at hl 1 rfl) ?_
        exact pe_iret hx hb hr hlocks hK hP hD hS d_M_digitsOf_56 rfl
      · skip
        replace b8 := mt (nI_leI (a := n9) (b := i) (by omega) (by omega)).mpr b8
        refine lv_aload_n hx hb d_M_digitsOf_11 rfl (lv_at hl 2 rfl) ?_
        refine lv_iload_n hx hb d_M_digitsOf_12 rfl (lv_at hl 3 rfl) ?_
        refine lv_iload hx hb d_M_digitsOf_13 (lv_at hl 0 rfl) ?_
        refine pf_iaddN (x := fr9) (y := i) hx hb d_M_digitsOf_15 ?_
        obtain ⟨h_10, e9⟩ := oc_60.of t_A (hI A)
        refine pf_iald (i := fr9 + i) hx hb hK hP (lo_in hL t_A (by decide)) e9 (lo_t60 hL _ t_A) (by omega) (by decide) d_M_digitsOf_16 ?_
        refine lv_topi (fun iv12 _ => ?_)
        refine lv_istore (lv' := [(5, .int iv12), (4, .int (nI i)), (3, .int dg9), (0, .ref A), (1, .int (nI fr9)), (2, .int (nI n9))]) hx hb d_M_digitsOf_17 hl (by decide) rfl (fun ls hl => ?_)
        refine lv_iconst (v := nI 1) hx hb d_M_digitsOf_19 (by decide) ?_
        refine lv_istore (lv' := [(6, .int (nI 1)), (5, .int iv12), (4, .int (nI i)), (3, .int dg9), (0, .ref A), (1, .int (nI fr9)), (2, .int (nI n9))]) hx hb d_M_digitsOf_20 hl (by decide) rfl (fun ls hl => ?_)
        by_cases hz : iv12 < 0
        · skip
          refine lv_iload hx hb d_M_digitsOf_22 (lv_at hl 1 rfl) ?_
          refine lv_if_le (tgt := 49) hx hb d_M_digitsOf_24 (by decide) (fun b13 => ?_) (fun b13 => ?_)
          · skip
            refine lv_iinc (k := 2) (v := nI (i + 1)) (lv' := [(4, .int (nI (i + 1))), (6, .int (nI 1)), (5, .int iv12), (3, .int dg9), (0, .ref A), (1, .int (nI fr9)), (2, .int (nI n9))]) hx hb d_M_digitsOf_49 hl rfl (by rw [nI_succ]; rfl) (by decide) rfl (fun ls hl => ?_)
            refine lv_goto (tgt := 5) hx hb d_M_digitsOf_52 (by decide) ?_
            have hl : lv_has ls 7 [(4, .int (nI (i + 1))), (3, .int dg9), (0, .ref A), (1, .int (nI fr9)), (2, .int (nI n9))] := lv_sub hl [0, 3, 4, 5, 6] rfl
            exact ih4 dg9 (i + 1) H locs ls (by omega) (by omega) hl hP hD hS
          · skip
            exact absurd (Int32.le_of_lt hz) b13
        · skip
          obtain ⟨q, hq, rfl⟩ := nI_of hz
          have lp14 : ∀ (k16 : Nat) (dg8 : Int32) (q : Nat) (kk : Int32) (H : Heap) (locs : List Loc) (ls : Array Slot), (q < k16) → (q < 2 ^ 31) → lv_has ls 7 [(6, .int kk), (5, .int (nI q)), (4, .int (nI i)), (3, .int dg8), (0, .ref A), (1, .int (nI fr9)), (2, .int (nI n9))] → va_P g.D vcl (va_pl g.LP f) H → va_D (pc_A g s.heap.size) (va_pl g.LP f) → va_S (pc_A g s.heap.size) s.heap H locs → W p l e ({ frames := 0, cells := 0, slots := 0, locals := 0 }) s m args below meth c H locs 0 0 (MQ below (va_Qi (fun r f1 => (f = f1)) (pc_out g s.heap.size) (pc_A g s.heap.size)) args s 0 0 (pc_A g s.heap.size)) (F0 m 22 ls []) := by
            intro k16
            induction k16 with
            | zero => intros; exfalso; omega
            | succ k16 ih17 =>
              intro dg8 q kk H locs ls hfu18 hq hl hP hD hS
              refine lv_iload hx hb d_M_digitsOf_22 (lv_at hl 1 rfl) ?_
              refine lv_if_le (tgt := 49) hx hb d_M_digitsOf_24 (by decide) (fun b21 => ?_) (fun b21 => ?_)
              · skip
                replace b21 := (nI_leI (a := q) (b := 0) (by omega) (by omega)).mp b21
                refine lv_iinc (k := 2) (v := nI (i + 1)) (lv' := [(4, .int (nI (i + 1))), (6, .int kk), (5, .int (nI q)), (3, .int dg8), (0, .ref A), (1, .int (nI fr9)), (2, .int (nI n9))]) hx hb d_M_digitsOf_49 hl rfl (by rw [nI_succ]; rfl) (by decide) rfl (fun ls hl => ?_)
                refine lv_goto (tgt := 5) hx hb d_M_digitsOf_52 (by decide) ?_
                have hl : lv_has ls 7 [(4, .int (nI (i + 1))), (3, .int dg8), (0, .ref A), (1, .int (nI fr9)), (2, .int (nI n9))] := lv_sub hl [0, 3, 4, 5, 6] rfl
                exact ih4 dg8 (i + 1) H locs ls (by omega) (by omega) hl hP hD hS
              · skip
                replace b21 := mt (nI_leI (a := q) (b := 0) (by omega) (by omega)).mpr b21
                refine lv_bipush (v := nI 6) hx hb d_M_digitsOf_27 (by decide) ?_
                refine lv_iload hx hb d_M_digitsOf_29 (lv_at hl 2 rfl) ?_
                refine pf_imulN (x := 6) (y := i) hx hb d_M_digitsOf_31 ?_
                refine lv_iload hx hb d_M_digitsOf_32 (lv_at hl 0 rfl) ?_
                refine lv_iadd hx hb d_M_digitsOf_34 ?_
                refine lv_topi (fun iv22 _ => ?_)
                refine lv_istore_n (lv' := [(3, .int iv22), (6, .int kk), (5, .int (nI q)), (4, .int (nI i)), (0, .ref A), (1, .int (nI fr9)), (2, .int (nI n9))]) hx hb d_M_digitsOf_35 rfl hl (by decide) rfl (fun ls hl => ?_)
                refine lv_iload hx hb d_M_digitsOf_36 (lv_at hl 2 rfl) ?_
                refine lv_bipush (v := nI 10) hx hb d_M_digitsOf_38 (by decide) ?_
                refine pf_idivN (x := q) (y := 10) hx hb (by omega) (by omega) (by omega) d_M_digitsOf_40 ?_
                refine lv_istore (lv' := [(5, .int (nI (q / 10))), (3, .int iv22), (6, .int kk), (4, .int (nI i)), (0, .ref A), (1, .int (nI fr9)), (2, .int (nI n9))]) hx hb d_M_digitsOf_41 hl (by decide) rfl (fun ls hl => ?_)
                refine lv_iinc (k := 2) (v := kk + 1) (lv' := [(6, .int (kk + 1)), (5, .int (nI (q / 10))), (3, .int iv22), (4, .int (nI i)), (0, .ref A), (1, .int (nI fr9)), (2, .int (nI n9))]) hx hb d_M_digitsOf_43 hl rfl rfl (by decide) rfl (fun ls hl => ?_)
                refine lv_goto (tgt := 22) hx hb d_M_digitsOf_46 (by decide) ?_
                have hl : lv_has ls 7 [(6, .int (kk + 1)), (5, .int (nI (q / 10))), (4, .int (nI i)), (3, .int iv22), (0, .ref A), (1, .int (nI fr9)), (2, .int (nI n9))] := lv_sub hl [0, 1, 3, 2, 4, 5, 6] rfl
                exact ih17 iv22 (q / 10) (kk + 1) H locs ls (by omega) (by omega) hl hP hD hS
          exact lp14 (q + 1) dg9 q (nI 1) H locs ls (by omega) (by omega) hl hP hD hS
  exact lp1 (n9 + 1) (nI 1) 0 s.heap [] ls (by omega) (by omega) hl hP hD hS
set_option maxHeartbeats 4000000 in
set_option maxRecDepth 100000 in
theorem m_keep (l : Launch) (g : Lay) (sz : Nat) (f : Nat → va_E) (M : Nat) (k9 : Nat) (sg : Int32) (hL : LO g) (t_M : g.tg M = 11) (hI : IV g f) (hk : k9 < 80) : Met l ⟨"BigRunnerModel", "keep", "(II)V"⟩ [Cond.code ⟨"BigRunnerModel", "keep", "(II)V"⟩ prog_12_method_36_code 5 none] ({ frames := 0, cells := 0, slots := 0, locals := 0 }) (va_Pc [.ref M, .int (nI k9), .int sg] (pc_in g sz f)) (va_Qv (fun f1 => (IV g f1) ∧ (un [62, 63] g f f1)) (pc_out g sz) (pc_A g sz)) 0 0 (pc_A g sz) := by
  refine pe_ofW (cc := prog_12_method_36_code) (maxL := 5) (ret := none) (lv := [(0, .ref M), (1, .int (nI k9)), (2, .int sg)]) (by decide) (Nat.le_of_ble_eq_true rfl) rfl ?_
  intro p e s m args below meth c ls hx hb hr hml hlocks hown hB hP hK hD hsz hS hl
  subst hsz
  have hu : un [62, 63] g f f := un.rf
  refine lv_iconst (v := nI 0) hx hb d_M_keep_0 (by decide) ?_
  refine lv_istore_n (lv' := [(3, .int (nI 0)), (0, .ref M), (1, .int (nI k9)), (2, .int sg)]) hx hb d_M_keep_1 rfl hl (by decide) rfl (fun ls hl => ?_)
  refine lv_iconst (v := nI 0) hx hb d_M_keep_2 (by decide) ?_
  refine lv_istore (lv' := [(4, .int (nI 0)), (3, .int (nI 0)), (0, .ref M), (1, .int (nI k9)), (2, .int sg)]) hx hb d_M_keep_3 hl (by decide) rfl (fun ls hl => ?_)
  have lp1 : ∀ (k3 : Nat) (sm : Int32) (i : Nat) (f2 : Nat → va_E) (H : Heap) (locs : List Loc) (ls : Array Slot), (20 < i + k3) → (i ≤ 20) → IV g f2 → un [62] g f f2 → lv_has ls 5 [(4, .int (nI i)), (3, .int sm), (0, .ref M), (1, .int (nI k9)), (2, .int sg)] → va_P g.D vcl (va_pl g.LP f2) H → va_D (pc_A g s.heap.size) (va_pl g.LP f2) → va_S (pc_A g s.heap.size) s.heap H locs → W p l e ({ frames := 0, cells := 0, slots := 0, locals := 0 }) s m args below meth c H locs 0 0 (MQ below (va_Qv (fun f1 => (IV g f1) ∧ (un [62, 63] g f f1)) (pc_out g s.heap.size) (pc_A g s.heap.size)) args s 0 0 (pc_A g s.heap.size)) (F0 m 5 ls []) := by
    intro k3
    induction k3 with
    | zero => intros; exfalso; omega
    | succ k3 ih4 =>
      intro sm i f2 H locs ls hfu5 hi hI6 hv7 hl hP hD hS
      have hu := hu.tr hv7 (by decide)
      refine lv_iload hx hb d_M_keep_5 (lv_at hl 0 rfl) ?_
      refine lv_bipush (v := nI 20) hx hb d_M_keep_7 (by decide) ?_
      refine lv_icmp_ge (tgt := 57) hx hb d_M_keep_9 (by decide) (fun b8 => ?_) (fun b8 => ?_)
      · skip
        replace b8 := (nI_leI (a := 20) (b := i) (by omega) (by omega)).mp b8
        refine lv_aload_n hx hb d_M_keep_57 rfl (lv_at hl 2 rfl) ?_
        obtain ⟨th_10, n_11, dr_12, sz_13, ix_14, dp_15, wt_16, op_17, tp_18, wa_19, gi_20, pc_21, st_22, tr_23, sp_24, ma_25, lg_26, du_27, e9, c28, c29, c30, c31, c32, c33, c34, c35, c36, c37, c38, c39, c40, c41, c42⟩ := oc_11.of t_M (hI6.1 M)
        refine pf_get (v := .ref (g.lk M 31)) (C := "BigRunnerModel") (T := FT10) (N := 45) hx hb (hw10 hB _) (fun _ h9 => h9) hown hK hP (lo_in hL t_M (by decide)) e9 rfl 31 (by decide) (wd_978 hB _) rfl d_M_keep_58 ?_
        refine lv_iload_n hx hb d_M_keep_61 rfl (lv_at hl 3 rfl) ?_
        refine lv_iload_n hx hb d_M_keep_62 rfl (lv_at hl 1 rfl) ?_
        refine lv_if_eq (tgt := 70) hx hb d_M_keep_63 (by decide) (fun b43 => ?_) (fun b43 => ?_)
        · skip
          refine lv_iconst (v := nI 0) hx hb d_M_keep_70 (by decide) ?_
          obtain ⟨h_45, e44⟩ := oc_63.of (lo_k11_31 hL _ t_M) (hI6.1 (g.lk M 31))
          refine pf_iast (i := k9) hx hb hK hP hD hS (lo_in hL (lo_k11_31 hL _ t_M) (by decide)) e44 (lo_t63 hL _ (lo_k11_31 hL _ t_M)) (by omega) (by decide) d_M_keep_71 (fun f47 H locs e48 k49 hP hD hS => ?_)
          have e9 := (k49 M (tg_ne t_M (lo_k11_31 hL _ t_M) (by decide))).trans e9
          have hu := hu.st k49 (lo_k11_31 hL _ t_M) (by decide)
          have hk50 : ∀ b, b ≠ (g.lk M 31) → f47 b = f2 b := k49
          have hI51 := iv_1 hI6 hL (lo_k11_31 hL _ t_M) (by decide) hk50 (oc_63.mk (lo_k11_31 hL _ t_M) (⟨_, e48⟩))
          exact pe_vret hx hb hr hlocks hK hP hD hS d_M_keep_72 ⟨hI51, hu⟩
        · skip
          refine lv_iload_n hx hb d_M_keep_66 rfl (lv_at hl 4 rfl) ?_
          refine lv_goto (tgt := 71) hx hb d_M_keep_67 (by decide) ?_
          obtain ⟨h_53, e52⟩ := oc_63.of (lo_k11_31 hL _ t_M) (hI6.1 (g.lk M 31))
          refine pf_iast (i := k9) hx hb hK hP hD hS (lo_in hL (lo_k11_31 hL _ t_M) (by decide)) e52 (lo_t63 hL _ (lo_k11_31 hL _ t_M)) (by omega) (by decide) d_M_keep_71 (fun f55 H locs e56 k57 hP hD hS => ?_)
          have e9 := (k57 M (tg_ne t_M (lo_k11_31 hL _ t_M) (by decide))).trans e9
          have hu := hu.st k57 (lo_k11_31 hL _ t_M) (by decide)
          have hk58 : ∀ b, b ≠ (g.lk M 31) → f55 b = f2 b := k57
          have hI59 := iv_1 hI6 hL (lo_k11_31 hL _ t_M) (by decide) hk58 (oc_63.mk (lo_k11_31 hL _ t_M) (⟨_, e56⟩))
          exact pe_vret hx hb hr hlocks hK hP hD hS d_M_keep_72 ⟨hI59, hu⟩
      · skip
        replace b8 := mt (nI_leI (a := 20) (b := i) (by omega) (by omega)).mpr b8
        refine lv_aload_n hx hb d_M_keep_12 rfl (lv_at hl 2 rfl) ?_
        obtain ⟨th_61, n_62, dr_63, sz_64, ix_65, dp_66, wt_67, op_68, tp_69, wa_70, gi_71, pc_72, st_73, tr_74, sp_75, ma_76, lg_77, du_78, e60, c79, c80, c81, c82, c83, c84, c85, c86, c87, c88, c89, c90, c91, c92, c93⟩ := oc_11.of t_M (hI6.1 M)
        refine pf_get (v := .ref (g.lk M 30)) (C := "BigRunnerModel") (T := FT10) (N := 45) hx hb (hw10 hB _) (fun _ h9 => h9) hown hK hP (lo_in hL t_M (by decide)) e60 rfl 30 (by decide) (wd_977 hB _) rfl d_M_keep_13 ?_
        refine lv_bipush (v := nI 20) hx hb d_M_keep_16 (by decide) ?_
        refine lv_iload_n hx hb d_M_keep_18 rfl (lv_at hl 3 rfl) ?_
        refine pf_imulN (x := 20) (y := k9) hx hb d_M_keep_19 ?_
        refine lv_iload hx hb d_M_keep_20 (lv_at hl 0 rfl) ?_
        refine pf_iaddN (x := 20 * k9) (y := i) hx hb d_M_keep_22 ?_
        refine lv_aload_n hx hb d_M_keep_23 rfl (lv_at hl 2 rfl) ?_
        refine pf_get (v := .ref (g.lk M 33)) (C := "BigRunnerModel") (T := FT10) (N := 45) hx hb (hw10 hB _) (fun _ h9 => h9) hown hK hP (lo_in hL t_M (by decide)) e60 rfl 33 (by decide) (wd_980 hB _) rfl d_M_keep_24 ?_
        refine lv_iload hx hb d_M_keep_27 (lv_at hl 0 rfl) ?_
        obtain ⟨h_95, e94⟩ := oc_64.of (lo_k11_33 hL _ t_M) (hI6.1 (g.lk M 33))
        refine pf_iald (i := i) hx hb hK hP (lo_in hL (lo_k11_33 hL _ t_M) (by decide)) e94 (lo_t64 hL _ (lo_k11_33 hL _ t_M)) (by omega) (by decide) d_M_keep_29 ?_
        refine lv_topi (fun iv97 _ => ?_)
        obtain ⟨h_99, e98⟩ := oc_62.of (lo_k11_30 hL _ t_M) (hI6.1 (g.lk M 30))
        refine pf_iast (i := (20 * k9) + i) hx hb hK hP hD hS (lo_in hL (lo_k11_30 hL _ t_M) (by decide)) e98 (lo_t62 hL _ (lo_k11_30 hL _ t_M)) (by omega) (by decide) d_M_keep_30 (fun f101 H locs e102 k103 hP hD hS => ?_)
        have e60 := (k103 M (tg_ne t_M (lo_k11_30 hL _ t_M) (by decide))).trans e60
        have e94 := (k103 (g.lk M 33) (tg_ne (lo_k11_33 hL _ t_M) (lo_k11_30 hL _ t_M) (by decide))).trans e94
        have hu := hu.st k103 (lo_k11_30 hL _ t_M) (by decide)
        have hv7 := hv7.st k103 (lo_k11_30 hL _ t_M) (by decide)
        have hk104 : ∀ b, b ≠ (g.lk M 30) → f101 b = f2 b := k103
        refine lv_iload_n hx hb d_M_keep_31 rfl (lv_at hl 1 rfl) ?_
        refine lv_if_ne (tgt := 45) hx hb d_M_keep_32 (by decide) (fun b105 => ?_) (fun b105 => ?_)
        · skip
          refine lv_iconst (v := nI 1) hx hb d_M_keep_45 (by decide) ?_
          refine lv_goto (tgt := 50) hx hb d_M_keep_46 (by decide) ?_
          refine lv_istore_n (lv' := [(3, .int (nI 1)), (4, .int (nI i)), (0, .ref M), (1, .int (nI k9)), (2, .int sg)]) hx hb d_M_keep_50 rfl hl (by decide) rfl (fun ls hl => ?_)
          refine lv_iinc (k := 1) (v := nI (i + 1)) (lv' := [(4, .int (nI (i + 1))), (3, .int (nI 1)), (0, .ref M), (1, .int (nI k9)), (2, .int sg)]) hx hb d_M_keep_51 hl rfl (by rw [nI_succ]; rfl) (by decide) rfl (fun ls hl => ?_)
          refine lv_goto (tgt := 5) hx hb d_M_keep_54 (by decide) ?_
          have hI106 := iv_1 hI6 hL (lo_k11_30 hL _ t_M) (by decide) hk104 (oc_62.mk (lo_k11_30 hL _ t_M) (⟨_, e102⟩))
          exact ih4 (nI 1) (i + 1) f101 H locs ls (by omega) (by omega) hI106 hv7 hl hP hD hS
        · skip
          refine lv_aload_n hx hb d_M_keep_35 rfl (lv_at hl 2 rfl) ?_
          refine pf_get (v := .ref (g.lk M 33)) (C := "BigRunnerModel") (T := FT10) (N := 45) hx hb (hw10 hB _) (fun _ h9 => h9) hown hK hP (lo_in hL t_M (by decide)) e60 rfl 33 (by decide) (wd_980 hB _) rfl d_M_keep_36 ?_
          refine lv_iload hx hb d_M_keep_39 (lv_at hl 0 rfl) ?_
          refine pf_iald (i := i) hx hb hK hP (lo_in hL (lo_k11_33 hL _ t_M) (by decide)) e94 (lo_t64 hL _ (lo_k11_33 hL _ t_M)) (by omega) (by decide) d_M_keep_41 ?_
          refine lv_topi (fun iv107 _ => ?_)
          refine lv_if_eq (tgt := 49) hx hb d_M_keep_42 (by decide) (fun b108 => ?_) (fun b108 => ?_)
          · skip
            refine lv_iconst (v := nI 0) hx hb d_M_keep_49 (by decide) ?_
            refine lv_istore_n (lv' := [(3, .int (nI 0)), (4, .int (nI i)), (0, .ref M), (1, .int (nI k9)), (2, .int sg)]) hx hb d_M_keep_50 rfl hl (by decide) rfl (fun ls hl => ?_)
            refine lv_iinc (k := 1) (v := nI (i + 1)) (lv' := [(4, .int (nI (i + 1))), (3, .int (nI 0)), (0, .ref M), (1, .int (nI k9)), (2, .int sg)]) hx hb d_M_keep_51 hl rfl (by rw [nI_succ]; rfl) (by decide) rfl (fun ls hl => ?_)
            refine lv_goto (tgt := 5) hx hb d_M_keep_54 (by decide) ?_
            have hI109 := iv_1 hI6 hL (lo_k11_30 hL _ t_M) (by decide) hk104 (oc_62.mk (lo_k11_30 hL _ t_M) (⟨_, e102⟩))
            exact ih4 (nI 0) (i + 1) f101 H locs ls (by omega) (by omega) hI109 hv7 hl hP hD hS
          · skip
            refine lv_iconst (v := nI 1) hx hb d_M_keep_45 (by decide) ?_
            refine lv_goto (tgt := 50) hx hb d_M_keep_46 (by decide) ?_
            refine lv_istore_n (lv' := [(3, .int (nI 1)), (4, .int (nI i)), (0, .ref M), (1, .int (nI k9)), (2, .int sg)]) hx hb d_M_keep_50 rfl hl (by decide) rfl (fun ls hl => ?_)
            refine lv_iinc (k := 1) (v := nI (i + 1)) (lv' := [(4, .int (nI (i + 1))), (3, .int (nI 1)), (0, .ref M), (1, .int (nI k9)), (2, .int sg)]) hx hb d_M_keep_51 hl rfl (by rw [nI_succ]; rfl) (by decide) rfl (fun ls hl => ?_)
            refine lv_goto (tgt := 5) hx hb d_M_keep_54 (by decide) ?_
            have hI110 := iv_1 hI6 hL (lo_k11_30 hL _ t_M) (by decide) hk104 (oc_62.mk (lo_k11_30 hL _ t_M) (⟨_, e102⟩))
            exact ih4 (nI 1) (i + 1) f101 H locs ls (by omega) (by omega) hI110 hv7 hl hP hD hS
  exact lp1 21 (nI 0) 0 f s.heap [] ls (by omega) (by omega) hI un.rf hl hP hD hS
