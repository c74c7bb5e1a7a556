set_option maxHeartbeats 4000000 in
set_option maxRecDepth 100000 in
theorem c_judge (l : Launch) (g : Lay) (sz : Nat) (f : Nat → va_E) (P : Nat) (x : Nat) (hL : LO g) (t_P : g.tg P = 7) (t_x : g.tg x = 6) (hI : IV g f) : Met l ⟨"BigRunner$Program", "judge", "(LBigRunner$Node;)V"⟩ [Cond.code ⟨"BigRunner$Program", "judge", "(LBigRunner$Node;)V"⟩ prog_7_method_6_code 3 none] ({ frames := 2, cells := 0, slots := 0, locals := 41 }) (va_Pc [.ref P, .ref x] (pc_in g sz f)) (va_Qv (fun f1 => (IV g f1) ∧ (un [6] g f f1)) (pc_out g sz) (pc_A g sz)) 0 0 (pc_A g sz) := by
  refine pe_ofW (cc := prog_7_method_6_code) (maxL := 3) (ret := none) (lv := [(0, .ref P), (1, .ref x)]) (by decide) (Nat.le_of_ble_eq_true rfl) rfl ?_
  intro p e s m args below meth c ls hx hb hr hml hlocks hown hB hP hK hD hsz hS hl
  subst hsz
  have hu : un [6] g f f := un.rf
  refine lv_iconst (v := nI 1) hx hb d_NProgram_judge_0 (by decide) ?_
  refine lv_istore_n (lv' := [(2, .int (nI 1)), (0, .ref P), (1, .ref x)]) hx hb d_NProgram_judge_1 rfl hl (by decide) rfl (fun ls hl => ?_)
  refine lv_aload_n hx hb d_NProgram_judge_2 rfl (lv_at hl 2 rfl) ?_
  obtain ⟨kd_2, le_3, ri_4, sm_5, mv_6, e1, c7, c8, c9, c10, c11, c12⟩ := oc_6.of t_x (hI.1 x)
  refine pf_get (v := .int (nI kd_2)) (C := "BigRunner$Node") (T := FT5) (N := 7) hx hb (hw5 hB _) (fun _ h9 => h9) hown hK hP (lo_in hL t_x (by decide)) e1 rfl 0 (by decide) (wd_203 hB _) rfl d_NProgram_judge_3 ?_
  refine lv_iconst (v := nI 2) hx hb d_NProgram_judge_6 (by decide) ?_
  refine lv_icmp_lt (tgt := 46) hx hb d_NProgram_judge_7 (by decide) (fun b13 => ?_) (fun b13 => ?_)
  · skip
    replace b13 := (nI_ltI (a := kd_2) (b := 2) (by omega) (by omega)).mp b13
    refine lv_aload_n hx hb d_NProgram_judge_46 rfl (lv_at hl 2 rfl) ?_
    refine lv_iload_n hx hb d_NProgram_judge_47 rfl (lv_at hl 0 rfl) ?_
    refine lv_if_eq (tgt := 65) hx hb d_NProgram_judge_48 (by decide) (fun b14 => ?_) (fun b14 => ?_)
    · skip
      replace b14 := (nI_eq (a := 1) (b := 0) (by omega) (by omega)).mp b14
      exfalso; omega
    · skip
      replace b14 := mt (nI_eq (a := 1) (b := 0) (by omega) (by omega)).mpr b14
      refine lv_aload_n hx hb d_NProgram_judge_51 rfl (lv_at hl 2 rfl) ?_
      refine pf_get (v := .ref (g.lk x 3)) (C := "BigRunner$Node") (T := FT5) (N := 7) hx hb (hw5 hB _) (fun _ h9 => h9) hown hK hP (lo_in hL t_x (by decide)) e1 rfl 3 (by decide) (wd_215 hB _) rfl d_NProgram_judge_52 ?_
      obtain ⟨lo_16, hi_17, e15⟩ := oc_3.of (lo_k6_3 hL _ t_x) (hI.1 (g.lk x 3))
      refine pcc_i (va_runV (C := "BigRunner$Interval") (As := []) (rest := [.ref x]) ⟨hx, hb, hml, hown, tb_nil⟩ (c_isBounded l g s.heap.size f ((g.lk x 3)) hL (lo_k6_3 hL _ t_x) hI.1) ⟨(callB_of 0 (tb_one (wd_440 hB _)) tb_good1 rfl rfl rfl (wd_75 hB _) (wd_672 hB _) (by decide +kernel) ⟨Nat.le_of_ble_eq_true rfl, Nat.le_of_ble_eq_true rfl⟩), (wd_438 hB _), (wd_439 hB _)⟩ ⟨pe_bl, pg_recv (ci := 2) hK hP (lo_in hL (lo_k6_3 hL _ t_x) (by decide)) e15 rfl, pe_pre hB hK hP hD⟩ rfl rfl hl.1 rfl (lv_room (Nat.le_of_ble_eq_true rfl)) d_NProgram_judge_55 ⟨Nat.le_of_ble_eq_true rfl, Nat.le_of_ble_eq_true rfl⟩) hS (fun r18 f19 H locs hq20 hP hD hS => ?_)
      obtain ⟨bo_21, rfl⟩ := hq20
      refine lv_if_eq (tgt := 65) hx hb d_NProgram_judge_58 (by decide) (fun b22 => ?_) (fun b22 => ?_)
      · skip
        have hr23 : r18 = nI 0 := b22
        refine lv_iconst (v := nI 0) hx hb d_NProgram_judge_65 (by decide) ?_
        refine pf_put (v := .int (nI 0)) (ty := .boolean) (fs' := [.int (nI kd_2), .int (nI le_3), .int (nI ri_4), .ref (g.lk x 3), .int (nI 0), .long mv_6, .ref (g.lk x 6)]) (C := "BigRunner$Node") (T := FT5) (N := 7) hx hb (hw5 hB _) (fun _ h9 => h9) TY5 ok5 nm5 hown hK hP hD hS (lo_in hL t_x (by decide)) e1 rfl 4 (by decide) (wd_217 hB _) rfl (by decide +kernel) rfl rfl (Nat.le_of_ble_eq_true rfl) rfl d_NProgram_judge_66 (fun f24 H locs e25 k26 hP hD hS => ?_)
        have e15 := (k26 (g.lk x 3) (tg_ne (lo_k6_3 hL _ t_x) t_x (by decide))).trans e15
        have hu := hu.st k26 t_x (by decide)
        have hk27 : ∀ b, b ≠ x → f24 b = f b := k26
        have hI28 := iv_1 hI hL t_x (by decide) hk27 (oc_6.mk t_x (⟨kd_2, le_3, ri_4, ((nI 0)), mv_6, e25, (by omega), (by omega), (by omega), (by omega), (Or.inl rfl), (by omega)⟩))
        exact pe_vret hx hb hr hlocks hK hP hD hS d_NProgram_judge_69 ⟨hI28, hu⟩
      · skip
        have hr29 : r18 = nI 1 := (bl_1 bo_21 b22)
        refine lv_iconst (v := nI 1) hx hb d_NProgram_judge_61 (by decide) ?_
        refine lv_goto (tgt := 66) hx hb d_NProgram_judge_62 (by decide) ?_
        refine pf_put (v := .int (nI 1)) (ty := .boolean) (fs' := [.int (nI kd_2), .int (nI le_3), .int (nI ri_4), .ref (g.lk x 3), .int (nI 1), .long mv_6, .ref (g.lk x 6)]) (C := "BigRunner$Node") (T := FT5) (N := 7) hx hb (hw5 hB _) (fun _ h9 => h9) TY5 ok5 nm5 hown hK hP hD hS (lo_in hL t_x (by decide)) e1 rfl 4 (by decide) (wd_217 hB _) rfl (by decide +kernel) rfl rfl (Nat.le_of_ble_eq_true rfl) rfl d_NProgram_judge_66 (fun f30 H locs e31 k32 hP hD hS => ?_)
        have e15 := (k32 (g.lk x 3) (tg_ne (lo_k6_3 hL _ t_x) t_x (by decide))).trans e15
        have hu := hu.st k32 t_x (by decide)
        have hk33 : ∀ b, b ≠ x → f30 b = f b := k32
        have hI34 := iv_1 hI hL t_x (by decide) hk33 (oc_6.mk t_x (⟨kd_2, le_3, ri_4, ((nI 1)), mv_6, e31, (by omega), (by omega), (by omega), (by omega), (Or.inr rfl), (by omega)⟩))
        exact pe_vret hx hb hr hlocks hK hP hD hS d_NProgram_judge_69 ⟨hI34, hu⟩
  · skip
    replace b13 := mt (nI_ltI (a := kd_2) (b := 2) (by omega) (by omega)).mpr b13
    refine lv_aload_n hx hb d_NProgram_judge_10 rfl (lv_at hl 1 rfl) ?_
    obtain ⟨sc_36, nc_37, e35, c38, c39⟩ := oc_7.of t_P (hI.1 P)
    refine pf_get (v := .ref (g.lk P 2)) (C := "BigRunner$Program") (T := FT6) (N := 6) hx hb (hw6 hB _) (fun _ h9 => h9) hown hK hP (lo_in hL t_P (by decide)) e35 rfl 2 (by decide) (wd_248 hB _) rfl d_NProgram_judge_11 ?_
    refine lv_aload_n hx hb d_NProgram_judge_14 rfl (lv_at hl 2 rfl) ?_
    refine pf_get (v := .int (nI le_3)) (C := "BigRunner$Node") (T := FT5) (N := 7) hx hb (hw5 hB _) (fun _ h9 => h9) hown hK hP (lo_in hL t_x (by decide)) e1 rfl 1 (by decide) (wd_207 hB _) rfl d_NProgram_judge_15 ?_
    have e40 := oc_25.of (lo_k7_2 hL _ t_P) (hI.1 (g.lk P 2))
    refine pf_aald (i := le_3) hx hb hK hP (lo_in hL (lo_k7_2 hL _ t_P) (by decide)) e40 (lo_t25 hL _ (lo_k7_2 hL _ t_P)) (by omega) (by decide) d_NProgram_judge_18 ?_
    have t41 := lo_e25 hL _ (lo_k7_2 hL _ t_P) le_3 (by omega)
    obtain ⟨kd_43, le_44, ri_45, sm_46, mv_47, e42, c48, c49, c50, c51, c52, c53⟩ := oc_6.of t41 (hI.1 (g.lk (g.lk P 2) le_3))
    refine pf_get (v := .int sm_46) (C := "BigRunner$Node") (T := FT5) (N := 7) hx hb (hw5 hB _) (fun _ h9 => h9) hown hK hP (lo_in hL t41 (by decide)) e42 rfl 4 (by decide) (wd_217 hB _) rfl d_NProgram_judge_19 ?_
    refine lv_if_eq (tgt := 44) hx hb d_NProgram_judge_22 (by decide) (fun b54 => ?_) (fun b54 => ?_)
    · skip
      have hr55 : sm_46 = nI 0 := b54
      refine lv_iconst (v := nI 0) hx hb d_NProgram_judge_44 (by decide) ?_
      refine lv_istore_n (lv' := [(2, .int (nI 0)), (0, .ref P), (1, .ref x)]) hx hb d_NProgram_judge_45 rfl hl (by decide) rfl (fun ls hl => ?_)
      refine lv_aload_n hx hb d_NProgram_judge_46 rfl (lv_at hl 2 rfl) ?_
      refine lv_iload_n hx hb d_NProgram_judge_47 rfl (lv_at hl 0 rfl) ?_
      refine lv_if_eq (tgt := 65) hx hb d_NProgram_judge_48 (by decide) (fun b56 => ?_) (fun b56 => ?_)
      · skip
        replace b56 := (nI_eq (a := 0) (b := 0) (by omega) (by omega)).mp b56
        refine lv_iconst (v := nI 0) hx hb d_NProgram_judge_65 (by decide) ?_
        refine pf_put (v := .int (nI 0)) (ty := .boolean) (fs' := [.int (nI kd_2), .int (nI le_3), .int (nI ri_4), .ref (g.lk x 3), .int (nI 0), .long mv_6, .ref (g.lk x 6)]) (C := "BigRunner$Node") (T := FT5) (N := 7) hx hb (hw5 hB _) (fun _ h9 => h9) TY5 ok5 nm5 hown hK hP hD hS (lo_in hL t_x (by decide)) e1 rfl 4 (by decide) (wd_217 hB _) rfl (by decide +kernel) rfl rfl (Nat.le_of_ble_eq_true rfl) rfl d_NProgram_judge_66 (fun f57 H locs e58 k59 hP hD hS => ?_)
        have e35 := (k59 P (tg_ne t_P t_x (by decide))).trans e35
        have e40 := (k59 (g.lk P 2) (tg_ne (lo_k7_2 hL _ t_P) t_x (by decide))).trans e40
        have hu := hu.st k59 t_x (by decide)
        have hk60 : ∀ b, b ≠ x → f57 b = f b := k59
        have hI61 := iv_1 hI hL t_x (by decide) hk60 (oc_6.mk t_x (⟨kd_2, le_3, ri_4, ((nI 0)), mv_6, e58, (by omega), (by omega), (by omega), (by omega), (Or.inl rfl), (by omega)⟩))
        exact pe_vret hx hb hr hlocks hK hP hD hS d_NProgram_judge_69 ⟨hI61, hu⟩
      · skip
        replace b56 := mt (nI_eq (a := 0) (b := 0) (by omega) (by omega)).mpr b56
        exfalso; omega
    · skip
      have hr62 : sm_46 = nI 1 := (bl_1 c52 b54)
      refine lv_aload_n hx hb d_NProgram_judge_25 rfl (lv_at hl 1 rfl) ?_
      refine pf_get (v := .ref (g.lk P 2)) (C := "BigRunner$Program") (T := FT6) (N := 6) hx hb (hw6 hB _) (fun _ h9 => h9) hown hK hP (lo_in hL t_P (by decide)) e35 rfl 2 (by decide) (wd_248 hB _) rfl d_NProgram_judge_26 ?_
      refine lv_aload_n hx hb d_NProgram_judge_29 rfl (lv_at hl 2 rfl) ?_
      refine pf_get (v := .int (nI ri_4)) (C := "BigRunner$Node") (T := FT5) (N := 7) hx hb (hw5 hB _) (fun _ h9 => h9) hown hK hP (lo_in hL t_x (by decide)) e1 rfl 2 (by decide) (wd_211 hB _) rfl d_NProgram_judge_30 ?_
      refine pf_aald (i := ri_4) hx hb hK hP (lo_in hL (lo_k7_2 hL _ t_P) (by decide)) e40 (lo_t25 hL _ (lo_k7_2 hL _ t_P)) (by omega) (by decide) d_NProgram_judge_33 ?_
      have t63 := lo_e25 hL _ (lo_k7_2 hL _ t_P) ri_4 (by omega)
      obtain ⟨kd_65, le_66, ri_67, sm_68, mv_69, e64, c70, c71, c72, c73, c74, c75⟩ := oc_6.of t63 (hI.1 (g.lk (g.lk P 2) ri_4))
      refine pf_get (v := .int sm_68) (C := "BigRunner$Node") (T := FT5) (N := 7) hx hb (hw5 hB _) (fun _ h9 => h9) hown hK hP (lo_in hL t63 (by decide)) e64 rfl 4 (by decide) (wd_217 hB _) rfl d_NProgram_judge_34 ?_
      refine lv_if_eq (tgt := 44) hx hb d_NProgram_judge_37 (by decide) (fun b76 => ?_) (fun b76 => ?_)
      · skip
        have hr77 : sm_68 = nI 0 := b76
        refine lv_iconst (v := nI 0) hx hb d_NProgram_judge_44 (by decide) ?_
        refine lv_istore_n (lv' := [(2, .int (nI 0)), (0, .ref P), (1, .ref x)]) hx hb d_NProgram_judge_45 rfl hl (by decide) rfl (fun ls hl => ?_)
        refine lv_aload_n hx hb d_NProgram_judge_46 rfl (lv_at hl 2 rfl) ?_
        refine lv_iload_n hx hb d_NProgram_judge_47 rfl (lv_at hl 0 rfl) ?_
        refine lv_if_eq (tgt := 65) hx hb d_NProgram_judge_48 (by decide) (fun b78 => ?_) (fun b78 => ?_)
        · skip
          replace b78 := (nI_eq (a := 0) (b := 0) (by omega) (by omega)).mp b78
          refine lv_iconst (v := nI 0) hx hb d_NProgram_judge_65 (by decide) ?_
          refine pf_put (v := .int (nI 0)) (ty := .boolean) (fs' := [.int (nI kd_2), .int (nI le_3), .int (nI ri_4), .ref (g.lk x 3), .int (nI 0), .long mv_6, .ref (g.lk x 6)]) (C := "BigRunner$Node") (T := FT5) (N := 7) hx hb (hw5 hB _) (fun _ h9 => h9) TY5 ok5 nm5 hown hK hP hD hS (lo_in hL t_x (by decide)) e1 rfl 4 (by decide) (wd_217 hB _) rfl (by decide +kernel) rfl rfl (Nat.le_of_ble_eq_true rfl) rfl d_NProgram_judge_66 (fun f79 H locs e80 k81 hP hD hS => ?_)
          have e35 := (k81 P (tg_ne t_P t_x (by decide))).trans e35
          have e40 := (k81 (g.lk P 2) (tg_ne (lo_k7_2 hL _ t_P) t_x (by decide))).trans e40
          have hu := hu.st k81 t_x (by decide)
          have hk82 : ∀ b, b ≠ x → f79 b = f b := k81
          have hI83 := iv_1 hI hL t_x (by decide) hk82 (oc_6.mk t_x (⟨kd_2, le_3, ri_4, ((nI 0)), mv_6, e80, (by omega), (by omega), (by omega), (by omega), (Or.inl rfl), (by omega)⟩))
          exact pe_vret hx hb hr hlocks hK hP hD hS d_NProgram_judge_69 ⟨hI83, hu⟩
        · skip
          replace b78 := mt (nI_eq (a := 0) (b := 0) (by omega) (by omega)).mpr b78
          exfalso; omega
      · skip
        have hr84 : sm_68 = nI 1 := (bl_1 c74 b76)
        refine lv_iconst (v := nI 1) hx hb d_NProgram_judge_40 (by decide) ?_
        refine lv_goto (tgt := 45) hx hb d_NProgram_judge_41 (by decide) ?_
        refine lv_istore_n (lv' := [(2, .int (nI 1)), (0, .ref P), (1, .ref x)]) hx hb d_NProgram_judge_45 rfl hl (by decide) rfl (fun ls hl => ?_)
        refine lv_aload_n hx hb d_NProgram_judge_46 rfl (lv_at hl 2 rfl) ?_
        refine lv_iload_n hx hb d_NProgram_judge_47 rfl (lv_at hl 0 rfl) ?_
        refine lv_if_eq (tgt := 65) hx hb d_NProgram_judge_48 (by decide) (fun b85 => ?_) (fun b85 => ?_)
        · skip
          replace b85 := (nI_eq (a := 1) (b := 0) (by omega) (by omega)).mp b85
          exfalso; omega
        · skip
          replace b85 := mt (nI_eq (a := 1) (b := 0) (by omega) (by omega)).mpr b85
          refine lv_aload_n hx hb d_NProgram_judge_51 rfl (lv_at hl 2 rfl) ?_
          refine pf_get (v := .ref (g.lk x 3)) (C := "BigRunner$Node") (T := FT5) (N := 7) hx hb (hw5 hB _) (fun _ h9 => h9) hown hK hP (lo_in hL t_x (by decide)) e1 rfl 3 (by decide) (wd_215 hB _) rfl d_NProgram_judge_52 ?_
          obtain ⟨lo_87, hi_88, e86⟩ := oc_3.of (lo_k6_3 hL _ t_x) (hI.1 (g.lk x 3))
          refine pcc_i (va_runV (C := "BigRunner$Interval") (As := []) (rest := [.ref x]) ⟨hx, hb, hml, hown, tb_nil⟩ (c_isBounded l g s.heap.size f ((g.lk x 3)) hL (lo_k6_3 hL _ t_x) hI.1) ⟨(callB_of 0 (tb_one (wd_440 hB _)) tb_good1 rfl rfl rfl (wd_75 hB _) (wd_672 hB _) (by decide +kernel) ⟨Nat.le_of_ble_eq_true rfl, Nat.le_of_ble_eq_true rfl⟩), (wd_438 hB _), (wd_439 hB _)⟩ ⟨pe_bl, pg_recv (ci := 2) hK hP (lo_in hL (lo_k6_3 hL _ t_x) (by decide)) e86 rfl, pe_pre hB hK hP hD⟩ rfl rfl hl.1 rfl (lv_room (Nat.le_of_ble_eq_true rfl)) d_NProgram_judge_55 ⟨Nat.le_of_ble_eq_true rfl, Nat.le_of_ble_eq_true rfl⟩) hS (fun r89 f90 H locs hq91 hP hD hS => ?_)
          obtain ⟨bo_92, rfl⟩ := hq91
          refine lv_if_eq (tgt := 65) hx hb d_NProgram_judge_58 (by decide) (fun b93 => ?_) (fun b93 => ?_)
          · skip
            have hr94 : r89 = nI 0 := b93
            refine lv_iconst (v := nI 0) hx hb d_NProgram_judge_65 (by decide) ?_
            refine pf_put (v := .int (nI 0)) (ty := .boolean) (fs' := [.int (nI kd_2), .int (nI le_3), .int (nI ri_4), .ref (g.lk x 3), .int (nI 0), .long mv_6, .ref (g.lk x 6)]) (C := "BigRunner$Node") (T := FT5) (N := 7) hx hb (hw5 hB _) (fun _ h9 => h9) TY5 ok5 nm5 hown hK hP hD hS (lo_in hL t_x (by decide)) e1 rfl 4 (by decide) (wd_217 hB _) rfl (by decide +kernel) rfl rfl (Nat.le_of_ble_eq_true rfl) rfl d_NProgram_judge_66 (fun f95 H locs e96 k97 hP hD hS => ?_)
            have e35 := (k97 P (tg_ne t_P t_x (by decide))).trans e35
            have e40 := (k97 (g.lk P 2) (tg_ne (lo_k7_2 hL _ t_P) t_x (by decide))).trans e40
            have e86 := (k97 (g.lk x 3) (tg_ne (lo_k6_3 hL _ t_x) t_x (by decide))).trans e86
            have hu := hu.st k97 t_x (by decide)
            have hk98 : ∀ b, b ≠ x → f95 b = f b := k97
            have hI99 := iv_1 hI hL t_x (by decide) hk98 (oc_6.mk t_x (⟨kd_2, le_3, ri_4, ((nI 0)), mv_6, e96, (by omega), (by omega), (by omega), (by omega), (Or.inl rfl), (by omega)⟩))
            exact pe_vret hx hb hr hlocks hK hP hD hS d_NProgram_judge_69 ⟨hI99, hu⟩
          · skip
            have hr100 : r89 = nI 1 := (bl_1 bo_92 b93)
            refine lv_iconst (v := nI 1) hx hb d_NProgram_judge_61 (by decide) ?_
            refine lv_goto (tgt := 66) hx hb d_NProgram_judge_62 (by decide) ?_
            refine pf_put (v := .int (nI 1)) (ty := .boolean) (fs' := [.int (nI kd_2), .int (nI le_3), .int (nI ri_4), .ref (g.lk x 3), .int (nI 1), .long mv_6, .ref (g.lk x 6)]) (C := "BigRunner$Node") (T := FT5) (N := 7) hx hb (hw5 hB _) (fun _ h9 => h9) TY5 ok5 nm5 hown hK hP hD hS (lo_in hL t_x (by decide)) e1 rfl 4 (by decide) (wd_217 hB _) rfl (by decide +kernel) rfl rfl (Nat.le_of_ble_eq_true rfl) rfl d_NProgram_judge_66 (fun f101 H locs e102 k103 hP hD hS => ?_)
            have e35 := (k103 P (tg_ne t_P t_x (by decide))).trans e35
            have e40 := (k103 (g.lk P 2) (tg_ne (lo_k7_2 hL _ t_P) t_x (by decide))).trans e40
            have e86 := (k103 (g.lk x 3) (tg_ne (lo_k6_3 hL _ t_x) t_x (by decide))).trans e86
            have hu := hu.st k103 t_x (by decide)
            have hk104 : ∀ b, b ≠ x → f101 b = f b := k103
            have hI105 := iv_1 hI hL t_x (by decide) hk104 (oc_6.mk t_x (⟨kd_2, le_3, ri_4, ((nI 1)), mv_6, e102, (by omega), (by omega), (by omega), (by omega), (Or.inr rfl), (by omega)⟩))
            exact pe_vret hx hb hr hlocks hK hP hD hS d_NProgram_judge_69 ⟨hI105, hu⟩
