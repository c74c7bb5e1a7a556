set_option maxHeartbeats 4000000 in
set_option maxRecDepth 100000 in
theorem c_bound (l : Launch) (g : Lay) (sz : Nat) (f : Nat → va_E) (B : Nat) (v : Int32) (gr : Int32) (hL : LO g) (t_B : g.tg B = 1) (hI : OC g f) (hLt : l.stackTraces = false) : tw_Met l ⟨"BigRunner", "bound", "(IZ)J"⟩ [Cond.code ⟨"BigRunner", "bound", "(IZ)J"⟩ prog_1_method_8_code 6 (some .long)] ({ frames := 6, cells := 1, slots := 6, locals := 120 }) (va_Pc [.ref B, .int v, .int gr] (pt_in g sz f)) (tq (fun v9 f1 => ∃ r, v9 = some (.long r) ∧ (f = f1)) (fun C9 f1 => (C9 = "java/lang/IndexOutOfBoundsException" ∨ C9 = "java/lang/UnsupportedOperationException") ∧ (f = f1)) g sz) 1 6 (pc_A g sz) := by
  refine pt_ofW (cc := prog_1_method_8_code) (maxL := 6) (ret := (some .long)) (lv := [(0, .ref B), (1, .int v), (2, .int gr)]) (by decide) (Nat.le_of_ble_eq_true rfl) rfl ?_
  intro p e s m args below meth c ls hx hb hr hml hlocks hown hB hP hK hD hsz hS hl hno hTZ
  subst hsz
  refine lv_aload_n hx hb d_B_bound_0 rfl (lv_at hl 0 rfl) ?_
  refine lv_iload_n hx hb d_B_bound_1 rfl (lv_at hl 1 rfl) ?_
  obtain ⟨n_2, ld_3, e1, c4, c5⟩ := oc_1.of t_B (hI B)
  refine pcc_i (va_runV (C := "BigRunner") (As := [.int v]) (rest := []) ⟨hx, hb, hml, hown, tb_nil⟩ (c_hasVar l g s.heap.size f B v hL t_B hI) ⟨(callB_of 1 (tb_one (wd_436 hB _)) tb_good1 rfl rfl rfl (wd_72 hB _) (wd_433 hB _) (by decide +kernel) ⟨Nat.le_of_ble_eq_true rfl, Nat.le_of_ble_eq_true rfl⟩), (wd_435 hB _), (wd_1 hB _)⟩ ⟨pe_bl, pg_recv (ci := 0) hK hP (lo_in hL t_B (by decide)) e1 rfl, pe_pre hB hK hP hD⟩ rfl rfl hl.1 rfl (lv_room (Nat.le_of_ble_eq_true rfl)) d_B_bound_2 ⟨Nat.le_of_ble_eq_true rfl, Nat.le_of_ble_eq_true rfl⟩) hS (fun r6 f7 H locs hq8 hP hD hS => ?_)
  obtain ⟨bo_9, i1_10, rfl⟩ := hq8
  refine lv_if_ne (tgt := 18) hx hb d_B_bound_5 (by decide) (fun b11 => ?_) (fun b11 => ?_)
  · skip
    have hr12 : r6 = nI 1 := (bl_1 bo_9 b11)
    have hi13 := i1_10 hr12
    obtain ⟨vk14, hvk14, rfl⟩ := hi13
    refine lv_aload_n hx hb d_B_bound_18 rfl (lv_at hl 0 rfl) ?_
    refine pf_get (v := .ref (g.lk B 3)) (C := "BigRunner") (T := FT0) (N := 5) hx hb (hw0 hB _) (fun _ h9 => h9) hown hK hP (lo_in hL t_B (by decide)) e1 rfl 3 (by decide) (wd_381 hB _) rfl d_B_bound_19 ?_
    obtain ⟨pr_16, ix_17, os_18, st_19, mo_20, lo_21, tr_22, e15, c23, c24, c25, c26, c27⟩ := oc_9.of (lo_k1_3 hL _ t_B) (hI (g.lk B 3))
    refine pf_get (v := .ref pr_16) (C := "BigRunner$Runner") (T := FT8) (N := 13) hx hb (hw8 hB _) (fun _ h9 => h9) hown hK hP (lo_in hL (lo_k1_3 hL _ t_B) (by decide)) e15 rfl 0 (by decide) (wd_331 hB _) rfl d_B_bound_22 ?_
    obtain ⟨sc_29, nc_30, e28, c31, c32⟩ := oc_7.of c23 (hI pr_16)
    refine pf_get (v := .ref (g.lk pr_16 4)) (C := "BigRunner$Program") (T := FT6) (N := 6) hx hb (hw6 hB _) (fun _ h9 => h9) hown hK hP (lo_in hL c23 (by decide)) e28 rfl 4 (by decide) (wd_255 hB _) rfl d_B_bound_25 ?_
    refine lv_iload_n hx hb d_B_bound_28 rfl (lv_at hl 1 rfl) ?_
    have e33 := oc_26.of (lo_k7_4 hL _ c23) (hI (g.lk pr_16 4))
    refine pf_aald (i := vk14) hx hb hK hP (lo_in hL (lo_k7_4 hL _ c23) (by decide)) e33 (lo_t26 hL _ (lo_k7_4 hL _ c23)) (by omega) (by decide) d_B_bound_29 ?_
    have t34 := lo_e26 hL _ (lo_k7_4 hL _ c23) vk14 (by omega)
    refine lv_astore_n (lv' := [(3, .ref (g.lk (g.lk pr_16 4) vk14)), (0, .ref B), (1, .int (nI vk14)), (2, .int gr)]) hx hb d_B_bound_30 rfl hl (by decide) rfl (fun ls hl => ?_)
    refine lv_iload_n hx hb d_B_bound_31 rfl (lv_at hl 3 rfl) ?_
    refine lv_if_eq (tgt := 42) hx hb d_B_bound_32 (by decide) (fun b35 => ?_) (fun b35 => ?_)
    · skip
      refine lv_aload_n hx hb d_B_bound_42 rfl (lv_at hl 0 rfl) ?_
      obtain ⟨lo_37, hi_38, e36⟩ := oc_3.of t34 (hI (g.lk (g.lk pr_16 4) vk14))
      refine pf_get (v := .long lo_37) (C := "BigRunner$Interval") (T := FT2) (N := 2) hx hb (hw2 hB _) (fun _ h9 => h9) hown hK hP (lo_in hL t34 (by decide)) e36 rfl 0 (by decide) (wd_128 hB _) rfl d_B_bound_43 ?_
      refine lv_lstore (lv' := [(4, .long lo_37), (3, .ref (g.lk (g.lk pr_16 4) vk14)), (0, .ref B), (1, .int (nI vk14)), (2, .int gr)]) hx hb d_B_bound_46 hl (by decide) rfl (fun ls hl => ?_)
      refine lv_lload hx hb d_B_bound_48 (lv_at hl 0 rfl) ?_
      refine pcc_i (va_runS (As := [.long lo_37]) (rest := []) ⟨hx, hb, hml, hown, tb_nil⟩ (c_isUnb l g H.size f lo_37 hL hI) ⟨(callB_of 1 (tb_one (wd_443 hB _)) tb_good1 rfl rfl rfl (wd_75 hB _) (wd_904 hB _) (by decide +kernel) ⟨Nat.le_of_ble_eq_true rfl, Nat.le_of_ble_eq_true rfl⟩), (wd_442 hB _)⟩ ⟨pe_bl, pe_pre hB hK hP hD⟩ rfl rfl hl.1 rfl (lv_room (Nat.le_of_ble_eq_true rfl)) d_B_bound_50 ⟨Nat.le_of_ble_eq_true rfl, Nat.le_of_ble_eq_true rfl⟩) hS (fun r39 f40 H locs hq41 hP hD hS => ?_)
      obtain ⟨bo_42, rfl⟩ := hq41
      refine lv_if_eq (tgt := 66) hx hb d_B_bound_53 (by decide) (fun b43 => ?_) (fun b43 => ?_)
      · skip
        have hr44 : r39 = nI 0 := b43
        refine lv_lload hx hb d_B_bound_66 (lv_at hl 0 rfl) ?_
        exact pt_lret hx hb hr hlocks hK hP hD hS d_B_bound_68 ⟨_, rfl, rfl⟩
      · skip
        have hr45 : r39 = nI 1 := (bl_1 bo_42 b43)
        exact pt_throw (own := "BigRunner") (cls := "java/lang/UnsupportedOperationException") (text := "UNBOUNDED") (names := ["java/lang/RuntimeException", "java/lang/Exception"]) hx hb (hl.1.trans hml.symm) hlocks hno hLt hown (by decide +kernel) (by decide +kernel) hB hTZ (fun U hB hH => ⟨(wd_864 hB _), (wd_865 hB _), (wd_93 hB _), (wd_905 hB _), oa_0 hB hH _⟩) hK hP hD hS d_B_bound_56 d_B_bound_59 d_B_bound_60 d_B_bound_62 d_B_bound_65 (Nat.le_of_ble_eq_true rfl) (Nat.le_of_ble_eq_true rfl) (Nat.le_of_ble_eq_true rfl) (Nat.le_of_ble_eq_true rfl) ⟨(Or.inr (rfl)), rfl⟩
    · skip
      refine lv_aload_n hx hb d_B_bound_35 rfl (lv_at hl 0 rfl) ?_
      obtain ⟨lo_47, hi_48, e46⟩ := oc_3.of t34 (hI (g.lk (g.lk pr_16 4) vk14))
      refine pf_get (v := .long hi_48) (C := "BigRunner$Interval") (T := FT2) (N := 2) hx hb (hw2 hB _) (fun _ h9 => h9) hown hK hP (lo_in hL t34 (by decide)) e46 rfl 1 (by decide) (wd_131 hB _) rfl d_B_bound_36 ?_
      refine lv_goto (tgt := 46) hx hb d_B_bound_39 (by decide) ?_
      refine lv_lstore (lv' := [(4, .long hi_48), (3, .ref (g.lk (g.lk pr_16 4) vk14)), (0, .ref B), (1, .int (nI vk14)), (2, .int gr)]) hx hb d_B_bound_46 hl (by decide) rfl (fun ls hl => ?_)
      refine lv_lload hx hb d_B_bound_48 (lv_at hl 0 rfl) ?_
      refine pcc_i (va_runS (As := [.long hi_48]) (rest := []) ⟨hx, hb, hml, hown, tb_nil⟩ (c_isUnb l g H.size f hi_48 hL hI) ⟨(callB_of 1 (tb_one (wd_443 hB _)) tb_good1 rfl rfl rfl (wd_75 hB _) (wd_904 hB _) (by decide +kernel) ⟨Nat.le_of_ble_eq_true rfl, Nat.le_of_ble_eq_true rfl⟩), (wd_442 hB _)⟩ ⟨pe_bl, pe_pre hB hK hP hD⟩ rfl rfl hl.1 rfl (lv_room (Nat.le_of_ble_eq_true rfl)) d_B_bound_50 ⟨Nat.le_of_ble_eq_true rfl, Nat.le_of_ble_eq_true rfl⟩) hS (fun r49 f50 H locs hq51 hP hD hS => ?_)
      obtain ⟨bo_52, rfl⟩ := hq51
      refine lv_if_eq (tgt := 66) hx hb d_B_bound_53 (by decide) (fun b53 => ?_) (fun b53 => ?_)
      · skip
        have hr54 : r49 = nI 0 := b53
        refine lv_lload hx hb d_B_bound_66 (lv_at hl 0 rfl) ?_
        exact pt_lret hx hb hr hlocks hK hP hD hS d_B_bound_68 ⟨_, rfl, rfl⟩
      · skip
        have hr55 : r49 = nI 1 := (bl_1 bo_52 b53)
        exact pt_throw (own := "BigRunner") (cls := "java/lang/UnsupportedOperationException") (text := "UNBOUNDED") (names := ["java/lang/RuntimeException", "java/lang/Exception"]) hx hb (hl.1.trans hml.symm) hlocks hno hLt hown (by decide +kernel) (by decide +kernel) hB hTZ (fun U hB hH => ⟨(wd_864 hB _), (wd_865 hB _), (wd_93 hB _), (wd_905 hB _), oa_0 hB hH _⟩) hK hP hD hS d_B_bound_56 d_B_bound_59 d_B_bound_60 d_B_bound_62 d_B_bound_65 (Nat.le_of_ble_eq_true rfl) (Nat.le_of_ble_eq_true rfl) (Nat.le_of_ble_eq_true rfl) (Nat.le_of_ble_eq_true rfl) ⟨(Or.inr (rfl)), rfl⟩
  · skip
    have hr56 : r6 = nI 0 := b11
    exact pt_throw (own := "BigRunner") (cls := "java/lang/IndexOutOfBoundsException") (text := "no such variable") (names := ["java/lang/RuntimeException", "java/lang/Exception"]) hx hb (hl.1.trans hml.symm) hlocks hno hLt hown (by decide +kernel) (by decide +kernel) hB hTZ (fun U hB hH => ⟨(wd_888 hB _), (wd_889 hB _), (wd_94 hB _), (wd_897 hB _), oa_1 hB hH _⟩) hK hP hD hS d_B_bound_8 d_B_bound_11 d_B_bound_12 d_B_bound_14 d_B_bound_17 (Nat.le_of_ble_eq_true rfl) (Nat.le_of_ble_eq_true rfl) (Nat.le_of_ble_eq_true rfl) (Nat.le_of_ble_eq_true rfl) ⟨(Or.inl rfl), rfl⟩
