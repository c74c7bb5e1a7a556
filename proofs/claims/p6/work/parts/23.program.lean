set_option maxHeartbeats 4000000 in
set_option maxRecDepth 100000 in
theorem c_findInterval (l : Launch) (g : Lay) (sz : Nat) (f : Nat → va_E) (P : Nat) (x : Nat) (hL : LO g) (t_P : g.tg P = 7) (t_x : g.tg x = 6) (hI : IV g f) : Met l ⟨"BigRunner$Program", "findInterval", "(LBigRunner$Node;)V"⟩ [Cond.code ⟨"BigRunner$Program", "findInterval", "(LBigRunner$Node;)V"⟩ prog_7_method_5_code 3 none] ({ frames := 4, cells := 0, slots := 0, locals := 93 }) (va_Pc [.ref P, .ref x] (pc_in g sz f)) (va_Qv (fun f1 => (IV g f1) ∧ (un [3] g f f1)) (pc_out g sz) (pc_A g sz)) 0 0 (pc_A g sz) := by
  refine pe_ofW (cc := prog_7_method_5_code) (maxL := 3) (ret := none) (lv := [(0, .ref P), (1, .ref x)]) (by decide) (Nat.le_of_ble_eq_true rfl) rfl ?_
  intro p e s m args below meth c ls hx hb hr hml hlocks hown hB hP hK hD hsz hS hl
  subst hsz
  have hu : un [3] g f f := un.rf
  refine lv_aload_n hx hb d_NProgram_findInterval_0 rfl (lv_at hl 1 rfl) ?_
  obtain ⟨kd_2, le_3, ri_4, sm_5, mv_6, e1, c7, c8, c9, c10, c11, c12⟩ := oc_6.of t_x (hI.1 x)
  refine pf_get (v := .ref (g.lk x 3)) (C := "BigRunner$Node") (T := FT5) (N := 7) hx hb (hw5 hB _) (fun _ h9 => h9) hown hK hP (lo_in hL t_x (by decide)) e1 rfl 3 (by decide) (wd_215 hB _) rfl d_NProgram_findInterval_1 ?_
  refine lv_astore_n (lv' := [(2, .ref (g.lk x 3)), (0, .ref P), (1, .ref x)]) hx hb d_NProgram_findInterval_4 rfl hl (by decide) rfl (fun ls hl => ?_)
  refine lv_aload_n hx hb d_NProgram_findInterval_5 rfl (lv_at hl 2 rfl) ?_
  refine pf_get (v := .int (nI kd_2)) (C := "BigRunner$Node") (T := FT5) (N := 7) hx hb (hw5 hB _) (fun _ h9 => h9) hown hK hP (lo_in hL t_x (by decide)) e1 rfl 0 (by decide) (wd_203 hB _) rfl d_NProgram_findInterval_6 ?_
  by_cases b13 : kd_2 = 0
  · skip
    refine lv_tableIn (off := 43) (tgt := 52) hx hb d_NProgram_findInterval_9 (by rw [nI_toInt (by omega)]; omega) (by rw [nI_toInt (by omega)]; omega) (by rw [nI_toInt (by omega), b13]; rfl) (by decide) ?_
    refine lv_aload_n hx hb d_NProgram_findInterval_52 rfl (lv_at hl 0 rfl) ?_
    refine lv_aload_n hx hb d_NProgram_findInterval_53 rfl (lv_at hl 2 rfl) ?_
    refine pf_get (v := .long mv_6) (C := "BigRunner$Node") (T := FT5) (N := 7) hx hb (hw5 hB _) (fun _ h9 => h9) hown hK hP (lo_in hL t_x (by decide)) e1 rfl 5 (by decide) (wd_220 hB _) rfl d_NProgram_findInterval_54 ?_
    refine lv_aload_n hx hb d_NProgram_findInterval_57 rfl (lv_at hl 2 rfl) ?_
    refine pf_get (v := .long mv_6) (C := "BigRunner$Node") (T := FT5) (N := 7) hx hb (hw5 hB _) (fun _ h9 => h9) hown hK hP (lo_in hL t_x (by decide)) e1 rfl 5 (by decide) (wd_220 hB _) rfl d_NProgram_findInterval_58 ?_
    obtain ⟨lo_15, hi_16, e14⟩ := oc_3.of (lo_k6_3 hL _ t_x) (hI.1 (g.lk x 3))
    refine pcc_v (va_runV (C := "BigRunner$Interval") (As := [.long mv_6, .long mv_6]) (rest := []) ⟨hx, hb, hml, hown, tb_nil⟩ (c_iset l g s.heap.size f ((g.lk x 3)) mv_6 mv_6 hL (lo_k6_3 hL _ t_x) hI) ⟨(callB_of 2 (tb_one (wd_598 hB _)) tb_good1 rfl rfl rfl (wd_75 hB _) (wd_595 hB _) (by decide +kernel) ⟨Nat.le_of_ble_eq_true rfl, Nat.le_of_ble_eq_true rfl⟩), (wd_596 hB _), (wd_597 hB _)⟩ ⟨pe_bl, pg_recv (ci := 2) hK hP (lo_in hL (lo_k6_3 hL _ t_x) (by decide)) e14 rfl, pe_pre hB hK hP hD⟩ rfl rfl hl.1 rfl (lv_room (Nat.le_of_ble_eq_true rfl)) d_NProgram_findInterval_61 ⟨Nat.le_of_ble_eq_true rfl, Nat.le_of_ble_eq_true rfl⟩) hS (fun f18 H locs hq19 hP hD hS => ?_)
    obtain ⟨hI1_20, hu1_21⟩ := hq19
    have hu := hu.tr hu1_21 (by decide)
    have e1 := hu1_21.at t_x (by decide) e1
    refine lv_goto (tgt := 257) hx hb d_NProgram_findInterval_64 (by decide) ?_
    exact pe_vret hx hb hr hlocks hK hP hD hS d_NProgram_findInterval_257 ⟨hI1_20, hu⟩
  by_cases b22 : kd_2 = 1
  · skip
    refine lv_tableIn (off := 58) (tgt := 67) hx hb d_NProgram_findInterval_9 (by rw [nI_toInt (by omega)]; omega) (by rw [nI_toInt (by omega)]; omega) (by rw [nI_toInt (by omega), b22]; rfl) (by decide) ?_
    refine lv_aload_n hx hb d_NProgram_findInterval_67 rfl (lv_at hl 0 rfl) ?_
    refine lv_aload_n hx hb d_NProgram_findInterval_68 rfl (lv_at hl 1 rfl) ?_
    obtain ⟨sc_24, nc_25, e23, c26, c27⟩ := oc_7.of t_P (hI.1 P)
    refine pf_get (v := .ref (g.lk P 4)) (C := "BigRunner$Program") (T := FT6) (N := 6) hx hb (hw6 hB _) (fun _ h9 => h9) hown hK hP (lo_in hL t_P (by decide)) e23 rfl 4 (by decide) (wd_253 hB _) rfl d_NProgram_findInterval_69 ?_
    refine lv_aload_n hx hb d_NProgram_findInterval_72 rfl (lv_at hl 2 rfl) ?_
    refine pf_get (v := .int (nI le_3)) (C := "BigRunner$Node") (T := FT5) (N := 7) hx hb (hw5 hB _) (fun _ h9 => h9) hown hK hP (lo_in hL t_x (by decide)) e1 rfl 1 (by decide) (wd_207 hB _) rfl d_NProgram_findInterval_73 ?_
    have e28 := oc_26.of (lo_k7_4 hL _ t_P) (hI.1 (g.lk P 4))
    refine pf_aald (i := le_3) hx hb hK hP (lo_in hL (lo_k7_4 hL _ t_P) (by decide)) e28 (lo_t26 hL _ (lo_k7_4 hL _ t_P)) (by omega) (by decide) d_NProgram_findInterval_76 ?_
    have t29 := lo_e26 hL _ (lo_k7_4 hL _ t_P) le_3 (by omega)
    obtain ⟨lo_31, hi_32, e30⟩ := oc_3.of t29 (hI.1 (g.lk (g.lk P 4) le_3))
    refine pf_get (v := .long lo_31) (C := "BigRunner$Interval") (T := FT2) (N := 2) hx hb (hw2 hB _) (fun _ h9 => h9) hown hK hP (lo_in hL t29 (by decide)) e30 rfl 0 (by decide) (wd_127 hB _) rfl d_NProgram_findInterval_77 ?_
    refine lv_aload_n hx hb d_NProgram_findInterval_80 rfl (lv_at hl 1 rfl) ?_
    refine pf_get (v := .ref (g.lk P 4)) (C := "BigRunner$Program") (T := FT6) (N := 6) hx hb (hw6 hB _) (fun _ h9 => h9) hown hK hP (lo_in hL t_P (by decide)) e23 rfl 4 (by decide) (wd_253 hB _) rfl d_NProgram_findInterval_81 ?_
    refine lv_aload_n hx hb d_NProgram_findInterval_84 rfl (lv_at hl 2 rfl) ?_
    refine pf_get (v := .int (nI le_3)) (C := "BigRunner$Node") (T := FT5) (N := 7) hx hb (hw5 hB _) (fun _ h9 => h9) hown hK hP (lo_in hL t_x (by decide)) e1 rfl 1 (by decide) (wd_207 hB _) rfl d_NProgram_findInterval_85 ?_
    refine pf_aald (i := le_3) hx hb hK hP (lo_in hL (lo_k7_4 hL _ t_P) (by decide)) e28 (lo_t26 hL _ (lo_k7_4 hL _ t_P)) (by omega) (by decide) d_NProgram_findInterval_88 ?_
    refine pf_get (v := .long hi_32) (C := "BigRunner$Interval") (T := FT2) (N := 2) hx hb (hw2 hB _) (fun _ h9 => h9) hown hK hP (lo_in hL t29 (by decide)) e30 rfl 1 (by decide) (wd_130 hB _) rfl d_NProgram_findInterval_89 ?_
    obtain ⟨lo_34, hi_35, e33⟩ := oc_3.of (lo_k6_3 hL _ t_x) (hI.1 (g.lk x 3))
    refine pcc_v (va_runV (C := "BigRunner$Interval") (As := [.long lo_31, .long hi_32]) (rest := []) ⟨hx, hb, hml, hown, tb_nil⟩ (c_iset l g s.heap.size f ((g.lk x 3)) lo_31 hi_32 hL (lo_k6_3 hL _ t_x) hI) ⟨(callB_of 2 (tb_one (wd_598 hB _)) tb_good1 rfl rfl rfl (wd_75 hB _) (wd_595 hB _) (by decide +kernel) ⟨Nat.le_of_ble_eq_true rfl, Nat.le_of_ble_eq_true rfl⟩), (wd_596 hB _), (wd_597 hB _)⟩ ⟨pe_bl, pg_recv (ci := 2) hK hP (lo_in hL (lo_k6_3 hL _ t_x) (by decide)) e33 rfl, pe_pre hB hK hP hD⟩ rfl rfl hl.1 rfl (lv_room (Nat.le_of_ble_eq_true rfl)) d_NProgram_findInterval_92 ⟨Nat.le_of_ble_eq_true rfl, Nat.le_of_ble_eq_true rfl⟩) hS (fun f37 H locs hq38 hP hD hS => ?_)
    obtain ⟨hI1_39, hu1_40⟩ := hq38
    have hu := hu.tr hu1_40 (by decide)
    have e1 := hu1_40.at t_x (by decide) e1
    have e23 := hu1_40.at t_P (by decide) e23
    have e28 := hu1_40.at (lo_k7_4 hL _ t_P) (by decide) e28
    refine lv_goto (tgt := 257) hx hb d_NProgram_findInterval_95 (by decide) ?_
    exact pe_vret hx hb hr hlocks hK hP hD hS d_NProgram_findInterval_257 ⟨hI1_39, hu⟩
  by_cases b41 : kd_2 = 2
  · skip
    refine lv_tableIn (off := 89) (tgt := 98) hx hb d_NProgram_findInterval_9 (by rw [nI_toInt (by omega)]; omega) (by rw [nI_toInt (by omega)]; omega) (by rw [nI_toInt (by omega), b41]; rfl) (by decide) ?_
    refine lv_aload_n hx hb d_NProgram_findInterval_98 rfl (lv_at hl 0 rfl) ?_
    refine lv_aload_n hx hb d_NProgram_findInterval_99 rfl (lv_at hl 1 rfl) ?_
    obtain ⟨sc_43, nc_44, e42, c45, c46⟩ := oc_7.of t_P (hI.1 P)
    refine pf_get (v := .ref (g.lk P 2)) (C := "BigRunner$Program") (T := FT6) (N := 6) hx hb (hw6 hB _) (fun _ h9 => h9) hown hK hP (lo_in hL t_P (by decide)) e42 rfl 2 (by decide) (wd_248 hB _) rfl d_NProgram_findInterval_100 ?_
    refine lv_aload_n hx hb d_NProgram_findInterval_103 rfl (lv_at hl 2 rfl) ?_
    refine pf_get (v := .int (nI le_3)) (C := "BigRunner$Node") (T := FT5) (N := 7) hx hb (hw5 hB _) (fun _ h9 => h9) hown hK hP (lo_in hL t_x (by decide)) e1 rfl 1 (by decide) (wd_207 hB _) rfl d_NProgram_findInterval_104 ?_
    have e47 := oc_25.of (lo_k7_2 hL _ t_P) (hI.1 (g.lk P 2))
    refine pf_aald (i := le_3) hx hb hK hP (lo_in hL (lo_k7_2 hL _ t_P) (by decide)) e47 (lo_t25 hL _ (lo_k7_2 hL _ t_P)) (by omega) (by decide) d_NProgram_findInterval_107 ?_
    have t48 := lo_e25 hL _ (lo_k7_2 hL _ t_P) le_3 (by omega)
    obtain ⟨kd_50, le_51, ri_52, sm_53, mv_54, e49, c55, c56, c57, c58, c59, c60⟩ := oc_6.of t48 (hI.1 (g.lk (g.lk P 2) le_3))
    refine pf_get (v := .ref (g.lk (g.lk (g.lk P 2) le_3) 3)) (C := "BigRunner$Node") (T := FT5) (N := 7) hx hb (hw5 hB _) (fun _ h9 => h9) hown hK hP (lo_in hL t48 (by decide)) e49 rfl 3 (by decide) (wd_215 hB _) rfl d_NProgram_findInterval_108 ?_
    obtain ⟨lo_62, hi_63, e61⟩ := oc_3.of (lo_k6_3 hL _ t_x) (hI.1 (g.lk x 3))
    refine pcc_v (va_runV (C := "BigRunner$Interval") (As := [.ref (g.lk (g.lk (g.lk P 2) le_3) 3)]) (rest := []) ⟨hx, hb, hml, hown, tb_nil⟩ (c_iNeg l g s.heap.size f ((g.lk x 3)) ((g.lk (g.lk (g.lk P 2) le_3) 3)) hL (lo_k6_3 hL _ t_x) (lo_k6_3 hL _ t48) hI) ⟨(callB_of 1 (tb_one (wd_620 hB _)) tb_good1 rfl rfl rfl (wd_75 hB _) (wd_617 hB _) (by decide +kernel) ⟨Nat.le_of_ble_eq_true rfl, Nat.le_of_ble_eq_true rfl⟩), (wd_618 hB _), (wd_619 hB _)⟩ ⟨pe_bl, pg_recv (ci := 2) hK hP (lo_in hL (lo_k6_3 hL _ t_x) (by decide)) e61 rfl, pe_pre hB hK hP hD⟩ rfl rfl hl.1 rfl (lv_room (Nat.le_of_ble_eq_true rfl)) d_NProgram_findInterval_111 ⟨Nat.le_of_ble_eq_true rfl, Nat.le_of_ble_eq_true rfl⟩) hS (fun f65 H locs hq66 hP hD hS => ?_)
    obtain ⟨hI1_67, hu1_68⟩ := hq66
    have hu := hu.tr hu1_68 (by decide)
    have e1 := hu1_68.at t_x (by decide) e1
    have e42 := hu1_68.at t_P (by decide) e42
    have e47 := hu1_68.at (lo_k7_2 hL _ t_P) (by decide) e47
    have e49 := hu1_68.at t48 (by decide) e49
    refine lv_goto (tgt := 257) hx hb d_NProgram_findInterval_114 (by decide) ?_
    exact pe_vret hx hb hr hlocks hK hP hD hS d_NProgram_findInterval_257 ⟨hI1_67, hu⟩
  by_cases b69 : kd_2 = 3
  · skip
    refine lv_tableIn (off := 108) (tgt := 117) hx hb d_NProgram_findInterval_9 (by rw [nI_toInt (by omega)]; omega) (by rw [nI_toInt (by omega)]; omega) (by rw [nI_toInt (by omega), b69]; rfl) (by decide) ?_
    refine lv_aload_n hx hb d_NProgram_findInterval_117 rfl (lv_at hl 0 rfl) ?_
    refine lv_aload_n hx hb d_NProgram_findInterval_118 rfl (lv_at hl 1 rfl) ?_
    obtain ⟨sc_71, nc_72, e70, c73, c74⟩ := oc_7.of t_P (hI.1 P)
    refine pf_get (v := .ref (g.lk P 2)) (C := "BigRunner$Program") (T := FT6) (N := 6) hx hb (hw6 hB _) (fun _ h9 => h9) hown hK hP (lo_in hL t_P (by decide)) e70 rfl 2 (by decide) (wd_248 hB _) rfl d_NProgram_findInterval_119 ?_
    refine lv_aload_n hx hb d_NProgram_findInterval_122 rfl (lv_at hl 2 rfl) ?_
    refine pf_get (v := .int (nI le_3)) (C := "BigRunner$Node") (T := FT5) (N := 7) hx hb (hw5 hB _) (fun _ h9 => h9) hown hK hP (lo_in hL t_x (by decide)) e1 rfl 1 (by decide) (wd_207 hB _) rfl d_NProgram_findInterval_123 ?_
    have e75 := oc_25.of (lo_k7_2 hL _ t_P) (hI.1 (g.lk P 2))
    refine pf_aald (i := le_3) hx hb hK hP (lo_in hL (lo_k7_2 hL _ t_P) (by decide)) e75 (lo_t25 hL _ (lo_k7_2 hL _ t_P)) (by omega) (by decide) d_NProgram_findInterval_126 ?_
    have t76 := lo_e25 hL _ (lo_k7_2 hL _ t_P) le_3 (by omega)
    obtain ⟨kd_78, le_79, ri_80, sm_81, mv_82, e77, c83, c84, c85, c86, c87, c88⟩ := oc_6.of t76 (hI.1 (g.lk (g.lk P 2) le_3))
    refine pf_get (v := .ref (g.lk (g.lk (g.lk P 2) le_3) 3)) (C := "BigRunner$Node") (T := FT5) (N := 7) hx hb (hw5 hB _) (fun _ h9 => h9) hown hK hP (lo_in hL t76 (by decide)) e77 rfl 3 (by decide) (wd_215 hB _) rfl d_NProgram_findInterval_127 ?_
    refine lv_aload_n hx hb d_NProgram_findInterval_130 rfl (lv_at hl 1 rfl) ?_
    refine pf_get (v := .ref (g.lk P 2)) (C := "BigRunner$Program") (T := FT6) (N := 6) hx hb (hw6 hB _) (fun _ h9 => h9) hown hK hP (lo_in hL t_P (by decide)) e70 rfl 2 (by decide) (wd_248 hB _) rfl d_NProgram_findInterval_131 ?_
    refine lv_aload_n hx hb d_NProgram_findInterval_134 rfl (lv_at hl 2 rfl) ?_
    refine pf_get (v := .int (nI ri_4)) (C := "BigRunner$Node") (T := FT5) (N := 7) hx hb (hw5 hB _) (fun _ h9 => h9) hown hK hP (lo_in hL t_x (by decide)) e1 rfl 2 (by decide) (wd_211 hB _) rfl d_NProgram_findInterval_135 ?_
    refine pf_aald (i := ri_4) hx hb hK hP (lo_in hL (lo_k7_2 hL _ t_P) (by decide)) e75 (lo_t25 hL _ (lo_k7_2 hL _ t_P)) (by omega) (by decide) d_NProgram_findInterval_138 ?_
    have t89 := lo_e25 hL _ (lo_k7_2 hL _ t_P) ri_4 (by omega)
    obtain ⟨kd_91, le_92, ri_93, sm_94, mv_95, e90, c96, c97, c98, c99, c100, c101⟩ := oc_6.of t89 (hI.1 (g.lk (g.lk P 2) ri_4))
    refine pf_get (v := .ref (g.lk (g.lk (g.lk P 2) ri_4) 3)) (C := "BigRunner$Node") (T := FT5) (N := 7) hx hb (hw5 hB _) (fun _ h9 => h9) hown hK hP (lo_in hL t89 (by decide)) e90 rfl 3 (by decide) (wd_215 hB _) rfl d_NProgram_findInterval_139 ?_
    obtain ⟨lo_103, hi_104, e102⟩ := oc_3.of (lo_k6_3 hL _ t_x) (hI.1 (g.lk x 3))
    refine pcc_v (va_runV (C := "BigRunner$Interval") (As := [.ref (g.lk (g.lk (g.lk P 2) le_3) 3), .ref (g.lk (g.lk (g.lk P 2) ri_4) 3)]) (rest := []) ⟨hx, hb, hml, hown, tb_nil⟩ (c_iSum l g s.heap.size f ((g.lk x 3)) ((g.lk (g.lk (g.lk P 2) le_3) 3)) ((g.lk (g.lk (g.lk P 2) ri_4) 3)) hL (lo_k6_3 hL _ t_x) (lo_k6_3 hL _ t76) (lo_k6_3 hL _ t89) hI) ⟨(callB_of 2 (tb_one (wd_625 hB _)) tb_good1 rfl rfl rfl (wd_75 hB _) (wd_622 hB _) (by decide +kernel) ⟨Nat.le_of_ble_eq_true rfl, Nat.le_of_ble_eq_true rfl⟩), (wd_623 hB _), (wd_624 hB _)⟩ ⟨pe_bl, pg_recv (ci := 2) hK hP (lo_in hL (lo_k6_3 hL _ t_x) (by decide)) e102 rfl, pe_pre hB hK hP hD⟩ rfl rfl hl.1 rfl (lv_room (Nat.le_of_ble_eq_true rfl)) d_NProgram_findInterval_142 ⟨Nat.le_of_ble_eq_true rfl, Nat.le_of_ble_eq_true rfl⟩) hS (fun f106 H locs hq107 hP hD hS => ?_)
    obtain ⟨hI1_108, hu1_109⟩ := hq107
    have hu := hu.tr hu1_109 (by decide)
    have e1 := hu1_109.at t_x (by decide) e1
    have e70 := hu1_109.at t_P (by decide) e70
    have e75 := hu1_109.at (lo_k7_2 hL _ t_P) (by decide) e75
    have e77 := hu1_109.at t76 (by decide) e77
    have e90 := hu1_109.at t89 (by decide) e90
    refine lv_goto (tgt := 257) hx hb d_NProgram_findInterval_145 (by decide) ?_
    exact pe_vret hx hb hr hlocks hK hP hD hS d_NProgram_findInterval_257 ⟨hI1_108, hu⟩
  by_cases b110 : kd_2 = 4
  · skip
    refine lv_tableIn (off := 139) (tgt := 148) hx hb d_NProgram_findInterval_9 (by rw [nI_toInt (by omega)]; omega) (by rw [nI_toInt (by omega)]; omega) (by rw [nI_toInt (by omega), b110]; rfl) (by decide) ?_
    refine lv_aload_n hx hb d_NProgram_findInterval_148 rfl (lv_at hl 0 rfl) ?_
    refine lv_aload_n hx hb d_NProgram_findInterval_149 rfl (lv_at hl 1 rfl) ?_
    obtain ⟨sc_112, nc_113, e111, c114, c115⟩ := oc_7.of t_P (hI.1 P)
    refine pf_get (v := .ref (g.lk P 2)) (C := "BigRunner$Program") (T := FT6) (N := 6) hx hb (hw6 hB _) (fun _ h9 => h9) hown hK hP (lo_in hL t_P (by decide)) e111 rfl 2 (by decide) (wd_248 hB _) rfl d_NProgram_findInterval_150 ?_
    refine lv_aload_n hx hb d_NProgram_findInterval_153 rfl (lv_at hl 2 rfl) ?_
    refine pf_get (v := .int (nI le_3)) (C := "BigRunner$Node") (T := FT5) (N := 7) hx hb (hw5 hB _) (fun _ h9 => h9) hown hK hP (lo_in hL t_x (by decide)) e1 rfl 1 (by decide) (wd_207 hB _) rfl d_NProgram_findInterval_154 ?_
    have e116 := oc_25.of (lo_k7_2 hL _ t_P) (hI.1 (g.lk P 2))
    refine pf_aald (i := le_3) hx hb hK hP (lo_in hL (lo_k7_2 hL _ t_P) (by decide)) e116 (lo_t25 hL _ (lo_k7_2 hL _ t_P)) (by omega) (by decide) d_NProgram_findInterval_157 ?_
    have t117 := lo_e25 hL _ (lo_k7_2 hL _ t_P) le_3 (by omega)
    obtain ⟨kd_119, le_120, ri_121, sm_122, mv_123, e118, c124, c125, c126, c127, c128, c129⟩ := oc_6.of t117 (hI.1 (g.lk (g.lk P 2) le_3))
    refine pf_get (v := .ref (g.lk (g.lk (g.lk P 2) le_3) 3)) (C := "BigRunner$Node") (T := FT5) (N := 7) hx hb (hw5 hB _) (fun _ h9 => h9) hown hK hP (lo_in hL t117 (by decide)) e118 rfl 3 (by decide) (wd_215 hB _) rfl d_NProgram_findInterval_158 ?_
    refine lv_aload_n hx hb d_NProgram_findInterval_161 rfl (lv_at hl 1 rfl) ?_
    refine pf_get (v := .ref (g.lk P 2)) (C := "BigRunner$Program") (T := FT6) (N := 6) hx hb (hw6 hB _) (fun _ h9 => h9) hown hK hP (lo_in hL t_P (by decide)) e111 rfl 2 (by decide) (wd_248 hB _) rfl d_NProgram_findInterval_162 ?_
    refine lv_aload_n hx hb d_NProgram_findInterval_165 rfl (lv_at hl 2 rfl) ?_
    refine pf_get (v := .int (nI ri_4)) (C := "BigRunner$Node") (T := FT5) (N := 7) hx hb (hw5 hB _) (fun _ h9 => h9) hown hK hP (lo_in hL t_x (by decide)) e1 rfl 2 (by decide) (wd_211 hB _) rfl d_NProgram_findInterval_166 ?_
    refine pf_aald (i := ri_4) hx hb hK hP (lo_in hL (lo_k7_2 hL _ t_P) (by decide)) e116 (lo_t25 hL _ (lo_k7_2 hL _ t_P)) (by omega) (by decide) d_NProgram_findInterval_169 ?_
    have t130 := lo_e25 hL _ (lo_k7_2 hL _ t_P) ri_4 (by omega)
    obtain ⟨kd_132, le_133, ri_134, sm_135, mv_136, e131, c137, c138, c139, c140, c141, c142⟩ := oc_6.of t130 (hI.1 (g.lk (g.lk P 2) ri_4))
    refine pf_get (v := .ref (g.lk (g.lk (g.lk P 2) ri_4) 3)) (C := "BigRunner$Node") (T := FT5) (N := 7) hx hb (hw5 hB _) (fun _ h9 => h9) hown hK hP (lo_in hL t130 (by decide)) e131 rfl 3 (by decide) (wd_215 hB _) rfl d_NProgram_findInterval_170 ?_
    obtain ⟨lo_144, hi_145, e143⟩ := oc_3.of (lo_k6_3 hL _ t_x) (hI.1 (g.lk x 3))
    refine pcc_v (va_runV (C := "BigRunner$Interval") (As := [.ref (g.lk (g.lk (g.lk P 2) le_3) 3), .ref (g.lk (g.lk (g.lk P 2) ri_4) 3)]) (rest := []) ⟨hx, hb, hml, hown, tb_nil⟩ (c_iDif l g s.heap.size f ((g.lk x 3)) ((g.lk (g.lk (g.lk P 2) le_3) 3)) ((g.lk (g.lk (g.lk P 2) ri_4) 3)) hL (lo_k6_3 hL _ t_x) (lo_k6_3 hL _ t117) (lo_k6_3 hL _ t130) hI) ⟨(callB_of 2 (tb_one (wd_633 hB _)) tb_good1 rfl rfl rfl (wd_75 hB _) (wd_630 hB _) (by decide +kernel) ⟨Nat.le_of_ble_eq_true rfl, Nat.le_of_ble_eq_true rfl⟩), (wd_631 hB _), (wd_632 hB _)⟩ ⟨pe_bl, pg_recv (ci := 2) hK hP (lo_in hL (lo_k6_3 hL _ t_x) (by decide)) e143 rfl, pe_pre hB hK hP hD⟩ rfl rfl hl.1 rfl (lv_room (Nat.le_of_ble_eq_true rfl)) d_NProgram_findInterval_173 ⟨Nat.le_of_ble_eq_true rfl, Nat.le_of_ble_eq_true rfl⟩) hS (fun f147 H locs hq148 hP hD hS => ?_)
    obtain ⟨hI1_149, hu1_150⟩ := hq148
    have hu := hu.tr hu1_150 (by decide)
    have e1 := hu1_150.at t_x (by decide) e1
    have e111 := hu1_150.at t_P (by decide) e111
    have e116 := hu1_150.at (lo_k7_2 hL _ t_P) (by decide) e116
    have e118 := hu1_150.at t117 (by decide) e118
    have e131 := hu1_150.at t130 (by decide) e131
    refine lv_goto (tgt := 257) hx hb d_NProgram_findInterval_176 (by decide) ?_
    exact pe_vret hx hb hr hlocks hK hP hD hS d_NProgram_findInterval_257 ⟨hI1_149, hu⟩
  by_cases b151 : kd_2 = 5
  · skip
    refine lv_tableIn (off := 170) (tgt := 179) hx hb d_NProgram_findInterval_9 (by rw [nI_toInt (by omega)]; omega) (by rw [nI_toInt (by omega)]; omega) (by rw [nI_toInt (by omega), b151]; rfl) (by decide) ?_
    refine lv_aload_n hx hb d_NProgram_findInterval_179 rfl (lv_at hl 0 rfl) ?_
    refine lv_aload_n hx hb d_NProgram_findInterval_180 rfl (lv_at hl 1 rfl) ?_
    obtain ⟨sc_153, nc_154, e152, c155, c156⟩ := oc_7.of t_P (hI.1 P)
    refine pf_get (v := .ref (g.lk P 2)) (C := "BigRunner$Program") (T := FT6) (N := 6) hx hb (hw6 hB _) (fun _ h9 => h9) hown hK hP (lo_in hL t_P (by decide)) e152 rfl 2 (by decide) (wd_248 hB _) rfl d_NProgram_findInterval_181 ?_
    refine lv_aload_n hx hb d_NProgram_findInterval_184 rfl (lv_at hl 2 rfl) ?_
    refine pf_get (v := .int (nI le_3)) (C := "BigRunner$Node") (T := FT5) (N := 7) hx hb (hw5 hB _) (fun _ h9 => h9) hown hK hP (lo_in hL t_x (by decide)) e1 rfl 1 (by decide) (wd_207 hB _) rfl d_NProgram_findInterval_185 ?_
    have e157 := oc_25.of (lo_k7_2 hL _ t_P) (hI.1 (g.lk P 2))
    refine pf_aald (i := le_3) hx hb hK hP (lo_in hL (lo_k7_2 hL _ t_P) (by decide)) e157 (lo_t25 hL _ (lo_k7_2 hL _ t_P)) (by omega) (by decide) d_NProgram_findInterval_188 ?_
    have t158 := lo_e25 hL _ (lo_k7_2 hL _ t_P) le_3 (by omega)
    obtain ⟨kd_160, le_161, ri_162, sm_163, mv_164, e159, c165, c166, c167, c168, c169, c170⟩ := oc_6.of t158 (hI.1 (g.lk (g.lk P 2) le_3))
    refine pf_get (v := .ref (g.lk (g.lk (g.lk P 2) le_3) 3)) (C := "BigRunner$Node") (T := FT5) (N := 7) hx hb (hw5 hB _) (fun _ h9 => h9) hown hK hP (lo_in hL t158 (by decide)) e159 rfl 3 (by decide) (wd_215 hB _) rfl d_NProgram_findInterval_189 ?_
    refine lv_aload_n hx hb d_NProgram_findInterval_192 rfl (lv_at hl 1 rfl) ?_
    refine pf_get (v := .ref (g.lk P 2)) (C := "BigRunner$Program") (T := FT6) (N := 6) hx hb (hw6 hB _) (fun _ h9 => h9) hown hK hP (lo_in hL t_P (by decide)) e152 rfl 2 (by decide) (wd_248 hB _) rfl d_NProgram_findInterval_193 ?_
    refine lv_aload_n hx hb d_NProgram_findInterval_196 rfl (lv_at hl 2 rfl) ?_
    refine pf_get (v := .int (nI ri_4)) (C := "BigRunner$Node") (T := FT5) (N := 7) hx hb (hw5 hB _) (fun _ h9 => h9) hown hK hP (lo_in hL t_x (by decide)) e1 rfl 2 (by decide) (wd_211 hB _) rfl d_NProgram_findInterval_197 ?_
    refine pf_aald (i := ri_4) hx hb hK hP (lo_in hL (lo_k7_2 hL _ t_P) (by decide)) e157 (lo_t25 hL _ (lo_k7_2 hL _ t_P)) (by omega) (by decide) d_NProgram_findInterval_200 ?_
    have t171 := lo_e25 hL _ (lo_k7_2 hL _ t_P) ri_4 (by omega)
    obtain ⟨kd_173, le_174, ri_175, sm_176, mv_177, e172, c178, c179, c180, c181, c182, c183⟩ := oc_6.of t171 (hI.1 (g.lk (g.lk P 2) ri_4))
    refine pf_get (v := .ref (g.lk (g.lk (g.lk P 2) ri_4) 3)) (C := "BigRunner$Node") (T := FT5) (N := 7) hx hb (hw5 hB _) (fun _ h9 => h9) hown hK hP (lo_in hL t171 (by decide)) e172 rfl 3 (by decide) (wd_215 hB _) rfl d_NProgram_findInterval_201 ?_
    obtain ⟨lo_185, hi_186, e184⟩ := oc_3.of (lo_k6_3 hL _ t_x) (hI.1 (g.lk x 3))
    refine pcc_v (va_runV (C := "BigRunner$Interval") (As := [.ref (g.lk (g.lk (g.lk P 2) le_3) 3), .ref (g.lk (g.lk (g.lk P 2) ri_4) 3)]) (rest := []) ⟨hx, hb, hml, hown, tb_nil⟩ (c_iPro l g s.heap.size f ((g.lk x 3)) ((g.lk (g.lk (g.lk P 2) le_3) 3)) ((g.lk (g.lk (g.lk P 2) ri_4) 3)) hL (lo_k6_3 hL _ t_x) (lo_k6_3 hL _ t158) (lo_k6_3 hL _ t171) hI) ⟨(callB_of 2 (tb_one (wd_637 hB _)) tb_good1 rfl rfl rfl (wd_75 hB _) (wd_634 hB _) (by decide +kernel) ⟨Nat.le_of_ble_eq_true rfl, Nat.le_of_ble_eq_true rfl⟩), (wd_635 hB _), (wd_636 hB _)⟩ ⟨pe_bl, pg_recv (ci := 2) hK hP (lo_in hL (lo_k6_3 hL _ t_x) (by decide)) e184 rfl, pe_pre hB hK hP hD⟩ rfl rfl hl.1 rfl (lv_room (Nat.le_of_ble_eq_true rfl)) d_NProgram_findInterval_204 ⟨Nat.le_of_ble_eq_true rfl, Nat.le_of_ble_eq_true rfl⟩) hS (fun f188 H locs hq189 hP hD hS => ?_)
    obtain ⟨hI1_190, hu1_191⟩ := hq189
    have hu := hu.tr hu1_191 (by decide)
    have e1 := hu1_191.at t_x (by decide) e1
    have e152 := hu1_191.at t_P (by decide) e152
    have e157 := hu1_191.at (lo_k7_2 hL _ t_P) (by decide) e157
    have e159 := hu1_191.at t158 (by decide) e159
    have e172 := hu1_191.at t171 (by decide) e172
    refine lv_goto (tgt := 257) hx hb d_NProgram_findInterval_207 (by decide) ?_
    exact pe_vret hx hb hr hlocks hK hP hD hS d_NProgram_findInterval_257 ⟨hI1_190, hu⟩
  by_cases b192 : kd_2 = 6
  · skip
    refine lv_tableIn (off := 201) (tgt := 210) hx hb d_NProgram_findInterval_9 (by rw [nI_toInt (by omega)]; omega) (by rw [nI_toInt (by omega)]; omega) (by rw [nI_toInt (by omega), b192]; rfl) (by decide) ?_
    refine lv_aload_n hx hb d_NProgram_findInterval_210 rfl (lv_at hl 0 rfl) ?_
    refine lv_aload_n hx hb d_NProgram_findInterval_211 rfl (lv_at hl 1 rfl) ?_
    obtain ⟨sc_194, nc_195, e193, c196, c197⟩ := oc_7.of t_P (hI.1 P)
    refine pf_get (v := .ref (g.lk P 2)) (C := "BigRunner$Program") (T := FT6) (N := 6) hx hb (hw6 hB _) (fun _ h9 => h9) hown hK hP (lo_in hL t_P (by decide)) e193 rfl 2 (by decide) (wd_248 hB _) rfl d_NProgram_findInterval_212 ?_
    refine lv_aload_n hx hb d_NProgram_findInterval_215 rfl (lv_at hl 2 rfl) ?_
    refine pf_get (v := .int (nI le_3)) (C := "BigRunner$Node") (T := FT5) (N := 7) hx hb (hw5 hB _) (fun _ h9 => h9) hown hK hP (lo_in hL t_x (by decide)) e1 rfl 1 (by decide) (wd_207 hB _) rfl d_NProgram_findInterval_216 ?_
    have e198 := oc_25.of (lo_k7_2 hL _ t_P) (hI.1 (g.lk P 2))
    refine pf_aald (i := le_3) hx hb hK hP (lo_in hL (lo_k7_2 hL _ t_P) (by decide)) e198 (lo_t25 hL _ (lo_k7_2 hL _ t_P)) (by omega) (by decide) d_NProgram_findInterval_219 ?_
    have t199 := lo_e25 hL _ (lo_k7_2 hL _ t_P) le_3 (by omega)
    obtain ⟨kd_201, le_202, ri_203, sm_204, mv_205, e200, c206, c207, c208, c209, c210, c211⟩ := oc_6.of t199 (hI.1 (g.lk (g.lk P 2) le_3))
    refine pf_get (v := .ref (g.lk (g.lk (g.lk P 2) le_3) 3)) (C := "BigRunner$Node") (T := FT5) (N := 7) hx hb (hw5 hB _) (fun _ h9 => h9) hown hK hP (lo_in hL t199 (by decide)) e200 rfl 3 (by decide) (wd_215 hB _) rfl d_NProgram_findInterval_220 ?_
    obtain ⟨lo_213, hi_214, e212⟩ := oc_3.of (lo_k6_3 hL _ t_x) (hI.1 (g.lk x 3))
    refine pcc_v (va_runV (C := "BigRunner$Interval") (As := [.ref (g.lk (g.lk (g.lk P 2) le_3) 3)]) (rest := []) ⟨hx, hb, hml, hown, tb_nil⟩ (c_iQuo l g s.heap.size f ((g.lk x 3)) ((g.lk (g.lk (g.lk P 2) le_3) 3)) hL (lo_k6_3 hL _ t_x) (lo_k6_3 hL _ t199) hI) ⟨(callB_of 1 (tb_one (wd_659 hB _)) tb_good1 rfl rfl rfl (wd_75 hB _) (wd_656 hB _) (by decide +kernel) ⟨Nat.le_of_ble_eq_true rfl, Nat.le_of_ble_eq_true rfl⟩), (wd_657 hB _), (wd_658 hB _)⟩ ⟨pe_bl, pg_recv (ci := 2) hK hP (lo_in hL (lo_k6_3 hL _ t_x) (by decide)) e212 rfl, pe_pre hB hK hP hD⟩ rfl rfl hl.1 rfl (lv_room (Nat.le_of_ble_eq_true rfl)) d_NProgram_findInterval_223 ⟨Nat.le_of_ble_eq_true rfl, Nat.le_of_ble_eq_true rfl⟩) hS (fun f216 H locs hq217 hP hD hS => ?_)
    obtain ⟨hI1_218, hu1_219⟩ := hq217
    have hu := hu.tr hu1_219 (by decide)
    have e1 := hu1_219.at t_x (by decide) e1
    have e193 := hu1_219.at t_P (by decide) e193
    have e198 := hu1_219.at (lo_k7_2 hL _ t_P) (by decide) e198
    have e200 := hu1_219.at t199 (by decide) e200
    refine lv_goto (tgt := 257) hx hb d_NProgram_findInterval_226 (by decide) ?_
    exact pe_vret hx hb hr hlocks hK hP hD hS d_NProgram_findInterval_257 ⟨hI1_218, hu⟩
  refine lv_tableOut (tgt := 229) hx hb d_NProgram_findInterval_9 (by rw [nI_toInt (by omega)]; omega) (by decide) ?_
  refine lv_aload_n hx hb d_NProgram_findInterval_229 rfl (lv_at hl 0 rfl) ?_
  refine lv_aload_n hx hb d_NProgram_findInterval_230 rfl (lv_at hl 1 rfl) ?_
  obtain ⟨sc_221, nc_222, e220, c223, c224⟩ := oc_7.of t_P (hI.1 P)
  refine pf_get (v := .ref (g.lk P 2)) (C := "BigRunner$Program") (T := FT6) (N := 6) hx hb (hw6 hB _) (fun _ h9 => h9) hown hK hP (lo_in hL t_P (by decide)) e220 rfl 2 (by decide) (wd_248 hB _) rfl d_NProgram_findInterval_231 ?_
  refine lv_aload_n hx hb d_NProgram_findInterval_234 rfl (lv_at hl 2 rfl) ?_
  refine pf_get (v := .int (nI le_3)) (C := "BigRunner$Node") (T := FT5) (N := 7) hx hb (hw5 hB _) (fun _ h9 => h9) hown hK hP (lo_in hL t_x (by decide)) e1 rfl 1 (by decide) (wd_207 hB _) rfl d_NProgram_findInterval_235 ?_
  have e225 := oc_25.of (lo_k7_2 hL _ t_P) (hI.1 (g.lk P 2))
  refine pf_aald (i := le_3) hx hb hK hP (lo_in hL (lo_k7_2 hL _ t_P) (by decide)) e225 (lo_t25 hL _ (lo_k7_2 hL _ t_P)) (by omega) (by decide) d_NProgram_findInterval_238 ?_
  have t226 := lo_e25 hL _ (lo_k7_2 hL _ t_P) le_3 (by omega)
  obtain ⟨kd_228, le_229, ri_230, sm_231, mv_232, e227, c233, c234, c235, c236, c237, c238⟩ := oc_6.of t226 (hI.1 (g.lk (g.lk P 2) le_3))
  refine pf_get (v := .ref (g.lk (g.lk (g.lk P 2) le_3) 3)) (C := "BigRunner$Node") (T := FT5) (N := 7) hx hb (hw5 hB _) (fun _ h9 => h9) hown hK hP (lo_in hL t226 (by decide)) e227 rfl 3 (by decide) (wd_215 hB _) rfl d_NProgram_findInterval_239 ?_
  refine lv_aload_n hx hb d_NProgram_findInterval_242 rfl (lv_at hl 1 rfl) ?_
  refine pf_get (v := .ref (g.lk P 2)) (C := "BigRunner$Program") (T := FT6) (N := 6) hx hb (hw6 hB _) (fun _ h9 => h9) hown hK hP (lo_in hL t_P (by decide)) e220 rfl 2 (by decide) (wd_248 hB _) rfl d_NProgram_findInterval_243 ?_
  refine lv_aload_n hx hb d_NProgram_findInterval_246 rfl (lv_at hl 2 rfl) ?_
  refine pf_get (v := .int (nI ri_4)) (C := "BigRunner$Node") (T := FT5) (N := 7) hx hb (hw5 hB _) (fun _ h9 => h9) hown hK hP (lo_in hL t_x (by decide)) e1 rfl 2 (by decide) (wd_211 hB _) rfl d_NProgram_findInterval_247 ?_
  refine pf_aald (i := ri_4) hx hb hK hP (lo_in hL (lo_k7_2 hL _ t_P) (by decide)) e225 (lo_t25 hL _ (lo_k7_2 hL _ t_P)) (by omega) (by decide) d_NProgram_findInterval_250 ?_
  have t239 := lo_e25 hL _ (lo_k7_2 hL _ t_P) ri_4 (by omega)
  obtain ⟨kd_241, le_242, ri_243, sm_244, mv_245, e240, c246, c247, c248, c249, c250, c251⟩ := oc_6.of t239 (hI.1 (g.lk (g.lk P 2) ri_4))
  refine pf_get (v := .ref (g.lk (g.lk (g.lk P 2) ri_4) 3)) (C := "BigRunner$Node") (T := FT5) (N := 7) hx hb (hw5 hB _) (fun _ h9 => h9) hown hK hP (lo_in hL t239 (by decide)) e240 rfl 3 (by decide) (wd_215 hB _) rfl d_NProgram_findInterval_251 ?_
  obtain ⟨lo_253, hi_254, e252⟩ := oc_3.of (lo_k6_3 hL _ t_x) (hI.1 (g.lk x 3))
  refine pcc_v (va_runV (C := "BigRunner$Interval") (As := [.ref (g.lk (g.lk (g.lk P 2) le_3) 3), .ref (g.lk (g.lk (g.lk P 2) ri_4) 3)]) (rest := []) ⟨hx, hb, hml, hown, tb_nil⟩ (c_iRes l g s.heap.size f ((g.lk x 3)) ((g.lk (g.lk (g.lk P 2) le_3) 3)) ((g.lk (g.lk (g.lk P 2) ri_4) 3)) hL (lo_k6_3 hL _ t_x) (lo_k6_3 hL _ t226) (lo_k6_3 hL _ t239) hI) ⟨(callB_of 2 (tb_one (wd_667 hB _)) tb_good1 rfl rfl rfl (wd_75 hB _) (wd_664 hB _) (by decide +kernel) ⟨Nat.le_of_ble_eq_true rfl, Nat.le_of_ble_eq_true rfl⟩), (wd_665 hB _), (wd_666 hB _)⟩ ⟨pe_bl, pg_recv (ci := 2) hK hP (lo_in hL (lo_k6_3 hL _ t_x) (by decide)) e252 rfl, pe_pre hB hK hP hD⟩ rfl rfl hl.1 rfl (lv_room (Nat.le_of_ble_eq_true rfl)) d_NProgram_findInterval_254 ⟨Nat.le_of_ble_eq_true rfl, Nat.le_of_ble_eq_true rfl⟩) hS (fun f256 H locs hq257 hP hD hS => ?_)
  obtain ⟨hI1_258, hu1_259⟩ := hq257
  have hu := hu.tr hu1_259 (by decide)
  have e1 := hu1_259.at t_x (by decide) e1
  have e220 := hu1_259.at t_P (by decide) e220
  have e225 := hu1_259.at (lo_k7_2 hL _ t_P) (by decide) e225
  have e227 := hu1_259.at t226 (by decide) e227
  have e240 := hu1_259.at t239 (by decide) e240
  exact pe_vret hx hb hr hlocks hK hP hD hS d_NProgram_findInterval_257 ⟨hI1_258, hu⟩
set_option maxHeartbeats 4000000 in
set_option maxRecDepth 100000 in
theorem c_judge (l : Launch) (g : Lay) (sz : Nat) (f : Nat → va_E) (P : Nat) (x : Nat) (hL : LO g) (t_P : g.tg P = 7) (t_x : g.tg x = 6) (hI : IV g f) : Met l ⟨"BigRunner$Program", "judge", "(LBigRunner$Node;)V"⟩ [Cond.code ⟨"BigRunner$Program", "judge", "(LBigRunner$Node;)V"⟩ prog_7_method_6_code 3 none] ({ frames := 2, cells := 0, slots := 0, locals := 41 }) (va_Pc [.ref P, .ref x] (pc_in g sz f)) (va_Qv (fun f1 => (IV g f1) ∧ (un [6] g f f1)) (pc_out g sz) (pc_A g sz)) 0 0 (pc_A g sz) := by
  refine pe_ofW (cc := prog_7_method_6_code) (maxL := 3) (ret := none) (lv := [(0, .ref P), (1, .ref x)]) (by decide) (Nat.le_of_ble_eq_true rfl) rfl ?_
  intro p e s m args below meth c ls hx hb hr hml hlocks hown hB hP hK hD hsz hS hl
  subst hsz
  have hu : un [6] g f f := un.rf
  refine lv_iconst (v := nI 1) hx hb d_NProgram_judge_0 (by decide) ?_
  refine lv_istore_n (lv' := [(2, .int (nI 1)), (0, .ref P), (1, .ref x)]) hx hb d_NProgram_judge_1 rfl hl (by decide) rfl (fun ls hl => ?_)
  refine lv_aload_n hx hb d_NProgram_judge_2 rfl (lv_at hl 2 rfl) ?_
  obtain ⟨kd_2, le_3, ri_4, sm_5, mv_6, e1, c7, c8, c9, c10, c11, c12⟩ := oc_6.of t_x (hI.1 x)
  refine pf_get (v := .int (nI kd_2)) (C := "BigRunner$Node") (T := FT5) (N := 7) hx hb (hw5 hB _) (fun _ h9 => h9) hown hK hP (lo_in hL t_x (by decide)) e1 rfl 0 (by decide) (wd_203 hB _) rfl d_NProgram_judge_3 ?_
  refine lv_iconst (v := nI 2) hx hb d_NProgram_judge_6 (by decide) ?_
  refine lv_icmp_lt (tgt := 46) hx hb d_NProgram_judge_7 (by decide) (fun b13 => ?_) (fun b13 => ?_)
  · skip
    replace b13 := (nI_ltI (a := kd_2) (b := 2) (by omega) (by omega)).mp b13
    refine lv_aload_n hx hb d_NProgram_judge_46 rfl (lv_at hl 2 rfl) ?_
    refine lv_iload_n hx hb d_NProgram_judge_47 rfl (lv_at hl 0 rfl) ?_
    refine lv_if_eq (tgt := 65) hx hb d_NProgram_judge_48 (by decide) (fun b14 => ?_) (fun b14 => ?_)
    · skip
      replace b14 := (nI_eq (a := 1) (b := 0) (by omega) (by omega)).mp b14
      exfalso; omega
    · skip
      replace b14 := mt (nI_eq (a := 1) (b := 0) (by omega) (by omega)).mpr b14
      refine lv_aload_n hx hb d_NProgram_judge_51 rfl (lv_at hl 2 rfl) ?_
      refine pf_get (v := .ref (g.lk x 3)) (C := "BigRunner$Node") (T := FT5) (N := 7) hx hb (hw5 hB _) (fun _ h9 => h9) hown hK hP (lo_in hL t_x (by decide)) e1 rfl 3 (by decide) (wd_215 hB _) rfl d_NProgram_judge_52 ?_
      obtain ⟨lo_16, hi_17, e15⟩ := oc_3.of (lo_k6_3 hL _ t_x) (hI.1 (g.lk x 3))
      refine pcc_i (va_runV (C := "BigRunner$Interval") (As := []) (rest := [.ref x]) ⟨hx, hb, hml, hown, tb_nil⟩ (c_isBounded l g s.heap.size f ((g.lk x 3)) hL (lo_k6_3 hL _ t_x) hI.1) ⟨(callB_of 0 (tb_one (wd_440 hB _)) tb_good1 rfl rfl rfl (wd_75 hB _) (wd_672 hB _) (by decide +kernel) ⟨Nat.le_of_ble_eq_true rfl, Nat.le_of_ble_eq_true rfl⟩), (wd_438 hB _), (wd_439 hB _)⟩ ⟨pe_bl, pg_recv (ci := 2) hK hP (lo_in hL (lo_k6_3 hL _ t_x) (by decide)) e15 rfl, pe_pre hB hK hP hD⟩ rfl rfl hl.1 rfl (lv_room (Nat.le_of_ble_eq_true rfl)) d_NProgram_judge_55 ⟨Nat.le_of_ble_eq_true rfl, Nat.le_of_ble_eq_true rfl⟩) hS (fun r18 f19 H locs hq20 hP hD hS => ?_)
      obtain ⟨bo_21, rfl⟩ := hq20
      refine lv_if_eq (tgt := 65) hx hb d_NProgram_judge_58 (by decide) (fun b22 => ?_) (fun b22 => ?_)
      · skip
        have hr23 : r18 = nI 0 := b22
        refine lv_iconst (v := nI 0) hx hb d_NProgram_judge_65 (by decide) ?_
        refine pf_put (v := .int (nI 0)) (ty := .boolean) (fs' := [.int (nI kd_2), .int (nI le_3), .int (nI ri_4), .ref (g.lk x 3), .int (nI 0), .long mv_6, .ref (g.lk x 6)]) (C := "BigRunner$Node") (T := FT5) (N := 7) hx hb (hw5 hB _) (fun _ h9 => h9) TY5 ok5 nm5 hown hK hP hD hS (lo_in hL t_x (by decide)) e1 rfl 4 (by decide) (wd_217 hB _) rfl (by decide +kernel) rfl rfl (Nat.le_of_ble_eq_true rfl) rfl d_NProgram_judge_66 (fun f24 H locs e25 k26 hP hD hS => ?_)
        have e15 := (k26 (g.lk x 3) (tg_ne (lo_k6_3 hL _ t_x) t_x (by decide))).trans e15
        have hu := hu.st k26 t_x (by decide)
        have hk27 : ∀ b, b ≠ x → f24 b = f b := k26
        have hI28 := iv_1 hI hL t_x (by decide) hk27 (oc_6.mk t_x (⟨kd_2, le_3, ri_4, ((nI 0)), mv_6, e25, (by omega), (by omega), (by omega), (by omega), (Or.inl rfl), (by omega)⟩))
        exact pe_vret hx hb hr hlocks hK hP hD hS d_NProgram_judge_69 ⟨hI28, hu⟩
      · skip
        have hr29 : r18 = nI 1 := (bl_1 bo_21 b22)
        refine lv_iconst (v := nI 1) hx hb d_NProgram_judge_61 (by decide) ?_
        refine lv_goto (tgt := 66) hx hb d_NProgram_judge_62 (by decide) ?_
        refine pf_put (v := .int (nI 1)) (ty := .boolean) (fs' := [.int (nI kd_2), .int (nI le_3), .int (nI ri_4), .ref (g.lk x 3), .int (nI 1), .long mv_6, .ref (g.lk x 6)]) (C := "BigRunner$Node") (T := FT5) (N := 7) hx hb (hw5 hB _) (fun _ h9 => h9) TY5 ok5 nm5 hown hK hP hD hS (lo_in hL t_x (by decide)) e1 rfl 4 (by decide) (wd_217 hB _) rfl (by decide +kernel) rfl rfl (Nat.le_of_ble_eq_true rfl) rfl d_NProgram_judge_66 (fun f30 H locs e31 k32 hP hD hS => ?_)
        have e15 := (k32 (g.lk x 3) (tg_ne (lo_k6_3 hL _ t_x) t_x (by decide))).trans e15
        have hu := hu.st k32 t_x (by decide)
        have hk33 : ∀ b, b ≠ x → f30 b = f b := k32
        have hI34 := iv_1 hI hL t_x (by decide) hk33 (oc_6.mk t_x (⟨kd_2, le_3, ri_4, ((nI 1)), mv_6, e31, (by omega), (by omega), (by omega), (by omega), (Or.inr rfl), (by omega)⟩))
        exact pe_vret hx hb hr hlocks hK hP hD hS d_NProgram_judge_69 ⟨hI34, hu⟩
  · skip
    replace b13 := mt (nI_ltI (a := kd_2) (b := 2) (by omega) (by omega)).mpr b13
    refine lv_aload_n hx hb d_NProgram_judge_10 rfl (lv_at hl 1 rfl) ?_
    obtain ⟨sc_36, nc_37, e35, c38, c39⟩ := oc_7.of t_P (hI.1 P)
    refine pf_get (v := .ref (g.lk P 2)) (C := "BigRunner$Program") (T := FT6) (N := 6) hx hb (hw6 hB _) (fun _ h9 => h9) hown hK hP (lo_in hL t_P (by decide)) e35 rfl 2 (by decide) (wd_248 hB _) rfl d_NProgram_judge_11 ?_
    refine lv_aload_n hx hb d_NProgram_judge_14 rfl (lv_at hl 2 rfl) ?_
    refine pf_get (v := .int (nI le_3)) (C := "BigRunner$Node") (T := FT5) (N := 7) hx hb (hw5 hB _) (fun _ h9 => h9) hown hK hP (lo_in hL t_x (by decide)) e1 rfl 1 (by decide) (wd_207 hB _) rfl d_NProgram_judge_15 ?_
    have e40 := oc_25.of (lo_k7_2 hL _ t_P) (hI.1 (g.lk P 2))
    refine pf_aald (i := le_3) hx hb hK hP (lo_in hL (lo_k7_2 hL _ t_P) (by decide)) e40 (lo_t25 hL _ (lo_k7_2 hL _ t_P)) (by omega) (by decide) d_NProgram_judge_18 ?_
    have t41 := lo_e25 hL _ (lo_k7_2 hL _ t_P) le_3 (by omega)
    obtain ⟨kd_43, le_44, ri_45, sm_46, mv_47, e42, c48, c49, c50, c51, c52, c53⟩ := oc_6.of t41 (hI.1 (g.lk (g.lk P 2) le_3))
    refine pf_get (v := .int sm_46) (C := "BigRunner$Node") (T := FT5) (N := 7) hx hb (hw5 hB _) (fun _ h9 => h9) hown hK hP (lo_in hL t41 (by decide)) e42 rfl 4 (by decide) (wd_217 hB _) rfl d_NProgram_judge_19 ?_
    refine lv_if_eq (tgt := 44) hx hb d_NProgram_judge_22 (by decide) (fun b54 => ?_) (fun b54 => ?_)
    · skip
      have hr55 : sm_46 = nI 0 := b54
      refine lv_iconst (v := nI 0) hx hb d_NProgram_judge_44 (by decide) ?_
      refine lv_istore_n (lv' := [(2, .int (nI 0)), (0, .ref P), (1, .ref x)]) hx hb d_NProgram_judge_45 rfl hl (by decide) rfl (fun ls hl => ?_)
      refine lv_aload_n hx hb d_NProgram_judge_46 rfl (lv_at hl 2 rfl) ?_
      refine lv_iload_n hx hb d_NProgram_judge_47 rfl (lv_at hl 0 rfl) ?_
      refine lv_if_eq (tgt := 65) hx hb d_NProgram_judge_48 (by decide) (fun b56 => ?_) (fun b56 => ?_)
      · skip
        replace b56 := (nI_eq (a := 0) (b := 0) (by omega) (by omega)).mp b56
        refine lv_iconst (v := nI 0) hx hb d_NProgram_judge_65 (by decide) ?_
        refine pf_put (v := .int (nI 0)) (ty := .boolean) (fs' := [.int (nI kd_2), .int (nI le_3), .int (nI ri_4), .ref (g.lk x 3), .int (nI 0), .long mv_6, .ref (g.lk x 6)]) (C := "BigRunner$Node") (T := FT5) (N := 7) hx hb (hw5 hB _) (fun _ h9 => h9) TY5 ok5 nm5 hown hK hP hD hS (lo_in hL t_x (by decide)) e1 rfl 4 (by decide) (wd_217 hB _) rfl (by decide +kernel) rfl rfl (Nat.le_of_ble_eq_true rfl) rfl d_NProgram_judge_66 (fun f57 H locs e58 k59 hP hD hS => ?_)
        have e35 := (k59 P (tg_ne t_P t_x (by decide))).trans e35
        have e40 := (k59 (g.lk P 2) (tg_ne (lo_k7_2 hL _ t_P) t_x (by decide))).trans e40
        have hu := hu.st k59 t_x (by decide)
        have hk60 : ∀ b, b ≠ x → f57 b = f b := k59
        have hI61 := iv_1 hI hL t_x (by decide) hk60 (oc_6.mk t_x (⟨kd_2, le_3, ri_4, ((nI 0)), mv_6, e58, (by omega), (by omega), (by omega), (by omega), (Or.inl rfl), (by omega)⟩))
        exact pe_vret hx hb hr hlocks hK hP hD hS d_NProgram_judge_69 ⟨hI61, hu⟩
      · skip
        replace b56 := mt (nI_eq (a := 0) (b := 0) (by omega) (by omega)).mpr b56
        exfalso; omega
    · skip
      have hr62 : sm_46 = nI 1 := (bl_1 c52 b54)
      refine lv_aload_n hx hb d_NProgram_judge_25 rfl (lv_at hl 1 rfl) ?_
      refine pf_get (v := .ref (g.lk P 2)) (C := "BigRunner$Program") (T := FT6) (N := 6) hx hb (hw6 hB _) (fun _ h9 => h9) hown hK hP (lo_in hL t_P (by decide)) e35 rfl 2 (by decide) (wd_248 hB _) rfl d_NProgram_judge_26 ?_
      refine lv_aload_n hx hb d_NProgram_judge_29 rfl (lv_at hl 2 rfl) ?_
      refine pf_get (v := .int (nI ri_4)) (C := "BigRunner$Node") (T := FT5) (N := 7) hx hb (hw5 hB _) (fun _ h9 => h9) hown hK hP (lo_in hL t_x (by decide)) e1 rfl 2 (by decide) (wd_211 hB _) rfl d_NProgram_judge_30 ?_
      refine pf_aald (i := ri_4) hx hb hK hP (lo_in hL (lo_k7_2 hL _ t_P) (by decide)) e40 (lo_t25 hL _ (lo_k7_2 hL _ t_P)) (by omega) (by decide) d_NProgram_judge_33 ?_
      have t63 := lo_e25 hL _ (lo_k7_2 hL _ t_P) ri_4 (by omega)
      obtain ⟨kd_65, le_66, ri_67, sm_68, mv_69, e64, c70, c71, c72, c73, c74, c75⟩ := oc_6.of t63 (hI.1 (g.lk (g.lk P 2) ri_4))
      refine pf_get (v := .int sm_68) (C := "BigRunner$Node") (T := FT5) (N := 7) hx hb (hw5 hB _) (fun _ h9 => h9) hown hK hP (lo_in hL t63 (by decide)) e64 rfl 4 (by decide) (wd_217 hB _) rfl d_NProgram_judge_34 ?_
      refine lv_if_eq (tgt := 44) hx hb d_NProgram_judge_37 (by decide) (fun b76 => ?_) (fun b76 => ?_)
      · skip
        have hr77 : sm_68 = nI 0 := b76
        refine lv_iconst (v := nI 0) hx hb d_NProgram_judge_44 (by decide) ?_
        refine lv_istore_n (lv' := [(2, .int (nI 0)), (0, .ref P), (1, .ref x)]) hx hb d_NProgram_judge_45 rfl hl (by decide) rfl (fun ls hl => ?_)
        refine lv_aload_n hx hb d_NProgram_judge_46 rfl (lv_at hl 2 rfl) ?_
        refine lv_iload_n hx hb d_NProgram_judge_47 rfl (lv_at hl 0 rfl) ?_
        refine lv_if_eq (tgt := 65) hx hb d_NProgram_judge_48 (by decide) (fun b78 => ?_) (fun b78 => ?_)
        · skip
          replace b78 := (nI_eq (a := 0) (b := 0) (by omega) (by omega)).mp b78
          refine lv_iconst (v := nI 0) hx hb d_NProgram_judge_65 (by decide) ?_
          refine pf_put (v := .int (nI 0)) (ty := .boolean) (fs' := [.int (nI kd_2), .int (nI le_3), .int (nI ri_4), .ref (g.lk x 3), .int (nI 0), .long mv_6, .ref (g.lk x 6)]) (C := "BigRunner$Node") (T := FT5) (N := 7) hx hb (hw5 hB _) (fun _ h9 => h9) TY5 ok5 nm5 hown hK hP hD hS (lo_in hL t_x (by decide)) e1 rfl 4 (by decide) (wd_217 hB _) rfl (by decide +kernel) rfl rfl (Nat.le_of_ble_eq_true rfl) rfl d_NProgram_judge_66 (fun f79 H locs e80 k81 hP hD hS => ?_)
          have e35 := (k81 P (tg_ne t_P t_x (by decide))).trans e35
          have e40 := (k81 (g.lk P 2) (tg_ne (lo_k7_2 hL _ t_P) t_x (by decide))).trans e40
          have hu := hu.st k81 t_x (by decide)
          have hk82 : ∀ b, b ≠ x → f79 b = f b := k81
          have hI83 := iv_1 hI hL t_x (by decide) hk82 (oc_6.mk t_x (⟨kd_2, le_3, ri_4, ((nI 0)), mv_6, e80, (by omega), (by omega), (by omega), (by omega), (Or.inl rfl), (by omega)⟩))
          exact pe_vret hx hb hr hlocks hK hP hD hS d_NProgram_judge_69 ⟨hI83, hu⟩
        · skip
          replace b78 := mt (nI_eq (a := 0) (b := 0) (by omega) (by omega)).mpr b78
          exfalso; omega
      · skip
        have hr84 : sm_68 = nI 1 := (bl_1 c74 b76)
        refine lv_iconst (v := nI 1) hx hb d_NProgram_judge_40 (by decide) ?_
        refine lv_goto (tgt := 45) hx hb d_NProgram_judge_41 (by decide) ?_
        refine lv_istore_n (lv' := [(2, .int (nI 1)), (0, .ref P), (1, .ref x)]) hx hb d_NProgram_judge_45 rfl hl (by decide) rfl (fun ls hl => ?_)
        refine lv_aload_n hx hb d_NProgram_judge_46 rfl (lv_at hl 2 rfl) ?_
        refine lv_iload_n hx hb d_NProgram_judge_47 rfl (lv_at hl 0 rfl) ?_
        refine lv_if_eq (tgt := 65) hx hb d_NProgram_judge_48 (by decide) (fun b85 => ?_) (fun b85 => ?_)
        · skip
          replace b85 := (nI_eq (a := 1) (b := 0) (by omega) (by omega)).mp b85
          exfalso; omega
        · skip
          replace b85 := mt (nI_eq (a := 1) (b := 0) (by omega) (by omega)).mpr b85
          refine lv_aload_n hx hb d_NProgram_judge_51 rfl (lv_at hl 2 rfl) ?_
          refine pf_get (v := .ref (g.lk x 3)) (C := "BigRunner$Node") (T := FT5) (N := 7) hx hb (hw5 hB _) (fun _ h9 => h9) hown hK hP (lo_in hL t_x (by decide)) e1 rfl 3 (by decide) (wd_215 hB _) rfl d_NProgram_judge_52 ?_
          obtain ⟨lo_87, hi_88, e86⟩ := oc_3.of (lo_k6_3 hL _ t_x) (hI.1 (g.lk x 3))
          refine pcc_i (va_runV (C := "BigRunner$Interval") (As := []) (rest := [.ref x]) ⟨hx, hb, hml, hown, tb_nil⟩ (c_isBounded l g s.heap.size f ((g.lk x 3)) hL (lo_k6_3 hL _ t_x) hI.1) ⟨(callB_of 0 (tb_one (wd_440 hB _)) tb_good1 rfl rfl rfl (wd_75 hB _) (wd_672 hB _) (by decide +kernel) ⟨Nat.le_of_ble_eq_true rfl, Nat.le_of_ble_eq_true rfl⟩), (wd_438 hB _), (wd_439 hB _)⟩ ⟨pe_bl, pg_recv (ci := 2) hK hP (lo_in hL (lo_k6_3 hL _ t_x) (by decide)) e86 rfl, pe_pre hB hK hP hD⟩ rfl rfl hl.1 rfl (lv_room (Nat.le_of_ble_eq_true rfl)) d_NProgram_judge_55 ⟨Nat.le_of_ble_eq_true rfl, Nat.le_of_ble_eq_true rfl⟩) hS (fun r89 f90 H locs hq91 hP hD hS => ?_)
          obtain ⟨bo_92, rfl⟩ := hq91
          refine lv_if_eq (tgt := 65) hx hb d_NProgram_judge_58 (by decide) (fun b93 => ?_) (fun b93 => ?_)
          · skip
            have hr94 : r89 = nI 0 := b93
            refine lv_iconst (v := nI 0) hx hb d_NProgram_judge_65 (by decide) ?_
            refine pf_put (v := .int (nI 0)) (ty := .boolean) (fs' := [.int (nI kd_2), .int (nI le_3), .int (nI ri_4), .ref (g.lk x 3), .int (nI 0), .long mv_6, .ref (g.lk x 6)]) (C := "BigRunner$Node") (T := FT5) (N := 7) hx hb (hw5 hB _) (fun _ h9 => h9) TY5 ok5 nm5 hown hK hP hD hS (lo_in hL t_x (by decide)) e1 rfl 4 (by decide) (wd_217 hB _) rfl (by decide +kernel) rfl rfl (Nat.le_of_ble_eq_true rfl) rfl d_NProgram_judge_66 (fun f95 H locs e96 k97 hP hD hS => ?_)
            have e35 := (k97 P (tg_ne t_P t_x (by decide))).trans e35
            have e40 := (k97 (g.lk P 2) (tg_ne (lo_k7_2 hL _ t_P) t_x (by decide))).trans e40
            have e86 := (k97 (g.lk x 3) (tg_ne (lo_k6_3 hL _ t_x) t_x (by decide))).trans e86
            have hu := hu.st k97 t_x (by decide)
            have hk98 : ∀ b, b ≠ x → f95 b = f b := k97
            have hI99 := iv_1 hI hL t_x (by decide) hk98 (oc_6.mk t_x (⟨kd_2, le_3, ri_4, ((nI 0)), mv_6, e96, (by omega), (by omega), (by omega), (by omega), (Or.inl rfl), (by omega)⟩))
            exact pe_vret hx hb hr hlocks hK hP hD hS d_NProgram_judge_69 ⟨hI99, hu⟩
          · skip
            have hr100 : r89 = nI 1 := (bl_1 bo_92 b93)
            refine lv_iconst (v := nI 1) hx hb d_NProgram_judge_61 (by decide) ?_
            refine lv_goto (tgt := 66) hx hb d_NProgram_judge_62 (by decide) ?_
            refine pf_put (v := .int (nI 1)) (ty := .boolean) (fs' := [.int (nI kd_2), .int (nI le_3), .int (nI ri_4), .ref (g.lk x 3), .int (nI 1), .long mv_6, .ref (g.lk x 6)]) (C := "BigRunner$Node") (T := FT5) (N := 7) hx hb (hw5 hB _) (fun _ h9 => h9) TY5 ok5 nm5 hown hK hP hD hS (lo_in hL t_x (by decide)) e1 rfl 4 (by decide) (wd_217 hB _) rfl (by decide +kernel) rfl rfl (Nat.le_of_ble_eq_true rfl) rfl d_NProgram_judge_66 (fun f101 H locs e102 k103 hP hD hS => ?_)
            have e35 := (k103 P (tg_ne t_P t_x (by decide))).trans e35
            have e40 := (k103 (g.lk P 2) (tg_ne (lo_k7_2 hL _ t_P) t_x (by decide))).trans e40
            have e86 := (k103 (g.lk x 3) (tg_ne (lo_k6_3 hL _ t_x) t_x (by decide))).trans e86
            have hu := hu.st k103 t_x (by decide)
            have hk104 : ∀ b, b ≠ x → f101 b = f b := k103
            have hI105 := iv_1 hI hL t_x (by decide) hk104 (oc_6.mk t_x (⟨kd_2, le_3, ri_4, ((nI 1)), mv_6, e102, (by omega), (by omega), (by omega), (by omega), (Or.inr rfl), (by omega)⟩))
            exact pe_vret hx hb hr hlocks hK hP hD hS d_NProgram_judge_69 ⟨hI105, hu⟩
set_option maxHeartbeats 4000000 in
set_option maxRecDepth 100000 in
theorem c_intervalOf (l : Launch) (g : Lay) (sz : Nat) (f : Nat → va_E) (P : Nat) (S : Nat) (kd : Nat) (nm : Nat) (fn : Nat) (la : Nat) (ta : Nat) (hL : LO g) (t_P : g.tg P = 7) (t_S : g.tg S = 10) (hI : IV g f) (es : f S = .inr (9, [.int (nI kd), .int (nI nm), .int (nI fn), .int (nI la), .int (nI ta)])) (h1 : fn ≤ 72) (h2 : la < 72) : Met l ⟨"BigRunner$Program", "intervalOfExpr", "(LBigRunner$Statement;)LBigRunner$Interval;"⟩ [Cond.code ⟨"BigRunner$Program", "intervalOfExpr", "(LBigRunner$Statement;)LBigRunner$Interval;"⟩ prog_7_method_4_code 3 (some (.object "BigRunner$Interval"))] ({ frames := 5, cells := 0, slots := 0, locals := 115 }) (va_Pc [.ref P, .ref S] (pc_in g sz f)) (va_Qr (fun _ => True) (pc_outr g sz (fun f1 ra => (ra = g.lk (g.lk (g.lk P 2) la) 3) ∧ (IV g f1) ∧ (un [3] g f f1))) (pc_A g sz)) 0 0 (pc_A g sz) := by
  refine pe_ofW (cc := prog_7_method_4_code) (maxL := 3) (ret := (some (.object "BigRunner$Interval"))) (lv := [(0, .ref P), (1, .ref S)]) (by decide) (Nat.le_of_ble_eq_true rfl) rfl ?_
  intro p e s m args below meth c ls hx hb hr hml hlocks hown hB hP hK hD hsz hS hl
  subst hsz
  have hu : un [3] g f f := un.rf
  refine lv_aload_n hx hb d_NProgram_intervalOfExpr_0 rfl (lv_at hl 1 rfl) ?_
  refine pf_get (v := .int (nI fn)) (C := "BigRunner$Statement") (T := FT9) (N := 5) hx hb (hw9 hB _) (fun _ h9 => h9) hown hK hP (lo_in hL t_S (by decide)) es rfl 2 (by decide) (wd_152 hB _) rfl d_NProgram_intervalOfExpr_1 ?_
  refine lv_istore_n (lv' := [(2, .int (nI fn)), (0, .ref P), (1, .ref S)]) hx hb d_NProgram_intervalOfExpr_4 rfl hl (by decide) rfl (fun ls hl => ?_)
  have lp1 : ∀ (k3 : Nat) (i : Nat) (f2 : Nat → va_E) (H : Heap) (locs : List Loc) (ls : Array Slot), (73 < i + k3) → (i ≤ 73) → IV g f2 → un [3] g f f2 → lv_has ls 3 [(2, .int (nI i)), (0, .ref P), (1, .ref S)] → va_P g.D vcl (va_pl g.LP f2) H → va_D (pc_A g s.heap.size) (va_pl g.LP f2) → va_S (pc_A g s.heap.size) s.heap H locs → W p l e ({ frames := 5, cells := 0, slots := 0, locals := 115 }) s m args below meth c H locs 0 0 (MQ below (va_Qr (fun _ => True) (pc_outr g s.heap.size (fun f1 ra => (ra = g.lk (g.lk (g.lk P 2) la) 3) ∧ (IV g f1) ∧ (un [3] g f f1))) (pc_A g s.heap.size)) args s 0 0 (pc_A g s.heap.size)) (F0 m 5 ls []) := by
    intro k3
    induction k3 with
    | zero => intros; exfalso; omega
    | succ k3 ih4 =>
      intro i f2 H locs ls hfu5 hi hI6 hv7 hl hP hD hS
      have es := hv7.at t_S (by decide) es
      have hu := hu.tr hv7 (by decide)
      refine lv_iload_n hx hb d_NProgram_intervalOfExpr_5 rfl (lv_at hl 0 rfl) ?_
      refine lv_aload_n hx hb d_NProgram_intervalOfExpr_6 rfl (lv_at hl 2 rfl) ?_
      refine pf_get (v := .int (nI la)) (C := "BigRunner$Statement") (T := FT9) (N := 5) hx hb (hw9 hB _) (fun _ h9 => h9) hown hK hP (lo_in hL t_S (by decide)) es rfl 3 (by decide) (wd_156 hB _) rfl d_NProgram_intervalOfExpr_7 ?_
      refine lv_icmp_gt (tgt := 29) hx hb d_NProgram_intervalOfExpr_10 (by decide) (fun b8 => ?_) (fun b8 => ?_)
      · skip
        replace b8 := (nI_ltI (a := la) (b := i) (by omega) (by omega)).mp b8
        refine lv_aload_n hx hb d_NProgram_intervalOfExpr_29 rfl (lv_at hl 1 rfl) ?_
        obtain ⟨sc_10, nc_11, e9, c12, c13⟩ := oc_7.of t_P (hI6.1 P)
        refine pf_get (v := .ref (g.lk P 2)) (C := "BigRunner$Program") (T := FT6) (N := 6) hx hb (hw6 hB _) (fun _ h9 => h9) hown hK hP (lo_in hL t_P (by decide)) e9 rfl 2 (by decide) (wd_248 hB _) rfl d_NProgram_intervalOfExpr_30 ?_
        refine lv_aload_n hx hb d_NProgram_intervalOfExpr_33 rfl (lv_at hl 2 rfl) ?_
        refine pf_get (v := .int (nI la)) (C := "BigRunner$Statement") (T := FT9) (N := 5) hx hb (hw9 hB _) (fun _ h9 => h9) hown hK hP (lo_in hL t_S (by decide)) es rfl 3 (by decide) (wd_156 hB _) rfl d_NProgram_intervalOfExpr_34 ?_
        have e14 := oc_25.of (lo_k7_2 hL _ t_P) (hI6.1 (g.lk P 2))
        refine pf_aald (i := la) hx hb hK hP (lo_in hL (lo_k7_2 hL _ t_P) (by decide)) e14 (lo_t25 hL _ (lo_k7_2 hL _ t_P)) (by omega) (by decide) d_NProgram_intervalOfExpr_37 ?_
        have t15 := lo_e25 hL _ (lo_k7_2 hL _ t_P) la (by omega)
        obtain ⟨kd_17, le_18, ri_19, sm_20, mv_21, e16, c22, c23, c24, c25, c26, c27⟩ := oc_6.of t15 (hI6.1 (g.lk (g.lk P 2) la))
        refine pf_get (v := .ref (g.lk (g.lk (g.lk P 2) la) 3)) (C := "BigRunner$Node") (T := FT5) (N := 7) hx hb (hw5 hB _) (fun _ h9 => h9) hown hK hP (lo_in hL t15 (by decide)) e16 rfl 3 (by decide) (wd_215 hB _) rfl d_NProgram_intervalOfExpr_38 ?_
        exact pe_aret hx hb hr hlocks hK hP hD hS d_NProgram_intervalOfExpr_41 ⟨rfl, hI6, hu⟩
      · skip
        replace b8 := mt (nI_ltI (a := la) (b := i) (by omega) (by omega)).mpr b8
        refine lv_aload_n hx hb d_NProgram_intervalOfExpr_13 rfl (lv_at hl 1 rfl) ?_
        refine lv_aload_n hx hb d_NProgram_intervalOfExpr_14 rfl (lv_at hl 1 rfl) ?_
        obtain ⟨sc_29, nc_30, e28, c31, c32⟩ := oc_7.of t_P (hI6.1 P)
        refine pf_get (v := .ref (g.lk P 2)) (C := "BigRunner$Program") (T := FT6) (N := 6) hx hb (hw6 hB _) (fun _ h9 => h9) hown hK hP (lo_in hL t_P (by decide)) e28 rfl 2 (by decide) (wd_248 hB _) rfl d_NProgram_intervalOfExpr_15 ?_
        refine lv_iload_n hx hb d_NProgram_intervalOfExpr_18 rfl (lv_at hl 0 rfl) ?_
        have e33 := oc_25.of (lo_k7_2 hL _ t_P) (hI6.1 (g.lk P 2))
        refine pf_aald (i := i) hx hb hK hP (lo_in hL (lo_k7_2 hL _ t_P) (by decide)) e33 (lo_t25 hL _ (lo_k7_2 hL _ t_P)) (by omega) (by decide) d_NProgram_intervalOfExpr_19 ?_
        have t34 := lo_e25 hL _ (lo_k7_2 hL _ t_P) i (by omega)
        refine pcc_v (va_runV (C := "BigRunner$Program") (As := [.ref (g.lk (g.lk P 2) i)]) (rest := []) ⟨hx, hb, hml, hown, tb_nil⟩ (c_findInterval l g H.size f2 P ((g.lk (g.lk P 2) i)) hL t_P t34 hI6) ⟨(callB_of 1 (tb_one (wd_616 hB _)) tb_good1 rfl rfl rfl (wd_74 hB _) (wd_613 hB _) (by decide +kernel) ⟨Nat.le_of_ble_eq_true rfl, Nat.le_of_ble_eq_true rfl⟩), (wd_615 hB _), (wd_20 hB _)⟩ ⟨pe_bl, pg_recv (ci := 6) hK hP (lo_in hL t_P (by decide)) e28 rfl, pe_pre hB hK hP hD⟩ rfl rfl hl.1 rfl (lv_room (Nat.le_of_ble_eq_true rfl)) d_NProgram_intervalOfExpr_20 ⟨Nat.le_of_ble_eq_true rfl, Nat.le_of_ble_eq_true rfl⟩) hS (fun f36 H locs hq37 hP hD hS => ?_)
        obtain ⟨hI1_38, hu1_39⟩ := hq37
        have hu := hu.tr hu1_39 (by decide)
        have hv7 := hv7.tr hu1_39 (by decide)
        have es := hu1_39.at t_S (by decide) es
        have e28 := hu1_39.at t_P (by decide) e28
        have e33 := hu1_39.at (lo_k7_2 hL _ t_P) (by decide) e33
        refine lv_iinc (k := 0) (v := nI (i + 1)) (lv' := [(2, .int (nI (i + 1))), (0, .ref P), (1, .ref S)]) hx hb d_NProgram_intervalOfExpr_23 hl rfl (by rw [nI_succ]; rfl) (by decide) rfl (fun ls hl => ?_)
        refine lv_goto (tgt := 5) hx hb d_NProgram_intervalOfExpr_26 (by decide) ?_
        exact ih4 (i + 1) f36 H locs ls (by omega) (by omega) hI1_38 hv7 hl hP hD hS
  exact lp1 74 fn f s.heap [] ls (by omega) (by omega) hI un.rf hl hP hD hS
set_option maxHeartbeats 4000000 in
set_option maxRecDepth 100000 in
theorem c_makeRound (l : Launch) (g : Lay) (sz : Nat) (f : Nat → va_E) (P : Nat) (wd : Int32) (sn : Nat) (nn : Nat) (hL : LO g) (t_P : g.tg P = 7) (hI : IV g f) (eP : f P = .inr (6, [.ref (g.lk P 0), .int (nI sn), .ref (g.lk P 2), .int (nI nn), .ref (g.lk P 4), .ref (g.lk P 5)])) (hsn : sn ≤ 36) (hSG : SG g f P 0 sn) : Met l ⟨"BigRunner$Program", "makeRound", "(Z)Z"⟩ [Cond.code ⟨"BigRunner$Program", "makeRound", "(Z)Z"⟩ prog_7_method_3_code 5 (some .boolean)] ({ frames := 6, cells := 0, slots := 0, locals := 137 }) (va_Pc [.ref P, .int wd] (pc_in g sz f)) (va_Qi (fun r f1 => (r = nI 0 ∨ r = nI 1) ∧ (IV g f1) ∧ (un [3] g f f1)) (pc_out g sz) (pc_A g sz)) 0 0 (pc_A g sz) := by
  refine pe_ofW (cc := prog_7_method_3_code) (maxL := 5) (ret := (some .boolean)) (lv := [(0, .ref P), (1, .int wd)]) (by decide) (Nat.le_of_ble_eq_true rfl) rfl ?_
  intro p e s m args below meth c ls hx hb hr hml hlocks hown hB hP hK hD hsz hS hl
  subst hsz
  have hu : un [3] g f f := un.rf
  refine lv_iconst (v := nI 0) hx hb d_NProgram_makeRound_0 (by decide) ?_
  refine lv_istore_n (lv' := [(2, .int (nI 0)), (0, .ref P), (1, .int wd)]) hx hb d_NProgram_makeRound_1 rfl hl (by decide) rfl (fun ls hl => ?_)
  refine lv_iconst (v := nI 0) hx hb d_NProgram_makeRound_2 (by decide) ?_
  refine lv_istore_n (lv' := [(3, .int (nI 0)), (2, .int (nI 0)), (0, .ref P), (1, .int wd)]) hx hb d_NProgram_makeRound_3 rfl hl (by decide) rfl (fun ls hl => ?_)
  have lp1 : ∀ (k3 : Nat) (mv : Int32) (i : Nat) (f2 : Nat → va_E) (H : Heap) (locs : List Loc) (ls : Array Slot), (sn < i + k3) → (mv = nI 0 ∨ mv = nI 1) → (i ≤ sn) → IV g f2 → un [3] g f f2 → lv_has ls 5 [(3, .int (nI i)), (2, .int mv), (0, .ref P), (1, .int wd)] → va_P g.D vcl (va_pl g.LP f2) H → va_D (pc_A g s.heap.size) (va_pl g.LP f2) → va_S (pc_A g s.heap.size) s.heap H locs → W p l e ({ frames := 6, cells := 0, slots := 0, locals := 137 }) s m args below meth c H locs 0 0 (MQ below (va_Qi (fun r f1 => (r = nI 0 ∨ r = nI 1) ∧ (IV g f1) ∧ (un [3] g f f1)) (pc_out g s.heap.size) (pc_A g s.heap.size)) args s 0 0 (pc_A g s.heap.size)) (F0 m 4 ls []) := by
    intro k3
    induction k3 with
    | zero => intros; exfalso; omega
    | succ k3 ih4 =>
      intro mv i f2 H locs ls hfu5 hmv hi hI6 hv7 hl hP hD hS
      have eP := hv7.at t_P (by decide) eP
      have hu := hu.tr hv7 (by decide)
      have hS8 := SG_un hSG hL t_P hsn hv7 (by decide)
      refine lv_iload_n hx hb d_NProgram_makeRound_4 rfl (lv_at hl 0 rfl) ?_
      refine lv_aload_n hx hb d_NProgram_makeRound_5 rfl (lv_at hl 2 rfl) ?_
      refine pf_get (v := .int (nI sn)) (C := "BigRunner$Program") (T := FT6) (N := 6) hx hb (hw6 hB _) (fun _ h9 => h9) hown hK hP (lo_in hL t_P (by decide)) eP rfl 1 (by decide) (wd_245 hB _) rfl d_NProgram_makeRound_6 ?_
      refine lv_icmp_ge (tgt := 90) hx hb d_NProgram_makeRound_9 (by decide) (fun b9 => ?_) (fun b9 => ?_)
      · skip
        replace b9 := (nI_leI (a := sn) (b := i) (by omega) (by omega)).mp b9
        refine lv_iload_n hx hb d_NProgram_makeRound_90 rfl (lv_at hl 1 rfl) ?_
        exact pe_zret hx hb hr hlocks hK hP hD hS d_NProgram_makeRound_91 (by rcases hmv with h9 | h9 <;> rw [h9] <;> rfl) ⟨hmv, hI6, hu⟩
      · skip
        replace b9 := mt (nI_leI (a := sn) (b := i) (by omega) (by omega)).mpr b9
        refine lv_aload_n hx hb d_NProgram_makeRound_12 rfl (lv_at hl 2 rfl) ?_
        refine pf_get (v := .ref (g.lk P 0)) (C := "BigRunner$Program") (T := FT6) (N := 6) hx hb (hw6 hB _) (fun _ h9 => h9) hown hK hP (lo_in hL t_P (by decide)) eP rfl 0 (by decide) (wd_242 hB _) rfl d_NProgram_makeRound_13 ?_
        refine lv_iload_n hx hb d_NProgram_makeRound_16 rfl (lv_at hl 0 rfl) ?_
        have e10 := oc_24.of (lo_k7_0 hL _ t_P) (hI6.1 (g.lk P 0))
        refine pf_aald (i := i) hx hb hK hP (lo_in hL (lo_k7_0 hL _ t_P) (by decide)) e10 (lo_t24 hL _ (lo_k7_0 hL _ t_P)) (by omega) (by decide) d_NProgram_makeRound_17 ?_
        have t11 := lo_e24 hL _ (lo_k7_0 hL _ t_P) i (by omega)
        obtain ⟨kd_12, nm_13, fn_14, la_15, ta_16, e17, c18, c19, c20, c21, c22, c23⟩ := hS8 i (by omega) (by omega)
        refine lv_astore (lv' := [(4, .ref (g.lk (g.lk P 0) i)), (3, .int (nI i)), (2, .int mv), (0, .ref P), (1, .int wd)]) hx hb d_NProgram_makeRound_18 hl (by decide) rfl (fun ls hl => ?_)
        refine lv_aload hx hb d_NProgram_makeRound_20 (lv_at hl 0 rfl) ?_
        refine pf_get (v := .int (nI kd_12)) (C := "BigRunner$Statement") (T := FT9) (N := 5) hx hb (hw9 hB _) (fun _ h9 => h9) hown hK hP (lo_in hL t11 (by decide)) e17 rfl 0 (by decide) (wd_144 hB _) rfl d_NProgram_makeRound_22 ?_
        refine lv_iconst (v := nI 1) hx hb d_NProgram_makeRound_25 (by decide) ?_
        refine lv_icmp_ne (tgt := 53) hx hb d_NProgram_makeRound_26 (by decide) (fun b24 => ?_) (fun b24 => ?_)
        · skip
          replace b24 := mt (nI_eq (a := kd_12) (b := 1) (by omega) (by omega)).mpr b24
          refine lv_aload hx hb d_NProgram_makeRound_53 (lv_at hl 0 rfl) ?_
          refine pf_get (v := .int (nI kd_12)) (C := "BigRunner$Statement") (T := FT9) (N := 5) hx hb (hw9 hB _) (fun _ h9 => h9) hown hK hP (lo_in hL t11 (by decide)) e17 rfl 0 (by decide) (wd_144 hB _) rfl d_NProgram_makeRound_55 ?_
          refine lv_if_ne (tgt := 84) hx hb d_NProgram_makeRound_58 (by decide) (fun b25 => ?_) (fun b25 => ?_)
          · skip
            replace b25 := mt (nI_eq (a := kd_12) (b := 0) (by omega) (by omega)).mpr b25
            refine lv_iinc (k := 1) (v := nI (i + 1)) (lv' := [(3, .int (nI (i + 1))), (4, .ref (g.lk (g.lk P 0) i)), (2, .int mv), (0, .ref P), (1, .int wd)]) hx hb d_NProgram_makeRound_84 hl rfl (by rw [nI_succ]; rfl) (by decide) rfl (fun ls hl => ?_)
            refine lv_goto (tgt := 4) hx hb d_NProgram_makeRound_87 (by decide) ?_
            have hl : lv_has ls 5 [(3, .int (nI (i + 1))), (2, .int mv), (0, .ref P), (1, .int wd)] := lv_sub hl [0, 2, 3, 4] rfl
            exact ih4 mv (i + 1) f2 H locs ls (by omega) hmv (by omega) hI6 hv7 hl hP hD hS
          · skip
            replace b25 := (nI_eq (a := kd_12) (b := 0) (by omega) (by omega)).mp b25
            obtain ⟨j26, hj26, rfl⟩ := c22 (by omega) (by omega)
            refine lv_iload_n hx hb d_NProgram_makeRound_61 rfl (lv_at hl 2 rfl) ?_
            refine lv_aload_n hx hb d_NProgram_makeRound_62 rfl (lv_at hl 3 rfl) ?_
            refine pf_get (v := .ref (g.lk P 4)) (C := "BigRunner$Program") (T := FT6) (N := 6) hx hb (hw6 hB _) (fun _ h9 => h9) hown hK hP (lo_in hL t_P (by decide)) eP rfl 4 (by decide) (wd_253 hB _) rfl d_NProgram_makeRound_63 ?_
            refine lv_aload hx hb d_NProgram_makeRound_66 (lv_at hl 0 rfl) ?_
            refine pf_get (v := .int (nI nm_13)) (C := "BigRunner$Statement") (T := FT9) (N := 5) hx hb (hw9 hB _) (fun _ h9 => h9) hown hK hP (lo_in hL t11 (by decide)) e17 rfl 1 (by decide) (wd_148 hB _) rfl d_NProgram_makeRound_68 ?_
            have e27 := oc_26.of (lo_k7_4 hL _ t_P) (hI6.1 (g.lk P 4))
            refine pf_aald (i := nm_13) hx hb hK hP (lo_in hL (lo_k7_4 hL _ t_P) (by decide)) e27 (lo_t26 hL _ (lo_k7_4 hL _ t_P)) (by omega) (by decide) d_NProgram_makeRound_71 ?_
            have t28 := lo_e26 hL _ (lo_k7_4 hL _ t_P) nm_13 (by omega)
            refine lv_aload_n hx hb d_NProgram_makeRound_72 rfl (lv_at hl 3 rfl) ?_
            refine lv_aload hx hb d_NProgram_makeRound_73 (lv_at hl 0 rfl) ?_
            refine pcc_r (va_runV (C := "BigRunner$Program") (As := [.ref (g.lk (g.lk P 0) i)]) (rest := [.ref (g.lk (g.lk P 4) nm_13), .int mv]) ⟨hx, hb, hml, hown, tb_nil⟩ (c_intervalOf l g H.size f2 P ((g.lk (g.lk P 0) i)) kd_12 nm_13 fn_14 j26 ta_16 hL t_P t11 hI6 e17 (by omega) (by omega)) ⟨(callB_of 1 (tb_one (wd_612 hB _)) tb_good1 rfl rfl rfl (wd_74 hB _) (wd_609 hB _) (by decide +kernel) ⟨Nat.le_of_ble_eq_true rfl, Nat.le_of_ble_eq_true rfl⟩), (wd_611 hB _), (wd_19 hB _)⟩ ⟨pe_bl, pg_recv (ci := 6) hK hP (lo_in hL t_P (by decide)) eP rfl, pe_pre hB hK hP hD⟩ rfl rfl hl.1 rfl (lv_room (Nat.le_of_ble_eq_true rfl)) d_NProgram_makeRound_75 ⟨Nat.le_of_ble_eq_true rfl, Nat.le_of_ble_eq_true rfl⟩) hS (fun r29 f30 H locs hq31 hP hD hS => ?_)
            obtain ⟨ra_32, hI1_33, hu1_34⟩ := hq31
            subst ra_32
            have hu := hu.tr hu1_34 (by decide)
            have hv7 := hv7.tr hu1_34 (by decide)
            have eP := hu1_34.at t_P (by decide) eP
            have e10 := hu1_34.at (lo_k7_0 hL _ t_P) (by decide) e10
            have e17 := hu1_34.at t11 (by decide) e17
            have e27 := hu1_34.at (lo_k7_4 hL _ t_P) (by decide) e27
            refine lv_iload_n hx hb d_NProgram_makeRound_78 rfl (lv_at hl 4 rfl) ?_
            obtain ⟨lo_36, hi_37, e35⟩ := oc_3.of t28 (hI1_33.1 (g.lk (g.lk P 4) nm_13))
            refine pcc_i (va_runV (C := "BigRunner$Interval") (As := [.ref (g.lk (g.lk (g.lk P 2) j26) 3), .int wd]) (rest := [.int mv]) ⟨hx, hb, hml, hown, tb_nil⟩ (c_join l g H.size f30 ((g.lk (g.lk P 4) nm_13)) ((g.lk (g.lk (g.lk P 2) j26) 3)) wd hL t28 (lo_k6_3 hL _ (lo_e25 hL _ (lo_k7_2 hL _ t_P) _ (by omega))) hI1_33) ⟨(callB_of 2 (tb_one (wd_608 hB _)) tb_good1 rfl rfl rfl (wd_75 hB _) (wd_605 hB _) (by decide +kernel) ⟨Nat.le_of_ble_eq_true rfl, Nat.le_of_ble_eq_true rfl⟩), (wd_606 hB _), (wd_607 hB _)⟩ ⟨pe_bl, pg_recv (ci := 2) hK hP (lo_in hL t28 (by decide)) e35 rfl, pe_pre hB hK hP hD⟩ rfl rfl hl.1 rfl (lv_room (Nat.le_of_ble_eq_true rfl)) d_NProgram_makeRound_79 ⟨Nat.le_of_ble_eq_true rfl, Nat.le_of_ble_eq_true rfl⟩) hS (fun r38 f39 H locs hq40 hP hD hS => ?_)
            obtain ⟨bo_41, hI1_42, hu1_43⟩ := hq40
            have hu := hu.tr hu1_43 (by decide)
            have hv7 := hv7.tr hu1_43 (by decide)
            have eP := hu1_43.at t_P (by decide) eP
            have e10 := hu1_43.at (lo_k7_0 hL _ t_P) (by decide) e10
            have e17 := hu1_43.at t11 (by decide) e17
            have e27 := hu1_43.at (lo_k7_4 hL _ t_P) (by decide) e27
            refine lv_ior hx hb d_NProgram_makeRound_82 ?_
            refine lv_istore_n (lv' := [(2, .int (mv ||| r38)), (4, .ref (g.lk (g.lk P 0) i)), (3, .int (nI i)), (0, .ref P), (1, .int wd)]) hx hb d_NProgram_makeRound_83 rfl hl (by decide) rfl (fun ls hl => ?_)
            refine lv_iinc (k := 2) (v := nI (i + 1)) (lv' := [(3, .int (nI (i + 1))), (2, .int (mv ||| r38)), (4, .ref (g.lk (g.lk P 0) i)), (0, .ref P), (1, .int wd)]) hx hb d_NProgram_makeRound_84 hl rfl (by rw [nI_succ]; rfl) (by decide) rfl (fun ls hl => ?_)
            refine lv_goto (tgt := 4) hx hb d_NProgram_makeRound_87 (by decide) ?_
            have hl : lv_has ls 5 [(3, .int (nI (i + 1))), (2, .int (mv ||| r38)), (0, .ref P), (1, .int wd)] := lv_sub hl [0, 1, 3, 4] rfl
            exact ih4 (mv ||| r38) (i + 1) f39 H locs ls (by omega) (bo_or hmv bo_41) (by omega) hI1_42 hv7 hl hP hD hS
        · skip
          replace b24 := (nI_eq (a := kd_12) (b := 1) (by omega) (by omega)).mp b24
          refine lv_iload_n hx hb d_NProgram_makeRound_29 rfl (lv_at hl 2 rfl) ?_
          refine lv_aload_n hx hb d_NProgram_makeRound_30 rfl (lv_at hl 3 rfl) ?_
          refine pf_get (v := .ref (g.lk P 4)) (C := "BigRunner$Program") (T := FT6) (N := 6) hx hb (hw6 hB _) (fun _ h9 => h9) hown hK hP (lo_in hL t_P (by decide)) eP rfl 4 (by decide) (wd_253 hB _) rfl d_NProgram_makeRound_31 ?_
          refine lv_aload hx hb d_NProgram_makeRound_34 (lv_at hl 0 rfl) ?_
          refine pf_get (v := .int (nI nm_13)) (C := "BigRunner$Statement") (T := FT9) (N := 5) hx hb (hw9 hB _) (fun _ h9 => h9) hown hK hP (lo_in hL t11 (by decide)) e17 rfl 1 (by decide) (wd_148 hB _) rfl d_NProgram_makeRound_36 ?_
          have e44 := oc_26.of (lo_k7_4 hL _ t_P) (hI6.1 (g.lk P 4))
          refine pf_aald (i := nm_13) hx hb hK hP (lo_in hL (lo_k7_4 hL _ t_P) (by decide)) e44 (lo_t26 hL _ (lo_k7_4 hL _ t_P)) (by omega) (by decide) d_NProgram_makeRound_39 ?_
          have t45 := lo_e26 hL _ (lo_k7_4 hL _ t_P) nm_13 (by omega)
          refine lv_aload_n hx hb d_NProgram_makeRound_40 rfl (lv_at hl 3 rfl) ?_
          refine pf_get (v := .ref (g.lk P 5)) (C := "BigRunner$Program") (T := FT6) (N := 6) hx hb (hw6 hB _) (fun _ h9 => h9) hown hK hP (lo_in hL t_P (by decide)) eP rfl 5 (by decide) (wd_256 hB _) rfl d_NProgram_makeRound_41 ?_
          refine lv_iload_n hx hb d_NProgram_makeRound_44 rfl (lv_at hl 4 rfl) ?_
          obtain ⟨lo_47, hi_48, e46⟩ := oc_3.of t45 (hI6.1 (g.lk (g.lk P 4) nm_13))
          refine pcc_i (va_runV (C := "BigRunner$Interval") (As := [.ref (g.lk P 5), .int wd]) (rest := [.int mv]) ⟨hx, hb, hml, hown, tb_nil⟩ (c_join l g H.size f2 ((g.lk (g.lk P 4) nm_13)) ((g.lk P 5)) wd hL t45 (lo_k7_5 hL _ t_P) hI6) ⟨(callB_of 2 (tb_one (wd_608 hB _)) tb_good1 rfl rfl rfl (wd_75 hB _) (wd_605 hB _) (by decide +kernel) ⟨Nat.le_of_ble_eq_true rfl, Nat.le_of_ble_eq_true rfl⟩), (wd_606 hB _), (wd_607 hB _)⟩ ⟨pe_bl, pg_recv (ci := 2) hK hP (lo_in hL t45 (by decide)) e46 rfl, pe_pre hB hK hP hD⟩ rfl rfl hl.1 rfl (lv_room (Nat.le_of_ble_eq_true rfl)) d_NProgram_makeRound_45 ⟨Nat.le_of_ble_eq_true rfl, Nat.le_of_ble_eq_true rfl⟩) hS (fun r49 f50 H locs hq51 hP hD hS => ?_)
          obtain ⟨bo_52, hI1_53, hu1_54⟩ := hq51
          have hu := hu.tr hu1_54 (by decide)
          have hv7 := hv7.tr hu1_54 (by decide)
          have eP := hu1_54.at t_P (by decide) eP
          have e10 := hu1_54.at (lo_k7_0 hL _ t_P) (by decide) e10
          have e17 := hu1_54.at t11 (by decide) e17
          have e44 := hu1_54.at (lo_k7_4 hL _ t_P) (by decide) e44
          refine lv_ior hx hb d_NProgram_makeRound_48 ?_
          refine lv_istore_n (lv' := [(2, .int (mv ||| r49)), (4, .ref (g.lk (g.lk P 0) i)), (3, .int (nI i)), (0, .ref P), (1, .int wd)]) hx hb d_NProgram_makeRound_49 rfl hl (by decide) rfl (fun ls hl => ?_)
          refine lv_goto (tgt := 84) hx hb d_NProgram_makeRound_50 (by decide) ?_
          refine lv_iinc (k := 2) (v := nI (i + 1)) (lv' := [(3, .int (nI (i + 1))), (2, .int (mv ||| r49)), (4, .ref (g.lk (g.lk P 0) i)), (0, .ref P), (1, .int wd)]) hx hb d_NProgram_makeRound_84 hl rfl (by rw [nI_succ]; rfl) (by decide) rfl (fun ls hl => ?_)
          refine lv_goto (tgt := 4) hx hb d_NProgram_makeRound_87 (by decide) ?_
          have hl : lv_has ls 5 [(3, .int (nI (i + 1))), (2, .int (mv ||| r49)), (0, .ref P), (1, .int wd)] := lv_sub hl [0, 1, 3, 4] rfl
          exact ih4 (mv ||| r49) (i + 1) f50 H locs ls (by omega) (bo_or hmv bo_52) (by omega) hI1_53 hv7 hl hP hD hS
  exact lp1 (sn + 1) (nI 0) 0 f s.heap [] ls (by omega) (Or.inl rfl) (by omega) hI un.rf hl hP hD hS
set_option maxHeartbeats 4000000 in
set_option maxRecDepth 100000 in
theorem c_findIntervals (l : Launch) (g : Lay) (sz : Nat) (f : Nat → va_E) (P : Nat) (sn : Nat) (nn : Nat) (hL : LO g) (t_P : g.tg P = 7) (hI : IV g f) (eP : f P = .inr (6, [.ref (g.lk P 0), .int (nI sn), .ref (g.lk P 2), .int (nI nn), .ref (g.lk P 4), .ref (g.lk P 5)])) (hsn : sn ≤ 36) (hnn : nn ≤ 72) (hSG : SG g f P 0 sn) : Met l ⟨"BigRunner$Program", "findIntervals", "()I"⟩ [Cond.code ⟨"BigRunner$Program", "findIntervals", "()I"⟩ prog_7_method_2_code 3 (some .int)] ({ frames := 7, cells := 0, slots := 0, locals := 161 }) (va_Pc [.ref P] (pc_in g sz f)) (va_Qi (fun r f1 => (IV g f1) ∧ (un [3, 6] g f f1)) (pc_out g sz) (pc_A g sz)) 0 0 (pc_A g sz) := by
  refine pe_ofW (cc := prog_7_method_2_code) (maxL := 3) (ret := (some .int)) (lv := [(0, .ref P)]) (by decide) (Nat.le_of_ble_eq_true rfl) rfl ?_
  intro p e s m args below meth c ls hx hb hr hml hlocks hown hB hP hK hD hsz hS hl
  subst hsz
  have hu : un [3, 6] g f f := un.rf
  refine lv_iconst (v := nI 0) hx hb d_NProgram_findIntervals_0 (by decide) ?_
  refine lv_istore_n (lv' := [(1, .int (nI 0)), (0, .ref P)]) hx hb d_NProgram_findIntervals_1 rfl hl (by decide) rfl (fun ls hl => ?_)
  have lp1 : ∀ (k3 : Nat) (i : Nat) (f2 : Nat → va_E) (H : Heap) (locs : List Loc) (ls : Array Slot), (10 < i + k3) → (i ≤ 10) → IV g f2 → un [3] g f f2 → lv_has ls 3 [(1, .int (nI i)), (0, .ref P)] → va_P g.D vcl (va_pl g.LP f2) H → va_D (pc_A g s.heap.size) (va_pl g.LP f2) → va_S (pc_A g s.heap.size) s.heap H locs → W p l e ({ frames := 7, cells := 0, slots := 0, locals := 161 }) s m args below meth c H locs 0 0 (MQ below (va_Qi (fun r f1 => (IV g f1) ∧ (un [3, 6] g f f1)) (pc_out g s.heap.size) (pc_A g s.heap.size)) args s 0 0 (pc_A g s.heap.size)) (F0 m 2 ls []) := by
    intro k3
    induction k3 with
    | zero => intros; exfalso; omega
    | succ k3 ih4 =>
      intro i f2 H locs ls hfu5 hi hI6 hv7 hl hP hD hS
      have eP := hv7.at t_P (by decide) eP
      have hu := hu.tr hv7 (by decide)
      have hS8 := SG_un hSG hL t_P hsn hv7 (by decide)
      refine lv_iload_n hx hb d_NProgram_findIntervals_2 rfl (lv_at hl 0 rfl) ?_
      refine lv_bipush (v := nI 10) hx hb d_NProgram_findIntervals_3 (by decide) ?_
      refine lv_icmp_ge (tgt := 25) hx hb d_NProgram_findIntervals_5 (by decide) (fun b9 => ?_) (fun b9 => ?_)
      · skip
        replace b9 := (nI_leI (a := 10) (b := i) (by omega) (by omega)).mp b9
        refine lv_iconst (v := nI 1) hx hb d_NProgram_findIntervals_25 (by decide) ?_
        refine lv_istore_n (lv' := [(1, .int (nI 1)), (0, .ref P)]) hx hb d_NProgram_findIntervals_26 rfl hl (by decide) rfl (fun ls hl => ?_)
        have lp10 : ∀ (k12 : Nat) (rd : Nat) (f11 : Nat → va_E) (H : Heap) (locs : List Loc) (ls : Array Slot), (24 < rd + k12) → (rd ≤ 24) → IV g f11 → un [3] g f2 f11 → lv_has ls 3 [(1, .int (nI rd)), (0, .ref P)] → va_P g.D vcl (va_pl g.LP f11) H → va_D (pc_A g s.heap.size) (va_pl g.LP f11) → va_S (pc_A g s.heap.size) s.heap H locs → W p l e ({ frames := 7, cells := 0, slots := 0, locals := 161 }) s m args below meth c H locs 0 0 (MQ below (va_Qi (fun r f1 => (IV g f1) ∧ (un [3, 6] g f f1)) (pc_out g s.heap.size) (pc_A g s.heap.size)) args s 0 0 (pc_A g s.heap.size)) (F0 m 27 ls []) := by
          intro k12
          induction k12 with
          | zero => intros; exfalso; omega
          | succ k12 ih13 =>
            intro rd f11 H locs ls hfu14 hrd hI15 hv16 hl hP hD hS
            have eP := hv16.at t_P (by decide) eP
            have hu := hu.tr hv16 (by decide)
            have hv7 := hv7.tr hv16 (by decide)
            have hS17 := SG_un hS8 hL t_P hsn hv16 (by decide)
            refine lv_iload_n hx hb d_NProgram_findIntervals_27 rfl (lv_at hl 0 rfl) ?_
            refine lv_bipush (v := nI 24) hx hb d_NProgram_findIntervals_28 (by decide) ?_
            refine lv_icmp_ge (tgt := 56) hx hb d_NProgram_findIntervals_30 (by decide) (fun b18 => ?_) (fun b18 => ?_)
            · skip
              replace b18 := (nI_leI (a := 24) (b := rd) (by omega) (by omega)).mp b18
              refine lv_iconst (v := nI 0) hx hb d_NProgram_findIntervals_56 (by decide) ?_
              refine lv_istore_n (lv' := [(2, .int (nI 0)), (1, .int (nI rd)), (0, .ref P)]) hx hb d_NProgram_findIntervals_57 rfl hl (by decide) rfl (fun ls hl => ?_)
              have lp19 : ∀ (k21 : Nat) (j : Nat) (f20 : Nat → va_E) (H : Heap) (locs : List Loc) (ls : Array Slot), (nn < j + k21) → (j ≤ nn) → IV g f20 → un [3, 6] g f11 f20 → lv_has ls 3 [(2, .int (nI j)), (1, .int (nI rd)), (0, .ref P)] → va_P g.D vcl (va_pl g.LP f20) H → va_D (pc_A g s.heap.size) (va_pl g.LP f20) → va_S (pc_A g s.heap.size) s.heap H locs → W p l e ({ frames := 7, cells := 0, slots := 0, locals := 161 }) s m args below meth c H locs 0 0 (MQ below (va_Qi (fun r f1 => (IV g f1) ∧ (un [3, 6] g f f1)) (pc_out g s.heap.size) (pc_A g s.heap.size)) args s 0 0 (pc_A g s.heap.size)) (F0 m 58 ls []) := by
                intro k21
                induction k21 with
                | zero => intros; exfalso; omega
                | succ k21 ih22 =>
                  intro j f20 H locs ls hfu23 hj hI24 hv25 hl hP hD hS
                  have eP := hv25.at t_P (by decide) eP
                  have hu := hu.tr hv25 (by decide)
                  refine lv_iload_n hx hb d_NProgram_findIntervals_58 rfl (lv_at hl 0 rfl) ?_
                  refine lv_aload_n hx hb d_NProgram_findIntervals_59 rfl (lv_at hl 2 rfl) ?_
                  refine pf_get (v := .int (nI nn)) (C := "BigRunner$Program") (T := FT6) (N := 6) hx hb (hw6 hB _) (fun _ h9 => h9) hown hK hP (lo_in hL t_P (by decide)) eP rfl 3 (by decide) (wd_251 hB _) rfl d_NProgram_findIntervals_60 ?_
                  refine lv_icmp_ge (tgt := 92) hx hb d_NProgram_findIntervals_63 (by decide) (fun b26 => ?_) (fun b26 => ?_)
                  · skip
                    replace b26 := (nI_leI (a := nn) (b := j) (by omega) (by omega)).mp b26
                    refine lv_iload_n hx hb d_NProgram_findIntervals_92 rfl (lv_at hl 1 rfl) ?_
                    exact pe_iret hx hb hr hlocks hK hP hD hS d_NProgram_findIntervals_93 ⟨hI24, hu⟩
                  · skip
                    replace b26 := mt (nI_leI (a := nn) (b := j) (by omega) (by omega)).mpr b26
                    refine lv_aload_n hx hb d_NProgram_findIntervals_66 rfl (lv_at hl 2 rfl) ?_
                    refine lv_aload_n hx hb d_NProgram_findIntervals_67 rfl (lv_at hl 2 rfl) ?_
                    refine pf_get (v := .ref (g.lk P 2)) (C := "BigRunner$Program") (T := FT6) (N := 6) hx hb (hw6 hB _) (fun _ h9 => h9) hown hK hP (lo_in hL t_P (by decide)) eP rfl 2 (by decide) (wd_248 hB _) rfl d_NProgram_findIntervals_68 ?_
                    refine lv_iload_n hx hb d_NProgram_findIntervals_71 rfl (lv_at hl 0 rfl) ?_
                    have e27 := oc_25.of (lo_k7_2 hL _ t_P) (hI24.1 (g.lk P 2))
                    refine pf_aald (i := j) hx hb hK hP (lo_in hL (lo_k7_2 hL _ t_P) (by decide)) e27 (lo_t25 hL _ (lo_k7_2 hL _ t_P)) (by omega) (by decide) d_NProgram_findIntervals_72 ?_
                    have t28 := lo_e25 hL _ (lo_k7_2 hL _ t_P) j (by omega)
                    refine pcc_v (va_runV (C := "BigRunner$Program") (As := [.ref (g.lk (g.lk P 2) j)]) (rest := []) ⟨hx, hb, hml, hown, tb_nil⟩ (c_findInterval l g H.size f20 P ((g.lk (g.lk P 2) j)) hL t_P t28 hI24) ⟨(callB_of 1 (tb_one (wd_616 hB _)) tb_good1 rfl rfl rfl (wd_74 hB _) (wd_613 hB _) (by decide +kernel) ⟨Nat.le_of_ble_eq_true rfl, Nat.le_of_ble_eq_true rfl⟩), (wd_615 hB _), (wd_20 hB _)⟩ ⟨pe_bl, pg_recv (ci := 6) hK hP (lo_in hL t_P (by decide)) eP rfl, pe_pre hB hK hP hD⟩ rfl rfl hl.1 rfl (lv_room (Nat.le_of_ble_eq_true rfl)) d_NProgram_findIntervals_73 ⟨Nat.le_of_ble_eq_true rfl, Nat.le_of_ble_eq_true rfl⟩) hS (fun f30 H locs hq31 hP hD hS => ?_)
                    obtain ⟨hI1_32, hu1_33⟩ := hq31
                    have hu := hu.tr hu1_33 (by decide)
                    have hv25 := hv25.tr hu1_33 (by decide)
                    have eP := hu1_33.at t_P (by decide) eP
                    have e27 := hu1_33.at (lo_k7_2 hL _ t_P) (by decide) e27
                    refine lv_aload_n hx hb d_NProgram_findIntervals_76 rfl (lv_at hl 2 rfl) ?_
                    refine lv_aload_n hx hb d_NProgram_findIntervals_77 rfl (lv_at hl 2 rfl) ?_
                    refine pf_get (v := .ref (g.lk P 2)) (C := "BigRunner$Program") (T := FT6) (N := 6) hx hb (hw6 hB _) (fun _ h9 => h9) hown hK hP (lo_in hL t_P (by decide)) eP rfl 2 (by decide) (wd_248 hB _) rfl d_NProgram_findIntervals_78 ?_
                    refine lv_iload_n hx hb d_NProgram_findIntervals_81 rfl (lv_at hl 0 rfl) ?_
                    refine pf_aald (i := j) hx hb hK hP (lo_in hL (lo_k7_2 hL _ t_P) (by decide)) e27 (lo_t25 hL _ (lo_k7_2 hL _ t_P)) (by omega) (by decide) d_NProgram_findIntervals_82 ?_
                    refine pcc_v (va_runV (C := "BigRunner$Program") (As := [.ref (g.lk (g.lk P 2) j)]) (rest := []) ⟨hx, hb, hml, hown, tb_nil⟩ (c_judge l g H.size f30 P ((g.lk (g.lk P 2) j)) hL t_P t28 hI1_32) ⟨(callB_of 1 (tb_one (wd_671 hB _)) tb_good1 rfl rfl rfl (wd_74 hB _) (wd_668 hB _) (by decide +kernel) ⟨Nat.le_of_ble_eq_true rfl, Nat.le_of_ble_eq_true rfl⟩), (wd_670 hB _), (wd_23 hB _)⟩ ⟨pe_bl, pg_recv (ci := 6) hK hP (lo_in hL t_P (by decide)) eP rfl, pe_pre hB hK hP hD⟩ rfl rfl hl.1 rfl (lv_room (Nat.le_of_ble_eq_true rfl)) d_NProgram_findIntervals_83 ⟨Nat.le_of_ble_eq_true rfl, Nat.le_of_ble_eq_true rfl⟩) hS (fun f35 H locs hq36 hP hD hS => ?_)
                    obtain ⟨hI1_37, hu1_38⟩ := hq36
                    have hu := hu.tr hu1_38 (by decide)
                    have hv25 := hv25.tr hu1_38 (by decide)
                    have eP := hu1_38.at t_P (by decide) eP
                    have e27 := hu1_38.at (lo_k7_2 hL _ t_P) (by decide) e27
                    refine lv_iinc (k := 0) (v := nI (j + 1)) (lv' := [(2, .int (nI (j + 1))), (1, .int (nI rd)), (0, .ref P)]) hx hb d_NProgram_findIntervals_86 hl rfl (by rw [nI_succ]; rfl) (by decide) rfl (fun ls hl => ?_)
                    refine lv_goto (tgt := 58) hx hb d_NProgram_findIntervals_89 (by decide) ?_
                    exact ih22 (j + 1) f35 H locs ls (by omega) (by omega) hI1_37 hv25 hl hP hD hS
              exact lp19 (nn + 1) 0 f11 H locs ls (by omega) (by omega) hI15 un.rf hl hP hD hS
            · skip
              replace b18 := mt (nI_leI (a := 24) (b := rd) (by omega) (by omega)).mpr b18
              refine lv_aload_n hx hb d_NProgram_findIntervals_33 rfl (lv_at hl 1 rfl) ?_
              refine lv_iload_n hx hb d_NProgram_findIntervals_34 rfl (lv_at hl 0 rfl) ?_
              refine lv_iconst (v := nI 4) hx hb d_NProgram_findIntervals_35 (by decide) ?_
              refine lv_icmp_lt (tgt := 43) hx hb d_NProgram_findIntervals_36 (by decide) (fun b39 => ?_) (fun b39 => ?_)
              · skip
                replace b39 := (nI_ltI (a := rd) (b := 4) (by omega) (by omega)).mp b39
                refine lv_iconst (v := nI 0) hx hb d_NProgram_findIntervals_43 (by decide) ?_
                refine pcc_i (va_runV (C := "BigRunner$Program") (As := [.int (nI 0)]) (rest := []) ⟨hx, hb, hml, hown, tb_nil⟩ (c_makeRound l g H.size f11 P ((nI 0)) sn nn hL t_P hI15 eP hsn hS17) ⟨(callB_of 1 (tb_one (wd_604 hB _)) tb_good1 rfl rfl rfl (wd_74 hB _) (wd_601 hB _) (by decide +kernel) ⟨Nat.le_of_ble_eq_true rfl, Nat.le_of_ble_eq_true rfl⟩), (wd_603 hB _), (wd_18 hB _)⟩ ⟨pe_bl, pg_recv (ci := 6) hK hP (lo_in hL t_P (by decide)) eP rfl, pe_pre hB hK hP hD⟩ rfl rfl hl.1 rfl (lv_room (Nat.le_of_ble_eq_true rfl)) d_NProgram_findIntervals_44 ⟨Nat.le_of_ble_eq_true rfl, Nat.le_of_ble_eq_true rfl⟩) hS (fun r40 f41 H locs hq42 hP hD hS => ?_)
                obtain ⟨bo_43, hI1_44, hu1_45⟩ := hq42
                have hu := hu.tr hu1_45 (by decide)
                have hv7 := hv7.tr hu1_45 (by decide)
                have hv16 := hv16.tr hu1_45 (by decide)
                have eP := hu1_45.at t_P (by decide) eP
                refine lv_if_eq (tgt := 56) hx hb d_NProgram_findIntervals_47 (by decide) (fun b46 => ?_) (fun b46 => ?_)
                · skip
                  have hr47 : r40 = nI 0 := b46
                  refine lv_iconst (v := nI 0) hx hb d_NProgram_findIntervals_56 (by decide) ?_
                  refine lv_istore_n (lv' := [(2, .int (nI 0)), (1, .int (nI rd)), (0, .ref P)]) hx hb d_NProgram_findIntervals_57 rfl hl (by decide) rfl (fun ls hl => ?_)
                  have lp48 : ∀ (k50 : Nat) (j : Nat) (f49 : Nat → va_E) (H : Heap) (locs : List Loc) (ls : Array Slot), (nn < j + k50) → (j ≤ nn) → IV g f49 → un [3, 6] g f41 f49 → lv_has ls 3 [(2, .int (nI j)), (1, .int (nI rd)), (0, .ref P)] → va_P g.D vcl (va_pl g.LP f49) H → va_D (pc_A g s.heap.size) (va_pl g.LP f49) → va_S (pc_A g s.heap.size) s.heap H locs → W p l e ({ frames := 7, cells := 0, slots := 0, locals := 161 }) s m args below meth c H locs 0 0 (MQ below (va_Qi (fun r f1 => (IV g f1) ∧ (un [3, 6] g f f1)) (pc_out g s.heap.size) (pc_A g s.heap.size)) args s 0 0 (pc_A g s.heap.size)) (F0 m 58 ls []) := by
                    intro k50
                    induction k50 with
                    | zero => intros; exfalso; omega
                    | succ k50 ih51 =>
                      intro j f49 H locs ls hfu52 hj hI53 hv54 hl hP hD hS
                      have eP := hv54.at t_P (by decide) eP
                      have hu := hu.tr hv54 (by decide)
                      refine lv_iload_n hx hb d_NProgram_findIntervals_58 rfl (lv_at hl 0 rfl) ?_
                      refine lv_aload_n hx hb d_NProgram_findIntervals_59 rfl (lv_at hl 2 rfl) ?_
                      refine pf_get (v := .int (nI nn)) (C := "BigRunner$Program") (T := FT6) (N := 6) hx hb (hw6 hB _) (fun _ h9 => h9) hown hK hP (lo_in hL t_P (by decide)) eP rfl 3 (by decide) (wd_251 hB _) rfl d_NProgram_findIntervals_60 ?_
                      refine lv_icmp_ge (tgt := 92) hx hb d_NProgram_findIntervals_63 (by decide) (fun b55 => ?_) (fun b55 => ?_)
                      · skip
                        replace b55 := (nI_leI (a := nn) (b := j) (by omega) (by omega)).mp b55
                        refine lv_iload_n hx hb d_NProgram_findIntervals_92 rfl (lv_at hl 1 rfl) ?_
                        exact pe_iret hx hb hr hlocks hK hP hD hS d_NProgram_findIntervals_93 ⟨hI53, hu⟩
                      · skip
                        replace b55 := mt (nI_leI (a := nn) (b := j) (by omega) (by omega)).mpr b55
                        refine lv_aload_n hx hb d_NProgram_findIntervals_66 rfl (lv_at hl 2 rfl) ?_
                        refine lv_aload_n hx hb d_NProgram_findIntervals_67 rfl (lv_at hl 2 rfl) ?_
                        refine pf_get (v := .ref (g.lk P 2)) (C := "BigRunner$Program") (T := FT6) (N := 6) hx hb (hw6 hB _) (fun _ h9 => h9) hown hK hP (lo_in hL t_P (by decide)) eP rfl 2 (by decide) (wd_248 hB _) rfl d_NProgram_findIntervals_68 ?_
                        refine lv_iload_n hx hb d_NProgram_findIntervals_71 rfl (lv_at hl 0 rfl) ?_
                        have e56 := oc_25.of (lo_k7_2 hL _ t_P) (hI53.1 (g.lk P 2))
                        refine pf_aald (i := j) hx hb hK hP (lo_in hL (lo_k7_2 hL _ t_P) (by decide)) e56 (lo_t25 hL _ (lo_k7_2 hL _ t_P)) (by omega) (by decide) d_NProgram_findIntervals_72 ?_
                        have t57 := lo_e25 hL _ (lo_k7_2 hL _ t_P) j (by omega)
                        refine pcc_v (va_runV (C := "BigRunner$Program") (As := [.ref (g.lk (g.lk P 2) j)]) (rest := []) ⟨hx, hb, hml, hown, tb_nil⟩ (c_findInterval l g H.size f49 P ((g.lk (g.lk P 2) j)) hL t_P t57 hI53) ⟨(callB_of 1 (tb_one (wd_616 hB _)) tb_good1 rfl rfl rfl (wd_74 hB _) (wd_613 hB _) (by decide +kernel) ⟨Nat.le_of_ble_eq_true rfl, Nat.le_of_ble_eq_true rfl⟩), (wd_615 hB _), (wd_20 hB _)⟩ ⟨pe_bl, pg_recv (ci := 6) hK hP (lo_in hL t_P (by decide)) eP rfl, pe_pre hB hK hP hD⟩ rfl rfl hl.1 rfl (lv_room (Nat.le_of_ble_eq_true rfl)) d_NProgram_findIntervals_73 ⟨Nat.le_of_ble_eq_true rfl, Nat.le_of_ble_eq_true rfl⟩) hS (fun f59 H locs hq60 hP hD hS => ?_)
                        obtain ⟨hI1_61, hu1_62⟩ := hq60
                        have hu := hu.tr hu1_62 (by decide)
                        have hv54 := hv54.tr hu1_62 (by decide)
                        have eP := hu1_62.at t_P (by decide) eP
                        have e56 := hu1_62.at (lo_k7_2 hL _ t_P) (by decide) e56
                        refine lv_aload_n hx hb d_NProgram_findIntervals_76 rfl (lv_at hl 2 rfl) ?_
                        refine lv_aload_n hx hb d_NProgram_findIntervals_77 rfl (lv_at hl 2 rfl) ?_
                        refine pf_get (v := .ref (g.lk P 2)) (C := "BigRunner$Program") (T := FT6) (N := 6) hx hb (hw6 hB _) (fun _ h9 => h9) hown hK hP (lo_in hL t_P (by decide)) eP rfl 2 (by decide) (wd_248 hB _) rfl d_NProgram_findIntervals_78 ?_
                        refine lv_iload_n hx hb d_NProgram_findIntervals_81 rfl (lv_at hl 0 rfl) ?_
                        refine pf_aald (i := j) hx hb hK hP (lo_in hL (lo_k7_2 hL _ t_P) (by decide)) e56 (lo_t25 hL _ (lo_k7_2 hL _ t_P)) (by omega) (by decide) d_NProgram_findIntervals_82 ?_
                        refine pcc_v (va_runV (C := "BigRunner$Program") (As := [.ref (g.lk (g.lk P 2) j)]) (rest := []) ⟨hx, hb, hml, hown, tb_nil⟩ (c_judge l g H.size f59 P ((g.lk (g.lk P 2) j)) hL t_P t57 hI1_61) ⟨(callB_of 1 (tb_one (wd_671 hB _)) tb_good1 rfl rfl rfl (wd_74 hB _) (wd_668 hB _) (by decide +kernel) ⟨Nat.le_of_ble_eq_true rfl, Nat.le_of_ble_eq_true rfl⟩), (wd_670 hB _), (wd_23 hB _)⟩ ⟨pe_bl, pg_recv (ci := 6) hK hP (lo_in hL t_P (by decide)) eP rfl, pe_pre hB hK hP hD⟩ rfl rfl hl.1 rfl (lv_room (Nat.le_of_ble_eq_true rfl)) d_NProgram_findIntervals_83 ⟨Nat.le_of_ble_eq_true rfl, Nat.le_of_ble_eq_true rfl⟩) hS (fun f64 H locs hq65 hP hD hS => ?_)
                        obtain ⟨hI1_66, hu1_67⟩ := hq65
                        have hu := hu.tr hu1_67 (by decide)
                        have hv54 := hv54.tr hu1_67 (by decide)
                        have eP := hu1_67.at t_P (by decide) eP
                        have e56 := hu1_67.at (lo_k7_2 hL _ t_P) (by decide) e56
                        refine lv_iinc (k := 0) (v := nI (j + 1)) (lv' := [(2, .int (nI (j + 1))), (1, .int (nI rd)), (0, .ref P)]) hx hb d_NProgram_findIntervals_86 hl rfl (by rw [nI_succ]; rfl) (by decide) rfl (fun ls hl => ?_)
                        refine lv_goto (tgt := 58) hx hb d_NProgram_findIntervals_89 (by decide) ?_
                        exact ih51 (j + 1) f64 H locs ls (by omega) (by omega) hI1_66 hv54 hl hP hD hS
                  exact lp48 (nn + 1) 0 f41 H locs ls (by omega) (by omega) hI1_44 un.rf hl hP hD hS
                · skip
                  have hr68 : r40 = nI 1 := (bl_1 bo_43 b46)
                  refine lv_iinc (k := 0) (v := nI (rd + 1)) (lv' := [(1, .int (nI (rd + 1))), (0, .ref P)]) hx hb d_NProgram_findIntervals_50 hl rfl (by rw [nI_succ]; rfl) (by decide) rfl (fun ls hl => ?_)
                  refine lv_goto (tgt := 27) hx hb d_NProgram_findIntervals_53 (by decide) ?_
                  exact ih13 (rd + 1) f41 H locs ls (by omega) (by omega) hI1_44 hv16 hl hP hD hS
              · skip
                replace b39 := mt (nI_ltI (a := rd) (b := 4) (by omega) (by omega)).mpr b39
                refine lv_iconst (v := nI 1) hx hb d_NProgram_findIntervals_39 (by decide) ?_
                refine lv_goto (tgt := 44) hx hb d_NProgram_findIntervals_40 (by decide) ?_
                refine pcc_i (va_runV (C := "BigRunner$Program") (As := [.int (nI 1)]) (rest := []) ⟨hx, hb, hml, hown, tb_nil⟩ (c_makeRound l g H.size f11 P ((nI 1)) sn nn hL t_P hI15 eP hsn hS17) ⟨(callB_of 1 (tb_one (wd_604 hB _)) tb_good1 rfl rfl rfl (wd_74 hB _) (wd_601 hB _) (by decide +kernel) ⟨Nat.le_of_ble_eq_true rfl, Nat.le_of_ble_eq_true rfl⟩), (wd_603 hB _), (wd_18 hB _)⟩ ⟨pe_bl, pg_recv (ci := 6) hK hP (lo_in hL t_P (by decide)) eP rfl, pe_pre hB hK hP hD⟩ rfl rfl hl.1 rfl (lv_room (Nat.le_of_ble_eq_true rfl)) d_NProgram_findIntervals_44 ⟨Nat.le_of_ble_eq_true rfl, Nat.le_of_ble_eq_true rfl⟩) hS (fun r69 f70 H locs hq71 hP hD hS => ?_)
                obtain ⟨bo_72, hI1_73, hu1_74⟩ := hq71
                have hu := hu.tr hu1_74 (by decide)
                have hv7 := hv7.tr hu1_74 (by decide)
                have hv16 := hv16.tr hu1_74 (by decide)
                have eP := hu1_74.at t_P (by decide) eP
                refine lv_if_eq (tgt := 56) hx hb d_NProgram_findIntervals_47 (by decide) (fun b75 => ?_) (fun b75 => ?_)
                · skip
                  have hr76 : r69 = nI 0 := b75
                  refine lv_iconst (v := nI 0) hx hb d_NProgram_findIntervals_56 (by decide) ?_
                  refine lv_istore_n (lv' := [(2, .int (nI 0)), (1, .int (nI rd)), (0, .ref P)]) hx hb d_NProgram_findIntervals_57 rfl hl (by decide) rfl (fun ls hl => ?_)
                  have lp77 : ∀ (k79 : Nat) (j : Nat) (f78 : Nat → va_E) (H : Heap) (locs : List Loc) (ls : Array Slot), (nn < j + k79) → (j ≤ nn) → IV g f78 → un [3, 6] g f70 f78 → lv_has ls 3 [(2, .int (nI j)), (1, .int (nI rd)), (0, .ref P)] → va_P g.D vcl (va_pl g.LP f78) H → va_D (pc_A g s.heap.size) (va_pl g.LP f78) → va_S (pc_A g s.heap.size) s.heap H locs → W p l e ({ frames := 7, cells := 0, slots := 0, locals := 161 }) s m args below meth c H locs 0 0 (MQ below (va_Qi (fun r f1 => (IV g f1) ∧ (un [3, 6] g f f1)) (pc_out g s.heap.size) (pc_A g s.heap.size)) args s 0 0 (pc_A g s.heap.size)) (F0 m 58 ls []) := by
                    intro k79
                    induction k79 with
                    | zero => intros; exfalso; omega
                    | succ k79 ih80 =>
                      intro j f78 H locs ls hfu81 hj hI82 hv83 hl hP hD hS
                      have eP := hv83.at t_P (by decide) eP
                      have hu := hu.tr hv83 (by decide)
                      refine lv_iload_n hx hb d_NProgram_findIntervals_58 rfl (lv_at hl 0 rfl) ?_
                      refine lv_aload_n hx hb d_NProgram_findIntervals_59 rfl (lv_at hl 2 rfl) ?_
                      refine pf_get (v := .int (nI nn)) (C := "BigRunner$Program") (T := FT6) (N := 6) hx hb (hw6 hB _) (fun _ h9 => h9) hown hK hP (lo_in hL t_P (by decide)) eP rfl 3 (by decide) (wd_251 hB _) rfl d_NProgram_findIntervals_60 ?_
                      refine lv_icmp_ge (tgt := 92) hx hb d_NProgram_findIntervals_63 (by decide) (fun b84 => ?_) (fun b84 => ?_)
                      · skip
                        replace b84 := (nI_leI (a := nn) (b := j) (by omega) (by omega)).mp b84
                        refine lv_iload_n hx hb d_NProgram_findIntervals_92 rfl (lv_at hl 1 rfl) ?_
                        exact pe_iret hx hb hr hlocks hK hP hD hS d_NProgram_findIntervals_93 ⟨hI82, hu⟩
                      · skip
                        replace b84 := mt (nI_leI (a := nn) (b := j) (by omega) (by omega)).mpr b84
                        refine lv_aload_n hx hb d_NProgram_findIntervals_66 rfl (lv_at hl 2 rfl) ?_
                        refine lv_aload_n hx hb d_NProgram_findIntervals_67 rfl (lv_at hl 2 rfl) ?_
                        refine pf_get (v := .ref (g.lk P 2)) (C := "BigRunner$Program") (T := FT6) (N := 6) hx hb (hw6 hB _) (fun _ h9 => h9) hown hK hP (lo_in hL t_P (by decide)) eP rfl 2 (by decide) (wd_248 hB _) rfl d_NProgram_findIntervals_68 ?_
                        refine lv_iload_n hx hb d_NProgram_findIntervals_71 rfl (lv_at hl 0 rfl) ?_
                        have e85 := oc_25.of (lo_k7_2 hL _ t_P) (hI82.1 (g.lk P 2))
                        refine pf_aald (i := j) hx hb hK hP (lo_in hL (lo_k7_2 hL _ t_P) (by decide)) e85 (lo_t25 hL _ (lo_k7_2 hL _ t_P)) (by omega) (by decide) d_NProgram_findIntervals_72 ?_
                        have t86 := lo_e25 hL _ (lo_k7_2 hL _ t_P) j (by omega)
                        refine pcc_v (va_runV (C := "BigRunner$Program") (As := [.ref (g.lk (g.lk P 2) j)]) (rest := []) ⟨hx, hb, hml, hown, tb_nil⟩ (c_findInterval l g H.size f78 P ((g.lk (g.lk P 2) j)) hL t_P t86 hI82) ⟨(callB_of 1 (tb_one (wd_616 hB _)) tb_good1 rfl rfl rfl (wd_74 hB _) (wd_613 hB _) (by decide +kernel) ⟨Nat.le_of_ble_eq_true rfl, Nat.le_of_ble_eq_true rfl⟩), (wd_615 hB _), (wd_20 hB _)⟩ ⟨pe_bl, pg_recv (ci := 6) hK hP (lo_in hL t_P (by decide)) eP rfl, pe_pre hB hK hP hD⟩ rfl rfl hl.1 rfl (lv_room (Nat.le_of_ble_eq_true rfl)) d_NProgram_findIntervals_73 ⟨Nat.le_of_ble_eq_true rfl, Nat.le_of_ble_eq_true rfl⟩) hS (fun f88 H locs hq89 hP hD hS => ?_)
                        obtain ⟨hI1_90, hu1_91⟩ := hq89
                        have hu := hu.tr hu1_91 (by decide)
                        have hv83 := hv83.tr hu1_91 (by decide)
                        have eP := hu1_91.at t_P (by decide) eP
                        have e85 := hu1_91.at (lo_k7_2 hL _ t_P) (by decide) e85
                        refine lv_aload_n hx hb d_NProgram_findIntervals_76 rfl (lv_at hl 2 rfl) ?_
                        refine lv_aload_n hx hb d_NProgram_findIntervals_77 rfl (lv_at hl 2 rfl) ?_
                        refine pf_get (v := .ref (g.lk P 2)) (C := "BigRunner$Program") (T := FT6) (N := 6) hx hb (hw6 hB _) (fun _ h9 => h9) hown hK hP (lo_in hL t_P (by decide)) eP rfl 2 (by decide) (wd_248 hB _) rfl d_NProgram_findIntervals_78 ?_
                        refine lv_iload_n hx hb d_NProgram_findIntervals_81 rfl (lv_at hl 0 rfl) ?_
                        refine pf_aald (i := j) hx hb hK hP (lo_in hL (lo_k7_2 hL _ t_P) (by decide)) e85 (lo_t25 hL _ (lo_k7_2 hL _ t_P)) (by omega) (by decide) d_NProgram_findIntervals_82 ?_
                        refine pcc_v (va_runV (C := "BigRunner$Program") (As := [.ref (g.lk (g.lk P 2) j)]) (rest := []) ⟨hx, hb, hml, hown, tb_nil⟩ (c_judge l g H.size f88 P ((g.lk (g.lk P 2) j)) hL t_P t86 hI1_90) ⟨(callB_of 1 (tb_one (wd_671 hB _)) tb_good1 rfl rfl rfl (wd_74 hB _) (wd_668 hB _) (by decide +kernel) ⟨Nat.le_of_ble_eq_true rfl, Nat.le_of_ble_eq_true rfl⟩), (wd_670 hB _), (wd_23 hB _)⟩ ⟨pe_bl, pg_recv (ci := 6) hK hP (lo_in hL t_P (by decide)) eP rfl, pe_pre hB hK hP hD⟩ rfl rfl hl.1 rfl (lv_room (Nat.le_of_ble_eq_true rfl)) d_NProgram_findIntervals_83 ⟨Nat.le_of_ble_eq_true rfl, Nat.le_of_ble_eq_true rfl⟩) hS (fun f93 H locs hq94 hP hD hS => ?_)
                        obtain ⟨hI1_95, hu1_96⟩ := hq94
                        have hu := hu.tr hu1_96 (by decide)
                        have hv83 := hv83.tr hu1_96 (by decide)
                        have eP := hu1_96.at t_P (by decide) eP
                        have e85 := hu1_96.at (lo_k7_2 hL _ t_P) (by decide) e85
                        refine lv_iinc (k := 0) (v := nI (j + 1)) (lv' := [(2, .int (nI (j + 1))), (1, .int (nI rd)), (0, .ref P)]) hx hb d_NProgram_findIntervals_86 hl rfl (by rw [nI_succ]; rfl) (by decide) rfl (fun ls hl => ?_)
                        refine lv_goto (tgt := 58) hx hb d_NProgram_findIntervals_89 (by decide) ?_
                        exact ih80 (j + 1) f93 H locs ls (by omega) (by omega) hI1_95 hv83 hl hP hD hS
                  exact lp77 (nn + 1) 0 f70 H locs ls (by omega) (by omega) hI1_73 un.rf hl hP hD hS
                · skip
                  have hr97 : r69 = nI 1 := (bl_1 bo_72 b75)
                  refine lv_iinc (k := 0) (v := nI (rd + 1)) (lv' := [(1, .int (nI (rd + 1))), (0, .ref P)]) hx hb d_NProgram_findIntervals_50 hl rfl (by rw [nI_succ]; rfl) (by decide) rfl (fun ls hl => ?_)
                  refine lv_goto (tgt := 27) hx hb d_NProgram_findIntervals_53 (by decide) ?_
                  exact ih13 (rd + 1) f70 H locs ls (by omega) (by omega) hI1_73 hv16 hl hP hD hS
        exact lp10 25 1 f2 H locs ls (by omega) (by omega) hI6 un.rf hl hP hD hS
      · skip
        replace b9 := mt (nI_leI (a := 10) (b := i) (by omega) (by omega)).mpr b9
        refine lv_aload_n hx hb d_NProgram_findIntervals_8 rfl (lv_at hl 1 rfl) ?_
        refine pf_get (v := .ref (g.lk P 4)) (C := "BigRunner$Program") (T := FT6) (N := 6) hx hb (hw6 hB _) (fun _ h9 => h9) hown hK hP (lo_in hL t_P (by decide)) eP rfl 4 (by decide) (wd_253 hB _) rfl d_NProgram_findIntervals_9 ?_
        refine lv_iload_n hx hb d_NProgram_findIntervals_12 rfl (lv_at hl 0 rfl) ?_
        have e98 := oc_26.of (lo_k7_4 hL _ t_P) (hI6.1 (g.lk P 4))
        refine pf_aald (i := i) hx hb hK hP (lo_in hL (lo_k7_4 hL _ t_P) (by decide)) e98 (lo_t26 hL _ (lo_k7_4 hL _ t_P)) (by omega) (by decide) d_NProgram_findIntervals_13 ?_
        have t99 := lo_e26 hL _ (lo_k7_4 hL _ t_P) i (by omega)
        refine lv_lconst (v := nL 0) hx hb d_NProgram_findIntervals_14 (by decide) ?_
        refine lv_lconst (v := nL 0) hx hb d_NProgram_findIntervals_15 (by decide) ?_
        obtain ⟨lo_101, hi_102, e100⟩ := oc_3.of t99 (hI6.1 (g.lk (g.lk P 4) i))
        refine pcc_v (va_runV (C := "BigRunner$Interval") (As := [.long (nL 0), .long (nL 0)]) (rest := []) ⟨hx, hb, hml, hown, tb_nil⟩ (c_iset l g H.size f2 ((g.lk (g.lk P 4) i)) ((nL 0)) ((nL 0)) hL t99 hI6) ⟨(callB_of 2 (tb_one (wd_598 hB _)) tb_good1 rfl rfl rfl (wd_75 hB _) (wd_595 hB _) (by decide +kernel) ⟨Nat.le_of_ble_eq_true rfl, Nat.le_of_ble_eq_true rfl⟩), (wd_596 hB _), (wd_597 hB _)⟩ ⟨pe_bl, pg_recv (ci := 2) hK hP (lo_in hL t99 (by decide)) e100 rfl, pe_pre hB hK hP hD⟩ rfl rfl hl.1 rfl (lv_room (Nat.le_of_ble_eq_true rfl)) d_NProgram_findIntervals_16 ⟨Nat.le_of_ble_eq_true rfl, Nat.le_of_ble_eq_true rfl⟩) hS (fun f104 H locs hq105 hP hD hS => ?_)
        obtain ⟨hI1_106, hu1_107⟩ := hq105
        have hu := hu.tr hu1_107 (by decide)
        have hv7 := hv7.tr hu1_107 (by decide)
        have eP := hu1_107.at t_P (by decide) eP
        have e98 := hu1_107.at (lo_k7_4 hL _ t_P) (by decide) e98
        refine lv_iinc (k := 0) (v := nI (i + 1)) (lv' := [(1, .int (nI (i + 1))), (0, .ref P)]) hx hb d_NProgram_findIntervals_19 hl rfl (by rw [nI_succ]; rfl) (by decide) rfl (fun ls hl => ?_)
        refine lv_goto (tgt := 2) hx hb d_NProgram_findIntervals_22 (by decide) ?_
        exact ih4 (i + 1) f104 H locs ls (by omega) (by omega) hI1_106 hv7 hl hP hD hS
  exact lp1 11 0 f s.heap [] ls (by omega) (by omega) hI un.rf hl hP hD hS
