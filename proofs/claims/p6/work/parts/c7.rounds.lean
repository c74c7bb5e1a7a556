set_option maxHeartbeats 4000000 in
set_option maxRecDepth 100000 in
theorem c2_findInterval (l : Launch) (g : Lay) (sz : Nat) (f : Nat → va_E) (P : Nat) (n : Nat) (w : Nat) (a : Nat) (st : List Nat) (S : List IVL) (en : Nat → IVL) (hL : LO g) (t_P : g.tg P = 7) (hI : IV g f) (hn : n < 72) (hND : ND g f P st n w a) (hIS : ISt g f P n st S) (hEV : EV g f P en) : Met l ⟨"BigRunner$Program", "findInterval", "(LBigRunner$Node;)V"⟩ [Cond.code ⟨"BigRunner$Program", "findInterval", "(LBigRunner$Node;)V"⟩ prog_7_method_5_code 3 none] ({ frames := 4, cells := 0, slots := 0, locals := 93 }) (va_Pc [.ref P, .ref (g.lk (g.lk P 2) n)] (pc_in g sz f)) (va_Qv (fun f1 => (ISt g f1 P (n + 1) (stp st n w) (xst en S w a)) ∧ (IV g f1) ∧ (∀ b, b ≠ (g.lk (g.lk (g.lk P 2) n) 3) → f1 b = f b)) (pc_out g sz) (pc_A g sz)) 0 0 (pc_A g sz) := by
  refine pe_ofW (cc := prog_7_method_5_code) (maxL := 3) (ret := none) (lv := [(0, .ref P), (1, .ref (g.lk (g.lk P 2) n))]) (by decide) (Nat.le_of_ble_eq_true rfl) rfl ?_
  intro p e s m args below meth c ls hx hb hr hml hlocks hown hB hP hK hD hsz hS hl
  subst hsz
  have hu : ∀ b, b ≠ (g.lk (g.lk (g.lk P 2) n) 3) → f b = f b := fun _ _ => rfl
  obtain ⟨le, ri, sm, mv, en9, hw8, h0, h1, h7, h2⟩ := hND
  rcases (show w = 0 ∨ w = 1 ∨ w = 2 ∨ w = 3 ∨ w = 4 ∨ w = 5 ∨ w = 6 ∨ w = 7 by omega) with rfl | rfl | rfl | rfl | rfl | rfl | rfl | rfl
  · skip
    rw [show km 0 = 0 from rfl] at en9
    obtain ⟨rfl, ha9⟩ := h0 rfl
    refine lv_aload_n hx hb d_NProgram_findInterval_0 rfl (lv_at hl 1 rfl) ?_
    refine pf_get (v := .ref (g.lk (g.lk (g.lk P 2) n) 3)) (C := "BigRunner$Node") (T := FT5) (N := 7) hx hb (hw5 hB _) (fun _ h9 => h9) hown hK hP (lo_in hL (lo_e25 hL _ (lo_k7_2 hL _ t_P) _ (by omega)) (by decide)) en9 rfl 3 (by decide) (wd_215 hB _) rfl d_NProgram_findInterval_1 ?_
    refine lv_astore_n (lv' := [(2, .ref (g.lk (g.lk (g.lk P 2) n) 3)), (0, .ref P), (1, .ref (g.lk (g.lk P 2) n))]) hx hb d_NProgram_findInterval_4 rfl hl (by decide) rfl (fun ls hl => ?_)
    refine lv_aload_n hx hb d_NProgram_findInterval_5 rfl (lv_at hl 2 rfl) ?_
    refine pf_get (v := .int (nI 0)) (C := "BigRunner$Node") (T := FT5) (N := 7) hx hb (hw5 hB _) (fun _ h9 => h9) hown hK hP (lo_in hL (lo_e25 hL _ (lo_k7_2 hL _ t_P) _ (by omega)) (by decide)) en9 rfl 0 (by decide) (wd_203 hB _) rfl d_NProgram_findInterval_6 ?_
    refine lv_tableIn (off := 43) (tgt := 52) hx hb d_NProgram_findInterval_9 (by rw [nI_toInt (by omega)]; omega) (by rw [nI_toInt (by omega)]; omega) (by rw [nI_toInt (by omega)]; rfl) (by decide) ?_
    refine lv_aload_n hx hb d_NProgram_findInterval_52 rfl (lv_at hl 0 rfl) ?_
    refine lv_aload_n hx hb d_NProgram_findInterval_53 rfl (lv_at hl 2 rfl) ?_
    refine pf_get (v := .long (nL a)) (C := "BigRunner$Node") (T := FT5) (N := 7) hx hb (hw5 hB _) (fun _ h9 => h9) hown hK hP (lo_in hL (lo_e25 hL _ (lo_k7_2 hL _ t_P) _ (by omega)) (by decide)) en9 rfl 5 (by decide) (wd_220 hB _) rfl d_NProgram_findInterval_54 ?_
    refine lv_aload_n hx hb d_NProgram_findInterval_57 rfl (lv_at hl 2 rfl) ?_
    refine pf_get (v := .long (nL a)) (C := "BigRunner$Node") (T := FT5) (N := 7) hx hb (hw5 hB _) (fun _ h9 => h9) hown hK hP (lo_in hL (lo_e25 hL _ (lo_k7_2 hL _ t_P) _ (by omega)) (by decide)) en9 rfl 5 (by decide) (wd_220 hB _) rfl d_NProgram_findInterval_58 ?_
    obtain ⟨lo_2, hi_3, e1⟩ := oc_3.of (lo_k6_3 hL _ (lo_e25 hL _ (lo_k7_2 hL _ t_P) _ (by omega))) (hI.1 (g.lk (g.lk (g.lk P 2) n) 3))
    refine pcc_v (va_runV (C := "BigRunner$Interval") (As := [.long (nL a), .long (nL a)]) (rest := []) ⟨hx, hb, hml, hown, tb_nil⟩ (c2_iset l g s.heap.size f ((g.lk (g.lk (g.lk P 2) n) 3)) ((nL a)) ((nL a)) hL (lo_k6_3 hL _ (lo_e25 hL _ (lo_k7_2 hL _ t_P) _ (by omega))) hI) ⟨(callB_of 2 (tb_one (wd_598 hB _)) tb_good1 rfl rfl rfl (wd_75 hB _) (wd_595 hB _) (by decide +kernel) ⟨Nat.le_of_ble_eq_true rfl, Nat.le_of_ble_eq_true rfl⟩), (wd_596 hB _), (wd_597 hB _)⟩ ⟨pe_bl, pg_recv (ci := 2) hK hP (lo_in hL (lo_k6_3 hL _ (lo_e25 hL _ (lo_k7_2 hL _ t_P) _ (by omega))) (by decide)) e1 rfl, pe_pre hB hK hP hD⟩ rfl rfl hl.1 rfl (lv_room (Nat.le_of_ble_eq_true rfl)) d_NProgram_findInterval_61 ⟨Nat.le_of_ble_eq_true rfl, Nat.le_of_ble_eq_true rfl⟩) hS (fun f5 H locs hq6 hP hD hS => ?_)
    obtain ⟨v_7, hI1_8, hk1_9⟩ := hq6
    have hu : ∀ b, b ≠ (g.lk (g.lk (g.lk P 2) n) 3) → f5 b = f b := fun b q0 => (hk1_9 b q0).trans (hu b q0)
    have en9 := (hk1_9 (g.lk (g.lk P 2) n) (tg_ne (lo_e25 hL _ (lo_k7_2 hL _ t_P) _ (by omega)) (lo_k6_3 hL _ (lo_e25 hL _ (lo_k7_2 hL _ t_P) _ (by omega))) (by decide))).trans en9
    refine lv_goto (tgt := 257) hx hb d_NProgram_findInterval_64 (by decide) ?_
    exact pe_vret hx hb hr hlocks hK hP hD hS d_NProgram_findInterval_257 ⟨⟨ivn 0 a (en a) zI, S, rfl, by omega, (v_7.trans (by rw [c_vL ha9, c_vH ha9]; rfl)), (iK_ivn (hEV.1 a) iK_z (fun _ => ha9)), ISt_k hL t_P hn hu st S hIS⟩, hI1_8, hu⟩
  · skip
    rw [show km 1 = 1 from rfl] at en9
    obtain ⟨hle9, ha9⟩ := h1 rfl
    rw [hle9] at en9
    have eva := hEV.2 a ha9
    refine lv_aload_n hx hb d_NProgram_findInterval_0 rfl (lv_at hl 1 rfl) ?_
    refine pf_get (v := .ref (g.lk (g.lk (g.lk P 2) n) 3)) (C := "BigRunner$Node") (T := FT5) (N := 7) hx hb (hw5 hB _) (fun _ h9 => h9) hown hK hP (lo_in hL (lo_e25 hL _ (lo_k7_2 hL _ t_P) _ (by omega)) (by decide)) en9 rfl 3 (by decide) (wd_215 hB _) rfl d_NProgram_findInterval_1 ?_
    refine lv_astore_n (lv' := [(2, .ref (g.lk (g.lk (g.lk P 2) n) 3)), (0, .ref P), (1, .ref (g.lk (g.lk P 2) n))]) hx hb d_NProgram_findInterval_4 rfl hl (by decide) rfl (fun ls hl => ?_)
    refine lv_aload_n hx hb d_NProgram_findInterval_5 rfl (lv_at hl 2 rfl) ?_
    refine pf_get (v := .int (nI 1)) (C := "BigRunner$Node") (T := FT5) (N := 7) hx hb (hw5 hB _) (fun _ h9 => h9) hown hK hP (lo_in hL (lo_e25 hL _ (lo_k7_2 hL _ t_P) _ (by omega)) (by decide)) en9 rfl 0 (by decide) (wd_203 hB _) rfl d_NProgram_findInterval_6 ?_
    refine lv_tableIn (off := 58) (tgt := 67) hx hb d_NProgram_findInterval_9 (by rw [nI_toInt (by omega)]; omega) (by rw [nI_toInt (by omega)]; omega) (by rw [nI_toInt (by omega)]; rfl) (by decide) ?_
    refine lv_aload_n hx hb d_NProgram_findInterval_67 rfl (lv_at hl 0 rfl) ?_
    refine lv_aload_n hx hb d_NProgram_findInterval_68 rfl (lv_at hl 1 rfl) ?_
    obtain ⟨sc_11, nc_12, e10, c13, c14⟩ := oc_7.of t_P (hI.1 P)
    refine pf_get (v := .ref (g.lk P 4)) (C := "BigRunner$Program") (T := FT6) (N := 6) hx hb (hw6 hB _) (fun _ h9 => h9) hown hK hP (lo_in hL t_P (by decide)) e10 rfl 4 (by decide) (wd_253 hB _) rfl d_NProgram_findInterval_69 ?_
    refine lv_aload_n hx hb d_NProgram_findInterval_72 rfl (lv_at hl 2 rfl) ?_
    refine pf_get (v := .int (nI a)) (C := "BigRunner$Node") (T := FT5) (N := 7) hx hb (hw5 hB _) (fun _ h9 => h9) hown hK hP (lo_in hL (lo_e25 hL _ (lo_k7_2 hL _ t_P) _ (by omega)) (by decide)) en9 rfl 1 (by decide) (wd_207 hB _) rfl d_NProgram_findInterval_73 ?_
    have e15 := oc_26.of (lo_k7_4 hL _ t_P) (hI.1 (g.lk P 4))
    refine pf_aald (i := a) hx hb hK hP (lo_in hL (lo_k7_4 hL _ t_P) (by decide)) e15 (lo_t26 hL _ (lo_k7_4 hL _ t_P)) (by omega) (by decide) d_NProgram_findInterval_76 ?_
    have t16 := lo_e26 hL _ (lo_k7_4 hL _ t_P) a (by omega)
    refine pf_get (v := .long (cL ((en a)).1)) (C := "BigRunner$Interval") (T := FT2) (N := 2) hx hb (hw2 hB _) (fun _ h9 => h9) hown hK hP (lo_in hL t16 (by decide)) eva rfl 0 (by decide) (wd_127 hB _) rfl d_NProgram_findInterval_77 ?_
    refine lv_aload_n hx hb d_NProgram_findInterval_80 rfl (lv_at hl 1 rfl) ?_
    refine pf_get (v := .ref (g.lk P 4)) (C := "BigRunner$Program") (T := FT6) (N := 6) hx hb (hw6 hB _) (fun _ h9 => h9) hown hK hP (lo_in hL t_P (by decide)) e10 rfl 4 (by decide) (wd_253 hB _) rfl d_NProgram_findInterval_81 ?_
    refine lv_aload_n hx hb d_NProgram_findInterval_84 rfl (lv_at hl 2 rfl) ?_
    refine pf_get (v := .int (nI a)) (C := "BigRunner$Node") (T := FT5) (N := 7) hx hb (hw5 hB _) (fun _ h9 => h9) hown hK hP (lo_in hL (lo_e25 hL _ (lo_k7_2 hL _ t_P) _ (by omega)) (by decide)) en9 rfl 1 (by decide) (wd_207 hB _) rfl d_NProgram_findInterval_85 ?_
    refine pf_aald (i := a) hx hb hK hP (lo_in hL (lo_k7_4 hL _ t_P) (by decide)) e15 (lo_t26 hL _ (lo_k7_4 hL _ t_P)) (by omega) (by decide) d_NProgram_findInterval_88 ?_
    refine pf_get (v := .long (cH ((en a)).2)) (C := "BigRunner$Interval") (T := FT2) (N := 2) hx hb (hw2 hB _) (fun _ h9 => h9) hown hK hP (lo_in hL t16 (by decide)) eva rfl 1 (by decide) (wd_130 hB _) rfl d_NProgram_findInterval_89 ?_
    obtain ⟨lo_18, hi_19, e17⟩ := oc_3.of (lo_k6_3 hL _ (lo_e25 hL _ (lo_k7_2 hL _ t_P) _ (by omega))) (hI.1 (g.lk (g.lk (g.lk P 2) n) 3))
    refine pcc_v (va_runV (C := "BigRunner$Interval") (As := [.long (cL ((en a)).1), .long (cH ((en a)).2)]) (rest := []) ⟨hx, hb, hml, hown, tb_nil⟩ (c2_iset l g s.heap.size f ((g.lk (g.lk (g.lk P 2) n) 3)) ((cL ((en a)).1)) ((cH ((en a)).2)) hL (lo_k6_3 hL _ (lo_e25 hL _ (lo_k7_2 hL _ t_P) _ (by omega))) hI) ⟨(callB_of 2 (tb_one (wd_598 hB _)) tb_good1 rfl rfl rfl (wd_75 hB _) (wd_595 hB _) (by decide +kernel) ⟨Nat.le_of_ble_eq_true rfl, Nat.le_of_ble_eq_true rfl⟩), (wd_596 hB _), (wd_597 hB _)⟩ ⟨pe_bl, pg_recv (ci := 2) hK hP (lo_in hL (lo_k6_3 hL _ (lo_e25 hL _ (lo_k7_2 hL _ t_P) _ (by omega))) (by decide)) e17 rfl, pe_pre hB hK hP hD⟩ rfl rfl hl.1 rfl (lv_room (Nat.le_of_ble_eq_true rfl)) d_NProgram_findInterval_92 ⟨Nat.le_of_ble_eq_true rfl, Nat.le_of_ble_eq_true rfl⟩) hS (fun f21 H locs hq22 hP hD hS => ?_)
    obtain ⟨v_23, hI1_24, hk1_25⟩ := hq22
    have hu : ∀ b, b ≠ (g.lk (g.lk (g.lk P 2) n) 3) → f21 b = f b := fun b q0 => (hk1_25 b q0).trans (hu b q0)
    have eva := (hk1_25 (g.lk (g.lk P 4) a) (tn_ne (lo_n26 hL _ (lo_k7_4 hL _ t_P) _ (by omega)) ((lo_n6i hL _ (lo_e25 hL _ (lo_k7_2 hL _ t_P) _ (by omega))).trans (lo_n25 hL _ (lo_k7_2 hL _ t_P) _ (by omega))) (by omega))).trans eva
    have en9 := (hk1_25 (g.lk (g.lk P 2) n) (tg_ne (lo_e25 hL _ (lo_k7_2 hL _ t_P) _ (by omega)) (lo_k6_3 hL _ (lo_e25 hL _ (lo_k7_2 hL _ t_P) _ (by omega))) (by decide))).trans en9
    have e10 := (hk1_25 P (tg_ne t_P (lo_k6_3 hL _ (lo_e25 hL _ (lo_k7_2 hL _ t_P) _ (by omega))) (by decide))).trans e10
    have e15 := (hk1_25 (g.lk P 4) (tg_ne (lo_k7_4 hL _ t_P) (lo_k6_3 hL _ (lo_e25 hL _ (lo_k7_2 hL _ t_P) _ (by omega))) (by decide))).trans e15
    refine lv_goto (tgt := 257) hx hb d_NProgram_findInterval_95 (by decide) ?_
    exact pe_vret hx hb hr hlocks hK hP hD hS d_NProgram_findInterval_257 ⟨⟨ivn 1 a (en a) zI, S, rfl, by omega, (v_23.trans (by rw [c_iL (hEV.1 a), c_iH (hEV.1 a)]; rfl)), (iK_ivn (hEV.1 a) iK_z (fun q => absurd q (by decide))), ISt_k hL t_P hn hu st S hIS⟩, hI1_24, hu⟩
  · skip
    rw [show km 2 = 3 from rfl] at en9
    obtain ⟨r9, rfl⟩ := h2 (by decide) (by decide)
    obtain ⟨Y9, S8, rfl, hk9, eY9, hY9, hIS8⟩ := hIS
    obtain ⟨X9, S9, rfl, hj9, eX9, hX9, hIS9⟩ := hIS8
    refine lv_aload_n hx hb d_NProgram_findInterval_0 rfl (lv_at hl 1 rfl) ?_
    refine pf_get (v := .ref (g.lk (g.lk (g.lk P 2) n) 3)) (C := "BigRunner$Node") (T := FT5) (N := 7) hx hb (hw5 hB _) (fun _ h9 => h9) hown hK hP (lo_in hL (lo_e25 hL _ (lo_k7_2 hL _ t_P) _ (by omega)) (by decide)) en9 rfl 3 (by decide) (wd_215 hB _) rfl d_NProgram_findInterval_1 ?_
    refine lv_astore_n (lv' := [(2, .ref (g.lk (g.lk (g.lk P 2) n) 3)), (0, .ref P), (1, .ref (g.lk (g.lk P 2) n))]) hx hb d_NProgram_findInterval_4 rfl hl (by decide) rfl (fun ls hl => ?_)
    refine lv_aload_n hx hb d_NProgram_findInterval_5 rfl (lv_at hl 2 rfl) ?_
    refine pf_get (v := .int (nI 3)) (C := "BigRunner$Node") (T := FT5) (N := 7) hx hb (hw5 hB _) (fun _ h9 => h9) hown hK hP (lo_in hL (lo_e25 hL _ (lo_k7_2 hL _ t_P) _ (by omega)) (by decide)) en9 rfl 0 (by decide) (wd_203 hB _) rfl d_NProgram_findInterval_6 ?_
    refine lv_tableIn (off := 108) (tgt := 117) hx hb d_NProgram_findInterval_9 (by rw [nI_toInt (by omega)]; omega) (by rw [nI_toInt (by omega)]; omega) (by rw [nI_toInt (by omega)]; rfl) (by decide) ?_
    refine lv_aload_n hx hb d_NProgram_findInterval_117 rfl (lv_at hl 0 rfl) ?_
    refine lv_aload_n hx hb d_NProgram_findInterval_118 rfl (lv_at hl 1 rfl) ?_
    obtain ⟨sc_27, nc_28, e26, c29, c30⟩ := oc_7.of t_P (hI.1 P)
    refine pf_get (v := .ref (g.lk P 2)) (C := "BigRunner$Program") (T := FT6) (N := 6) hx hb (hw6 hB _) (fun _ h9 => h9) hown hK hP (lo_in hL t_P (by decide)) e26 rfl 2 (by decide) (wd_248 hB _) rfl d_NProgram_findInterval_119 ?_
    refine lv_aload_n hx hb d_NProgram_findInterval_122 rfl (lv_at hl 2 rfl) ?_
    refine pf_get (v := .int (nI le)) (C := "BigRunner$Node") (T := FT5) (N := 7) hx hb (hw5 hB _) (fun _ h9 => h9) hown hK hP (lo_in hL (lo_e25 hL _ (lo_k7_2 hL _ t_P) _ (by omega)) (by decide)) en9 rfl 1 (by decide) (wd_207 hB _) rfl d_NProgram_findInterval_123 ?_
    have e31 := oc_25.of (lo_k7_2 hL _ t_P) (hI.1 (g.lk P 2))
    refine pf_aald (i := le) hx hb hK hP (lo_in hL (lo_k7_2 hL _ t_P) (by decide)) e31 (lo_t25 hL _ (lo_k7_2 hL _ t_P)) (by omega) (by decide) d_NProgram_findInterval_126 ?_
    have t32 := lo_e25 hL _ (lo_k7_2 hL _ t_P) le (by omega)
    obtain ⟨kd_34, le_35, ri_36, sm_37, mv_38, e33, c39, c40, c41, c42, c43, c44⟩ := oc_6.of t32 (hI.1 (g.lk (g.lk P 2) le))
    refine pf_get (v := .ref (g.lk (g.lk (g.lk P 2) le) 3)) (C := "BigRunner$Node") (T := FT5) (N := 7) hx hb (hw5 hB _) (fun _ h9 => h9) hown hK hP (lo_in hL t32 (by decide)) e33 rfl 3 (by decide) (wd_215 hB _) rfl d_NProgram_findInterval_127 ?_
    refine lv_aload_n hx hb d_NProgram_findInterval_130 rfl (lv_at hl 1 rfl) ?_
    refine pf_get (v := .ref (g.lk P 2)) (C := "BigRunner$Program") (T := FT6) (N := 6) hx hb (hw6 hB _) (fun _ h9 => h9) hown hK hP (lo_in hL t_P (by decide)) e26 rfl 2 (by decide) (wd_248 hB _) rfl d_NProgram_findInterval_131 ?_
    refine lv_aload_n hx hb d_NProgram_findInterval_134 rfl (lv_at hl 2 rfl) ?_
    refine pf_get (v := .int (nI ri)) (C := "BigRunner$Node") (T := FT5) (N := 7) hx hb (hw5 hB _) (fun _ h9 => h9) hown hK hP (lo_in hL (lo_e25 hL _ (lo_k7_2 hL _ t_P) _ (by omega)) (by decide)) en9 rfl 2 (by decide) (wd_211 hB _) rfl d_NProgram_findInterval_135 ?_
    refine pf_aald (i := ri) hx hb hK hP (lo_in hL (lo_k7_2 hL _ t_P) (by decide)) e31 (lo_t25 hL _ (lo_k7_2 hL _ t_P)) (by omega) (by decide) d_NProgram_findInterval_138 ?_
    have t45 := lo_e25 hL _ (lo_k7_2 hL _ t_P) ri (by omega)
    obtain ⟨kd_47, le_48, ri_49, sm_50, mv_51, e46, c52, c53, c54, c55, c56, c57⟩ := oc_6.of t45 (hI.1 (g.lk (g.lk P 2) ri))
    refine pf_get (v := .ref (g.lk (g.lk (g.lk P 2) ri) 3)) (C := "BigRunner$Node") (T := FT5) (N := 7) hx hb (hw5 hB _) (fun _ h9 => h9) hown hK hP (lo_in hL t45 (by decide)) e46 rfl 3 (by decide) (wd_215 hB _) rfl d_NProgram_findInterval_139 ?_
    obtain ⟨lo_59, hi_60, e58⟩ := oc_3.of (lo_k6_3 hL _ (lo_e25 hL _ (lo_k7_2 hL _ t_P) _ (by omega))) (hI.1 (g.lk (g.lk (g.lk P 2) n) 3))
    refine pcc_v (va_runV (C := "BigRunner$Interval") (As := [.ref (g.lk (g.lk (g.lk P 2) le) 3), .ref (g.lk (g.lk (g.lk P 2) ri) 3)]) (rest := []) ⟨hx, hb, hml, hown, tb_nil⟩ (c2_iSum l g s.heap.size f ((g.lk (g.lk (g.lk P 2) n) 3)) ((g.lk (g.lk (g.lk P 2) le) 3)) ((g.lk (g.lk (g.lk P 2) ri) 3)) ((cL X9.1)) ((cH X9.2)) ((cL Y9.1)) ((cH Y9.2)) hL (lo_k6_3 hL _ (lo_e25 hL _ (lo_k7_2 hL _ t_P) _ (by omega))) (lo_k6_3 hL _ t32) (lo_k6_3 hL _ t45) hI eX9 eY9) ⟨(callB_of 2 (tb_one (wd_625 hB _)) tb_good1 rfl rfl rfl (wd_75 hB _) (wd_622 hB _) (by decide +kernel) ⟨Nat.le_of_ble_eq_true rfl, Nat.le_of_ble_eq_true rfl⟩), (wd_623 hB _), (wd_624 hB _)⟩ ⟨pe_bl, pg_recv (ci := 2) hK hP (lo_in hL (lo_k6_3 hL _ (lo_e25 hL _ (lo_k7_2 hL _ t_P) _ (by omega))) (by decide)) e58 rfl, pe_pre hB hK hP hD⟩ rfl rfl hl.1 rfl (lv_room (Nat.le_of_ble_eq_true rfl)) d_NProgram_findInterval_142 ⟨Nat.le_of_ble_eq_true rfl, Nat.le_of_ble_eq_true rfl⟩) hS (fun f62 H locs hq63 hP hD hS => ?_)
    obtain ⟨v_64, hI1_65, hk1_66⟩ := hq63
    have hu : ∀ b, b ≠ (g.lk (g.lk (g.lk P 2) n) 3) → f62 b = f b := fun b q0 => (hk1_66 b q0).trans (hu b q0)
    have eX9 := (hk1_66 (g.lk (g.lk (g.lk P 2) le) 3) (tn_ne ((lo_n6i hL _ t32).trans (lo_n25 hL _ (lo_k7_2 hL _ t_P) _ (by omega))) ((lo_n6i hL _ (lo_e25 hL _ (lo_k7_2 hL _ t_P) _ (by omega))).trans (lo_n25 hL _ (lo_k7_2 hL _ t_P) _ (by omega))) (by omega))).trans eX9
    have eY9 := (hk1_66 (g.lk (g.lk (g.lk P 2) ri) 3) (tn_ne ((lo_n6i hL _ t45).trans (lo_n25 hL _ (lo_k7_2 hL _ t_P) _ (by omega))) ((lo_n6i hL _ (lo_e25 hL _ (lo_k7_2 hL _ t_P) _ (by omega))).trans (lo_n25 hL _ (lo_k7_2 hL _ t_P) _ (by omega))) (by omega))).trans eY9
    have en9 := (hk1_66 (g.lk (g.lk P 2) n) (tg_ne (lo_e25 hL _ (lo_k7_2 hL _ t_P) _ (by omega)) (lo_k6_3 hL _ (lo_e25 hL _ (lo_k7_2 hL _ t_P) _ (by omega))) (by decide))).trans en9
    have e26 := (hk1_66 P (tg_ne t_P (lo_k6_3 hL _ (lo_e25 hL _ (lo_k7_2 hL _ t_P) _ (by omega))) (by decide))).trans e26
    have e31 := (hk1_66 (g.lk P 2) (tg_ne (lo_k7_2 hL _ t_P) (lo_k6_3 hL _ (lo_e25 hL _ (lo_k7_2 hL _ t_P) _ (by omega))) (by decide))).trans e31
    have e33 := (hk1_66 (g.lk (g.lk P 2) le) (tg_ne t32 (lo_k6_3 hL _ (lo_e25 hL _ (lo_k7_2 hL _ t_P) _ (by omega))) (by decide))).trans e33
    have e46 := (hk1_66 (g.lk (g.lk P 2) ri) (tg_ne t45 (lo_k6_3 hL _ (lo_e25 hL _ (lo_k7_2 hL _ t_P) _ (by omega))) (by decide))).trans e46
    refine lv_goto (tgt := 257) hx hb d_NProgram_findInterval_145 (by decide) ?_
    exact pe_vret hx hb hr hlocks hK hP hD hS d_NProgram_findInterval_257 ⟨⟨ivn 2 a X9 Y9, S9, rfl, by omega, (v_64.trans (by rw [c_sL hX9 hY9, c_sH hX9 hY9]; rfl)), (iK_ivn hX9 hY9 (fun q => absurd q (by decide))), ISt_k hL t_P hn hu r9 S9 hIS9⟩, hI1_65, hu⟩
  · skip
    rw [show km 3 = 4 from rfl] at en9
    obtain ⟨r9, rfl⟩ := h2 (by decide) (by decide)
    obtain ⟨Y9, S8, rfl, hk9, eY9, hY9, hIS8⟩ := hIS
    obtain ⟨X9, S9, rfl, hj9, eX9, hX9, hIS9⟩ := hIS8
    refine lv_aload_n hx hb d_NProgram_findInterval_0 rfl (lv_at hl 1 rfl) ?_
    refine pf_get (v := .ref (g.lk (g.lk (g.lk P 2) n) 3)) (C := "BigRunner$Node") (T := FT5) (N := 7) hx hb (hw5 hB _) (fun _ h9 => h9) hown hK hP (lo_in hL (lo_e25 hL _ (lo_k7_2 hL _ t_P) _ (by omega)) (by decide)) en9 rfl 3 (by decide) (wd_215 hB _) rfl d_NProgram_findInterval_1 ?_
    refine lv_astore_n (lv' := [(2, .ref (g.lk (g.lk (g.lk P 2) n) 3)), (0, .ref P), (1, .ref (g.lk (g.lk P 2) n))]) hx hb d_NProgram_findInterval_4 rfl hl (by decide) rfl (fun ls hl => ?_)
    refine lv_aload_n hx hb d_NProgram_findInterval_5 rfl (lv_at hl 2 rfl) ?_
    refine pf_get (v := .int (nI 4)) (C := "BigRunner$Node") (T := FT5) (N := 7) hx hb (hw5 hB _) (fun _ h9 => h9) hown hK hP (lo_in hL (lo_e25 hL _ (lo_k7_2 hL _ t_P) _ (by omega)) (by decide)) en9 rfl 0 (by decide) (wd_203 hB _) rfl d_NProgram_findInterval_6 ?_
    refine lv_tableIn (off := 139) (tgt := 148) hx hb d_NProgram_findInterval_9 (by rw [nI_toInt (by omega)]; omega) (by rw [nI_toInt (by omega)]; omega) (by rw [nI_toInt (by omega)]; rfl) (by decide) ?_
    refine lv_aload_n hx hb d_NProgram_findInterval_148 rfl (lv_at hl 0 rfl) ?_
    refine lv_aload_n hx hb d_NProgram_findInterval_149 rfl (lv_at hl 1 rfl) ?_
    obtain ⟨sc_68, nc_69, e67, c70, c71⟩ := oc_7.of t_P (hI.1 P)
    refine pf_get (v := .ref (g.lk P 2)) (C := "BigRunner$Program") (T := FT6) (N := 6) hx hb (hw6 hB _) (fun _ h9 => h9) hown hK hP (lo_in hL t_P (by decide)) e67 rfl 2 (by decide) (wd_248 hB _) rfl d_NProgram_findInterval_150 ?_
    refine lv_aload_n hx hb d_NProgram_findInterval_153 rfl (lv_at hl 2 rfl) ?_
    refine pf_get (v := .int (nI le)) (C := "BigRunner$Node") (T := FT5) (N := 7) hx hb (hw5 hB _) (fun _ h9 => h9) hown hK hP (lo_in hL (lo_e25 hL _ (lo_k7_2 hL _ t_P) _ (by omega)) (by decide)) en9 rfl 1 (by decide) (wd_207 hB _) rfl d_NProgram_findInterval_154 ?_
    have e72 := oc_25.of (lo_k7_2 hL _ t_P) (hI.1 (g.lk P 2))
    refine pf_aald (i := le) hx hb hK hP (lo_in hL (lo_k7_2 hL _ t_P) (by decide)) e72 (lo_t25 hL _ (lo_k7_2 hL _ t_P)) (by omega) (by decide) d_NProgram_findInterval_157 ?_
    have t73 := lo_e25 hL _ (lo_k7_2 hL _ t_P) le (by omega)
    obtain ⟨kd_75, le_76, ri_77, sm_78, mv_79, e74, c80, c81, c82, c83, c84, c85⟩ := oc_6.of t73 (hI.1 (g.lk (g.lk P 2) le))
    refine pf_get (v := .ref (g.lk (g.lk (g.lk P 2) le) 3)) (C := "BigRunner$Node") (T := FT5) (N := 7) hx hb (hw5 hB _) (fun _ h9 => h9) hown hK hP (lo_in hL t73 (by decide)) e74 rfl 3 (by decide) (wd_215 hB _) rfl d_NProgram_findInterval_158 ?_
    refine lv_aload_n hx hb d_NProgram_findInterval_161 rfl (lv_at hl 1 rfl) ?_
    refine pf_get (v := .ref (g.lk P 2)) (C := "BigRunner$Program") (T := FT6) (N := 6) hx hb (hw6 hB _) (fun _ h9 => h9) hown hK hP (lo_in hL t_P (by decide)) e67 rfl 2 (by decide) (wd_248 hB _) rfl d_NProgram_findInterval_162 ?_
    refine lv_aload_n hx hb d_NProgram_findInterval_165 rfl (lv_at hl 2 rfl) ?_
    refine pf_get (v := .int (nI ri)) (C := "BigRunner$Node") (T := FT5) (N := 7) hx hb (hw5 hB _) (fun _ h9 => h9) hown hK hP (lo_in hL (lo_e25 hL _ (lo_k7_2 hL _ t_P) _ (by omega)) (by decide)) en9 rfl 2 (by decide) (wd_211 hB _) rfl d_NProgram_findInterval_166 ?_
    refine pf_aald (i := ri) hx hb hK hP (lo_in hL (lo_k7_2 hL _ t_P) (by decide)) e72 (lo_t25 hL _ (lo_k7_2 hL _ t_P)) (by omega) (by decide) d_NProgram_findInterval_169 ?_
    have t86 := lo_e25 hL _ (lo_k7_2 hL _ t_P) ri (by omega)
    obtain ⟨kd_88, le_89, ri_90, sm_91, mv_92, e87, c93, c94, c95, c96, c97, c98⟩ := oc_6.of t86 (hI.1 (g.lk (g.lk P 2) ri))
    refine pf_get (v := .ref (g.lk (g.lk (g.lk P 2) ri) 3)) (C := "BigRunner$Node") (T := FT5) (N := 7) hx hb (hw5 hB _) (fun _ h9 => h9) hown hK hP (lo_in hL t86 (by decide)) e87 rfl 3 (by decide) (wd_215 hB _) rfl d_NProgram_findInterval_170 ?_
    obtain ⟨lo_100, hi_101, e99⟩ := oc_3.of (lo_k6_3 hL _ (lo_e25 hL _ (lo_k7_2 hL _ t_P) _ (by omega))) (hI.1 (g.lk (g.lk (g.lk P 2) n) 3))
    refine pcc_v (va_runV (C := "BigRunner$Interval") (As := [.ref (g.lk (g.lk (g.lk P 2) le) 3), .ref (g.lk (g.lk (g.lk P 2) ri) 3)]) (rest := []) ⟨hx, hb, hml, hown, tb_nil⟩ (c2_iDif l g s.heap.size f ((g.lk (g.lk (g.lk P 2) n) 3)) ((g.lk (g.lk (g.lk P 2) le) 3)) ((g.lk (g.lk (g.lk P 2) ri) 3)) ((cL X9.1)) ((cH X9.2)) ((cL Y9.1)) ((cH Y9.2)) hL (lo_k6_3 hL _ (lo_e25 hL _ (lo_k7_2 hL _ t_P) _ (by omega))) (lo_k6_3 hL _ t73) (lo_k6_3 hL _ t86) hI eX9 eY9) ⟨(callB_of 2 (tb_one (wd_633 hB _)) tb_good1 rfl rfl rfl (wd_75 hB _) (wd_630 hB _) (by decide +kernel) ⟨Nat.le_of_ble_eq_true rfl, Nat.le_of_ble_eq_true rfl⟩), (wd_631 hB _), (wd_632 hB _)⟩ ⟨pe_bl, pg_recv (ci := 2) hK hP (lo_in hL (lo_k6_3 hL _ (lo_e25 hL _ (lo_k7_2 hL _ t_P) _ (by omega))) (by decide)) e99 rfl, pe_pre hB hK hP hD⟩ rfl rfl hl.1 rfl (lv_room (Nat.le_of_ble_eq_true rfl)) d_NProgram_findInterval_173 ⟨Nat.le_of_ble_eq_true rfl, Nat.le_of_ble_eq_true rfl⟩) hS (fun f103 H locs hq104 hP hD hS => ?_)
    obtain ⟨v_105, hI1_106, hk1_107⟩ := hq104
    have hu : ∀ b, b ≠ (g.lk (g.lk (g.lk P 2) n) 3) → f103 b = f b := fun b q0 => (hk1_107 b q0).trans (hu b q0)
    have eX9 := (hk1_107 (g.lk (g.lk (g.lk P 2) le) 3) (tn_ne ((lo_n6i hL _ t73).trans (lo_n25 hL _ (lo_k7_2 hL _ t_P) _ (by omega))) ((lo_n6i hL _ (lo_e25 hL _ (lo_k7_2 hL _ t_P) _ (by omega))).trans (lo_n25 hL _ (lo_k7_2 hL _ t_P) _ (by omega))) (by omega))).trans eX9
    have eY9 := (hk1_107 (g.lk (g.lk (g.lk P 2) ri) 3) (tn_ne ((lo_n6i hL _ t86).trans (lo_n25 hL _ (lo_k7_2 hL _ t_P) _ (by omega))) ((lo_n6i hL _ (lo_e25 hL _ (lo_k7_2 hL _ t_P) _ (by omega))).trans (lo_n25 hL _ (lo_k7_2 hL _ t_P) _ (by omega))) (by omega))).trans eY9
    have en9 := (hk1_107 (g.lk (g.lk P 2) n) (tg_ne (lo_e25 hL _ (lo_k7_2 hL _ t_P) _ (by omega)) (lo_k6_3 hL _ (lo_e25 hL _ (lo_k7_2 hL _ t_P) _ (by omega))) (by decide))).trans en9
    have e67 := (hk1_107 P (tg_ne t_P (lo_k6_3 hL _ (lo_e25 hL _ (lo_k7_2 hL _ t_P) _ (by omega))) (by decide))).trans e67
    have e72 := (hk1_107 (g.lk P 2) (tg_ne (lo_k7_2 hL _ t_P) (lo_k6_3 hL _ (lo_e25 hL _ (lo_k7_2 hL _ t_P) _ (by omega))) (by decide))).trans e72
    have e74 := (hk1_107 (g.lk (g.lk P 2) le) (tg_ne t73 (lo_k6_3 hL _ (lo_e25 hL _ (lo_k7_2 hL _ t_P) _ (by omega))) (by decide))).trans e74
    have e87 := (hk1_107 (g.lk (g.lk P 2) ri) (tg_ne t86 (lo_k6_3 hL _ (lo_e25 hL _ (lo_k7_2 hL _ t_P) _ (by omega))) (by decide))).trans e87
    refine lv_goto (tgt := 257) hx hb d_NProgram_findInterval_176 (by decide) ?_
    exact pe_vret hx hb hr hlocks hK hP hD hS d_NProgram_findInterval_257 ⟨⟨ivn 3 a X9 Y9, S9, rfl, by omega, (v_105.trans (by rw [c_dL hX9 hY9, c_dH hX9 hY9]; rfl)), (iK_ivn hX9 hY9 (fun q => absurd q (by decide))), ISt_k hL t_P hn hu r9 S9 hIS9⟩, hI1_106, hu⟩
  · skip
    rw [show km 4 = 5 from rfl] at en9
    obtain ⟨r9, rfl⟩ := h2 (by decide) (by decide)
    obtain ⟨Y9, S8, rfl, hk9, eY9, hY9, hIS8⟩ := hIS
    obtain ⟨X9, S9, rfl, hj9, eX9, hX9, hIS9⟩ := hIS8
    refine lv_aload_n hx hb d_NProgram_findInterval_0 rfl (lv_at hl 1 rfl) ?_
    refine pf_get (v := .ref (g.lk (g.lk (g.lk P 2) n) 3)) (C := "BigRunner$Node") (T := FT5) (N := 7) hx hb (hw5 hB _) (fun _ h9 => h9) hown hK hP (lo_in hL (lo_e25 hL _ (lo_k7_2 hL _ t_P) _ (by omega)) (by decide)) en9 rfl 3 (by decide) (wd_215 hB _) rfl d_NProgram_findInterval_1 ?_
    refine lv_astore_n (lv' := [(2, .ref (g.lk (g.lk (g.lk P 2) n) 3)), (0, .ref P), (1, .ref (g.lk (g.lk P 2) n))]) hx hb d_NProgram_findInterval_4 rfl hl (by decide) rfl (fun ls hl => ?_)
    refine lv_aload_n hx hb d_NProgram_findInterval_5 rfl (lv_at hl 2 rfl) ?_
    refine pf_get (v := .int (nI 5)) (C := "BigRunner$Node") (T := FT5) (N := 7) hx hb (hw5 hB _) (fun _ h9 => h9) hown hK hP (lo_in hL (lo_e25 hL _ (lo_k7_2 hL _ t_P) _ (by omega)) (by decide)) en9 rfl 0 (by decide) (wd_203 hB _) rfl d_NProgram_findInterval_6 ?_
    refine lv_tableIn (off := 170) (tgt := 179) hx hb d_NProgram_findInterval_9 (by rw [nI_toInt (by omega)]; omega) (by rw [nI_toInt (by omega)]; omega) (by rw [nI_toInt (by omega)]; rfl) (by decide) ?_
    refine lv_aload_n hx hb d_NProgram_findInterval_179 rfl (lv_at hl 0 rfl) ?_
    refine lv_aload_n hx hb d_NProgram_findInterval_180 rfl (lv_at hl 1 rfl) ?_
    obtain ⟨sc_109, nc_110, e108, c111, c112⟩ := oc_7.of t_P (hI.1 P)
    refine pf_get (v := .ref (g.lk P 2)) (C := "BigRunner$Program") (T := FT6) (N := 6) hx hb (hw6 hB _) (fun _ h9 => h9) hown hK hP (lo_in hL t_P (by decide)) e108 rfl 2 (by decide) (wd_248 hB _) rfl d_NProgram_findInterval_181 ?_
    refine lv_aload_n hx hb d_NProgram_findInterval_184 rfl (lv_at hl 2 rfl) ?_
    refine pf_get (v := .int (nI le)) (C := "BigRunner$Node") (T := FT5) (N := 7) hx hb (hw5 hB _) (fun _ h9 => h9) hown hK hP (lo_in hL (lo_e25 hL _ (lo_k7_2 hL _ t_P) _ (by omega)) (by decide)) en9 rfl 1 (by decide) (wd_207 hB _) rfl d_NProgram_findInterval_185 ?_
    have e113 := oc_25.of (lo_k7_2 hL _ t_P) (hI.1 (g.lk P 2))
    refine pf_aald (i := le) hx hb hK hP (lo_in hL (lo_k7_2 hL _ t_P) (by decide)) e113 (lo_t25 hL _ (lo_k7_2 hL _ t_P)) (by omega) (by decide) d_NProgram_findInterval_188 ?_
    have t114 := lo_e25 hL _ (lo_k7_2 hL _ t_P) le (by omega)
    obtain ⟨kd_116, le_117, ri_118, sm_119, mv_120, e115, c121, c122, c123, c124, c125, c126⟩ := oc_6.of t114 (hI.1 (g.lk (g.lk P 2) le))
    refine pf_get (v := .ref (g.lk (g.lk (g.lk P 2) le) 3)) (C := "BigRunner$Node") (T := FT5) (N := 7) hx hb (hw5 hB _) (fun _ h9 => h9) hown hK hP (lo_in hL t114 (by decide)) e115 rfl 3 (by decide) (wd_215 hB _) rfl d_NProgram_findInterval_189 ?_
    refine lv_aload_n hx hb d_NProgram_findInterval_192 rfl (lv_at hl 1 rfl) ?_
    refine pf_get (v := .ref (g.lk P 2)) (C := "BigRunner$Program") (T := FT6) (N := 6) hx hb (hw6 hB _) (fun _ h9 => h9) hown hK hP (lo_in hL t_P (by decide)) e108 rfl 2 (by decide) (wd_248 hB _) rfl d_NProgram_findInterval_193 ?_
    refine lv_aload_n hx hb d_NProgram_findInterval_196 rfl (lv_at hl 2 rfl) ?_
    refine pf_get (v := .int (nI ri)) (C := "BigRunner$Node") (T := FT5) (N := 7) hx hb (hw5 hB _) (fun _ h9 => h9) hown hK hP (lo_in hL (lo_e25 hL _ (lo_k7_2 hL _ t_P) _ (by omega)) (by decide)) en9 rfl 2 (by decide) (wd_211 hB _) rfl d_NProgram_findInterval_197 ?_
    refine pf_aald (i := ri) hx hb hK hP (lo_in hL (lo_k7_2 hL _ t_P) (by decide)) e113 (lo_t25 hL _ (lo_k7_2 hL _ t_P)) (by omega) (by decide) d_NProgram_findInterval_200 ?_
    have t127 := lo_e25 hL _ (lo_k7_2 hL _ t_P) ri (by omega)
    obtain ⟨kd_129, le_130, ri_131, sm_132, mv_133, e128, c134, c135, c136, c137, c138, c139⟩ := oc_6.of t127 (hI.1 (g.lk (g.lk P 2) ri))
    refine pf_get (v := .ref (g.lk (g.lk (g.lk P 2) ri) 3)) (C := "BigRunner$Node") (T := FT5) (N := 7) hx hb (hw5 hB _) (fun _ h9 => h9) hown hK hP (lo_in hL t127 (by decide)) e128 rfl 3 (by decide) (wd_215 hB _) rfl d_NProgram_findInterval_201 ?_
    obtain ⟨lo_141, hi_142, e140⟩ := oc_3.of (lo_k6_3 hL _ (lo_e25 hL _ (lo_k7_2 hL _ t_P) _ (by omega))) (hI.1 (g.lk (g.lk (g.lk P 2) n) 3))
    refine pcc_v (va_runV (C := "BigRunner$Interval") (As := [.ref (g.lk (g.lk (g.lk P 2) le) 3), .ref (g.lk (g.lk (g.lk P 2) ri) 3)]) (rest := []) ⟨hx, hb, hml, hown, tb_nil⟩ (c2_iPro l g s.heap.size f ((g.lk (g.lk (g.lk P 2) n) 3)) ((g.lk (g.lk (g.lk P 2) le) 3)) ((g.lk (g.lk (g.lk P 2) ri) 3)) ((cL X9.1)) ((cH X9.2)) ((cL Y9.1)) ((cH Y9.2)) hL (lo_k6_3 hL _ (lo_e25 hL _ (lo_k7_2 hL _ t_P) _ (by omega))) (lo_k6_3 hL _ t114) (lo_k6_3 hL _ t127) hI eX9 eY9) ⟨(callB_of 2 (tb_one (wd_637 hB _)) tb_good1 rfl rfl rfl (wd_75 hB _) (wd_634 hB _) (by decide +kernel) ⟨Nat.le_of_ble_eq_true rfl, Nat.le_of_ble_eq_true rfl⟩), (wd_635 hB _), (wd_636 hB _)⟩ ⟨pe_bl, pg_recv (ci := 2) hK hP (lo_in hL (lo_k6_3 hL _ (lo_e25 hL _ (lo_k7_2 hL _ t_P) _ (by omega))) (by decide)) e140 rfl, pe_pre hB hK hP hD⟩ rfl rfl hl.1 rfl (lv_room (Nat.le_of_ble_eq_true rfl)) d_NProgram_findInterval_204 ⟨Nat.le_of_ble_eq_true rfl, Nat.le_of_ble_eq_true rfl⟩) hS (fun f144 H locs hq145 hP hD hS => ?_)
    obtain ⟨v_146, hI1_147, hk1_148⟩ := hq145
    have hu : ∀ b, b ≠ (g.lk (g.lk (g.lk P 2) n) 3) → f144 b = f b := fun b q0 => (hk1_148 b q0).trans (hu b q0)
    have eX9 := (hk1_148 (g.lk (g.lk (g.lk P 2) le) 3) (tn_ne ((lo_n6i hL _ t114).trans (lo_n25 hL _ (lo_k7_2 hL _ t_P) _ (by omega))) ((lo_n6i hL _ (lo_e25 hL _ (lo_k7_2 hL _ t_P) _ (by omega))).trans (lo_n25 hL _ (lo_k7_2 hL _ t_P) _ (by omega))) (by omega))).trans eX9
    have eY9 := (hk1_148 (g.lk (g.lk (g.lk P 2) ri) 3) (tn_ne ((lo_n6i hL _ t127).trans (lo_n25 hL _ (lo_k7_2 hL _ t_P) _ (by omega))) ((lo_n6i hL _ (lo_e25 hL _ (lo_k7_2 hL _ t_P) _ (by omega))).trans (lo_n25 hL _ (lo_k7_2 hL _ t_P) _ (by omega))) (by omega))).trans eY9
    have en9 := (hk1_148 (g.lk (g.lk P 2) n) (tg_ne (lo_e25 hL _ (lo_k7_2 hL _ t_P) _ (by omega)) (lo_k6_3 hL _ (lo_e25 hL _ (lo_k7_2 hL _ t_P) _ (by omega))) (by decide))).trans en9
    have e108 := (hk1_148 P (tg_ne t_P (lo_k6_3 hL _ (lo_e25 hL _ (lo_k7_2 hL _ t_P) _ (by omega))) (by decide))).trans e108
    have e113 := (hk1_148 (g.lk P 2) (tg_ne (lo_k7_2 hL _ t_P) (lo_k6_3 hL _ (lo_e25 hL _ (lo_k7_2 hL _ t_P) _ (by omega))) (by decide))).trans e113
    have e115 := (hk1_148 (g.lk (g.lk P 2) le) (tg_ne t114 (lo_k6_3 hL _ (lo_e25 hL _ (lo_k7_2 hL _ t_P) _ (by omega))) (by decide))).trans e115
    have e128 := (hk1_148 (g.lk (g.lk P 2) ri) (tg_ne t127 (lo_k6_3 hL _ (lo_e25 hL _ (lo_k7_2 hL _ t_P) _ (by omega))) (by decide))).trans e128
    refine lv_goto (tgt := 257) hx hb d_NProgram_findInterval_207 (by decide) ?_
    exact pe_vret hx hb hr hlocks hK hP hD hS d_NProgram_findInterval_257 ⟨⟨ivn 4 a X9 Y9, S9, rfl, by omega, (v_146.trans (by rw [(c_m hX9 hY9).1, (c_m hX9 hY9).2]; rfl)), (iK_ivn hX9 hY9 (fun q => absurd q (by decide))), ISt_k hL t_P hn hu r9 S9 hIS9⟩, hI1_147, hu⟩
  · skip
    rw [show km 5 = 6 from rfl] at en9
    obtain ⟨r9, rfl⟩ := h2 (by decide) (by decide)
    obtain ⟨Y9, S8, rfl, hk9, eY9, hY9, hIS8⟩ := hIS
    obtain ⟨X9, S9, rfl, hj9, eX9, hX9, hIS9⟩ := hIS8
    refine lv_aload_n hx hb d_NProgram_findInterval_0 rfl (lv_at hl 1 rfl) ?_
    refine pf_get (v := .ref (g.lk (g.lk (g.lk P 2) n) 3)) (C := "BigRunner$Node") (T := FT5) (N := 7) hx hb (hw5 hB _) (fun _ h9 => h9) hown hK hP (lo_in hL (lo_e25 hL _ (lo_k7_2 hL _ t_P) _ (by omega)) (by decide)) en9 rfl 3 (by decide) (wd_215 hB _) rfl d_NProgram_findInterval_1 ?_
    refine lv_astore_n (lv' := [(2, .ref (g.lk (g.lk (g.lk P 2) n) 3)), (0, .ref P), (1, .ref (g.lk (g.lk P 2) n))]) hx hb d_NProgram_findInterval_4 rfl hl (by decide) rfl (fun ls hl => ?_)
    refine lv_aload_n hx hb d_NProgram_findInterval_5 rfl (lv_at hl 2 rfl) ?_
    refine pf_get (v := .int (nI 6)) (C := "BigRunner$Node") (T := FT5) (N := 7) hx hb (hw5 hB _) (fun _ h9 => h9) hown hK hP (lo_in hL (lo_e25 hL _ (lo_k7_2 hL _ t_P) _ (by omega)) (by decide)) en9 rfl 0 (by decide) (wd_203 hB _) rfl d_NProgram_findInterval_6 ?_
    refine lv_tableIn (off := 201) (tgt := 210) hx hb d_NProgram_findInterval_9 (by rw [nI_toInt (by omega)]; omega) (by rw [nI_toInt (by omega)]; omega) (by rw [nI_toInt (by omega)]; rfl) (by decide) ?_
    refine lv_aload_n hx hb d_NProgram_findInterval_210 rfl (lv_at hl 0 rfl) ?_
    refine lv_aload_n hx hb d_NProgram_findInterval_211 rfl (lv_at hl 1 rfl) ?_
    obtain ⟨sc_150, nc_151, e149, c152, c153⟩ := oc_7.of t_P (hI.1 P)
    refine pf_get (v := .ref (g.lk P 2)) (C := "BigRunner$Program") (T := FT6) (N := 6) hx hb (hw6 hB _) (fun _ h9 => h9) hown hK hP (lo_in hL t_P (by decide)) e149 rfl 2 (by decide) (wd_248 hB _) rfl d_NProgram_findInterval_212 ?_
    refine lv_aload_n hx hb d_NProgram_findInterval_215 rfl (lv_at hl 2 rfl) ?_
    refine pf_get (v := .int (nI le)) (C := "BigRunner$Node") (T := FT5) (N := 7) hx hb (hw5 hB _) (fun _ h9 => h9) hown hK hP (lo_in hL (lo_e25 hL _ (lo_k7_2 hL _ t_P) _ (by omega)) (by decide)) en9 rfl 1 (by decide) (wd_207 hB _) rfl d_NProgram_findInterval_216 ?_
    have e154 := oc_25.of (lo_k7_2 hL _ t_P) (hI.1 (g.lk P 2))
    refine pf_aald (i := le) hx hb hK hP (lo_in hL (lo_k7_2 hL _ t_P) (by decide)) e154 (lo_t25 hL _ (lo_k7_2 hL _ t_P)) (by omega) (by decide) d_NProgram_findInterval_219 ?_
    have t155 := lo_e25 hL _ (lo_k7_2 hL _ t_P) le (by omega)
    obtain ⟨kd_157, le_158, ri_159, sm_160, mv_161, e156, c162, c163, c164, c165, c166, c167⟩ := oc_6.of t155 (hI.1 (g.lk (g.lk P 2) le))
    refine pf_get (v := .ref (g.lk (g.lk (g.lk P 2) le) 3)) (C := "BigRunner$Node") (T := FT5) (N := 7) hx hb (hw5 hB _) (fun _ h9 => h9) hown hK hP (lo_in hL t155 (by decide)) e156 rfl 3 (by decide) (wd_215 hB _) rfl d_NProgram_findInterval_220 ?_
    obtain ⟨lo_169, hi_170, e168⟩ := oc_3.of (lo_k6_3 hL _ (lo_e25 hL _ (lo_k7_2 hL _ t_P) _ (by omega))) (hI.1 (g.lk (g.lk (g.lk P 2) n) 3))
    refine pcc_v (va_runV (C := "BigRunner$Interval") (As := [.ref (g.lk (g.lk (g.lk P 2) le) 3)]) (rest := []) ⟨hx, hb, hml, hown, tb_nil⟩ (c2_iQuo l g s.heap.size f ((g.lk (g.lk (g.lk P 2) n) 3)) ((g.lk (g.lk (g.lk P 2) le) 3)) ((cL X9.1)) ((cH X9.2)) hL (lo_k6_3 hL _ (lo_e25 hL _ (lo_k7_2 hL _ t_P) _ (by omega))) (lo_k6_3 hL _ t155) hI eX9) ⟨(callB_of 1 (tb_one (wd_659 hB _)) tb_good1 rfl rfl rfl (wd_75 hB _) (wd_656 hB _) (by decide +kernel) ⟨Nat.le_of_ble_eq_true rfl, Nat.le_of_ble_eq_true rfl⟩), (wd_657 hB _), (wd_658 hB _)⟩ ⟨pe_bl, pg_recv (ci := 2) hK hP (lo_in hL (lo_k6_3 hL _ (lo_e25 hL _ (lo_k7_2 hL _ t_P) _ (by omega))) (by decide)) e168 rfl, pe_pre hB hK hP hD⟩ rfl rfl hl.1 rfl (lv_room (Nat.le_of_ble_eq_true rfl)) d_NProgram_findInterval_223 ⟨Nat.le_of_ble_eq_true rfl, Nat.le_of_ble_eq_true rfl⟩) hS (fun f172 H locs hq173 hP hD hS => ?_)
    obtain ⟨v_174, hI1_175, hk1_176⟩ := hq173
    have hu : ∀ b, b ≠ (g.lk (g.lk (g.lk P 2) n) 3) → f172 b = f b := fun b q0 => (hk1_176 b q0).trans (hu b q0)
    have eX9 := (hk1_176 (g.lk (g.lk (g.lk P 2) le) 3) (tn_ne ((lo_n6i hL _ t155).trans (lo_n25 hL _ (lo_k7_2 hL _ t_P) _ (by omega))) ((lo_n6i hL _ (lo_e25 hL _ (lo_k7_2 hL _ t_P) _ (by omega))).trans (lo_n25 hL _ (lo_k7_2 hL _ t_P) _ (by omega))) (by omega))).trans eX9
    have eY9 := (hk1_176 (g.lk (g.lk (g.lk P 2) ri) 3) (tn_ne ((lo_n6i hL _ (lo_e25 hL _ (lo_k7_2 hL _ t_P) _ (by omega))).trans (lo_n25 hL _ (lo_k7_2 hL _ t_P) _ (by omega))) ((lo_n6i hL _ (lo_e25 hL _ (lo_k7_2 hL _ t_P) _ (by omega))).trans (lo_n25 hL _ (lo_k7_2 hL _ t_P) _ (by omega))) (by omega))).trans eY9
    have en9 := (hk1_176 (g.lk (g.lk P 2) n) (tg_ne (lo_e25 hL _ (lo_k7_2 hL _ t_P) _ (by omega)) (lo_k6_3 hL _ (lo_e25 hL _ (lo_k7_2 hL _ t_P) _ (by omega))) (by decide))).trans en9
    have e149 := (hk1_176 P (tg_ne t_P (lo_k6_3 hL _ (lo_e25 hL _ (lo_k7_2 hL _ t_P) _ (by omega))) (by decide))).trans e149
    have e154 := (hk1_176 (g.lk P 2) (tg_ne (lo_k7_2 hL _ t_P) (lo_k6_3 hL _ (lo_e25 hL _ (lo_k7_2 hL _ t_P) _ (by omega))) (by decide))).trans e154
    have e156 := (hk1_176 (g.lk (g.lk P 2) le) (tg_ne t155 (lo_k6_3 hL _ (lo_e25 hL _ (lo_k7_2 hL _ t_P) _ (by omega))) (by decide))).trans e156
    refine lv_goto (tgt := 257) hx hb d_NProgram_findInterval_226 (by decide) ?_
    exact pe_vret hx hb hr hlocks hK hP hD hS d_NProgram_findInterval_257 ⟨⟨ivn 5 a X9 Y9, S9, rfl, by omega, (v_174.trans (by rw [(c_q hX9).1, (c_q hX9).2]; rfl)), (iK_ivn hX9 hY9 (fun q => absurd q (by decide))), ISt_k hL t_P hn hu r9 S9 hIS9⟩, hI1_175, hu⟩
  · skip
    rw [show km 6 = 7 from rfl] at en9
    obtain ⟨r9, rfl⟩ := h2 (by decide) (by decide)
    obtain ⟨Y9, S8, rfl, hk9, eY9, hY9, hIS8⟩ := hIS
    obtain ⟨X9, S9, rfl, hj9, eX9, hX9, hIS9⟩ := hIS8
    refine lv_aload_n hx hb d_NProgram_findInterval_0 rfl (lv_at hl 1 rfl) ?_
    refine pf_get (v := .ref (g.lk (g.lk (g.lk P 2) n) 3)) (C := "BigRunner$Node") (T := FT5) (N := 7) hx hb (hw5 hB _) (fun _ h9 => h9) hown hK hP (lo_in hL (lo_e25 hL _ (lo_k7_2 hL _ t_P) _ (by omega)) (by decide)) en9 rfl 3 (by decide) (wd_215 hB _) rfl d_NProgram_findInterval_1 ?_
    refine lv_astore_n (lv' := [(2, .ref (g.lk (g.lk (g.lk P 2) n) 3)), (0, .ref P), (1, .ref (g.lk (g.lk P 2) n))]) hx hb d_NProgram_findInterval_4 rfl hl (by decide) rfl (fun ls hl => ?_)
    refine lv_aload_n hx hb d_NProgram_findInterval_5 rfl (lv_at hl 2 rfl) ?_
    refine pf_get (v := .int (nI 7)) (C := "BigRunner$Node") (T := FT5) (N := 7) hx hb (hw5 hB _) (fun _ h9 => h9) hown hK hP (lo_in hL (lo_e25 hL _ (lo_k7_2 hL _ t_P) _ (by omega)) (by decide)) en9 rfl 0 (by decide) (wd_203 hB _) rfl d_NProgram_findInterval_6 ?_
    refine lv_tableOut (tgt := 229) hx hb d_NProgram_findInterval_9 (by rw [nI_toInt (by omega)]; omega) (by decide) ?_
    refine lv_aload_n hx hb d_NProgram_findInterval_229 rfl (lv_at hl 0 rfl) ?_
    refine lv_aload_n hx hb d_NProgram_findInterval_230 rfl (lv_at hl 1 rfl) ?_
    obtain ⟨sc_178, nc_179, e177, c180, c181⟩ := oc_7.of t_P (hI.1 P)
    refine pf_get (v := .ref (g.lk P 2)) (C := "BigRunner$Program") (T := FT6) (N := 6) hx hb (hw6 hB _) (fun _ h9 => h9) hown hK hP (lo_in hL t_P (by decide)) e177 rfl 2 (by decide) (wd_248 hB _) rfl d_NProgram_findInterval_231 ?_
    refine lv_aload_n hx hb d_NProgram_findInterval_234 rfl (lv_at hl 2 rfl) ?_
    refine pf_get (v := .int (nI le)) (C := "BigRunner$Node") (T := FT5) (N := 7) hx hb (hw5 hB _) (fun _ h9 => h9) hown hK hP (lo_in hL (lo_e25 hL _ (lo_k7_2 hL _ t_P) _ (by omega)) (by decide)) en9 rfl 1 (by decide) (wd_207 hB _) rfl d_NProgram_findInterval_235 ?_
    have e182 := oc_25.of (lo_k7_2 hL _ t_P) (hI.1 (g.lk P 2))
    refine pf_aald (i := le) hx hb hK hP (lo_in hL (lo_k7_2 hL _ t_P) (by decide)) e182 (lo_t25 hL _ (lo_k7_2 hL _ t_P)) (by omega) (by decide) d_NProgram_findInterval_238 ?_
    have t183 := lo_e25 hL _ (lo_k7_2 hL _ t_P) le (by omega)
    obtain ⟨kd_185, le_186, ri_187, sm_188, mv_189, e184, c190, c191, c192, c193, c194, c195⟩ := oc_6.of t183 (hI.1 (g.lk (g.lk P 2) le))
    refine pf_get (v := .ref (g.lk (g.lk (g.lk P 2) le) 3)) (C := "BigRunner$Node") (T := FT5) (N := 7) hx hb (hw5 hB _) (fun _ h9 => h9) hown hK hP (lo_in hL t183 (by decide)) e184 rfl 3 (by decide) (wd_215 hB _) rfl d_NProgram_findInterval_239 ?_
    refine lv_aload_n hx hb d_NProgram_findInterval_242 rfl (lv_at hl 1 rfl) ?_
    refine pf_get (v := .ref (g.lk P 2)) (C := "BigRunner$Program") (T := FT6) (N := 6) hx hb (hw6 hB _) (fun _ h9 => h9) hown hK hP (lo_in hL t_P (by decide)) e177 rfl 2 (by decide) (wd_248 hB _) rfl d_NProgram_findInterval_243 ?_
    refine lv_aload_n hx hb d_NProgram_findInterval_246 rfl (lv_at hl 2 rfl) ?_
    refine pf_get (v := .int (nI ri)) (C := "BigRunner$Node") (T := FT5) (N := 7) hx hb (hw5 hB _) (fun _ h9 => h9) hown hK hP (lo_in hL (lo_e25 hL _ (lo_k7_2 hL _ t_P) _ (by omega)) (by decide)) en9 rfl 2 (by decide) (wd_211 hB _) rfl d_NProgram_findInterval_247 ?_
    refine pf_aald (i := ri) hx hb hK hP (lo_in hL (lo_k7_2 hL _ t_P) (by decide)) e182 (lo_t25 hL _ (lo_k7_2 hL _ t_P)) (by omega) (by decide) d_NProgram_findInterval_250 ?_
    have t196 := lo_e25 hL _ (lo_k7_2 hL _ t_P) ri (by omega)
    obtain ⟨kd_198, le_199, ri_200, sm_201, mv_202, e197, c203, c204, c205, c206, c207, c208⟩ := oc_6.of t196 (hI.1 (g.lk (g.lk P 2) ri))
    refine pf_get (v := .ref (g.lk (g.lk (g.lk P 2) ri) 3)) (C := "BigRunner$Node") (T := FT5) (N := 7) hx hb (hw5 hB _) (fun _ h9 => h9) hown hK hP (lo_in hL t196 (by decide)) e197 rfl 3 (by decide) (wd_215 hB _) rfl d_NProgram_findInterval_251 ?_
    obtain ⟨lo_210, hi_211, e209⟩ := oc_3.of (lo_k6_3 hL _ (lo_e25 hL _ (lo_k7_2 hL _ t_P) _ (by omega))) (hI.1 (g.lk (g.lk (g.lk P 2) n) 3))
    refine pcc_v (va_runV (C := "BigRunner$Interval") (As := [.ref (g.lk (g.lk (g.lk P 2) le) 3), .ref (g.lk (g.lk (g.lk P 2) ri) 3)]) (rest := []) ⟨hx, hb, hml, hown, tb_nil⟩ (c2_iRes l g s.heap.size f ((g.lk (g.lk (g.lk P 2) n) 3)) ((g.lk (g.lk (g.lk P 2) le) 3)) ((g.lk (g.lk (g.lk P 2) ri) 3)) ((cL X9.1)) ((cH X9.2)) ((cL Y9.1)) ((cH Y9.2)) hL (lo_k6_3 hL _ (lo_e25 hL _ (lo_k7_2 hL _ t_P) _ (by omega))) (lo_k6_3 hL _ t183) (lo_k6_3 hL _ t196) hI eX9 eY9) ⟨(callB_of 2 (tb_one (wd_667 hB _)) tb_good1 rfl rfl rfl (wd_75 hB _) (wd_664 hB _) (by decide +kernel) ⟨Nat.le_of_ble_eq_true rfl, Nat.le_of_ble_eq_true rfl⟩), (wd_665 hB _), (wd_666 hB _)⟩ ⟨pe_bl, pg_recv (ci := 2) hK hP (lo_in hL (lo_k6_3 hL _ (lo_e25 hL _ (lo_k7_2 hL _ t_P) _ (by omega))) (by decide)) e209 rfl, pe_pre hB hK hP hD⟩ rfl rfl hl.1 rfl (lv_room (Nat.le_of_ble_eq_true rfl)) d_NProgram_findInterval_254 ⟨Nat.le_of_ble_eq_true rfl, Nat.le_of_ble_eq_true rfl⟩) hS (fun f213 H locs hq214 hP hD hS => ?_)
    obtain ⟨v_215, hI1_216, hk1_217⟩ := hq214
    have hu : ∀ b, b ≠ (g.lk (g.lk (g.lk P 2) n) 3) → f213 b = f b := fun b q0 => (hk1_217 b q0).trans (hu b q0)
    have eX9 := (hk1_217 (g.lk (g.lk (g.lk P 2) le) 3) (tn_ne ((lo_n6i hL _ t183).trans (lo_n25 hL _ (lo_k7_2 hL _ t_P) _ (by omega))) ((lo_n6i hL _ (lo_e25 hL _ (lo_k7_2 hL _ t_P) _ (by omega))).trans (lo_n25 hL _ (lo_k7_2 hL _ t_P) _ (by omega))) (by omega))).trans eX9
    have eY9 := (hk1_217 (g.lk (g.lk (g.lk P 2) ri) 3) (tn_ne ((lo_n6i hL _ t196).trans (lo_n25 hL _ (lo_k7_2 hL _ t_P) _ (by omega))) ((lo_n6i hL _ (lo_e25 hL _ (lo_k7_2 hL _ t_P) _ (by omega))).trans (lo_n25 hL _ (lo_k7_2 hL _ t_P) _ (by omega))) (by omega))).trans eY9
    have en9 := (hk1_217 (g.lk (g.lk P 2) n) (tg_ne (lo_e25 hL _ (lo_k7_2 hL _ t_P) _ (by omega)) (lo_k6_3 hL _ (lo_e25 hL _ (lo_k7_2 hL _ t_P) _ (by omega))) (by decide))).trans en9
    have e177 := (hk1_217 P (tg_ne t_P (lo_k6_3 hL _ (lo_e25 hL _ (lo_k7_2 hL _ t_P) _ (by omega))) (by decide))).trans e177
    have e182 := (hk1_217 (g.lk P 2) (tg_ne (lo_k7_2 hL _ t_P) (lo_k6_3 hL _ (lo_e25 hL _ (lo_k7_2 hL _ t_P) _ (by omega))) (by decide))).trans e182
    have e184 := (hk1_217 (g.lk (g.lk P 2) le) (tg_ne t183 (lo_k6_3 hL _ (lo_e25 hL _ (lo_k7_2 hL _ t_P) _ (by omega))) (by decide))).trans e184
    have e197 := (hk1_217 (g.lk (g.lk P 2) ri) (tg_ne t196 (lo_k6_3 hL _ (lo_e25 hL _ (lo_k7_2 hL _ t_P) _ (by omega))) (by decide))).trans e197
    exact pe_vret hx hb hr hlocks hK hP hD hS d_NProgram_findInterval_257 ⟨⟨ivn 6 a X9 Y9, S9, rfl, by omega, (v_215.trans (by rw [(c_r hX9 hY9).1, (c_r hX9 hY9).2]; rfl)), (iK_ivn hX9 hY9 (fun q => absurd q (by decide))), ISt_k hL t_P hn hu r9 S9 hIS9⟩, hI1_216, hu⟩
  · skip
    rw [show km 7 = 2 from rfl] at en9
    obtain ⟨r9, rfl, hri9⟩ := h7 rfl
    obtain ⟨X9, S9, rfl, hj9, eX9, hX9, hIS9⟩ := hIS
    refine lv_aload_n hx hb d_NProgram_findInterval_0 rfl (lv_at hl 1 rfl) ?_
    refine pf_get (v := .ref (g.lk (g.lk (g.lk P 2) n) 3)) (C := "BigRunner$Node") (T := FT5) (N := 7) hx hb (hw5 hB _) (fun _ h9 => h9) hown hK hP (lo_in hL (lo_e25 hL _ (lo_k7_2 hL _ t_P) _ (by omega)) (by decide)) en9 rfl 3 (by decide) (wd_215 hB _) rfl d_NProgram_findInterval_1 ?_
    refine lv_astore_n (lv' := [(2, .ref (g.lk (g.lk (g.lk P 2) n) 3)), (0, .ref P), (1, .ref (g.lk (g.lk P 2) n))]) hx hb d_NProgram_findInterval_4 rfl hl (by decide) rfl (fun ls hl => ?_)
    refine lv_aload_n hx hb d_NProgram_findInterval_5 rfl (lv_at hl 2 rfl) ?_
    refine pf_get (v := .int (nI 2)) (C := "BigRunner$Node") (T := FT5) (N := 7) hx hb (hw5 hB _) (fun _ h9 => h9) hown hK hP (lo_in hL (lo_e25 hL _ (lo_k7_2 hL _ t_P) _ (by omega)) (by decide)) en9 rfl 0 (by decide) (wd_203 hB _) rfl d_NProgram_findInterval_6 ?_
    refine lv_tableIn (off := 89) (tgt := 98) hx hb d_NProgram_findInterval_9 (by rw [nI_toInt (by omega)]; omega) (by rw [nI_toInt (by omega)]; omega) (by rw [nI_toInt (by omega)]; rfl) (by decide) ?_
    refine lv_aload_n hx hb d_NProgram_findInterval_98 rfl (lv_at hl 0 rfl) ?_
    refine lv_aload_n hx hb d_NProgram_findInterval_99 rfl (lv_at hl 1 rfl) ?_
    obtain ⟨sc_219, nc_220, e218, c221, c222⟩ := oc_7.of t_P (hI.1 P)
    refine pf_get (v := .ref (g.lk P 2)) (C := "BigRunner$Program") (T := FT6) (N := 6) hx hb (hw6 hB _) (fun _ h9 => h9) hown hK hP (lo_in hL t_P (by decide)) e218 rfl 2 (by decide) (wd_248 hB _) rfl d_NProgram_findInterval_100 ?_
    refine lv_aload_n hx hb d_NProgram_findInterval_103 rfl (lv_at hl 2 rfl) ?_
    refine pf_get (v := .int (nI le)) (C := "BigRunner$Node") (T := FT5) (N := 7) hx hb (hw5 hB _) (fun _ h9 => h9) hown hK hP (lo_in hL (lo_e25 hL _ (lo_k7_2 hL _ t_P) _ (by omega)) (by decide)) en9 rfl 1 (by decide) (wd_207 hB _) rfl d_NProgram_findInterval_104 ?_
    have e223 := oc_25.of (lo_k7_2 hL _ t_P) (hI.1 (g.lk P 2))
    refine pf_aald (i := le) hx hb hK hP (lo_in hL (lo_k7_2 hL _ t_P) (by decide)) e223 (lo_t25 hL _ (lo_k7_2 hL _ t_P)) (by omega) (by decide) d_NProgram_findInterval_107 ?_
    have t224 := lo_e25 hL _ (lo_k7_2 hL _ t_P) le (by omega)
    obtain ⟨kd_226, le_227, ri_228, sm_229, mv_230, e225, c231, c232, c233, c234, c235, c236⟩ := oc_6.of t224 (hI.1 (g.lk (g.lk P 2) le))
    refine pf_get (v := .ref (g.lk (g.lk (g.lk P 2) le) 3)) (C := "BigRunner$Node") (T := FT5) (N := 7) hx hb (hw5 hB _) (fun _ h9 => h9) hown hK hP (lo_in hL t224 (by decide)) e225 rfl 3 (by decide) (wd_215 hB _) rfl d_NProgram_findInterval_108 ?_
    obtain ⟨lo_238, hi_239, e237⟩ := oc_3.of (lo_k6_3 hL _ (lo_e25 hL _ (lo_k7_2 hL _ t_P) _ (by omega))) (hI.1 (g.lk (g.lk (g.lk P 2) n) 3))
    refine pcc_v (va_runV (C := "BigRunner$Interval") (As := [.ref (g.lk (g.lk (g.lk P 2) le) 3)]) (rest := []) ⟨hx, hb, hml, hown, tb_nil⟩ (c2_iNeg l g s.heap.size f ((g.lk (g.lk (g.lk P 2) n) 3)) ((g.lk (g.lk (g.lk P 2) le) 3)) ((cL X9.1)) ((cH X9.2)) hL (lo_k6_3 hL _ (lo_e25 hL _ (lo_k7_2 hL _ t_P) _ (by omega))) (lo_k6_3 hL _ t224) hI eX9) ⟨(callB_of 1 (tb_one (wd_620 hB _)) tb_good1 rfl rfl rfl (wd_75 hB _) (wd_617 hB _) (by decide +kernel) ⟨Nat.le_of_ble_eq_true rfl, Nat.le_of_ble_eq_true rfl⟩), (wd_618 hB _), (wd_619 hB _)⟩ ⟨pe_bl, pg_recv (ci := 2) hK hP (lo_in hL (lo_k6_3 hL _ (lo_e25 hL _ (lo_k7_2 hL _ t_P) _ (by omega))) (by decide)) e237 rfl, pe_pre hB hK hP hD⟩ rfl rfl hl.1 rfl (lv_room (Nat.le_of_ble_eq_true rfl)) d_NProgram_findInterval_111 ⟨Nat.le_of_ble_eq_true rfl, Nat.le_of_ble_eq_true rfl⟩) hS (fun f241 H locs hq242 hP hD hS => ?_)
    obtain ⟨v_243, hI1_244, hk1_245⟩ := hq242
    have hu : ∀ b, b ≠ (g.lk (g.lk (g.lk P 2) n) 3) → f241 b = f b := fun b q0 => (hk1_245 b q0).trans (hu b q0)
    have eX9 := (hk1_245 (g.lk (g.lk (g.lk P 2) le) 3) (tn_ne ((lo_n6i hL _ t224).trans (lo_n25 hL _ (lo_k7_2 hL _ t_P) _ (by omega))) ((lo_n6i hL _ (lo_e25 hL _ (lo_k7_2 hL _ t_P) _ (by omega))).trans (lo_n25 hL _ (lo_k7_2 hL _ t_P) _ (by omega))) (by omega))).trans eX9
    have en9 := (hk1_245 (g.lk (g.lk P 2) n) (tg_ne (lo_e25 hL _ (lo_k7_2 hL _ t_P) _ (by omega)) (lo_k6_3 hL _ (lo_e25 hL _ (lo_k7_2 hL _ t_P) _ (by omega))) (by decide))).trans en9
    have e218 := (hk1_245 P (tg_ne t_P (lo_k6_3 hL _ (lo_e25 hL _ (lo_k7_2 hL _ t_P) _ (by omega))) (by decide))).trans e218
    have e223 := (hk1_245 (g.lk P 2) (tg_ne (lo_k7_2 hL _ t_P) (lo_k6_3 hL _ (lo_e25 hL _ (lo_k7_2 hL _ t_P) _ (by omega))) (by decide))).trans e223
    have e225 := (hk1_245 (g.lk (g.lk P 2) le) (tg_ne t224 (lo_k6_3 hL _ (lo_e25 hL _ (lo_k7_2 hL _ t_P) _ (by omega))) (by decide))).trans e225
    refine lv_goto (tgt := 257) hx hb d_NProgram_findInterval_114 (by decide) ?_
    exact pe_vret hx hb hr hlocks hK hP hD hS d_NProgram_findInterval_257 ⟨⟨ivn 7 a X9 zI, S9, rfl, by omega, (v_243.trans (by rw [c_nL hX9, c_nH hX9]; rfl)), (iK_ivn hX9 iK_z (fun q => absurd q (by decide))), ISt_k hL t_P hn hu r9 S9 hIS9⟩, hI1_244, hu⟩
set_option maxHeartbeats 4000000 in
set_option maxRecDepth 100000 in
theorem c2_intervalOf (l : Launch) (g : Lay) (sz : Nat) (f : Nat → va_E) (P : Nat) (S : Nat) (kd : Nat) (nm : Nat) (n : Nat) (la : Nat) (ta : Nat) (E : List (Nat × Nat)) (en : Nat → IVL) (hL : LO g) (t_P : g.tg P = 7) (t_S : g.tg S = 10) (hI : IV g f) (es : f S = .inr (9, [.int (nI kd), .int (nI nm), .int (nI n), .int (nI la), .int (nI ta)])) (hla : la + 1 = n + E.length) (hnE : n + E.length ≤ 72) (hE : 0 < E.length) (hNR : NR g f P [] n E) (hEV : EV g f P en) : Met l ⟨"BigRunner$Program", "intervalOfExpr", "(LBigRunner$Statement;)LBigRunner$Interval;"⟩ [Cond.code ⟨"BigRunner$Program", "intervalOfExpr", "(LBigRunner$Statement;)LBigRunner$Interval;"⟩ prog_7_method_4_code 3 (some (.object "BigRunner$Interval"))] ({ frames := 5, cells := 0, slots := 0, locals := 115 }) (va_Pc [.ref P, .ref S] (pc_in g sz f)) (va_Qr (fun _ => True) (pc_outr g sz (fun f1 ra => (ra = g.lk (g.lk (g.lk P 2) la) 3) ∧ (f1 (g.lk (g.lk (g.lk P 2) la) 3) = .inr (2, [.long (cL ((xsts en [] E).headD zI).1), .long (cH ((xsts en [] E).headD zI).2)])) ∧ (iK ((xsts en [] E).headD zI)) ∧ (∀ b, (∀ j, j < 72 → b ≠ g.lk (g.lk (g.lk P 2) j) 3) → f1 b = f b) ∧ (IV g f1) ∧ (un [3] g f f1))) (pc_A g sz)) 0 0 (pc_A g sz) := by
  refine pe_ofW (cc := prog_7_method_4_code) (maxL := 3) (ret := (some (.object "BigRunner$Interval"))) (lv := [(0, .ref P), (1, .ref S)]) (by decide) (Nat.le_of_ble_eq_true rfl) rfl ?_
  intro p e s m args below meth c ls hx hb hr hml hlocks hown hB hP hK hD hsz hS hl
  subst hsz
  have hu : un [3] g f f := un.rf
  refine lv_aload_n hx hb d_NProgram_intervalOfExpr_0 rfl (lv_at hl 1 rfl) ?_
  refine pf_get (v := .int (nI n)) (C := "BigRunner$Statement") (T := FT9) (N := 5) hx hb (hw9 hB _) (fun _ h9 => h9) hown hK hP (lo_in hL t_S (by decide)) es rfl 2 (by decide) (wd_152 hB _) rfl d_NProgram_intervalOfExpr_1 ?_
  refine lv_istore_n (lv' := [(2, .int (nI n)), (0, .ref P), (1, .ref S)]) hx hb d_NProgram_intervalOfExpr_4 rfl hl (by decide) rfl (fun ls hl => ?_)
  have lp1 : ∀ (k3 : Nat) (i : Nat) (st2 : List Nat) (S2 : List IVL) (E2 : List (Nat × Nat)) (f2 : Nat → va_E) (H : Heap) (locs : List Loc) (ls : Array Slot), (n + E.length < i + k3) → (n ≤ i) → (i + E2.length = n + E.length) → (NR g f2 P st2 i E2) → (ISt g f2 P i st2 S2) → (xsts en [] E = xsts en S2 E2) → (pst [] n E = pst st2 i E2) → (EV g f2 P en) → (∀ b, (∀ j, j < 72 → b ≠ g.lk (g.lk (g.lk P 2) j) 3) → f2 b = f b) → IV g f2 → un [3] g f f2 → lv_has ls 3 [(2, .int (nI i)), (0, .ref P), (1, .ref S)] → va_P g.D vcl (va_pl g.LP f2) H → va_D (pc_A g s.heap.size) (va_pl g.LP f2) → va_S (pc_A g s.heap.size) s.heap H locs → W p l e ({ frames := 5, cells := 0, slots := 0, locals := 115 }) s m args below meth c H locs 0 0 (MQ below (va_Qr (fun _ => True) (pc_outr g s.heap.size (fun f1 ra => (ra = g.lk (g.lk (g.lk P 2) la) 3) ∧ (f1 (g.lk (g.lk (g.lk P 2) la) 3) = .inr (2, [.long (cL ((xsts en [] E).headD zI).1), .long (cH ((xsts en [] E).headD zI).2)])) ∧ (iK ((xsts en [] E).headD zI)) ∧ (∀ b, (∀ j, j < 72 → b ≠ g.lk (g.lk (g.lk P 2) j) 3) → f1 b = f b) ∧ (IV g f1) ∧ (un [3] g f f1))) (pc_A g s.heap.size)) args s 0 0 (pc_A g s.heap.size)) (F0 m 5 ls []) := by
    intro k3
    induction k3 with
    | zero => intros; exfalso; omega
    | succ k3 ih4 =>
      intro i st2 S2 E2 f2 H locs ls hfu5 hi hil hNR2 hIS2 hx2 hp2 hEV2 hfr hI6 hv7 hl hP hD hS
      have es := hv7.at t_S (by decide) es
      have hu := hu.tr hv7 (by decide)
      rcases E2 with _ | ⟨⟨w9, a9⟩, E3⟩
      · skip
        have hlz : i = n + E.length := by have := hil; rw [List.length_nil] at this; omega
        refine lv_iload_n hx hb d_NProgram_intervalOfExpr_5 rfl (lv_at hl 0 rfl) ?_
        refine lv_aload_n hx hb d_NProgram_intervalOfExpr_6 rfl (lv_at hl 2 rfl) ?_
        refine pf_get (v := .int (nI la)) (C := "BigRunner$Statement") (T := FT9) (N := 5) hx hb (hw9 hB _) (fun _ h9 => h9) hown hK hP (lo_in hL t_S (by decide)) es rfl 3 (by decide) (wd_156 hB _) rfl d_NProgram_intervalOfExpr_7 ?_
        refine lv_icmp_gt (tgt := 29) hx hb d_NProgram_intervalOfExpr_10 (by decide) (fun b8 => ?_) (fun b8 => ?_)
        · skip
          replace b8 := (nI_ltI (a := la) (b := i) (by omega) (by omega)).mp b8
          refine lv_aload_n hx hb d_NProgram_intervalOfExpr_29 rfl (lv_at hl 1 rfl) ?_
          obtain ⟨sc_10, nc_11, e9, c12, c13⟩ := oc_7.of t_P (hI6.1 P)
          refine pf_get (v := .ref (g.lk P 2)) (C := "BigRunner$Program") (T := FT6) (N := 6) hx hb (hw6 hB _) (fun _ h9 => h9) hown hK hP (lo_in hL t_P (by decide)) e9 rfl 2 (by decide) (wd_248 hB _) rfl d_NProgram_intervalOfExpr_30 ?_
          refine lv_aload_n hx hb d_NProgram_intervalOfExpr_33 rfl (lv_at hl 2 rfl) ?_
          refine pf_get (v := .int (nI la)) (C := "BigRunner$Statement") (T := FT9) (N := 5) hx hb (hw9 hB _) (fun _ h9 => h9) hown hK hP (lo_in hL t_S (by decide)) es rfl 3 (by decide) (wd_156 hB _) rfl d_NProgram_intervalOfExpr_34 ?_
          have e14 := oc_25.of (lo_k7_2 hL _ t_P) (hI6.1 (g.lk P 2))
          refine pf_aald (i := la) hx hb hK hP (lo_in hL (lo_k7_2 hL _ t_P) (by decide)) e14 (lo_t25 hL _ (lo_k7_2 hL _ t_P)) (by omega) (by decide) d_NProgram_intervalOfExpr_37 ?_
          have t15 := lo_e25 hL _ (lo_k7_2 hL _ t_P) la (by omega)
          obtain ⟨kd_17, le_18, ri_19, sm_20, mv_21, e16, c22, c23, c24, c25, c26, c27⟩ := oc_6.of t15 (hI6.1 (g.lk (g.lk P 2) la))
          refine pf_get (v := .ref (g.lk (g.lk (g.lk P 2) la) 3)) (C := "BigRunner$Node") (T := FT5) (N := 7) hx hb (hw5 hB _) (fun _ h9 => h9) hown hK hP (lo_in hL t15 (by decide)) e16 rfl 3 (by decide) (wd_215 hB _) rfl d_NProgram_intervalOfExpr_38 ?_
          obtain ⟨r9, hr9⟩ := pst_hd E [] n hE
          obtain ⟨X9, S9, hS9, -, eX9, hX9, hIS9⟩ : ISt g f2 P i (la :: r9) S2 := by rw [show la :: r9 = st2 by rw [show la = n + E.length - 1 by omega, ← hr9]; exact hp2]; exact hIS2
          have hhd : ((xsts en [] E).headD zI) = X9 := by rw [hx2]; show S2.headD zI = X9; rw [hS9]; rfl
          exact pe_aret hx hb hr hlocks hK hP hD hS d_NProgram_intervalOfExpr_41 ⟨rfl, (by rw [hhd]; exact eX9), (by rw [hhd]; exact hX9), hfr, hI6, hu⟩
        · skip
          replace b8 := mt (nI_ltI (a := la) (b := i) (by omega) (by omega)).mpr b8
          exfalso; omega
      · skip
        rw [List.length_cons] at hil
        refine lv_iload_n hx hb d_NProgram_intervalOfExpr_5 rfl (lv_at hl 0 rfl) ?_
        refine lv_aload_n hx hb d_NProgram_intervalOfExpr_6 rfl (lv_at hl 2 rfl) ?_
        refine pf_get (v := .int (nI la)) (C := "BigRunner$Statement") (T := FT9) (N := 5) hx hb (hw9 hB _) (fun _ h9 => h9) hown hK hP (lo_in hL t_S (by decide)) es rfl 3 (by decide) (wd_156 hB _) rfl d_NProgram_intervalOfExpr_7 ?_
        refine lv_icmp_gt (tgt := 29) hx hb d_NProgram_intervalOfExpr_10 (by decide) (fun b28 => ?_) (fun b28 => ?_)
        · skip
          replace b28 := (nI_ltI (a := la) (b := i) (by omega) (by omega)).mp b28
          exfalso; omega
        · skip
          replace b28 := mt (nI_ltI (a := la) (b := i) (by omega) (by omega)).mpr b28
          refine lv_aload_n hx hb d_NProgram_intervalOfExpr_13 rfl (lv_at hl 1 rfl) ?_
          refine lv_aload_n hx hb d_NProgram_intervalOfExpr_14 rfl (lv_at hl 1 rfl) ?_
          obtain ⟨sc_30, nc_31, e29, c32, c33⟩ := oc_7.of t_P (hI6.1 P)
          refine pf_get (v := .ref (g.lk P 2)) (C := "BigRunner$Program") (T := FT6) (N := 6) hx hb (hw6 hB _) (fun _ h9 => h9) hown hK hP (lo_in hL t_P (by decide)) e29 rfl 2 (by decide) (wd_248 hB _) rfl d_NProgram_intervalOfExpr_15 ?_
          refine lv_iload_n hx hb d_NProgram_intervalOfExpr_18 rfl (lv_at hl 0 rfl) ?_
          have e34 := oc_25.of (lo_k7_2 hL _ t_P) (hI6.1 (g.lk P 2))
          refine pf_aald (i := i) hx hb hK hP (lo_in hL (lo_k7_2 hL _ t_P) (by decide)) e34 (lo_t25 hL _ (lo_k7_2 hL _ t_P)) (by omega) (by decide) d_NProgram_intervalOfExpr_19 ?_
          have t35 := lo_e25 hL _ (lo_k7_2 hL _ t_P) i (by omega)
          refine pcc_v (va_runV (C := "BigRunner$Program") (As := [.ref (g.lk (g.lk P 2) i)]) (rest := []) ⟨hx, hb, hml, hown, tb_nil⟩ (c2_findInterval l g H.size f2 P i w9 a9 st2 S2 en hL t_P hI6 (by omega) hNR2.1 hIS2 hEV2) ⟨(callB_of 1 (tb_one (wd_616 hB _)) tb_good1 rfl rfl rfl (wd_74 hB _) (wd_613 hB _) (by decide +kernel) ⟨Nat.le_of_ble_eq_true rfl, Nat.le_of_ble_eq_true rfl⟩), (wd_615 hB _), (wd_20 hB _)⟩ ⟨pe_bl, pg_recv (ci := 6) hK hP (lo_in hL t_P (by decide)) e29 rfl, pe_pre hB hK hP hD⟩ rfl rfl hl.1 rfl (lv_room (Nat.le_of_ble_eq_true rfl)) d_NProgram_intervalOfExpr_20 ⟨Nat.le_of_ble_eq_true rfl, Nat.le_of_ble_eq_true rfl⟩) hS (fun f37 H locs hq38 hP hD hS => ?_)
          obtain ⟨is_39, hI1_40, hk1_41⟩ := hq38
          have hu := hu.st hk1_41 (lo_k6_3 hL _ t35) (by decide)
          have hv7 := hv7.st hk1_41 (lo_k6_3 hL _ t35) (by decide)
          have es := (hk1_41 S (tg_ne t_S (lo_k6_3 hL _ t35) (by decide))).trans es
          have e29 := (hk1_41 P (tg_ne t_P (lo_k6_3 hL _ t35) (by decide))).trans e29
          have e34 := (hk1_41 (g.lk P 2) (tg_ne (lo_k7_2 hL _ t_P) (lo_k6_3 hL _ t35) (by decide))).trans e34
          refine lv_iinc (k := 0) (v := nI (i + 1)) (lv' := [(2, .int (nI (i + 1))), (0, .ref P), (1, .ref S)]) hx hb d_NProgram_intervalOfExpr_23 hl rfl (by rw [nI_succ]; rfl) (by decide) rfl (fun ls hl => ?_)
          refine lv_goto (tgt := 5) hx hb d_NProgram_intervalOfExpr_26 (by decide) ?_
          exact ih4 (i + 1) (stp st2 i w9) (xst en S2 w9 a9) E3 f37 H locs ls (by omega) (by omega) (by omega) (NR_eq E3 _ _ hNR2.2 (fun j h1 h2 => hk1_41 _ (tg_ne (lo_e25 hL _ (lo_k7_2 hL P t_P) j (by omega)) (lo_k6_3 hL _ (lo_e25 hL _ (lo_k7_2 hL P t_P) i (by omega))) (by decide)))) is_39 hx2 hp2 (EV_fr hL t_P hEV2 (fun v9 hv9 => hk1_41 _ (ni_vn hL t_P t_P hv9 (by omega)))) (fun b hb9 => (hk1_41 b (hb9 i (by omega))).trans (hfr b hb9)) hI1_40 hv7 hl hP hD hS
  exact lp1 (E.length + 1) n ([]) ([]) E f s.heap [] ls (by omega) (Nat.le_refl _) rfl hNR rfl rfl rfl hEV (fun _ _ => rfl) hI un.rf hl hP hD hS

