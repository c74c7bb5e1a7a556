set_option maxHeartbeats 4000000 in
set_option maxRecDepth 100000 in
theorem g_Reader (l : Launch) (g : Lay) (sz : Nat) (f : Nat → va_E) (x k : Nat) (hL : LO g) (hI : IV g f) (m_x : x ∈ g.LP) (t_x : g.tg x = 0) (e_x : f x = .inr (7, [.null, .int (nI 0), .int (nI 0), .null])) : Met l ⟨"BigRunner$Reader", "<init>", "()V"⟩ [Cond.code ⟨"BigRunner$Reader", "<init>", "()V"⟩ prog_8_method_1_code 1 none] ({ frames := 4, cells := 340, slots := 2270, locals := 73 }) (va_Pc [.ref x] (pc_in g sz f)) (CQ g sz (fun g1 f1 => EX x g f g1 f1 ∧ LO g1 ∧ IV g1 f1 ∧ g1.tg x = 8 ∧ g1.tn x = k ∧ NT [] g g1 ∧ (∃ (tx : Value) (PR : Nat), f1 x = .inr (7, [tx, .int (nI 0), .int (nI 0), .ref PR]) ∧ g1.tg PR = 7 ∧ PR ∉ g.LP))) 340 2270 (pc_A g sz) := by
  refine gw_ofW (cc := prog_8_method_1_code) (maxL := 1) (ret := none) (lv := [(0, .ref x)]) (by decide) rfl (Nat.le_of_ble_eq_true rfl) rfl ?_
  intro p e s m args below meth c ls hx hb hr hml hlocks hown hin hB hP hK hD hsz hS hl hA
  subst hsz
  have hL0 := hL
  have tx0 := t_x
  have hE : EX x g f g f := EX.rf
  have hN : NT [] g g := NT.rf
  refine lv_aload_n hx hb d_NReader_init_0 rfl (lv_at hl 0 rfl) ?_
  refine W.objInit hx hb hown (wd_108 hB _) (wd_101 hB _) (wd_102 hB _) rfl (by rw [hml]; exact hl.1) rfl d_NReader_init_1 (Nat.le_of_ble_eq_true rfl) (Nat.le_of_ble_eq_true rfl) ?_
  refine W.eq (g2 := F0 m 4 ls []) rfl ?_
  refine lv_aload_n hx hb d_NReader_init_4 rfl (lv_at hl 0 rfl) ?_
  refine lv_iconst (v := nI 0) hx hb d_NReader_init_5 (by decide) ?_
  refine gw_arr (atype := .char) (a0 := (0, .inl (fun _ => nI 0))) (N' := 0) (ty := .char) hx hb (wd_137 hB _) rfl 0 hK hP hD hS hA hL (fun _ => rfl) (by decide +kernel) (by decide +kernel) (by decide +kernel) (Nat.le_of_ble_eq_true rfl) (Nat.le_of_ble_eq_true rfl) d_NReader_init_6 (fun q1 g2 f3 H hz0 t_q1 p_q1 e_q1 y_q1 hK hP hD hS => ?_)
  have d_x_q1 : x ≠ q1 := fun z9 => p_q1 (z9 ▸ m_x)
  have o_q1 := hE.new p_q1
  have hz := hz0.ex
  have hI := IV_t0 hz0 hL hI t_q1
  have hL := LO_tp_0 hz0 hL t_q1
  have hN := hN.tp hz0 t_q1 (by decide)
  have hE := hE.tr hz (Or.inr o_q1)
  obtain ⟨m_x, t_x, e_x⟩ := hz.kO m_x d_x_q1 t_x e_x
  have m_q1 := hz0.2.1
  refine W.widen (k := 1) (n := 0) (by omega) (by omega) ?_
  refine pf_put (v := .ref q1) (ty := (.array .char)) (fs' := [.ref q1, .int (nI 0), .int (nI 0), .null]) (C := "BigRunner$Reader") (T := FT7) (N := 4) hx hb (hw7 hB _) (fun _ h9 => h9) TY7 ok7 nm7 hown hK hP hD hS m_x e_x rfl 0 (by decide) (wd_270 hB _) rfl (by decide +kernel) rfl rfl (Nat.le_of_ble_eq_true rfl) rfl d_NReader_init_8 (fun f4 H locs e5 k6 hP hD hS => ?_)
  have hz := EX.wr (g := g2) k6
  have hI := IV_w0 hL hI t_x k6
  have hE := hE.tr hz (Or.inl rfl)
  obtain ⟨m_q1, t_q1, e_q1, y_q1⟩ := hz.kA m_q1 (Ne.symm d_x_q1) t_q1 e_q1 y_q1
  have e_x := e5
  refine lv_aload_n hx hb d_NReader_init_11 rfl (lv_at hl 0 rfl) ?_
  refine lv_iconst (v := nI 0) hx hb d_NReader_init_12 (by decide) ?_
  refine pf_put (v := .int (nI 0)) (ty := .int) (fs' := [.ref q1, .int (nI 0), .int (nI 0), .null]) (C := "BigRunner$Reader") (T := FT7) (N := 4) hx hb (hw7 hB _) (fun _ h9 => h9) TY7 ok7 nm7 hown hK hP hD hS m_x e_x rfl 1 (by decide) (wd_271 hB _) rfl (by decide +kernel) rfl rfl (Nat.le_of_ble_eq_true rfl) rfl d_NReader_init_13 (fun f7 H locs e8 k9 hP hD hS => ?_)
  have hz := EX.wr (g := g2) k9
  have hI := IV_w0 hL hI t_x k9
  have hE := hE.tr hz (Or.inl rfl)
  obtain ⟨m_q1, t_q1, e_q1, y_q1⟩ := hz.kA m_q1 (Ne.symm d_x_q1) t_q1 e_q1 y_q1
  have e_x := e8
  refine lv_aload_n hx hb d_NReader_init_16 rfl (lv_at hl 0 rfl) ?_
  refine lv_iconst (v := nI 0) hx hb d_NReader_init_17 (by decide) ?_
  refine pf_put (v := .int (nI 0)) (ty := .int) (fs' := [.ref q1, .int (nI 0), .int (nI 0), .null]) (C := "BigRunner$Reader") (T := FT7) (N := 4) hx hb (hw7 hB _) (fun _ h9 => h9) TY7 ok7 nm7 hown hK hP hD hS m_x e_x rfl 2 (by decide) (wd_272 hB _) rfl (by decide +kernel) rfl rfl (Nat.le_of_ble_eq_true rfl) rfl d_NReader_init_18 (fun f10 H locs e11 k12 hP hD hS => ?_)
  have hz := EX.wr (g := g2) k12
  have hI := IV_w0 hL hI t_x k12
  have hE := hE.tr hz (Or.inl rfl)
  obtain ⟨m_q1, t_q1, e_q1, y_q1⟩ := hz.kA m_q1 (Ne.symm d_x_q1) t_q1 e_q1 y_q1
  have e_x := e11
  refine lv_aload_n hx hb d_NReader_init_21 rfl (lv_at hl 0 rfl) ?_
  refine gw_new (ci := 6) (fs := [.null, .int (nI 0), .null, .int (nI 0), .null, .null]) (C := "BigRunner$Program") (T := FT6) (N := 6) hx hb (hw6 hB _) (fun _ h9 => h9) TY6 ok6 hown (wd_109 hB _) (wd_110 hB _) (wd_74 hB _) hK hP hD hS hA hL rfl (fun j hj => by rcases (show j = 0 ∨ j = 1 ∨ j = 2 ∨ j = 3 ∨ j = 4 ∨ j = 5 by omega) with rfl | rfl | rfl | rfl | rfl | rfl <;> rfl) (Nat.le_of_ble_eq_true rfl) (Nat.le_of_ble_eq_true rfl) d_NReader_init_22 (fun q13 g14 f15 H hz0 t_q13 p_q13 e_q13 hK hP hD hS => ?_)
  have d_x_q13 : x ≠ q13 := fun z9 => p_q13 (z9 ▸ m_x)
  have d_q1_q13 : q1 ≠ q13 := fun z9 => p_q13 (z9 ▸ m_q1)
  have o_q13 := hE.new p_q13
  have hz := hz0.ex
  have hI := IV_t0 hz0 hL hI t_q13
  have hL := LO_tp_0 hz0 hL t_q13
  have hN := hN.tp hz0 t_q13 (by decide)
  have hE := hE.tr hz (Or.inr o_q13)
  obtain ⟨m_x, t_x, e_x⟩ := hz.kO m_x d_x_q13 t_x e_x
  obtain ⟨m_q1, t_q1, e_q1, y_q1⟩ := hz.kA m_q1 d_q1_q13 t_q1 e_q1 y_q1
  have m_q13 := hz0.2.1
  refine W.widen (k := 2) (n := 6) (by omega) (by omega) ?_
  refine lv_dup hx hb d_NReader_init_25 rfl ?_
  refine gw_call (va_runI (As := []) (rest := [.ref q13, .ref x]) ⟨hx, hb, hml, hown, tb_nil⟩ (g_Program l g14 H.size f15 q13 0 hL hI m_q13 t_q13 e_q13) ⟨(callB_of 0 (tb_one (wd_113 hB _)) tb_good1 rfl rfl rfl (wd_74 hB _) (wd_111 hB _) (by decide +kernel) ⟨Nat.le_of_ble_eq_true rfl, Nat.le_of_ble_eq_true rfl⟩), rfl, (wd_112 hB _)⟩ ⟨pe_bl, pe_pre hB hK hP hD⟩ rfl rfl hl.1 rfl (lv_room (Nat.le_of_ble_eq_true rfl)) d_NReader_init_26 ⟨(Nat.le_of_ble_eq_true rfl), (Nat.le_of_ble_eq_true rfl)⟩) hA hD hS (fun g16 f17 H locs hq hK hP hD hS => ?_)
  obtain ⟨hz, hL9, hI9, t9_q13, n_q13, hN9, pg_q13⟩ := hq
  have hL := hL9
  have hI := hI9
  have hN := (hN.sub (S1 := []) (by decide)).tr hN9 (by decide)
  have hE := hE.tr hz (Or.inr o_q13)
  obtain ⟨m_x, t_x, e_x⟩ := hz.kO m_x d_x_q13 t_x e_x
  obtain ⟨m_q1, t_q1, e_q1, y_q1⟩ := hz.kA m_q1 d_q1_q13 t_q1 e_q1 y_q1
  have m_q13 := hz.mem m_q13
  have t_q13 := t9_q13
  refine W.widen (k := 340) (n := 2270) (by omega) (by omega) ?_
  refine pf_put (v := .ref q13) (ty := (.object "BigRunner$Program")) (fs' := [.ref q1, .int (nI 0), .int (nI 0), .ref q13]) (C := "BigRunner$Reader") (T := FT7) (N := 4) hx hb (hw7 hB _) (fun _ h9 => h9) TY7 ok7 nm7 hown hK hP hD hS m_x e_x rfl 3 (by decide) (wd_273 hB _) rfl (by decide +kernel) rfl rfl (Nat.le_of_ble_eq_true rfl) rfl d_NReader_init_29 (fun f18 H locs e19 k20 hP hD hS => ?_)
  have hz := EX.wr (g := g16) k20
  have hI := IV_w0 hL hI t_x k20
  have hE := hE.tr hz (Or.inl rfl)
  obtain ⟨m_q1, t_q1, e_q1, y_q1⟩ := hz.kA m_q1 (Ne.symm d_x_q1) t_q1 e_q1 y_q1
  have n_q13 := hz.kN m_q13 (Ne.symm d_x_q13) n_q13
  have pg_q13 := pg_q13.ex hz m_q13 (Ne.symm d_x_q13)
  obtain ⟨m_q13, t_q13⟩ := hz.kT m_q13 (Ne.symm d_x_q13) t_q13
  have e_x := e19
  obtain ⟨g21, hz0, tT, hlk, htn, hac, hLP, htys, hDD⟩ := ty_mk g16 f18 f18 x 8 k (fun j9 => 0) t_x m_x (fun _ _ => rfl)
  have hK : va_K g21.D vcl g21.tys s := by rw [hDD, htys]; exact hK
  have hP : va_P g21.D vcl (va_pl g21.LP f18) H := by rw [hDD, hLP]; exact hP
  have hD : va_D (pc_A g s.heap.size) (va_pl g21.LP f18) := by rw [hLP]; exact hD
  have hz := hz0.ex
  obtain ⟨m_q1, t_q1, e_q1, y_q1⟩ := hz.kA m_q1 (Ne.symm d_x_q1) t_q1 e_q1 y_q1
  have n_q13 := hz.kN m_q13 (Ne.symm d_x_q13) n_q13
  have pg_q13 := pg_q13.ex hz m_q13 (Ne.symm d_x_q13)
  obtain ⟨m_q13, t_q13⟩ := hz.kT m_q13 (Ne.symm d_x_q13) t_q13
  have m_x := hz0.2.1
  have oc9 : oc g21 x (f18 x) := oc_8.mk tT ⟨(.ref q1), 0, 0, q13, e_x, (by first | exact Or.inl rfl | exact Or.inr rfl | decide | exact fun z9 => absurd z9 (by decide)), (by first | exact Or.inl rfl | exact Or.inr rfl | decide | exact fun z9 => absurd z9 (by decide)), t_q13⟩
  have hI := IV_tp hz0 hL hI oc9 (fun z9 => absurd (tT.symm.trans z9) (by decide))
  have hL := LO_tp_8 hz0 hL tT 
  have hN := (hN.sub (S1 := []) (by decide)).tp hz0 tT (by decide)
  have hE := hE.tr hz (Or.inl rfl)
  exact gw_ret hx hb hr hlocks hK hP hD hS d_NReader_init_32 (by omega) (by omega) ⟨hE, hL, hI, tT, htn, hN, ⟨_, _, e_x, t_q13, o_q13⟩⟩
set_option maxHeartbeats 4000000 in
set_option maxRecDepth 100000 in
theorem g_Runner (l : Launch) (g : Lay) (sz : Nat) (f : Nat → va_E) (x k : Nat) (hL : LO g) (hI : IV g f) (m_x : x ∈ g.LP) (t_x : g.tg x = 0) (e_x : f x = .inr (8, [.null, .null, .int (nI 0), .null, .null, .null, .null, .null, .int (nI 0), .int (nI 0), .int (nI 0), .int (nI 0), .int (nI 0)])) : Met l ⟨"BigRunner$Runner", "<init>", "()V"⟩ [Cond.code ⟨"BigRunner$Runner", "<init>", "()V"⟩ prog_9_method_1_code 2 none] ({ frames := 4, cells := 393, slots := 2774, locals := 73 }) (va_Pc [.ref x] (pc_in g sz f)) (CQ g sz (fun g1 f1 => EX x g f g1 f1 ∧ LO g1 ∧ IV g1 f1 ∧ g1.tg x = 9 ∧ g1.tn x = k ∧ NT [] g g1 ∧ (∃ pr : Nat, RN0 g1 f1 x pr ∧ g1.tg pr = 7 ∧ pr ∉ g.LP ∧ PG0 g1 f1 pr))) 393 2774 (pc_A g sz) := by
  refine gw_ofW (cc := prog_9_method_1_code) (maxL := 2) (ret := none) (lv := [(0, .ref x)]) (by decide) rfl (Nat.le_of_ble_eq_true rfl) rfl ?_
  intro p e s m args below meth c ls hx hb hr hml hlocks hown hin hB hP hK hD hsz hS hl hA
  subst hsz
  have hL0 := hL
  have tx0 := t_x
  have hE : EX x g f g f := EX.rf
  have hN : NT [] g g := NT.rf
  refine lv_aload_n hx hb d_NRunner_init_0 rfl (lv_at hl 0 rfl) ?_
  refine W.objInit hx hb hown (wd_289 hB _) (wd_101 hB _) (wd_102 hB _) rfl (by rw [hml]; exact hl.1) rfl d_NRunner_init_1 (Nat.le_of_ble_eq_true rfl) (Nat.le_of_ble_eq_true rfl) ?_
  refine W.eq (g2 := F0 m 4 ls []) rfl ?_
  refine lv_aload_n hx hb d_NRunner_init_4 rfl (lv_at hl 0 rfl) ?_
  refine gw_new (ci := 6) (fs := [.null, .int (nI 0), .null, .int (nI 0), .null, .null]) (C := "BigRunner$Program") (T := FT6) (N := 6) hx hb (hw6 hB _) (fun _ h9 => h9) TY6 ok6 hown (wd_290 hB _) (wd_110 hB _) (wd_74 hB _) hK hP hD hS hA hL rfl (fun j hj => by rcases (show j = 0 ∨ j = 1 ∨ j = 2 ∨ j = 3 ∨ j = 4 ∨ j = 5 by omega) with rfl | rfl | rfl | rfl | rfl | rfl <;> rfl) (Nat.le_of_ble_eq_true rfl) (Nat.le_of_ble_eq_true rfl) d_NRunner_init_5 (fun q1 g2 f3 H hz0 t_q1 p_q1 e_q1 hK hP hD hS => ?_)
  have d_x_q1 : x ≠ q1 := fun z9 => p_q1 (z9 ▸ m_x)
  have o_q1 := hE.new p_q1
  have hz := hz0.ex
  have hI := IV_t0 hz0 hL hI t_q1
  have hL := LO_tp_0 hz0 hL t_q1
  have hN := hN.tp hz0 t_q1 (by decide)
  have hE := hE.tr hz (Or.inr o_q1)
  obtain ⟨m_x, t_x, e_x⟩ := hz.kO m_x d_x_q1 t_x e_x
  have m_q1 := hz0.2.1
  refine W.widen (k := 1) (n := 6) (by omega) (by omega) ?_
  refine lv_dup hx hb d_NRunner_init_8 rfl ?_
  refine gw_call (va_runI (As := []) (rest := [.ref q1, .ref x]) ⟨hx, hb, hml, hown, tb_nil⟩ (g_Program l g2 H.size f3 q1 0 hL hI m_q1 t_q1 e_q1) ⟨(callB_of 0 (tb_one (wd_113 hB _)) tb_good1 rfl rfl rfl (wd_74 hB _) (wd_291 hB _) (by decide +kernel) ⟨Nat.le_of_ble_eq_true rfl, Nat.le_of_ble_eq_true rfl⟩), rfl, (wd_112 hB _)⟩ ⟨pe_bl, pe_pre hB hK hP hD⟩ rfl rfl hl.1 rfl (lv_room (Nat.le_of_ble_eq_true rfl)) d_NRunner_init_9 ⟨(Nat.le_of_ble_eq_true rfl), (Nat.le_of_ble_eq_true rfl)⟩) hA hD hS (fun g4 f5 H locs hq hK hP hD hS => ?_)
  obtain ⟨hz, hL9, hI9, t9_q1, n_q1, hN9, pg_q1⟩ := hq
  have hL := hL9
  have hI := hI9
  have hN := (hN.sub (S1 := []) (by decide)).tr hN9 (by decide)
  have hE := hE.tr hz (Or.inr o_q1)
  obtain ⟨m_x, t_x, e_x⟩ := hz.kO m_x d_x_q1 t_x e_x
  have m_q1 := hz.mem m_q1
  have t_q1 := t9_q1
  refine W.widen (k := 339) (n := 2270) (by omega) (by omega) ?_
  refine pf_put (v := .ref q1) (ty := (.object "BigRunner$Program")) (fs' := [.ref q1, .null, .int (nI 0), .null, .null, .null, .null, .null, .int (nI 0), .int (nI 0), .int (nI 0), .int (nI 0), .int (nI 0)]) (C := "BigRunner$Runner") (T := FT8) (N := 13) hx hb (hw8 hB _) (fun _ h9 => h9) TY8 ok8 nm8 hown hK hP hD hS m_x e_x rfl 0 (by decide) (wd_330 hB _) rfl (by decide +kernel) rfl rfl (Nat.le_of_ble_eq_true rfl) rfl d_NRunner_init_12 (fun f6 H locs e7 k8 hP hD hS => ?_)
  have hz := EX.wr (g := g4) k8
  have hI := IV_w0 hL hI t_x k8
  have hE := hE.tr hz (Or.inl rfl)
  have n_q1 := hz.kN m_q1 (Ne.symm d_x_q1) n_q1
  have pg_q1 := pg_q1.ex hz m_q1 (Ne.symm d_x_q1)
  obtain ⟨m_q1, t_q1⟩ := hz.kT m_q1 (Ne.symm d_x_q1) t_q1
  have e_x := e7
  refine lv_aload_n hx hb d_NRunner_init_15 rfl (lv_at hl 0 rfl) ?_
  refine gw_new (ci := 1) (fs := [.null, .int (nI 0), .int (nI 0)]) (C := "BigRunner$Inputs") (T := FT1) (N := 3) hx hb (hw1 hB _) (fun _ h9 => h9) TY1 ok1 hown (wd_292 hB _) (wd_293 hB _) (wd_80 hB _) hK hP hD hS hA hL rfl (fun j hj => by rcases (show j = 0 ∨ j = 1 ∨ j = 2 by omega) with rfl | rfl | rfl <;> rfl) (Nat.le_of_ble_eq_true rfl) (Nat.le_of_ble_eq_true rfl) d_NRunner_init_16 (fun q9 g10 f11 H hz0 t_q9 p_q9 e_q9 hK hP hD hS => ?_)
  have d_x_q9 : x ≠ q9 := fun z9 => p_q9 (z9 ▸ m_x)
  have d_q1_q9 : q1 ≠ q9 := fun z9 => p_q9 (z9 ▸ m_q1)
  have o_q9 := hE.new p_q9
  have hz := hz0.ex
  have hI := IV_t0 hz0 hL hI t_q9
  have hL := LO_tp_0 hz0 hL t_q9
  have hN := hN.tp hz0 t_q9 (by decide)
  have hE := hE.tr hz (Or.inr o_q9)
  obtain ⟨m_x, t_x, e_x⟩ := hz.kO m_x d_x_q9 t_x e_x
  have n_q1 := hz.kN m_q1 d_q1_q9 n_q1
  have pg_q1 := pg_q1.ex hz m_q1 d_q1_q9
  obtain ⟨m_q1, t_q1⟩ := hz.kT m_q1 d_q1_q9 t_q1
  have m_q9 := hz0.2.1
  refine W.widen (k := 340) (n := 2273) (by omega) (by omega) ?_
  refine lv_dup hx hb d_NRunner_init_19 rfl ?_
  refine gw_call (va_runIN (As := []) (rest := [.ref q9, .ref x]) ⟨hx, hb, hml, hown, tb_nil⟩ (g_Inputs l g10 H.size f11 q9 0 hL hI m_q9 t_q9 e_q9) ⟨(va_cnB 0 (tb_one (wd_296 hB _)) tb_good1 rfl rfl rfl (va_Nw.of (A := #[]) rfl (wd_294 hB _)) (wd_80 hB _) (by decide +kernel) ⟨Nat.le_of_ble_eq_true rfl, Nat.le_of_ble_eq_true rfl⟩), rfl, (wd_295 hB _)⟩ ⟨pe_bl, pe_pre hB hK hP hD⟩ rfl rfl hl.1 rfl (lv_room (Nat.le_of_ble_eq_true rfl)) d_NRunner_init_20 ⟨(Nat.le_of_ble_eq_true rfl), (Nat.le_of_ble_eq_true rfl)⟩) hA hD hS (fun g12 f13 H locs hq hK hP hD hS => ?_)
  obtain ⟨hz, hL9, hI9, t9_q9, n_q9, hN9⟩ := hq
  have hL := hL9
  have hI := hI9
  have hN := (hN.sub (S1 := []) (by decide)).tr hN9 (by decide)
  have hE := hE.tr hz (Or.inr o_q9)
  obtain ⟨m_x, t_x, e_x⟩ := hz.kO m_x d_x_q9 t_x e_x
  have n_q1 := hz.kN m_q1 d_q1_q9 n_q1
  have pg_q1 := pg_q1.ex hz m_q1 d_q1_q9
  obtain ⟨m_q1, t_q1⟩ := hz.kT m_q1 d_q1_q9 t_q1
  have m_q9 := hz.mem m_q9
  have t_q9 := t9_q9
  refine W.widen (k := 341) (n := 2293) (by omega) (by omega) ?_
  refine gw_putF (v := .ref q9) (ty := (.object "BigRunner$Inputs")) (fs' := [.ref q1, .ref q9, .int (nI 0), .null, .null, .null, .null, .null, .int (nI 0), .int (nI 0), .int (nI 0), .int (nI 0), .int (nI 0)]) (C := "BigRunner$Runner") (T := FT8) (N := 13) hx hb (hw8 hB _) (fun _ h9 => h9) TY8 ok8 nm8 hown hK hP hD hS m_x e_x rfl 1 (by decide) (wd_332 hB _) rfl hin rfl (by decide +kernel) rfl rfl (Nat.le_of_ble_eq_true rfl) rfl d_NRunner_init_23 (fun f14 H locs e15 k16 hP hD hS => ?_)
  have hz := EX.wr (g := g12) k16
  have hI := IV_w0 hL hI t_x k16
  have hE := hE.tr hz (Or.inl rfl)
  have n_q1 := hz.kN m_q1 (Ne.symm d_x_q1) n_q1
  have pg_q1 := pg_q1.ex hz m_q1 (Ne.symm d_x_q1)
  obtain ⟨m_q1, t_q1⟩ := hz.kT m_q1 (Ne.symm d_x_q1) t_q1
  have n_q9 := hz.kN m_q9 (Ne.symm d_x_q9) n_q9
  obtain ⟨m_q9, t_q9⟩ := hz.kT m_q9 (Ne.symm d_x_q9) t_q9
  have e_x := e15
  refine lv_aload_n hx hb d_NRunner_init_26 rfl (lv_at hl 0 rfl) ?_
  refine lv_iconst (v := nI 0) hx hb d_NRunner_init_27 (by decide) ?_
  refine pf_put (v := .int (nI 0)) (ty := .int) (fs' := [.ref q1, .ref q9, .int (nI 0), .null, .null, .null, .null, .null, .int (nI 0), .int (nI 0), .int (nI 0), .int (nI 0), .int (nI 0)]) (C := "BigRunner$Runner") (T := FT8) (N := 13) hx hb (hw8 hB _) (fun _ h9 => h9) TY8 ok8 nm8 hown hK hP hD hS m_x e_x rfl 2 (by decide) (wd_334 hB _) rfl (by decide +kernel) rfl rfl (Nat.le_of_ble_eq_true rfl) rfl d_NRunner_init_28 (fun f17 H locs e18 k19 hP hD hS => ?_)
  have hz := EX.wr (g := g12) k19
  have hI := IV_w0 hL hI t_x k19
  have hE := hE.tr hz (Or.inl rfl)
  have n_q1 := hz.kN m_q1 (Ne.symm d_x_q1) n_q1
  have pg_q1 := pg_q1.ex hz m_q1 (Ne.symm d_x_q1)
  obtain ⟨m_q1, t_q1⟩ := hz.kT m_q1 (Ne.symm d_x_q1) t_q1
  have n_q9 := hz.kN m_q9 (Ne.symm d_x_q9) n_q9
  obtain ⟨m_q9, t_q9⟩ := hz.kT m_q9 (Ne.symm d_x_q9) t_q9
  have e_x := e18
  refine lv_aload_n hx hb d_NRunner_init_31 rfl (lv_at hl 0 rfl) ?_
  refine lv_bipush (v := nI 10) hx hb d_NRunner_init_32 (by decide) ?_
  refine gw_arr (atype := .long) (a0 := (10, .inr (.inl (fun _ => nL 0)))) (N' := 10) (ty := .long) hx hb (wd_329 hB _) rfl 27 hK hP hD hS hA hL (fun _ => rfl) (by decide +kernel) (by decide +kernel) (by decide +kernel) (Nat.le_of_ble_eq_true rfl) (Nat.le_of_ble_eq_true rfl) d_NRunner_init_34 (fun q20 g21 f22 H hz0 t_q20 p_q20 e_q20 y_q20 hK hP hD hS => ?_)
  have d_x_q20 : x ≠ q20 := fun z9 => p_q20 (z9 ▸ m_x)
  have d_q1_q20 : q1 ≠ q20 := fun z9 => p_q20 (z9 ▸ m_q1)
  have d_q9_q20 : q9 ≠ q20 := fun z9 => p_q20 (z9 ▸ m_q9)
  have o_q20 := hE.new p_q20
  have hz := hz0.ex
  have hI := IV_tp hz0 hL hI (oc_27.mk t_q20 ⟨_, e_q20⟩) (fun z9 => absurd (t_q20.symm.trans z9) (by decide))
  have hL := LO_tp_27 hz0 hL t_q20 y_q20
  have hN := hN.tp hz0 t_q20 (by decide)
  have hE := hE.tr hz (Or.inr o_q20)
  obtain ⟨m_x, t_x, e_x⟩ := hz.kO m_x d_x_q20 t_x e_x
  have n_q1 := hz.kN m_q1 d_q1_q20 n_q1
  have pg_q1 := pg_q1.ex hz m_q1 d_q1_q20
  obtain ⟨m_q1, t_q1⟩ := hz.kT m_q1 d_q1_q20 t_q1
  have n_q9 := hz.kN m_q9 d_q9_q20 n_q9
  obtain ⟨m_q9, t_q9⟩ := hz.kT m_q9 d_q9_q20 t_q9
  have m_q20 := hz0.2.1
  refine W.widen (k := 342) (n := 2303) (by omega) (by omega) ?_
  refine gw_putF (v := .ref q20) (ty := (.array .long)) (fs' := [.ref q1, .ref q9, .int (nI 0), .ref q20, .null, .null, .null, .null, .int (nI 0), .int (nI 0), .int (nI 0), .int (nI 0), .int (nI 0)]) (C := "BigRunner$Runner") (T := FT8) (N := 13) hx hb (hw8 hB _) (fun _ h9 => h9) TY8 ok8 nm8 hown hK hP hD hS m_x e_x rfl 3 (by decide) (wd_335 hB _) rfl hin rfl (by decide +kernel) rfl rfl (Nat.le_of_ble_eq_true rfl) rfl d_NRunner_init_36 (fun f23 H locs e24 k25 hP hD hS => ?_)
  have hz := EX.wr (g := g21) k25
  have hI := IV_w0 hL hI t_x k25
  have hE := hE.tr hz (Or.inl rfl)
  have n_q1 := hz.kN m_q1 (Ne.symm d_x_q1) n_q1
  have pg_q1 := pg_q1.ex hz m_q1 (Ne.symm d_x_q1)
  obtain ⟨m_q1, t_q1⟩ := hz.kT m_q1 (Ne.symm d_x_q1) t_q1
  have n_q9 := hz.kN m_q9 (Ne.symm d_x_q9) n_q9
  obtain ⟨m_q9, t_q9⟩ := hz.kT m_q9 (Ne.symm d_x_q9) t_q9
  obtain ⟨m_q20, t_q20, e_q20, y_q20⟩ := hz.kA m_q20 (Ne.symm d_x_q20) t_q20 e_q20 y_q20
  have e_x := e24
  refine lv_aload_n hx hb d_NRunner_init_39 rfl (lv_at hl 0 rfl) ?_
  refine lv_bipush (v := nI 10) hx hb d_NRunner_init_40 (by decide) ?_
  refine gw_arq (C := "BigRunner$LongNumber") (N' := 10) hx hb hown (wd_310 hB _) (va_AO.of (A := #[]) (wd_311 hB _)) hK hP hD hS hA hL (by decide +kernel) (by decide +kernel) (by decide +kernel) (Nat.le_of_ble_eq_true rfl) (Nat.le_of_ble_eq_true rfl) d_NRunner_init_42 (fun q26 g27 f28 H hz0 t_q26 p_q26 e_q26 y_q26 hK hP hD hS => ?_)
  have d_x_q26 : x ≠ q26 := fun z9 => p_q26 (z9 ▸ m_x)
  have d_q1_q26 : q1 ≠ q26 := fun z9 => p_q26 (z9 ▸ m_q1)
  have d_q9_q26 : q9 ≠ q26 := fun z9 => p_q26 (z9 ▸ m_q9)
  have d_q20_q26 : q20 ≠ q26 := fun z9 => p_q26 (z9 ▸ m_q20)
  have o_q26 := hE.new p_q26
  have hz := hz0.ex
  have hI := IV_t0 hz0 hL hI t_q26
  have hL := LO_tp_0 hz0 hL t_q26
  have hN := hN.tp hz0 t_q26 (by decide)
  have hE := hE.tr hz (Or.inr o_q26)
  obtain ⟨m_x, t_x, e_x⟩ := hz.kO m_x d_x_q26 t_x e_x
  have n_q1 := hz.kN m_q1 d_q1_q26 n_q1
  have pg_q1 := pg_q1.ex hz m_q1 d_q1_q26
  obtain ⟨m_q1, t_q1⟩ := hz.kT m_q1 d_q1_q26 t_q1
  have n_q9 := hz.kN m_q9 d_q9_q26 n_q9
  obtain ⟨m_q9, t_q9⟩ := hz.kT m_q9 d_q9_q26 t_q9
  obtain ⟨m_q20, t_q20, e_q20, y_q20⟩ := hz.kA m_q20 d_q20_q26 t_q20 e_q20 y_q20
  have m_q26 := hz0.2.1
  refine W.widen (k := 343) (n := 2313) (by omega) (by omega) ?_
  refine gw_putF (v := .ref q26) (ty := (.array (.object "BigRunner$LongNumber"))) (fs' := [.ref q1, .ref q9, .int (nI 0), .ref q20, .ref q26, .null, .null, .null, .int (nI 0), .int (nI 0), .int (nI 0), .int (nI 0), .int (nI 0)]) (C := "BigRunner$Runner") (T := FT8) (N := 13) hx hb (hw8 hB _) (fun _ h9 => h9) TY8 ok8 nm8 hown hK hP hD hS m_x e_x rfl 4 (by decide) (wd_336 hB _) rfl hin rfl (by decide +kernel) rfl rfl (Nat.le_of_ble_eq_true rfl) rfl d_NRunner_init_45 (fun f29 H locs e30 k31 hP hD hS => ?_)
  have hz := EX.wr (g := g27) k31
  have hI := IV_w0 hL hI t_x k31
  have hE := hE.tr hz (Or.inl rfl)
  have n_q1 := hz.kN m_q1 (Ne.symm d_x_q1) n_q1
  have pg_q1 := pg_q1.ex hz m_q1 (Ne.symm d_x_q1)
  obtain ⟨m_q1, t_q1⟩ := hz.kT m_q1 (Ne.symm d_x_q1) t_q1
  have n_q9 := hz.kN m_q9 (Ne.symm d_x_q9) n_q9
  obtain ⟨m_q9, t_q9⟩ := hz.kT m_q9 (Ne.symm d_x_q9) t_q9
  obtain ⟨m_q20, t_q20, e_q20, y_q20⟩ := hz.kA m_q20 (Ne.symm d_x_q20) t_q20 e_q20 y_q20
  obtain ⟨m_q26, t_q26, e_q26, y_q26⟩ := hz.kA m_q26 (Ne.symm d_x_q26) t_q26 e_q26 y_q26
  have e_x := e30
  refine lv_aload_n hx hb d_NRunner_init_48 rfl (lv_at hl 0 rfl) ?_
  refine gw_new (ci := 4) (fs := [.int (nI 0), .int (nI 0), .null]) (C := "BigRunner$LongNumber") (T := FT4) (N := 3) hx hb (hw4 hB _) (fun _ h9 => h9) TY4 ok4 hown (wd_310 hB _) (wd_181 hB _) (wd_78 hB _) hK hP hD hS hA hL rfl (fun j hj => by rcases (show j = 0 ∨ j = 1 ∨ j = 2 by omega) with rfl | rfl | rfl <;> rfl) (Nat.le_of_ble_eq_true rfl) (Nat.le_of_ble_eq_true rfl) d_NRunner_init_49 (fun q32 g33 f34 H hz0 t_q32 p_q32 e_q32 hK hP hD hS => ?_)
  have d_x_q32 : x ≠ q32 := fun z9 => p_q32 (z9 ▸ m_x)
  have d_q1_q32 : q1 ≠ q32 := fun z9 => p_q32 (z9 ▸ m_q1)
  have d_q9_q32 : q9 ≠ q32 := fun z9 => p_q32 (z9 ▸ m_q9)
  have d_q20_q32 : q20 ≠ q32 := fun z9 => p_q32 (z9 ▸ m_q20)
  have d_q26_q32 : q26 ≠ q32 := fun z9 => p_q32 (z9 ▸ m_q26)
  have o_q32 := hE.new p_q32
  have hz := hz0.ex
  have hI := IV_t0 hz0 hL hI t_q32
  have hL := LO_tp_0 hz0 hL t_q32
  have hN := hN.tp hz0 t_q32 (by decide)
  have hE := hE.tr hz (Or.inr o_q32)
  obtain ⟨m_x, t_x, e_x⟩ := hz.kO m_x d_x_q32 t_x e_x
  have n_q1 := hz.kN m_q1 d_q1_q32 n_q1
  have pg_q1 := pg_q1.ex hz m_q1 d_q1_q32
  obtain ⟨m_q1, t_q1⟩ := hz.kT m_q1 d_q1_q32 t_q1
  have n_q9 := hz.kN m_q9 d_q9_q32 n_q9
  obtain ⟨m_q9, t_q9⟩ := hz.kT m_q9 d_q9_q32 t_q9
  obtain ⟨m_q20, t_q20, e_q20, y_q20⟩ := hz.kA m_q20 d_q20_q32 t_q20 e_q20 y_q20
  obtain ⟨m_q26, t_q26, e_q26, y_q26⟩ := hz.kA m_q26 d_q26_q32 t_q26 e_q26 y_q26
  have m_q32 := hz0.2.1
  refine W.widen (k := 344) (n := 2316) (by omega) (by omega) ?_
  refine lv_dup hx hb d_NRunner_init_52 rfl ?_
  refine gw_call (va_runIN (As := []) (rest := [.ref q32, .ref x]) ⟨hx, hb, hml, hown, tb_nil⟩ (g_LongNumber l g33 H.size f34 q32 140 hL hI m_q32 t_q32 e_q32) ⟨(va_cnB 0 (tb_one (wd_184 hB _)) tb_good1 rfl rfl rfl (va_Nw.of (A := #[]) rfl (wd_312 hB _)) (wd_78 hB _) (by decide +kernel) ⟨Nat.le_of_ble_eq_true rfl, Nat.le_of_ble_eq_true rfl⟩), rfl, (wd_183 hB _)⟩ ⟨pe_bl, pe_pre hB hK hP hD⟩ rfl rfl hl.1 rfl (lv_room (Nat.le_of_ble_eq_true rfl)) d_NRunner_init_53 ⟨(Nat.le_of_ble_eq_true rfl), (Nat.le_of_ble_eq_true rfl)⟩) hA hD hS (fun g35 f36 H locs hq hK hP hD hS => ?_)
  obtain ⟨hz, hL9, hI9, t9_q32, n_q32, hN9⟩ := hq
  have hL := hL9
  have hI := hI9
  have hN := (hN.sub (S1 := []) (by decide)).tr hN9 (by decide)
  have hE := hE.tr hz (Or.inr o_q32)
  obtain ⟨m_x, t_x, e_x⟩ := hz.kO m_x d_x_q32 t_x e_x
  have n_q1 := hz.kN m_q1 d_q1_q32 n_q1
  have pg_q1 := pg_q1.ex hz m_q1 d_q1_q32
  obtain ⟨m_q1, t_q1⟩ := hz.kT m_q1 d_q1_q32 t_q1
  have n_q9 := hz.kN m_q9 d_q9_q32 n_q9
  obtain ⟨m_q9, t_q9⟩ := hz.kT m_q9 d_q9_q32 t_q9
  obtain ⟨m_q20, t_q20, e_q20, y_q20⟩ := hz.kA m_q20 d_q20_q32 t_q20 e_q20 y_q20
  obtain ⟨m_q26, t_q26, e_q26, y_q26⟩ := hz.kA m_q26 d_q26_q32 t_q26 e_q26 y_q26
  have m_q32 := hz.mem m_q32
  have t_q32 := t9_q32
  refine W.widen (k := 345) (n := 2331) (by omega) (by omega) ?_
  refine gw_putF (v := .ref q32) (ty := (.object "BigRunner$LongNumber")) (fs' := [.ref q1, .ref q9, .int (nI 0), .ref q20, .ref q26, .ref q32, .null, .null, .int (nI 0), .int (nI 0), .int (nI 0), .int (nI 0), .int (nI 0)]) (C := "BigRunner$Runner") (T := FT8) (N := 13) hx hb (hw8 hB _) (fun _ h9 => h9) TY8 ok8 nm8 hown hK hP hD hS m_x e_x rfl 5 (by decide) (wd_337 hB _) rfl hin rfl (by decide +kernel) rfl rfl (Nat.le_of_ble_eq_true rfl) rfl d_NRunner_init_56 (fun f37 H locs e38 k39 hP hD hS => ?_)
  have hz := EX.wr (g := g35) k39
  have hI := IV_w0 hL hI t_x k39
  have hE := hE.tr hz (Or.inl rfl)
  have n_q1 := hz.kN m_q1 (Ne.symm d_x_q1) n_q1
  have pg_q1 := pg_q1.ex hz m_q1 (Ne.symm d_x_q1)
  obtain ⟨m_q1, t_q1⟩ := hz.kT m_q1 (Ne.symm d_x_q1) t_q1
  have n_q9 := hz.kN m_q9 (Ne.symm d_x_q9) n_q9
  obtain ⟨m_q9, t_q9⟩ := hz.kT m_q9 (Ne.symm d_x_q9) t_q9
  obtain ⟨m_q20, t_q20, e_q20, y_q20⟩ := hz.kA m_q20 (Ne.symm d_x_q20) t_q20 e_q20 y_q20
  obtain ⟨m_q26, t_q26, e_q26, y_q26⟩ := hz.kA m_q26 (Ne.symm d_x_q26) t_q26 e_q26 y_q26
  have n_q32 := hz.kN m_q32 (Ne.symm d_x_q32) n_q32
  obtain ⟨m_q32, t_q32⟩ := hz.kT m_q32 (Ne.symm d_x_q32) t_q32
  have e_x := e38
  refine lv_aload_n hx hb d_NRunner_init_59 rfl (lv_at hl 0 rfl) ?_
  refine gw_new (ci := 3) (fs := [.null, .null, .int (nI 0)]) (C := "BigRunner$LongDivision") (T := FT3) (N := 3) hx hb (hw3 hB _) (fun _ h9 => h9) TY3 ok3 hown (wd_313 hB _) (wd_314 hB _) (wd_81 hB _) hK hP hD hS hA hL rfl (fun j hj => by rcases (show j = 0 ∨ j = 1 ∨ j = 2 by omega) with rfl | rfl | rfl <;> rfl) (Nat.le_of_ble_eq_true rfl) (Nat.le_of_ble_eq_true rfl) d_NRunner_init_60 (fun q40 g41 f42 H hz0 t_q40 p_q40 e_q40 hK hP hD hS => ?_)
  have d_x_q40 : x ≠ q40 := fun z9 => p_q40 (z9 ▸ m_x)
  have d_q1_q40 : q1 ≠ q40 := fun z9 => p_q40 (z9 ▸ m_q1)
  have d_q9_q40 : q9 ≠ q40 := fun z9 => p_q40 (z9 ▸ m_q9)
  have d_q20_q40 : q20 ≠ q40 := fun z9 => p_q40 (z9 ▸ m_q20)
  have d_q26_q40 : q26 ≠ q40 := fun z9 => p_q40 (z9 ▸ m_q26)
  have d_q32_q40 : q32 ≠ q40 := fun z9 => p_q40 (z9 ▸ m_q32)
  have o_q40 := hE.new p_q40
  have hz := hz0.ex
  have hI := IV_t0 hz0 hL hI t_q40
  have hL := LO_tp_0 hz0 hL t_q40
  have hN := hN.tp hz0 t_q40 (by decide)
  have hE := hE.tr hz (Or.inr o_q40)
  obtain ⟨m_x, t_x, e_x⟩ := hz.kO m_x d_x_q40 t_x e_x
  have n_q1 := hz.kN m_q1 d_q1_q40 n_q1
  have pg_q1 := pg_q1.ex hz m_q1 d_q1_q40
  obtain ⟨m_q1, t_q1⟩ := hz.kT m_q1 d_q1_q40 t_q1
  have n_q9 := hz.kN m_q9 d_q9_q40 n_q9
  obtain ⟨m_q9, t_q9⟩ := hz.kT m_q9 d_q9_q40 t_q9
  obtain ⟨m_q20, t_q20, e_q20, y_q20⟩ := hz.kA m_q20 d_q20_q40 t_q20 e_q20 y_q20
  obtain ⟨m_q26, t_q26, e_q26, y_q26⟩ := hz.kA m_q26 d_q26_q40 t_q26 e_q26 y_q26
  have n_q32 := hz.kN m_q32 d_q32_q40 n_q32
  obtain ⟨m_q32, t_q32⟩ := hz.kT m_q32 d_q32_q40 t_q32
  have m_q40 := hz0.2.1
  refine W.widen (k := 346) (n := 2334) (by omega) (by omega) ?_
  refine lv_dup hx hb d_NRunner_init_63 rfl ?_
  refine gw_call (va_runIN (As := []) (rest := [.ref q40, .ref x]) ⟨hx, hb, hml, hown, tb_nil⟩ (g_LongDivision l g41 H.size f42 q40 0 hL hI m_q40 t_q40 e_q40) ⟨(va_cnB 0 (tb_one (wd_317 hB _)) tb_good1 rfl rfl rfl (va_Nw.of (A := #[]) rfl (wd_315 hB _)) (wd_81 hB _) (by decide +kernel) ⟨Nat.le_of_ble_eq_true rfl, Nat.le_of_ble_eq_true rfl⟩), rfl, (wd_316 hB _)⟩ ⟨pe_bl, pe_pre hB hK hP hD⟩ rfl rfl hl.1 rfl (lv_room (Nat.le_of_ble_eq_true rfl)) d_NRunner_init_64 ⟨(Nat.le_of_ble_eq_true rfl), (Nat.le_of_ble_eq_true rfl)⟩) hA hD hS (fun g43 f44 H locs hq hK hP hD hS => ?_)
  obtain ⟨hz, hL9, hI9, t9_q40, n_q40, hN9⟩ := hq
  have hL := hL9
  have hI := hI9
  have hN := (hN.sub (S1 := []) (by decide)).tr hN9 (by decide)
  have hE := hE.tr hz (Or.inr o_q40)
  obtain ⟨m_x, t_x, e_x⟩ := hz.kO m_x d_x_q40 t_x e_x
  have n_q1 := hz.kN m_q1 d_q1_q40 n_q1
  have pg_q1 := pg_q1.ex hz m_q1 d_q1_q40
  obtain ⟨m_q1, t_q1⟩ := hz.kT m_q1 d_q1_q40 t_q1
  have n_q9 := hz.kN m_q9 d_q9_q40 n_q9
  obtain ⟨m_q9, t_q9⟩ := hz.kT m_q9 d_q9_q40 t_q9
  obtain ⟨m_q20, t_q20, e_q20, y_q20⟩ := hz.kA m_q20 d_q20_q40 t_q20 e_q20 y_q20
  obtain ⟨m_q26, t_q26, e_q26, y_q26⟩ := hz.kA m_q26 d_q26_q40 t_q26 e_q26 y_q26
  have n_q32 := hz.kN m_q32 d_q32_q40 n_q32
  obtain ⟨m_q32, t_q32⟩ := hz.kT m_q32 d_q32_q40 t_q32
  have m_q40 := hz.mem m_q40
  have t_q40 := t9_q40
  refine W.widen (k := 348) (n := 2366) (by omega) (by omega) ?_
  refine gw_putF (v := .ref q40) (ty := (.object "BigRunner$LongDivision")) (fs' := [.ref q1, .ref q9, .int (nI 0), .ref q20, .ref q26, .ref q32, .ref q40, .null, .int (nI 0), .int (nI 0), .int (nI 0), .int (nI 0), .int (nI 0)]) (C := "BigRunner$Runner") (T := FT8) (N := 13) hx hb (hw8 hB _) (fun _ h9 => h9) TY8 ok8 nm8 hown hK hP hD hS m_x e_x rfl 6 (by decide) (wd_338 hB _) rfl hin rfl (by decide +kernel) rfl rfl (Nat.le_of_ble_eq_true rfl) rfl d_NRunner_init_67 (fun f45 H locs e46 k47 hP hD hS => ?_)
  have hz := EX.wr (g := g43) k47
  have hI := IV_w0 hL hI t_x k47
  have hE := hE.tr hz (Or.inl rfl)
  have n_q1 := hz.kN m_q1 (Ne.symm d_x_q1) n_q1
  have pg_q1 := pg_q1.ex hz m_q1 (Ne.symm d_x_q1)
  obtain ⟨m_q1, t_q1⟩ := hz.kT m_q1 (Ne.symm d_x_q1) t_q1
  have n_q9 := hz.kN m_q9 (Ne.symm d_x_q9) n_q9
  obtain ⟨m_q9, t_q9⟩ := hz.kT m_q9 (Ne.symm d_x_q9) t_q9
  obtain ⟨m_q20, t_q20, e_q20, y_q20⟩ := hz.kA m_q20 (Ne.symm d_x_q20) t_q20 e_q20 y_q20
  obtain ⟨m_q26, t_q26, e_q26, y_q26⟩ := hz.kA m_q26 (Ne.symm d_x_q26) t_q26 e_q26 y_q26
  have n_q32 := hz.kN m_q32 (Ne.symm d_x_q32) n_q32
  obtain ⟨m_q32, t_q32⟩ := hz.kT m_q32 (Ne.symm d_x_q32) t_q32
  have n_q40 := hz.kN m_q40 (Ne.symm d_x_q40) n_q40
  obtain ⟨m_q40, t_q40⟩ := hz.kT m_q40 (Ne.symm d_x_q40) t_q40
  have e_x := e46
  refine lv_aload_n hx hb d_NRunner_init_70 rfl (lv_at hl 0 rfl) ?_
  refine lv_bipush (v := nI 12) hx hb d_NRunner_init_71 (by decide) ?_
  refine gw_arq (C := "BigRunner$LongNumber") (N' := 12) hx hb hown (wd_310 hB _) (va_AO.of (A := #[]) (wd_311 hB _)) hK hP hD hS hA hL (by decide +kernel) (by decide +kernel) (by decide +kernel) (Nat.le_of_ble_eq_true rfl) (Nat.le_of_ble_eq_true rfl) d_NRunner_init_73 (fun q48 g49 f50 H hz0 t_q48 p_q48 e_q48 y_q48 hK hP hD hS => ?_)
  have d_x_q48 : x ≠ q48 := fun z9 => p_q48 (z9 ▸ m_x)
  have d_q1_q48 : q1 ≠ q48 := fun z9 => p_q48 (z9 ▸ m_q1)
  have d_q9_q48 : q9 ≠ q48 := fun z9 => p_q48 (z9 ▸ m_q9)
  have d_q20_q48 : q20 ≠ q48 := fun z9 => p_q48 (z9 ▸ m_q20)
  have d_q26_q48 : q26 ≠ q48 := fun z9 => p_q48 (z9 ▸ m_q26)
  have d_q32_q48 : q32 ≠ q48 := fun z9 => p_q48 (z9 ▸ m_q32)
  have d_q40_q48 : q40 ≠ q48 := fun z9 => p_q48 (z9 ▸ m_q40)
  have o_q48 := hE.new p_q48
  have hz := hz0.ex
  have hI := IV_t0 hz0 hL hI t_q48
  have hL := LO_tp_0 hz0 hL t_q48
  have hN := hN.tp hz0 t_q48 (by decide)
  have hE := hE.tr hz (Or.inr o_q48)
  obtain ⟨m_x, t_x, e_x⟩ := hz.kO m_x d_x_q48 t_x e_x
  have n_q1 := hz.kN m_q1 d_q1_q48 n_q1
  have pg_q1 := pg_q1.ex hz m_q1 d_q1_q48
  obtain ⟨m_q1, t_q1⟩ := hz.kT m_q1 d_q1_q48 t_q1
  have n_q9 := hz.kN m_q9 d_q9_q48 n_q9
  obtain ⟨m_q9, t_q9⟩ := hz.kT m_q9 d_q9_q48 t_q9
  obtain ⟨m_q20, t_q20, e_q20, y_q20⟩ := hz.kA m_q20 d_q20_q48 t_q20 e_q20 y_q20
  obtain ⟨m_q26, t_q26, e_q26, y_q26⟩ := hz.kA m_q26 d_q26_q48 t_q26 e_q26 y_q26
  have n_q32 := hz.kN m_q32 d_q32_q48 n_q32
  obtain ⟨m_q32, t_q32⟩ := hz.kT m_q32 d_q32_q48 t_q32
  have n_q40 := hz.kN m_q40 d_q40_q48 n_q40
  obtain ⟨m_q40, t_q40⟩ := hz.kT m_q40 d_q40_q48 t_q40
  have m_q48 := hz0.2.1
  refine W.widen (k := 349) (n := 2378) (by omega) (by omega) ?_
  refine gw_putF (v := .ref q48) (ty := (.array (.object "BigRunner$LongNumber"))) (fs' := [.ref q1, .ref q9, .int (nI 0), .ref q20, .ref q26, .ref q32, .ref q40, .ref q48, .int (nI 0), .int (nI 0), .int (nI 0), .int (nI 0), .int (nI 0)]) (C := "BigRunner$Runner") (T := FT8) (N := 13) hx hb (hw8 hB _) (fun _ h9 => h9) TY8 ok8 nm8 hown hK hP hD hS m_x e_x rfl 7 (by decide) (wd_339 hB _) rfl hin rfl (by decide +kernel) rfl rfl (Nat.le_of_ble_eq_true rfl) rfl d_NRunner_init_76 (fun f51 H locs e52 k53 hP hD hS => ?_)
  have hz := EX.wr (g := g49) k53
  have hI := IV_w0 hL hI t_x k53
  have hE := hE.tr hz (Or.inl rfl)
  have n_q1 := hz.kN m_q1 (Ne.symm d_x_q1) n_q1
  have pg_q1 := pg_q1.ex hz m_q1 (Ne.symm d_x_q1)
  obtain ⟨m_q1, t_q1⟩ := hz.kT m_q1 (Ne.symm d_x_q1) t_q1
  have n_q9 := hz.kN m_q9 (Ne.symm d_x_q9) n_q9
  obtain ⟨m_q9, t_q9⟩ := hz.kT m_q9 (Ne.symm d_x_q9) t_q9
  obtain ⟨m_q20, t_q20, e_q20, y_q20⟩ := hz.kA m_q20 (Ne.symm d_x_q20) t_q20 e_q20 y_q20
  obtain ⟨m_q26, t_q26, e_q26, y_q26⟩ := hz.kA m_q26 (Ne.symm d_x_q26) t_q26 e_q26 y_q26
  have n_q32 := hz.kN m_q32 (Ne.symm d_x_q32) n_q32
  obtain ⟨m_q32, t_q32⟩ := hz.kT m_q32 (Ne.symm d_x_q32) t_q32
  have n_q40 := hz.kN m_q40 (Ne.symm d_x_q40) n_q40
  obtain ⟨m_q40, t_q40⟩ := hz.kT m_q40 (Ne.symm d_x_q40) t_q40
  obtain ⟨m_q48, t_q48, e_q48, y_q48⟩ := hz.kA m_q48 (Ne.symm d_x_q48) t_q48 e_q48 y_q48
  have e_x := e52
  refine lv_aload_n hx hb d_NRunner_init_79 rfl (lv_at hl 0 rfl) ?_
  refine lv_iconst (v := nI 0) hx hb d_NRunner_init_80 (by decide) ?_
  refine pf_put (v := .int (nI 0)) (ty := .int) (fs' := [.ref q1, .ref q9, .int (nI 0), .ref q20, .ref q26, .ref q32, .ref q40, .ref q48, .int (nI 0), .int (nI 0), .int (nI 0), .int (nI 0), .int (nI 0)]) (C := "BigRunner$Runner") (T := FT8) (N := 13) hx hb (hw8 hB _) (fun _ h9 => h9) TY8 ok8 nm8 hown hK hP hD hS m_x e_x rfl 8 (by decide) (wd_341 hB _) rfl (by decide +kernel) rfl rfl (Nat.le_of_ble_eq_true rfl) rfl d_NRunner_init_81 (fun f54 H locs e55 k56 hP hD hS => ?_)
  have hz := EX.wr (g := g49) k56
  have hI := IV_w0 hL hI t_x k56
  have hE := hE.tr hz (Or.inl rfl)
  have n_q1 := hz.kN m_q1 (Ne.symm d_x_q1) n_q1
  have pg_q1 := pg_q1.ex hz m_q1 (Ne.symm d_x_q1)
  obtain ⟨m_q1, t_q1⟩ := hz.kT m_q1 (Ne.symm d_x_q1) t_q1
  have n_q9 := hz.kN m_q9 (Ne.symm d_x_q9) n_q9
  obtain ⟨m_q9, t_q9⟩ := hz.kT m_q9 (Ne.symm d_x_q9) t_q9
  obtain ⟨m_q20, t_q20, e_q20, y_q20⟩ := hz.kA m_q20 (Ne.symm d_x_q20) t_q20 e_q20 y_q20
  obtain ⟨m_q26, t_q26, e_q26, y_q26⟩ := hz.kA m_q26 (Ne.symm d_x_q26) t_q26 e_q26 y_q26
  have n_q32 := hz.kN m_q32 (Ne.symm d_x_q32) n_q32
  obtain ⟨m_q32, t_q32⟩ := hz.kT m_q32 (Ne.symm d_x_q32) t_q32
  have n_q40 := hz.kN m_q40 (Ne.symm d_x_q40) n_q40
  obtain ⟨m_q40, t_q40⟩ := hz.kT m_q40 (Ne.symm d_x_q40) t_q40
  obtain ⟨m_q48, t_q48, e_q48, y_q48⟩ := hz.kA m_q48 (Ne.symm d_x_q48) t_q48 e_q48 y_q48
  have e_x := e55
  refine lv_aload_n hx hb d_NRunner_init_84 rfl (lv_at hl 0 rfl) ?_
  refine lv_iconst (v := nI 0) hx hb d_NRunner_init_85 (by decide) ?_
  refine pf_put (v := .int (nI 0)) (ty := .int) (fs' := [.ref q1, .ref q9, .int (nI 0), .ref q20, .ref q26, .ref q32, .ref q40, .ref q48, .int (nI 0), .int (nI 0), .int (nI 0), .int (nI 0), .int (nI 0)]) (C := "BigRunner$Runner") (T := FT8) (N := 13) hx hb (hw8 hB _) (fun _ h9 => h9) TY8 ok8 nm8 hown hK hP hD hS m_x e_x rfl 9 (by decide) (wd_343 hB _) rfl (by decide +kernel) rfl rfl (Nat.le_of_ble_eq_true rfl) rfl d_NRunner_init_86 (fun f57 H locs e58 k59 hP hD hS => ?_)
  have hz := EX.wr (g := g49) k59
  have hI := IV_w0 hL hI t_x k59
  have hE := hE.tr hz (Or.inl rfl)
  have n_q1 := hz.kN m_q1 (Ne.symm d_x_q1) n_q1
  have pg_q1 := pg_q1.ex hz m_q1 (Ne.symm d_x_q1)
  obtain ⟨m_q1, t_q1⟩ := hz.kT m_q1 (Ne.symm d_x_q1) t_q1
  have n_q9 := hz.kN m_q9 (Ne.symm d_x_q9) n_q9
  obtain ⟨m_q9, t_q9⟩ := hz.kT m_q9 (Ne.symm d_x_q9) t_q9
  obtain ⟨m_q20, t_q20, e_q20, y_q20⟩ := hz.kA m_q20 (Ne.symm d_x_q20) t_q20 e_q20 y_q20
  obtain ⟨m_q26, t_q26, e_q26, y_q26⟩ := hz.kA m_q26 (Ne.symm d_x_q26) t_q26 e_q26 y_q26
  have n_q32 := hz.kN m_q32 (Ne.symm d_x_q32) n_q32
  obtain ⟨m_q32, t_q32⟩ := hz.kT m_q32 (Ne.symm d_x_q32) t_q32
  have n_q40 := hz.kN m_q40 (Ne.symm d_x_q40) n_q40
  obtain ⟨m_q40, t_q40⟩ := hz.kT m_q40 (Ne.symm d_x_q40) t_q40
  obtain ⟨m_q48, t_q48, e_q48, y_q48⟩ := hz.kA m_q48 (Ne.symm d_x_q48) t_q48 e_q48 y_q48
  have e_x := e58
  refine lv_aload_n hx hb d_NRunner_init_89 rfl (lv_at hl 0 rfl) ?_
  refine lv_iconst (v := nI 0) hx hb d_NRunner_init_90 (by decide) ?_
  refine pf_put (v := .int (nI 0)) (ty := .int) (fs' := [.ref q1, .ref q9, .int (nI 0), .ref q20, .ref q26, .ref q32, .ref q40, .ref q48, .int (nI 0), .int (nI 0), .int (nI 0), .int (nI 0), .int (nI 0)]) (C := "BigRunner$Runner") (T := FT8) (N := 13) hx hb (hw8 hB _) (fun _ h9 => h9) TY8 ok8 nm8 hown hK hP hD hS m_x e_x rfl 10 (by decide) (wd_345 hB _) rfl (by decide +kernel) rfl rfl (Nat.le_of_ble_eq_true rfl) rfl d_NRunner_init_91 (fun f60 H locs e61 k62 hP hD hS => ?_)
  have hz := EX.wr (g := g49) k62
  have hI := IV_w0 hL hI t_x k62
  have hE := hE.tr hz (Or.inl rfl)
  have n_q1 := hz.kN m_q1 (Ne.symm d_x_q1) n_q1
  have pg_q1 := pg_q1.ex hz m_q1 (Ne.symm d_x_q1)
  obtain ⟨m_q1, t_q1⟩ := hz.kT m_q1 (Ne.symm d_x_q1) t_q1
  have n_q9 := hz.kN m_q9 (Ne.symm d_x_q9) n_q9
  obtain ⟨m_q9, t_q9⟩ := hz.kT m_q9 (Ne.symm d_x_q9) t_q9
  obtain ⟨m_q20, t_q20, e_q20, y_q20⟩ := hz.kA m_q20 (Ne.symm d_x_q20) t_q20 e_q20 y_q20
  obtain ⟨m_q26, t_q26, e_q26, y_q26⟩ := hz.kA m_q26 (Ne.symm d_x_q26) t_q26 e_q26 y_q26
  have n_q32 := hz.kN m_q32 (Ne.symm d_x_q32) n_q32
  obtain ⟨m_q32, t_q32⟩ := hz.kT m_q32 (Ne.symm d_x_q32) t_q32
  have n_q40 := hz.kN m_q40 (Ne.symm d_x_q40) n_q40
  obtain ⟨m_q40, t_q40⟩ := hz.kT m_q40 (Ne.symm d_x_q40) t_q40
  obtain ⟨m_q48, t_q48, e_q48, y_q48⟩ := hz.kA m_q48 (Ne.symm d_x_q48) t_q48 e_q48 y_q48
  have e_x := e61
  refine lv_aload_n hx hb d_NRunner_init_94 rfl (lv_at hl 0 rfl) ?_
  refine lv_iconst (v := nI 0) hx hb d_NRunner_init_95 (by decide) ?_
  refine pf_put (v := .int (nI 0)) (ty := .int) (fs' := [.ref q1, .ref q9, .int (nI 0), .ref q20, .ref q26, .ref q32, .ref q40, .ref q48, .int (nI 0), .int (nI 0), .int (nI 0), .int (nI 0), .int (nI 0)]) (C := "BigRunner$Runner") (T := FT8) (N := 13) hx hb (hw8 hB _) (fun _ h9 => h9) TY8 ok8 nm8 hown hK hP hD hS m_x e_x rfl 11 (by decide) (wd_347 hB _) rfl (by decide +kernel) rfl rfl (Nat.le_of_ble_eq_true rfl) rfl d_NRunner_init_96 (fun f63 H locs e64 k65 hP hD hS => ?_)
  have hz := EX.wr (g := g49) k65
  have hI := IV_w0 hL hI t_x k65
  have hE := hE.tr hz (Or.inl rfl)
  have n_q1 := hz.kN m_q1 (Ne.symm d_x_q1) n_q1
  have pg_q1 := pg_q1.ex hz m_q1 (Ne.symm d_x_q1)
  obtain ⟨m_q1, t_q1⟩ := hz.kT m_q1 (Ne.symm d_x_q1) t_q1
  have n_q9 := hz.kN m_q9 (Ne.symm d_x_q9) n_q9
  obtain ⟨m_q9, t_q9⟩ := hz.kT m_q9 (Ne.symm d_x_q9) t_q9
  obtain ⟨m_q20, t_q20, e_q20, y_q20⟩ := hz.kA m_q20 (Ne.symm d_x_q20) t_q20 e_q20 y_q20
  obtain ⟨m_q26, t_q26, e_q26, y_q26⟩ := hz.kA m_q26 (Ne.symm d_x_q26) t_q26 e_q26 y_q26
  have n_q32 := hz.kN m_q32 (Ne.symm d_x_q32) n_q32
  obtain ⟨m_q32, t_q32⟩ := hz.kT m_q32 (Ne.symm d_x_q32) t_q32
  have n_q40 := hz.kN m_q40 (Ne.symm d_x_q40) n_q40
  obtain ⟨m_q40, t_q40⟩ := hz.kT m_q40 (Ne.symm d_x_q40) t_q40
  obtain ⟨m_q48, t_q48, e_q48, y_q48⟩ := hz.kA m_q48 (Ne.symm d_x_q48) t_q48 e_q48 y_q48
  have e_x := e64
  refine lv_aload_n hx hb d_NRunner_init_99 rfl (lv_at hl 0 rfl) ?_
  refine lv_iconst (v := nI 0) hx hb d_NRunner_init_100 (by decide) ?_
  refine pf_put (v := .int (nI 0)) (ty := .int) (fs' := [.ref q1, .ref q9, .int (nI 0), .ref q20, .ref q26, .ref q32, .ref q40, .ref q48, .int (nI 0), .int (nI 0), .int (nI 0), .int (nI 0), .int (nI 0)]) (C := "BigRunner$Runner") (T := FT8) (N := 13) hx hb (hw8 hB _) (fun _ h9 => h9) TY8 ok8 nm8 hown hK hP hD hS m_x e_x rfl 12 (by decide) (wd_349 hB _) rfl (by decide +kernel) rfl rfl (Nat.le_of_ble_eq_true rfl) rfl d_NRunner_init_101 (fun f66 H locs e67 k68 hP hD hS => ?_)
  have hz := EX.wr (g := g49) k68
  have hI := IV_w0 hL hI t_x k68
  have hE := hE.tr hz (Or.inl rfl)
  have n_q1 := hz.kN m_q1 (Ne.symm d_x_q1) n_q1
  have pg_q1 := pg_q1.ex hz m_q1 (Ne.symm d_x_q1)
  obtain ⟨m_q1, t_q1⟩ := hz.kT m_q1 (Ne.symm d_x_q1) t_q1
  have n_q9 := hz.kN m_q9 (Ne.symm d_x_q9) n_q9
  obtain ⟨m_q9, t_q9⟩ := hz.kT m_q9 (Ne.symm d_x_q9) t_q9
  obtain ⟨m_q20, t_q20, e_q20, y_q20⟩ := hz.kA m_q20 (Ne.symm d_x_q20) t_q20 e_q20 y_q20
  obtain ⟨m_q26, t_q26, e_q26, y_q26⟩ := hz.kA m_q26 (Ne.symm d_x_q26) t_q26 e_q26 y_q26
  have n_q32 := hz.kN m_q32 (Ne.symm d_x_q32) n_q32
  obtain ⟨m_q32, t_q32⟩ := hz.kT m_q32 (Ne.symm d_x_q32) t_q32
  have n_q40 := hz.kN m_q40 (Ne.symm d_x_q40) n_q40
  obtain ⟨m_q40, t_q40⟩ := hz.kT m_q40 (Ne.symm d_x_q40) t_q40
  obtain ⟨m_q48, t_q48, e_q48, y_q48⟩ := hz.kA m_q48 (Ne.symm d_x_q48) t_q48 e_q48 y_q48
  have e_x := e67
  refine lv_iconst (v := nI 0) hx hb d_NRunner_init_104 (by decide) ?_
  refine lv_istore_n (lv' := [(1, .int (nI 0)), (0, .ref x)]) hx hb d_NRunner_init_105 rfl hl (by decide) rfl (fun ls hl => ?_)
  have lp69 : ∀ (k72 i : Nat) (g70 : Lay) (f71 : Nat → va_E) (hQ : Nat → Option Nat) (H : Heap) (locs : List Loc) (ls : Array Slot), (10 < i + k72) → (i ≤ 10) → (EX x g f g70 f71) → (NT [] g g70) → (LO g70) → (IV g70 f71) → (EL g g70 5 100 i hQ) → (x ∈ g70.LP) → (g70.tg x = 0) → (f71 x = .inr (8, [.ref q1, .ref q9, .int (nI 0), .ref q20, .ref q26, .ref q32, .ref q40, .ref q48, .int (nI 0), .int (nI 0), .int (nI 0), .int (nI 0), .int (nI 0)])) → (q1 ∈ g70.LP) → (g70.tg q1 = 7) → (g70.tn q1 = 0) → (PG0 g70 f71 q1) → (q9 ∈ g70.LP) → (g70.tg q9 = 2) → (g70.tn q9 = 0) → (q20 ∈ g70.LP) → (g70.tg q20 = 27) → (f71 q20 = .inl (g70.ac q20, 10, .inr (.inl (fun _ => nL 0)))) → (g70.tys[g70.tn q20]? = some (g70.ac q20, .long)) → (q26 ∈ g70.LP) → (g70.tg q26 = 0) → (f71 q26 = .inl (g70.ac q26, 10, .inr (.inr (.inr (.inr hQ))))) → (g70.tys[g70.tn q26]? = some (g70.ac q26, .object "BigRunner$LongNumber")) → (q32 ∈ g70.LP) → (g70.tg q32 = 5) → (g70.tn q32 = 140) → (q40 ∈ g70.LP) → (g70.tg q40 = 4) → (g70.tn q40 = 0) → (q48 ∈ g70.LP) → (g70.tg q48 = 0) → (f71 q48 = .inl (g70.ac q48, 12, .inr (.inr (.inr (.inr (fun _ => none)))))) → (g70.tys[g70.tn q48]? = some (g70.ac q48, .object "BigRunner$LongNumber")) → lv_has ls 2 [(1, .int (nI i)), (0, .ref x)] → va_K g70.D vcl g70.tys s → va_P g70.D vcl (va_pl g70.LP f71) H → va_D (pc_A g s.heap.size) (va_pl g70.LP f71) → va_S (pc_A g s.heap.size) s.heap H locs → W p l e ({ frames := 4, cells := 393, slots := 2774, locals := 73 }) s m args below meth c H locs (349 + 2 * i) (2378 + 18 * i) (MQ below (CQ g s.heap.size (fun g1 f1 => EX x g f g1 f1 ∧ LO g1 ∧ IV g1 f1 ∧ g1.tg x = 9 ∧ g1.tn x = k ∧ NT [] g g1 ∧ (∃ pr : Nat, RN0 g1 f1 x pr ∧ g1.tg pr = 7 ∧ pr ∉ g.LP ∧ PG0 g1 f1 pr))) args s 393 2774 (pc_A g s.heap.size)) (F0 m 106 ls []) := by
    intro k72
    induction k72 with
    | zero => intros; exfalso; omega
    | succ k72 ih73 =>
      intro i g70 f71 hQ H locs ls hfu hi hE hN hL hI hEL m_x t_x e_x m_q1 t_q1 n_q1 pg_q1 m_q9 t_q9 n_q9 m_q20 t_q20 e_q20 y_q20 m_q26 t_q26 e_q26 y_q26 m_q32 t_q32 n_q32 m_q40 t_q40 n_q40 m_q48 t_q48 e_q48 y_q48 hl hK hP hD hS
      refine lv_iload_n hx hb d_NRunner_init_106 rfl (lv_at hl 0 rfl) ?_
      refine lv_bipush (v := nI 10) hx hb d_NRunner_init_107 (by decide) ?_
      refine lv_icmp_ge (tgt := 131) hx hb d_NRunner_init_109 (by decide) (fun b74 => ?_) (fun b74 => ?_)
      · skip
        replace b74 := (nI_leI (a := 10) (b := i) (by omega) (by omega)).mp b74
        obtain rfl : i = 10 := by omega
        refine W.widen (k := 369) (n := 2558) (by omega) (by omega) ?_
        have hP := va_swap hP e_q26 (fun j hj => (elk_at hEL hj).1)
        have hD : va_D (pc_A g s.heap.size) (va_pl g70.LP (va_up f71 q26 (.inl (g70.ac q26, 10, .inr (.inr (.inr (.inr (fun i => some (elk hQ i))))))))) := va_swapD hD
        obtain ⟨g75, hz0, tT, hlk, htn, hac, hLP, htys, hDD⟩ := ty_mk g70 f71 (va_up f71 q26 (.inl (g70.ac q26, 10, .inr (.inr (.inr (.inr (fun i => some (elk hQ i)))))))) q26 28 (g70.tn q26) (elk hQ) t_q26 m_q26 (fun b hb => va_up_ne _ _ hb)
        have hK : va_K g75.D vcl g75.tys s := by rw [hDD, htys]; exact hK
        have hP : va_P g75.D vcl (va_pl g75.LP (va_up f71 q26 (.inl (g70.ac q26, 10, .inr (.inr (.inr (.inr (fun i => some (elk hQ i))))))))) H := by rw [hDD, hLP]; exact hP
        have hD : va_D (pc_A g s.heap.size) (va_pl g75.LP (va_up f71 q26 (.inl (g70.ac q26, 10, .inr (.inr (.inr (.inr (fun i => some (elk hQ i))))))))) := by rw [hLP]; exact hD
        have hz := hz0.ex
        have e9 : (va_up f71 q26 (.inl (g70.ac q26, 10, .inr (.inr (.inr (.inr (fun i => some (elk hQ i)))))))) q26 = .inl (g75.ac q26, 10, .inr (.inr (.inr (.inr (fun i => some (g75.lk q26 i)))))) := by rw [hlk, hac]; exact va_up_self _ _ _
        generalize (va_up f71 q26 (.inl (g70.ac q26, 10, .inr (.inr (.inr (.inr (fun i => some (elk hQ i)))))))) = f76 at hP hD hz0 hz e9
        have y9 : g75.tys[g75.tn q26]? = some (g75.ac q26, .object "BigRunner$LongNumber") := by rw [htys, htn, hac]; exact y_q26
        have hI := IV_tp hz0 hL hI (oc_28.mk tT e9) (fun z9 => absurd (tT.symm.trans z9) (by decide))
        have hL := LO_tp_28 hz0 hL tT (fun i hi => by rw [hlk]; exact tp_b hz0 (elk_at hEL hi).2.1 (by decide)) y9 (fun i hi => by rw [hlk]; exact (tp_tn hz0 (tp_n hz0 (elk_at hEL hi).2.1 (by decide))).trans ((elk_at hEL hi).2.2.1))
        have hN := (hN.sub (S1 := []) (by decide)).tp hz0 tT (by decide)
        have hE := hE.tr hz (Or.inr o_q26)
        obtain ⟨m_x, t_x, e_x⟩ := hz.kO m_x d_x_q26 t_x e_x
        have n_q1 := hz.kN m_q1 d_q1_q26 n_q1
        have pg_q1 := pg_q1.ex hz m_q1 d_q1_q26
        obtain ⟨m_q1, t_q1⟩ := hz.kT m_q1 d_q1_q26 t_q1
        have n_q9 := hz.kN m_q9 d_q9_q26 n_q9
        obtain ⟨m_q9, t_q9⟩ := hz.kT m_q9 d_q9_q26 t_q9
        obtain ⟨m_q20, t_q20, e_q20, y_q20⟩ := hz.kA m_q20 d_q20_q26 t_q20 e_q20 y_q20
        have n_q32 := hz.kN m_q32 (Ne.symm d_q26_q32) n_q32
        obtain ⟨m_q32, t_q32⟩ := hz.kT m_q32 (Ne.symm d_q26_q32) t_q32
        have n_q40 := hz.kN m_q40 (Ne.symm d_q26_q40) n_q40
        obtain ⟨m_q40, t_q40⟩ := hz.kT m_q40 (Ne.symm d_q26_q40) t_q40
        obtain ⟨m_q48, t_q48, e_q48, y_q48⟩ := hz.kA m_q48 (Ne.symm d_q26_q48) t_q48 e_q48 y_q48
        have m_q26 := hz0.2.1
        have t_q26 := tT
        refine lv_iconst (v := nI 0) hx hb d_NRunner_init_131 (by decide) ?_
        refine lv_istore_n (lv' := [(1, .int (nI 0)), (0, .ref x)]) hx hb d_NRunner_init_132 rfl hl (by decide) rfl (fun ls hl => ?_)
        have lp77 : ∀ (k80 i : Nat) (g78 : Lay) (f79 : Nat → va_E) (hQ : Nat → Option Nat) (H : Heap) (locs : List Loc) (ls : Array Slot), (12 < i + k80) → (i ≤ 12) → (EX x g f g78 f79) → (NT [] g g78) → (LO g78) → (IV g78 f79) → (EL g g78 5 120 i hQ) → (x ∈ g78.LP) → (g78.tg x = 0) → (f79 x = .inr (8, [.ref q1, .ref q9, .int (nI 0), .ref q20, .ref q26, .ref q32, .ref q40, .ref q48, .int (nI 0), .int (nI 0), .int (nI 0), .int (nI 0), .int (nI 0)])) → (q1 ∈ g78.LP) → (g78.tg q1 = 7) → (g78.tn q1 = 0) → (PG0 g78 f79 q1) → (q9 ∈ g78.LP) → (g78.tg q9 = 2) → (g78.tn q9 = 0) → (q20 ∈ g78.LP) → (g78.tg q20 = 27) → (f79 q20 = .inl (g78.ac q20, 10, .inr (.inl (fun _ => nL 0)))) → (g78.tys[g78.tn q20]? = some (g78.ac q20, .long)) → (q26 ∈ g78.LP) → (g78.tg q26 = 28) → (q32 ∈ g78.LP) → (g78.tg q32 = 5) → (g78.tn q32 = 140) → (q40 ∈ g78.LP) → (g78.tg q40 = 4) → (g78.tn q40 = 0) → (q48 ∈ g78.LP) → (g78.tg q48 = 0) → (f79 q48 = .inl (g78.ac q48, 12, .inr (.inr (.inr (.inr hQ))))) → (g78.tys[g78.tn q48]? = some (g78.ac q48, .object "BigRunner$LongNumber")) → lv_has ls 2 [(1, .int (nI i)), (0, .ref x)] → va_K g78.D vcl g78.tys s → va_P g78.D vcl (va_pl g78.LP f79) H → va_D (pc_A g s.heap.size) (va_pl g78.LP f79) → va_S (pc_A g s.heap.size) s.heap H locs → W p l e ({ frames := 4, cells := 393, slots := 2774, locals := 73 }) s m args below meth c H locs (369 + 2 * i) (2558 + 18 * i) (MQ below (CQ g s.heap.size (fun g1 f1 => EX x g f g1 f1 ∧ LO g1 ∧ IV g1 f1 ∧ g1.tg x = 9 ∧ g1.tn x = k ∧ NT [] g g1 ∧ (∃ pr : Nat, RN0 g1 f1 x pr ∧ g1.tg pr = 7 ∧ pr ∉ g.LP ∧ PG0 g1 f1 pr))) args s 393 2774 (pc_A g s.heap.size)) (F0 m 133 ls []) := by
          intro k80
          induction k80 with
          | zero => intros; exfalso; omega
          | succ k80 ih81 =>
            intro i g78 f79 hQ H locs ls hfu hi hE hN hL hI hEL m_x t_x e_x m_q1 t_q1 n_q1 pg_q1 m_q9 t_q9 n_q9 m_q20 t_q20 e_q20 y_q20 m_q26 t_q26 m_q32 t_q32 n_q32 m_q40 t_q40 n_q40 m_q48 t_q48 e_q48 y_q48 hl hK hP hD hS
            refine lv_iload_n hx hb d_NRunner_init_133 rfl (lv_at hl 0 rfl) ?_
            refine lv_bipush (v := nI 12) hx hb d_NRunner_init_134 (by decide) ?_
            refine lv_icmp_ge (tgt := 158) hx hb d_NRunner_init_136 (by decide) (fun b82 => ?_) (fun b82 => ?_)
            · skip
              replace b82 := (nI_leI (a := 12) (b := i) (by omega) (by omega)).mp b82
              obtain rfl : i = 12 := by omega
              refine W.widen (k := 393) (n := 2774) (by omega) (by omega) ?_
              have hP := va_swap hP e_q48 (fun j hj => (elk_at hEL hj).1)
              have hD : va_D (pc_A g s.heap.size) (va_pl g78.LP (va_up f79 q48 (.inl (g78.ac q48, 12, .inr (.inr (.inr (.inr (fun i => some (elk hQ i))))))))) := va_swapD hD
              obtain ⟨g83, hz0, tT, hlk, htn, hac, hLP, htys, hDD⟩ := ty_mk g78 f79 (va_up f79 q48 (.inl (g78.ac q48, 12, .inr (.inr (.inr (.inr (fun i => some (elk hQ i)))))))) q48 29 (g78.tn q48) (elk hQ) t_q48 m_q48 (fun b hb => va_up_ne _ _ hb)
              have hK : va_K g83.D vcl g83.tys s := by rw [hDD, htys]; exact hK
              have hP : va_P g83.D vcl (va_pl g83.LP (va_up f79 q48 (.inl (g78.ac q48, 12, .inr (.inr (.inr (.inr (fun i => some (elk hQ i))))))))) H := by rw [hDD, hLP]; exact hP
              have hD : va_D (pc_A g s.heap.size) (va_pl g83.LP (va_up f79 q48 (.inl (g78.ac q48, 12, .inr (.inr (.inr (.inr (fun i => some (elk hQ i))))))))) := by rw [hLP]; exact hD
              have hz := hz0.ex
              have e9 : (va_up f79 q48 (.inl (g78.ac q48, 12, .inr (.inr (.inr (.inr (fun i => some (elk hQ i)))))))) q48 = .inl (g83.ac q48, 12, .inr (.inr (.inr (.inr (fun i => some (g83.lk q48 i)))))) := by rw [hlk, hac]; exact va_up_self _ _ _
              generalize (va_up f79 q48 (.inl (g78.ac q48, 12, .inr (.inr (.inr (.inr (fun i => some (elk hQ i)))))))) = f84 at hP hD hz0 hz e9
              have y9 : g83.tys[g83.tn q48]? = some (g83.ac q48, .object "BigRunner$LongNumber") := by rw [htys, htn, hac]; exact y_q48
              have hI := IV_tp hz0 hL hI (oc_29.mk tT e9) (fun z9 => absurd (tT.symm.trans z9) (by decide))
              have hL := LO_tp_29 hz0 hL tT (fun i hi => by rw [hlk]; exact tp_b hz0 (elk_at hEL hi).2.1 (by decide)) y9 (fun i hi => by rw [hlk]; exact (tp_tn hz0 (tp_n hz0 (elk_at hEL hi).2.1 (by decide))).trans ((elk_at hEL hi).2.2.1))
              have hN := (hN.sub (S1 := []) (by decide)).tp hz0 tT (by decide)
              have hE := hE.tr hz (Or.inr o_q48)
              obtain ⟨m_x, t_x, e_x⟩ := hz.kO m_x d_x_q48 t_x e_x
              have n_q1 := hz.kN m_q1 d_q1_q48 n_q1
              have pg_q1 := pg_q1.ex hz m_q1 d_q1_q48
              obtain ⟨m_q1, t_q1⟩ := hz.kT m_q1 d_q1_q48 t_q1
              have n_q9 := hz.kN m_q9 d_q9_q48 n_q9
              obtain ⟨m_q9, t_q9⟩ := hz.kT m_q9 d_q9_q48 t_q9
              obtain ⟨m_q20, t_q20, e_q20, y_q20⟩ := hz.kA m_q20 d_q20_q48 t_q20 e_q20 y_q20
              obtain ⟨m_q26, t_q26⟩ := hz.kT m_q26 d_q26_q48 t_q26
              have n_q32 := hz.kN m_q32 d_q32_q48 n_q32
              obtain ⟨m_q32, t_q32⟩ := hz.kT m_q32 d_q32_q48 t_q32
              have n_q40 := hz.kN m_q40 d_q40_q48 n_q40
              obtain ⟨m_q40, t_q40⟩ := hz.kT m_q40 d_q40_q48 t_q40
              have m_q48 := hz0.2.1
              have t_q48 := tT
              obtain ⟨g85, hz0, tT, hlk, htn, hac, hLP, htys, hDD⟩ := ty_mk g83 f84 f84 x 9 k (fun j9 => if j9 = 1 then q9 else if j9 = 3 then q20 else if j9 = 4 then q26 else if j9 = 5 then q32 else if j9 = 6 then q40 else if j9 = 7 then q48 else 0) t_x m_x (fun _ _ => rfl)
              have hK : va_K g85.D vcl g85.tys s := by rw [hDD, htys]; exact hK
              have hP : va_P g85.D vcl (va_pl g85.LP f84) H := by rw [hDD, hLP]; exact hP
              have hD : va_D (pc_A g s.heap.size) (va_pl g85.LP f84) := by rw [hLP]; exact hD
              have hz := hz0.ex
              have l_1 : g85.lk x 1 = q9 := by rw [hlk]; rfl
              have l_3 : g85.lk x 3 = q20 := by rw [hlk]; rfl
              have l_4 : g85.lk x 4 = q26 := by rw [hlk]; rfl
              have l_5 : g85.lk x 5 = q32 := by rw [hlk]; rfl
              have l_6 : g85.lk x 6 = q40 := by rw [hlk]; rfl
              have l_7 : g85.lk x 7 = q48 := by rw [hlk]; rfl
              have n_q1 := hz.kN m_q1 (Ne.symm d_x_q1) n_q1
              have pg_q1 := pg_q1.ex hz m_q1 (Ne.symm d_x_q1)
              obtain ⟨m_q1, t_q1⟩ := hz.kT m_q1 (Ne.symm d_x_q1) t_q1
              have n_q9 := hz.kN m_q9 (Ne.symm d_x_q9) n_q9
              obtain ⟨m_q9, t_q9⟩ := hz.kT m_q9 (Ne.symm d_x_q9) t_q9
              obtain ⟨m_q20, t_q20, e_q20, y_q20⟩ := hz.kA m_q20 (Ne.symm d_x_q20) t_q20 e_q20 y_q20
              obtain ⟨m_q26, t_q26⟩ := hz.kT m_q26 (Ne.symm d_x_q26) t_q26
              have n_q32 := hz.kN m_q32 (Ne.symm d_x_q32) n_q32
              obtain ⟨m_q32, t_q32⟩ := hz.kT m_q32 (Ne.symm d_x_q32) t_q32
              have n_q40 := hz.kN m_q40 (Ne.symm d_x_q40) n_q40
              obtain ⟨m_q40, t_q40⟩ := hz.kT m_q40 (Ne.symm d_x_q40) t_q40
              obtain ⟨m_q48, t_q48⟩ := hz.kT m_q48 (Ne.symm d_x_q48) t_q48
              have m_x := hz0.2.1
              have oc9 : oc g85 x (f84 x) := oc_9.mk tT ⟨q1, 0, 0, 0, (nI 0), (nI 0), 0, (by rw [l_1, l_3, l_4, l_5, l_6, l_7]; exact e_x), t_q1, (by first | exact Or.inl rfl | exact Or.inr rfl | decide | exact fun z9 => absurd z9 (by decide)), (by first | exact Or.inl rfl | exact Or.inr rfl | decide | exact fun z9 => absurd z9 (by decide)), (by first | exact Or.inl rfl | exact Or.inr rfl | decide | exact fun z9 => absurd z9 (by decide)), (by first | exact Or.inl rfl | exact Or.inr rfl | decide | exact fun z9 => absurd z9 (by decide))⟩
              have hI := IV_tp hz0 hL hI oc9 (fun z9 => absurd (tT.symm.trans z9) (by decide))
              have hL := LO_tp_9 hz0 hL tT (by rw [l_1]; exact t_q9) (by rw [l_3]; exact t_q20) (by rw [l_4]; exact t_q26) (by rw [l_5]; exact t_q32) (by rw [l_6]; exact t_q40) (by rw [l_7]; exact t_q48) (by rw [l_5]; exact n_q32)
              have hN := (hN.sub (S1 := []) (by decide)).tp hz0 tT (by decide)
              have hE := hE.tr hz (Or.inl rfl)
              exact gw_ret hx hb hr hlocks hK hP hD hS d_NRunner_init_158 (by omega) (by omega) ⟨hE, hL, hI, tT, htn, hN, ⟨_, (by unfold RN0; rw [l_1, l_3, l_4, l_5, l_6, l_7]; exact e_x), t_q1, o_q1, pg_q1⟩⟩
            · skip
              replace b82 := mt (nI_leI (a := 12) (b := i) (by omega) (by omega)).mpr b82
              refine lv_aload_n hx hb d_NRunner_init_139 rfl (lv_at hl 1 rfl) ?_
              refine pf_get (v := .ref q48) (C := "BigRunner$Runner") (T := FT8) (N := 13) hx hb (hw8 hB _) (fun _ h9 => h9) hown hK hP m_x e_x rfl 7 (by decide) (wd_339 hB _) rfl d_NRunner_init_140 ?_
              refine lv_iload_n hx hb d_NRunner_init_143 rfl (lv_at hl 0 rfl) ?_
              refine gw_new (ci := 4) (fs := [.int (nI 0), .int (nI 0), .null]) (C := "BigRunner$LongNumber") (T := FT4) (N := 3) hx hb (hw4 hB _) (fun _ h9 => h9) TY4 ok4 hown (wd_310 hB _) (wd_181 hB _) (wd_78 hB _) hK hP hD hS hA hL rfl (fun j hj => by rcases (show j = 0 ∨ j = 1 ∨ j = 2 by omega) with rfl | rfl | rfl <;> rfl) (show _ ≤ 393 by omega) (show _ ≤ 2774 by omega) d_NRunner_init_144 (fun q86 g87 f88 H hz0 t_q86 p_q86 e_q86 hK hP hD hS => ?_)
              have d_x_q86 : x ≠ q86 := fun z9 => p_q86 (z9 ▸ m_x)
              have d_q1_q86 : q1 ≠ q86 := fun z9 => p_q86 (z9 ▸ m_q1)
              have d_q9_q86 : q9 ≠ q86 := fun z9 => p_q86 (z9 ▸ m_q9)
              have d_q20_q86 : q20 ≠ q86 := fun z9 => p_q86 (z9 ▸ m_q20)
              have d_q26_q86 : q26 ≠ q86 := fun z9 => p_q86 (z9 ▸ m_q26)
              have d_q32_q86 : q32 ≠ q86 := fun z9 => p_q86 (z9 ▸ m_q32)
              have d_q40_q86 : q40 ≠ q86 := fun z9 => p_q86 (z9 ▸ m_q40)
              have d_q48_q86 : q48 ≠ q86 := fun z9 => p_q86 (z9 ▸ m_q48)
              have o_q86 := hE.new p_q86
              have hz := hz0.ex
              have hEL := hEL.ex hL (by decide) hz (by rw [hz0.1]; decide)
              have hI := IV_t0 hz0 hL hI t_q86
              have hL := LO_tp_0 hz0 hL t_q86
              have hN := hN.tp hz0 t_q86 (by decide)
              have hE := hE.tr hz (Or.inr o_q86)
              obtain ⟨m_x, t_x, e_x⟩ := hz.kO m_x d_x_q86 t_x e_x
              have n_q1 := hz.kN m_q1 d_q1_q86 n_q1
              have pg_q1 := pg_q1.ex hz m_q1 d_q1_q86
              obtain ⟨m_q1, t_q1⟩ := hz.kT m_q1 d_q1_q86 t_q1
              have n_q9 := hz.kN m_q9 d_q9_q86 n_q9
              obtain ⟨m_q9, t_q9⟩ := hz.kT m_q9 d_q9_q86 t_q9
              obtain ⟨m_q20, t_q20, e_q20, y_q20⟩ := hz.kA m_q20 d_q20_q86 t_q20 e_q20 y_q20
              obtain ⟨m_q26, t_q26⟩ := hz.kT m_q26 d_q26_q86 t_q26
              have n_q32 := hz.kN m_q32 d_q32_q86 n_q32
              obtain ⟨m_q32, t_q32⟩ := hz.kT m_q32 d_q32_q86 t_q32
              have n_q40 := hz.kN m_q40 d_q40_q86 n_q40
              obtain ⟨m_q40, t_q40⟩ := hz.kT m_q40 d_q40_q86 t_q40
              obtain ⟨m_q48, t_q48, e_q48, y_q48⟩ := hz.kA m_q48 d_q48_q86 t_q48 e_q48 y_q48
              have m_q86 := hz0.2.1
              refine W.widen (k := 370 + 2 * i) (n := 2561 + 18 * i) (by omega) (by omega) ?_
              refine lv_dup hx hb d_NRunner_init_147 rfl ?_
              refine gw_call (va_runIN (As := []) (rest := [.ref q86, .int (nI i), .ref q48]) ⟨hx, hb, hml, hown, tb_nil⟩ (g_LongNumber l g87 H.size f88 q86 (120 + i) hL hI m_q86 t_q86 e_q86) ⟨(va_cnB 0 (tb_one (wd_184 hB _)) tb_good1 rfl rfl rfl (va_Nw.of (A := #[]) rfl (wd_312 hB _)) (wd_78 hB _) (by decide +kernel) ⟨Nat.le_of_ble_eq_true rfl, Nat.le_of_ble_eq_true rfl⟩), rfl, (wd_183 hB _)⟩ ⟨pe_bl, pe_pre hB hK hP hD⟩ rfl rfl hl.1 rfl (lv_room (Nat.le_of_ble_eq_true rfl)) d_NRunner_init_148 ⟨(show _ ≤ 393 by omega), (show _ ≤ 2774 by omega)⟩) hA hD hS (fun g89 f90 H locs hq hK hP hD hS => ?_)
              obtain ⟨hz, hL9, hI9, t9_q86, n_q86, hN9⟩ := hq
              have hEL := hEL.ex hL (by decide) hz (by rw [t_q86]; decide)
              have hL := hL9
              have hI := hI9
              have hN := (hN.sub (S1 := []) (by decide)).tr hN9 (by decide)
              have hE := hE.tr hz (Or.inr o_q86)
              obtain ⟨m_x, t_x, e_x⟩ := hz.kO m_x d_x_q86 t_x e_x
              have n_q1 := hz.kN m_q1 d_q1_q86 n_q1
              have pg_q1 := pg_q1.ex hz m_q1 d_q1_q86
              obtain ⟨m_q1, t_q1⟩ := hz.kT m_q1 d_q1_q86 t_q1
              have n_q9 := hz.kN m_q9 d_q9_q86 n_q9
              obtain ⟨m_q9, t_q9⟩ := hz.kT m_q9 d_q9_q86 t_q9
              obtain ⟨m_q20, t_q20, e_q20, y_q20⟩ := hz.kA m_q20 d_q20_q86 t_q20 e_q20 y_q20
              obtain ⟨m_q26, t_q26⟩ := hz.kT m_q26 d_q26_q86 t_q26
              have n_q32 := hz.kN m_q32 d_q32_q86 n_q32
              obtain ⟨m_q32, t_q32⟩ := hz.kT m_q32 d_q32_q86 t_q32
              have n_q40 := hz.kN m_q40 d_q40_q86 n_q40
              obtain ⟨m_q40, t_q40⟩ := hz.kT m_q40 d_q40_q86 t_q40
              obtain ⟨m_q48, t_q48, e_q48, y_q48⟩ := hz.kA m_q48 d_q48_q86 t_q48 e_q48 y_q48
              have m_q86 := hz.mem m_q86
              have t_q86 := t9_q86
              refine W.widen (k := 371 + 2 * i) (n := 2576 + 18 * i) (by omega) (by omega) ?_
              obtain ⟨v91, v92, ez, -⟩ := oc_5.of t_q86 (hI.1 q86)
              refine gw_aast (r := ("BigRunner$LongNumber", FT4, 3)) hx hb hK hP hD hS m_q48 e_q48 y_q48 m_q86 ez rfl (by omega) (by decide) d_NRunner_init_151 (fun f93 H locs e94 k95 hP hD hS => ?_)
              have hz := EX.wr (g := g89) k95
              have hI := IV_w0 hL hI t_q48 k95
              have hE := hE.tr hz (Or.inr o_q48)
              obtain ⟨m_x, t_x, e_x⟩ := hz.kO m_x d_x_q48 t_x e_x
              have n_q1 := hz.kN m_q1 d_q1_q48 n_q1
              have pg_q1 := pg_q1.ex hz m_q1 d_q1_q48
              obtain ⟨m_q1, t_q1⟩ := hz.kT m_q1 d_q1_q48 t_q1
              have n_q9 := hz.kN m_q9 d_q9_q48 n_q9
              obtain ⟨m_q9, t_q9⟩ := hz.kT m_q9 d_q9_q48 t_q9
              obtain ⟨m_q20, t_q20, e_q20, y_q20⟩ := hz.kA m_q20 d_q20_q48 t_q20 e_q20 y_q20
              obtain ⟨m_q26, t_q26⟩ := hz.kT m_q26 d_q26_q48 t_q26
              have n_q32 := hz.kN m_q32 d_q32_q48 n_q32
              obtain ⟨m_q32, t_q32⟩ := hz.kT m_q32 d_q32_q48 t_q32
              have n_q40 := hz.kN m_q40 d_q40_q48 n_q40
              obtain ⟨m_q40, t_q40⟩ := hz.kT m_q40 d_q40_q48 t_q40
              have n_q86 := hz.kN m_q86 (Ne.symm d_q48_q86) n_q86
              obtain ⟨m_q86, t_q86⟩ := hz.kT m_q86 (Ne.symm d_q48_q86) t_q86
              have e_q48 := e94
              have hEL := hEL.sn t_q86 n_q86 o_q86
              refine lv_iinc (k := 0) (v := nI (i + 1)) (lv' := [(1, .int (nI (i + 1))), (0, .ref x)]) hx hb d_NRunner_init_152 hl rfl (by rw [nI_succ]; rfl) (by decide) rfl (fun ls hl => ?_)
              refine lv_goto (tgt := 133) hx hb d_NRunner_init_155 (by decide) ?_
              refine W.widen (k := 369 + 2 * (i + 1)) (n := 2558 + 18 * (i + 1)) (by omega) (by omega) ?_
              exact ih81 (i + 1) g89 f93 _ H locs ls (by omega) (by omega) hE hN hL hI hEL m_x t_x e_x m_q1 t_q1 n_q1 pg_q1 m_q9 t_q9 n_q9 m_q20 t_q20 e_q20 y_q20 m_q26 t_q26 m_q32 t_q32 n_q32 m_q40 t_q40 n_q40 m_q48 t_q48 e_q48 y_q48 hl hK hP hD hS
        exact lp77 13 0 g75 f76 _ H _ ls (by omega) (by omega) hE hN hL hI EL.nil m_x t_x e_x m_q1 t_q1 n_q1 pg_q1 m_q9 t_q9 n_q9 m_q20 t_q20 e_q20 y_q20 m_q26 t_q26 m_q32 t_q32 n_q32 m_q40 t_q40 n_q40 m_q48 t_q48 e_q48 y_q48 hl hK hP hD hS
      · skip
        replace b74 := mt (nI_leI (a := 10) (b := i) (by omega) (by omega)).mpr b74
        refine lv_aload_n hx hb d_NRunner_init_112 rfl (lv_at hl 1 rfl) ?_
        refine pf_get (v := .ref q26) (C := "BigRunner$Runner") (T := FT8) (N := 13) hx hb (hw8 hB _) (fun _ h9 => h9) hown hK hP m_x e_x rfl 4 (by decide) (wd_336 hB _) rfl d_NRunner_init_113 ?_
        refine lv_iload_n hx hb d_NRunner_init_116 rfl (lv_at hl 0 rfl) ?_
        refine gw_new (ci := 4) (fs := [.int (nI 0), .int (nI 0), .null]) (C := "BigRunner$LongNumber") (T := FT4) (N := 3) hx hb (hw4 hB _) (fun _ h9 => h9) TY4 ok4 hown (wd_310 hB _) (wd_181 hB _) (wd_78 hB _) hK hP hD hS hA hL rfl (fun j hj => by rcases (show j = 0 ∨ j = 1 ∨ j = 2 by omega) with rfl | rfl | rfl <;> rfl) (show _ ≤ 393 by omega) (show _ ≤ 2774 by omega) d_NRunner_init_117 (fun q96 g97 f98 H hz0 t_q96 p_q96 e_q96 hK hP hD hS => ?_)
        have d_x_q96 : x ≠ q96 := fun z9 => p_q96 (z9 ▸ m_x)
        have d_q1_q96 : q1 ≠ q96 := fun z9 => p_q96 (z9 ▸ m_q1)
        have d_q9_q96 : q9 ≠ q96 := fun z9 => p_q96 (z9 ▸ m_q9)
        have d_q20_q96 : q20 ≠ q96 := fun z9 => p_q96 (z9 ▸ m_q20)
        have d_q26_q96 : q26 ≠ q96 := fun z9 => p_q96 (z9 ▸ m_q26)
        have d_q32_q96 : q32 ≠ q96 := fun z9 => p_q96 (z9 ▸ m_q32)
        have d_q40_q96 : q40 ≠ q96 := fun z9 => p_q96 (z9 ▸ m_q40)
        have d_q48_q96 : q48 ≠ q96 := fun z9 => p_q96 (z9 ▸ m_q48)
        have o_q96 := hE.new p_q96
        have hz := hz0.ex
        have hEL := hEL.ex hL (by decide) hz (by rw [hz0.1]; decide)
        have hI := IV_t0 hz0 hL hI t_q96
        have hL := LO_tp_0 hz0 hL t_q96
        have hN := hN.tp hz0 t_q96 (by decide)
        have hE := hE.tr hz (Or.inr o_q96)
        obtain ⟨m_x, t_x, e_x⟩ := hz.kO m_x d_x_q96 t_x e_x
        have n_q1 := hz.kN m_q1 d_q1_q96 n_q1
        have pg_q1 := pg_q1.ex hz m_q1 d_q1_q96
        obtain ⟨m_q1, t_q1⟩ := hz.kT m_q1 d_q1_q96 t_q1
        have n_q9 := hz.kN m_q9 d_q9_q96 n_q9
        obtain ⟨m_q9, t_q9⟩ := hz.kT m_q9 d_q9_q96 t_q9
        obtain ⟨m_q20, t_q20, e_q20, y_q20⟩ := hz.kA m_q20 d_q20_q96 t_q20 e_q20 y_q20
        obtain ⟨m_q26, t_q26, e_q26, y_q26⟩ := hz.kA m_q26 d_q26_q96 t_q26 e_q26 y_q26
        have n_q32 := hz.kN m_q32 d_q32_q96 n_q32
        obtain ⟨m_q32, t_q32⟩ := hz.kT m_q32 d_q32_q96 t_q32
        have n_q40 := hz.kN m_q40 d_q40_q96 n_q40
        obtain ⟨m_q40, t_q40⟩ := hz.kT m_q40 d_q40_q96 t_q40
        obtain ⟨m_q48, t_q48, e_q48, y_q48⟩ := hz.kA m_q48 d_q48_q96 t_q48 e_q48 y_q48
        have m_q96 := hz0.2.1
        refine W.widen (k := 350 + 2 * i) (n := 2381 + 18 * i) (by omega) (by omega) ?_
        refine lv_dup hx hb d_NRunner_init_120 rfl ?_
        refine gw_call (va_runIN (As := []) (rest := [.ref q96, .int (nI i), .ref q26]) ⟨hx, hb, hml, hown, tb_nil⟩ (g_LongNumber l g97 H.size f98 q96 (100 + i) hL hI m_q96 t_q96 e_q96) ⟨(va_cnB 0 (tb_one (wd_184 hB _)) tb_good1 rfl rfl rfl (va_Nw.of (A := #[]) rfl (wd_312 hB _)) (wd_78 hB _) (by decide +kernel) ⟨Nat.le_of_ble_eq_true rfl, Nat.le_of_ble_eq_true rfl⟩), rfl, (wd_183 hB _)⟩ ⟨pe_bl, pe_pre hB hK hP hD⟩ rfl rfl hl.1 rfl (lv_room (Nat.le_of_ble_eq_true rfl)) d_NRunner_init_121 ⟨(show _ ≤ 393 by omega), (show _ ≤ 2774 by omega)⟩) hA hD hS (fun g99 f100 H locs hq hK hP hD hS => ?_)
        obtain ⟨hz, hL9, hI9, t9_q96, n_q96, hN9⟩ := hq
        have hEL := hEL.ex hL (by decide) hz (by rw [t_q96]; decide)
        have hL := hL9
        have hI := hI9
        have hN := (hN.sub (S1 := []) (by decide)).tr hN9 (by decide)
        have hE := hE.tr hz (Or.inr o_q96)
        obtain ⟨m_x, t_x, e_x⟩ := hz.kO m_x d_x_q96 t_x e_x
        have n_q1 := hz.kN m_q1 d_q1_q96 n_q1
        have pg_q1 := pg_q1.ex hz m_q1 d_q1_q96
        obtain ⟨m_q1, t_q1⟩ := hz.kT m_q1 d_q1_q96 t_q1
        have n_q9 := hz.kN m_q9 d_q9_q96 n_q9
        obtain ⟨m_q9, t_q9⟩ := hz.kT m_q9 d_q9_q96 t_q9
        obtain ⟨m_q20, t_q20, e_q20, y_q20⟩ := hz.kA m_q20 d_q20_q96 t_q20 e_q20 y_q20
        obtain ⟨m_q26, t_q26, e_q26, y_q26⟩ := hz.kA m_q26 d_q26_q96 t_q26 e_q26 y_q26
        have n_q32 := hz.kN m_q32 d_q32_q96 n_q32
        obtain ⟨m_q32, t_q32⟩ := hz.kT m_q32 d_q32_q96 t_q32
        have n_q40 := hz.kN m_q40 d_q40_q96 n_q40
        obtain ⟨m_q40, t_q40⟩ := hz.kT m_q40 d_q40_q96 t_q40
        obtain ⟨m_q48, t_q48, e_q48, y_q48⟩ := hz.kA m_q48 d_q48_q96 t_q48 e_q48 y_q48
        have m_q96 := hz.mem m_q96
        have t_q96 := t9_q96
        refine W.widen (k := 351 + 2 * i) (n := 2396 + 18 * i) (by omega) (by omega) ?_
        obtain ⟨v101, v102, ez, -⟩ := oc_5.of t_q96 (hI.1 q96)
        refine gw_aast (r := ("BigRunner$LongNumber", FT4, 3)) hx hb hK hP hD hS m_q26 e_q26 y_q26 m_q96 ez rfl (by omega) (by decide) d_NRunner_init_124 (fun f103 H locs e104 k105 hP hD hS => ?_)
        have hz := EX.wr (g := g99) k105
        have hI := IV_w0 hL hI t_q26 k105
        have hE := hE.tr hz (Or.inr o_q26)
        obtain ⟨m_x, t_x, e_x⟩ := hz.kO m_x d_x_q26 t_x e_x
        have n_q1 := hz.kN m_q1 d_q1_q26 n_q1
        have pg_q1 := pg_q1.ex hz m_q1 d_q1_q26
        obtain ⟨m_q1, t_q1⟩ := hz.kT m_q1 d_q1_q26 t_q1
        have n_q9 := hz.kN m_q9 d_q9_q26 n_q9
        obtain ⟨m_q9, t_q9⟩ := hz.kT m_q9 d_q9_q26 t_q9
        obtain ⟨m_q20, t_q20, e_q20, y_q20⟩ := hz.kA m_q20 d_q20_q26 t_q20 e_q20 y_q20
        have n_q32 := hz.kN m_q32 (Ne.symm d_q26_q32) n_q32
        obtain ⟨m_q32, t_q32⟩ := hz.kT m_q32 (Ne.symm d_q26_q32) t_q32
        have n_q40 := hz.kN m_q40 (Ne.symm d_q26_q40) n_q40
        obtain ⟨m_q40, t_q40⟩ := hz.kT m_q40 (Ne.symm d_q26_q40) t_q40
        obtain ⟨m_q48, t_q48, e_q48, y_q48⟩ := hz.kA m_q48 (Ne.symm d_q26_q48) t_q48 e_q48 y_q48
        have n_q96 := hz.kN m_q96 (Ne.symm d_q26_q96) n_q96
        obtain ⟨m_q96, t_q96⟩ := hz.kT m_q96 (Ne.symm d_q26_q96) t_q96
        have e_q26 := e104
        have hEL := hEL.sn t_q96 n_q96 o_q96
        refine lv_iinc (k := 0) (v := nI (i + 1)) (lv' := [(1, .int (nI (i + 1))), (0, .ref x)]) hx hb d_NRunner_init_125 hl rfl (by rw [nI_succ]; rfl) (by decide) rfl (fun ls hl => ?_)
        refine lv_goto (tgt := 106) hx hb d_NRunner_init_128 (by decide) ?_
        refine W.widen (k := 349 + 2 * (i + 1)) (n := 2378 + 18 * (i + 1)) (by omega) (by omega) ?_
        exact ih73 (i + 1) g99 f103 _ H locs ls (by omega) (by omega) hE hN hL hI hEL m_x t_x e_x m_q1 t_q1 n_q1 pg_q1 m_q9 t_q9 n_q9 m_q20 t_q20 e_q20 y_q20 m_q26 t_q26 e_q26 y_q26 m_q32 t_q32 n_q32 m_q40 t_q40 n_q40 m_q48 t_q48 e_q48 y_q48 hl hK hP hD hS
  exact lp69 11 0 g49 f66 _ H _ ls (by omega) (by omega) hE hN hL hI EL.nil m_x t_x e_x m_q1 t_q1 n_q1 pg_q1 m_q9 t_q9 n_q9 m_q20 t_q20 e_q20 y_q20 m_q26 t_q26 e_q26 y_q26 m_q32 t_q32 n_q32 m_q40 t_q40 n_q40 m_q48 t_q48 e_q48 y_q48 hl hK hP hD hS
