set_option maxHeartbeats 4000000 in
set_option maxRecDepth 100000 in
theorem g2_Reader (l : Launch) (g : Lay) (sz : Nat) (f : Nat → va_E) (x k : Nat) (hL : LO g) (hI : IV g f) (m_x : x ∈ g.LP) (t_x : g.tg x = 0) (e_x : f x = .inr (7, [.null, .int (nI 0), .int (nI 0), .null])) : Met l ⟨"BigRunner$Reader", "<init>", "()V"⟩ [Cond.code ⟨"BigRunner$Reader", "<init>", "()V"⟩ prog_8_method_1_code 1 none] ({ frames := 4, cells := 340, slots := 2270, locals := 73 }) (va_Pc [.ref x] (pc_in g sz f)) (CQ g sz (fun g1 f1 => EX x g f g1 f1 ∧ LO g1 ∧ IV g1 f1 ∧ g1.tg x = 8 ∧ g1.tn x = k ∧ NT [] g g1 ∧ (∃ (tx : Value) (PR q : Nat), f1 x = .inr (7, [tx, .int (nI 0), .int (nI 0), .ref PR]) ∧ g1.tg PR = 7 ∧ PR ∉ g.LP ∧ LK5 g1 PR q ∧ g1.tg q = 3 ∧ q ∉ g.LP ∧ f1 q = .inr (2, [.long (-1000000000), .long (nL 1000000000)])))) 340 2270 (pc_A g sz) := by
  refine gw_ofW (cc := prog_8_method_1_code) (maxL := 1) (ret := none) (lv := [(0, .ref x)]) (by decide) rfl (Nat.le_of_ble_eq_true rfl) rfl ?_
  intro p e s m args below meth c ls hx hb hr hml hlocks hown hin hB hP hK hD hsz hS hl hA
  subst hsz
  have hL0 := hL
  have tx0 := t_x
  have hE : EX x g f g f := EX.rf
  have hN : NT [] g g := NT.rf
  refine lv_aload_n hx hb d_NReader_init_0 rfl (lv_at hl 0 rfl) ?_
  refine W.objInit hx hb hown (wd_108 hB _) (wd_101 hB _) (wd_102 hB _) rfl (by rw [hml]; exact hl.1) rfl d_NReader_init_1 (Nat.le_of_ble_eq_true rfl) (Nat.le_of_ble_eq_true rfl) ?_
  refine W.eq (g2 := F0 m 4 ls []) rfl ?_
  refine lv_aload_n hx hb d_NReader_init_4 rfl (lv_at hl 0 rfl) ?_
  refine lv_iconst (v := nI 0) hx hb d_NReader_init_5 (by decide) ?_
  refine gw_arr (atype := .char) (a0 := (0, .inl (fun _ => nI 0))) (N' := 0) (ty := .char) hx hb (wd_137 hB _) rfl 0 hK hP hD hS hA hL (fun _ => rfl) (by decide +kernel) (by decide +kernel) (by decide +kernel) (Nat.le_of_ble_eq_true rfl) (Nat.le_of_ble_eq_true rfl) d_NReader_init_6 (fun q1 g2 f3 H hz0 t_q1 p_q1 e_q1 y_q1 hK hP hD hS => ?_)
  have d_x_q1 : x ≠ q1 := fun z9 => p_q1 (z9 ▸ m_x)
  have o_q1 := hE.new p_q1
  have hz := hz0.ex
  have hI := IV_t0 hz0 hL hI t_q1
  have hL := LO_tp_0 hz0 hL t_q1
  have hN := hN.tp hz0 t_q1 (by decide)
  have hE := hE.tr hz (Or.inr o_q1)
  obtain ⟨m_x, t_x, e_x⟩ := hz.kO m_x d_x_q1 t_x e_x
  have m_q1 := hz0.2.1
  refine W.widen (k := 1) (n := 0) (by omega) (by omega) ?_
  refine pf_put (v := .ref q1) (ty := (.array .char)) (fs' := [.ref q1, .int (nI 0), .int (nI 0), .null]) (C := "BigRunner$Reader") (T := FT7) (N := 4) hx hb (hw7 hB _) (fun _ h9 => h9) TY7 ok7 nm7 hown hK hP hD hS m_x e_x rfl 0 (by decide) (wd_270 hB _) rfl (by decide +kernel) rfl rfl (Nat.le_of_ble_eq_true rfl) rfl d_NReader_init_8 (fun f4 H locs e5 k6 hP hD hS => ?_)
  have hz := EX.wr (g := g2) k6
  have hI := IV_w0 hL hI t_x k6
  have hE := hE.tr hz (Or.inl rfl)
  obtain ⟨m_q1, t_q1, e_q1, y_q1⟩ := hz.kA m_q1 (Ne.symm d_x_q1) t_q1 e_q1 y_q1
  have e_x := e5
  refine lv_aload_n hx hb d_NReader_init_11 rfl (lv_at hl 0 rfl) ?_
  refine lv_iconst (v := nI 0) hx hb d_NReader_init_12 (by decide) ?_
  refine pf_put (v := .int (nI 0)) (ty := .int) (fs' := [.ref q1, .int (nI 0), .int (nI 0), .null]) (C := "BigRunner$Reader") (T := FT7) (N := 4) hx hb (hw7 hB _) (fun _ h9 => h9) TY7 ok7 nm7 hown hK hP hD hS m_x e_x rfl 1 (by decide) (wd_271 hB _) rfl (by decide +kernel) rfl rfl (Nat.le_of_ble_eq_true rfl) rfl d_NReader_init_13 (fun f7 H locs e8 k9 hP hD hS => ?_)
  have hz := EX.wr (g := g2) k9
  have hI := IV_w0 hL hI t_x k9
  have hE := hE.tr hz (Or.inl rfl)
  obtain ⟨m_q1, t_q1, e_q1, y_q1⟩ := hz.kA m_q1 (Ne.symm d_x_q1) t_q1 e_q1 y_q1
  have e_x := e8
  refine lv_aload_n hx hb d_NReader_init_16 rfl (lv_at hl 0 rfl) ?_
  refine lv_iconst (v := nI 0) hx hb d_NReader_init_17 (by decide) ?_
  refine pf_put (v := .int (nI 0)) (ty := .int) (fs' := [.ref q1, .int (nI 0), .int (nI 0), .null]) (C := "BigRunner$Reader") (T := FT7) (N := 4) hx hb (hw7 hB _) (fun _ h9 => h9) TY7 ok7 nm7 hown hK hP hD hS m_x e_x rfl 2 (by decide) (wd_272 hB _) rfl (by decide +kernel) rfl rfl (Nat.le_of_ble_eq_true rfl) rfl d_NReader_init_18 (fun f10 H locs e11 k12 hP hD hS => ?_)
  have hz := EX.wr (g := g2) k12
  have hI := IV_w0 hL hI t_x k12
  have hE := hE.tr hz (Or.inl rfl)
  obtain ⟨m_q1, t_q1, e_q1, y_q1⟩ := hz.kA m_q1 (Ne.symm d_x_q1) t_q1 e_q1 y_q1
  have e_x := e11
  refine lv_aload_n hx hb d_NReader_init_21 rfl (lv_at hl 0 rfl) ?_
  refine gw_new (ci := 6) (fs := [.null, .int (nI 0), .null, .int (nI 0), .null, .null]) (C := "BigRunner$Program") (T := FT6) (N := 6) hx hb (hw6 hB _) (fun _ h9 => h9) TY6 ok6 hown (wd_109 hB _) (wd_110 hB _) (wd_74 hB _) hK hP hD hS hA hL rfl (fun j hj => by rcases (show j = 0 ∨ j = 1 ∨ j = 2 ∨ j = 3 ∨ j = 4 ∨ j = 5 by omega) with rfl | rfl | rfl | rfl | rfl | rfl <;> rfl) (Nat.le_of_ble_eq_true rfl) (Nat.le_of_ble_eq_true rfl) d_NReader_init_22 (fun q13 g14 f15 H hz0 t_q13 p_q13 e_q13 hK hP hD hS => ?_)
  have d_x_q13 : x ≠ q13 := fun z9 => p_q13 (z9 ▸ m_x)
  have d_q1_q13 : q1 ≠ q13 := fun z9 => p_q13 (z9 ▸ m_q1)
  have o_q13 := hE.new p_q13
  have hz := hz0.ex
  have hI := IV_t0 hz0 hL hI t_q13
  have hL := LO_tp_0 hz0 hL t_q13
  have hN := hN.tp hz0 t_q13 (by decide)
  have hE := hE.tr hz (Or.inr o_q13)
  obtain ⟨m_x, t_x, e_x⟩ := hz.kO m_x d_x_q13 t_x e_x
  obtain ⟨m_q1, t_q1, e_q1, y_q1⟩ := hz.kA m_q1 d_q1_q13 t_q1 e_q1 y_q1
  have m_q13 := hz0.2.1
  refine W.widen (k := 2) (n := 6) (by omega) (by omega) ?_
  refine lv_dup hx hb d_NReader_init_25 rfl ?_
  have hEo := hE
  have mo_x := m_x
  have mo_q1 := m_q1
  have mo_q13 := m_q13
  refine gw_call (va_runI (As := []) (rest := [.ref q13, .ref x]) ⟨hx, hb, hml, hown, tb_nil⟩ (g2_Program l g14 H.size f15 q13 0 hL hI m_q13 t_q13 e_q13) ⟨(callB_of 0 (tb_one (wd_113 hB _)) tb_good1 rfl rfl rfl (wd_74 hB _) (wd_111 hB _) (by decide +kernel) ⟨Nat.le_of_ble_eq_true rfl, Nat.le_of_ble_eq_true rfl⟩), rfl, (wd_112 hB _)⟩ ⟨pe_bl, pe_pre hB hK hP hD⟩ rfl rfl hl.1 rfl (lv_room (Nat.le_of_ble_eq_true rfl)) d_NReader_init_26 ⟨(Nat.le_of_ble_eq_true rfl), (Nat.le_of_ble_eq_true rfl)⟩) hA hD hS (fun g16 f17 H locs hq hK hP hD hS => ?_)
  obtain ⟨hz, hL9, hI9, t9_q13, n_q13, hN9, pg_q13, rd_q13⟩ := hq
  have hL := hL9
  have hI := hI9
  have hN := (hN.sub (S1 := []) (by decide)).tr hN9 (by decide)
  have hE := hE.tr hz (Or.inr o_q13)
  obtain ⟨m_x, t_x, e_x⟩ := hz.kO m_x d_x_q13 t_x e_x
  obtain ⟨m_q1, t_q1, e_q1, y_q1⟩ := hz.kA m_q1 d_q1_q13 t_q1 e_q1 y_q1
  have m_q13 := hz.mem m_q13
  have t_q13 := t9_q13
  obtain ⟨qo18, lk_q13, t9_qo18, or_qo18, e_qo18⟩ := rd_q13
  have t_qo18 := t9_qo18
  have m_qo18 := lo_in hL t_qo18 (by decide)
  have d_x_qo18 : x ≠ qo18 := fun z9 => or_qo18 (z9 ▸ mo_x)
  have d_q1_qo18 : q1 ≠ qo18 := fun z9 => or_qo18 (z9 ▸ mo_q1)
  have d_q13_qo18 : q13 ≠ qo18 := fun z9 => absurd (t_q13.symm.trans ((congrArg _ z9).trans t_qo18)) (by decide)
  have o_qo18 : qo18 ∉ g.LP := fun z9 => or_qo18 (hEo.mem z9)
  refine W.widen (k := 340) (n := 2270) (by omega) (by omega) ?_
  refine pf_put (v := .ref q13) (ty := (.object "BigRunner$Program")) (fs' := [.ref q1, .int (nI 0), .int (nI 0), .ref q13]) (C := "BigRunner$Reader") (T := FT7) (N := 4) hx hb (hw7 hB _) (fun _ h9 => h9) TY7 ok7 nm7 hown hK hP hD hS m_x e_x rfl 3 (by decide) (wd_273 hB _) rfl (by decide +kernel) rfl rfl (Nat.le_of_ble_eq_true rfl) rfl d_NReader_init_29 (fun f19 H locs e20 k21 hP hD hS => ?_)
  have hz := EX.wr (g := g16) k21
  have hI := IV_w0 hL hI t_x k21
  have hE := hE.tr hz (Or.inl rfl)
  obtain ⟨m_q1, t_q1, e_q1, y_q1⟩ := hz.kA m_q1 (Ne.symm d_x_q1) t_q1 e_q1 y_q1
  have n_q13 := hz.kN m_q13 (Ne.symm d_x_q13) n_q13
  have pg_q13 := pg_q13.ex hz m_q13 (Ne.symm d_x_q13)
  have lk_q13 := lk_q13.ex hz m_q13 (Ne.symm d_x_q13)
  obtain ⟨m_q13, t_q13⟩ := hz.kT m_q13 (Ne.symm d_x_q13) t_q13
  obtain ⟨m_qo18, t_qo18, e_qo18⟩ := hz.kO m_qo18 (Ne.symm d_x_qo18) t_qo18 e_qo18
  have e_x := e20
  obtain ⟨g22, hz0, tT, hlk, htn, hac, hLP, htys, hDD⟩ := ty_mk g16 f19 f19 x 8 k (fun j9 => 0) t_x m_x (fun _ _ => rfl)
  have hK : va_K g22.D vcl g22.tys s := by rw [hDD, htys]; exact hK
  have hP : va_P g22.D vcl (va_pl g22.LP f19) H := by rw [hDD, hLP]; exact hP
  have hD : va_D (pc_A g s.heap.size) (va_pl g22.LP f19) := by rw [hLP]; exact hD
  have hz := hz0.ex
  obtain ⟨m_q1, t_q1, e_q1, y_q1⟩ := hz.kA m_q1 (Ne.symm d_x_q1) t_q1 e_q1 y_q1
  have n_q13 := hz.kN m_q13 (Ne.symm d_x_q13) n_q13
  have pg_q13 := pg_q13.ex hz m_q13 (Ne.symm d_x_q13)
  have lk_q13 := lk_q13.ex hz m_q13 (Ne.symm d_x_q13)
  obtain ⟨m_q13, t_q13⟩ := hz.kT m_q13 (Ne.symm d_x_q13) t_q13
  obtain ⟨m_qo18, t_qo18, e_qo18⟩ := hz.kO m_qo18 (Ne.symm d_x_qo18) t_qo18 e_qo18
  have m_x := hz0.2.1
  have oc9 : oc g22 x (f19 x) := oc_8.mk tT ⟨(.ref q1), 0, 0, q13, e_x, (by first | exact Or.inl rfl | exact Or.inr rfl | decide | exact fun z9 => absurd z9 (by decide)), (by first | exact Or.inl rfl | exact Or.inr rfl | decide | exact fun z9 => absurd z9 (by decide)), t_q13⟩
  have hI := IV_tp hz0 hL hI oc9 (fun z9 => absurd (tT.symm.trans z9) (by decide))
  have hL := LO_tp_8 hz0 hL tT 
  have hN := (hN.sub (S1 := []) (by decide)).tp hz0 tT (by decide)
  have hE := hE.tr hz (Or.inl rfl)
  exact gw_ret hx hb hr hlocks hK hP hD hS d_NReader_init_32 (by omega) (by omega) ⟨hE, hL, hI, tT, htn, hN, ⟨_, _, _, e_x, t_q13, o_q13, lk_q13, t_qo18, o_qo18, e_qo18⟩⟩
