def IN0 (g : Lay) (f : Nat → va_E) (x : Nat) : Prop := f x = .inr (1, [.ref (g.lk x 0), .int (nI 0), .int (nI 0)])
theorem IN0.ex {g g1 : Lay} {f f1 : Nat → va_E} {X z : Nat} (h : IN0 g f X) (hz : EX z g f g1 f1) (hm : X ∈ g.LP) (hn : X ≠ z) : IN0 g1 f1 X := by
  obtain ⟨a1, a2, a3, a4, a5⟩ := hz.2.2.2 X hm hn
  unfold IN0
  rw [a5, a2]
  exact h
def LK1 (g : Lay) (P q : Nat) : Prop := g.lk P 1 = q
theorem LK1.ex {g g1 : Lay} {f f1 : Nat → va_E} {P q z : Nat} (h : LK1 g P q) (hz : EX z g f g1 f1) (hm : P ∈ g.LP) (hn : P ≠ z) : LK1 g1 P q := by
  unfold LK1
  rw [(hz.2.2.2 P hm hn).2.1]
  exact h
set_option maxHeartbeats 4000000 in
set_option maxRecDepth 100000 in
theorem g6_Inputs (l : Launch) (g : Lay) (sz : Nat) (f : Nat → va_E) (x k : Nat) (hL : LO g) (hI : IV g f) (m_x : x ∈ g.LP) (t_x : g.tg x = 0) (e_x : f x = .inr (1, [.null, .int (nI 0), .int (nI 0)])) : Met l ⟨"BigRunner$Inputs", "<init>", "()V"⟩ [Cond.code ⟨"BigRunner$Inputs", "<init>", "()V"⟩ prog_2_method_1_code 1 none] ({ frames := 1, cells := 1, slots := 20, locals := 12 }) (va_Pc [.ref x] (pc_in g sz f)) (CQ g sz (fun g1 f1 => EX x g f g1 f1 ∧ LO g1 ∧ IV g1 f1 ∧ g1.tg x = 2 ∧ g1.tn x = k ∧ NT [7, 24, 25] g g1 ∧ (IN0 g1 f1 x))) 1 20 (pc_A g sz) := by
  refine gw_ofW (cc := prog_2_method_1_code) (maxL := 1) (ret := none) (lv := [(0, .ref x)]) (by decide) rfl (Nat.le_of_ble_eq_true rfl) rfl ?_
  intro p e s m args below meth c ls hx hb hr hml hlocks hown hin hB hP hK hD hsz hS hl hA
  subst hsz
  have hL0 := hL
  have tx0 := t_x
  have hE : EX x g f g f := EX.rf
  have hN : NT [7, 24, 25] g g := NT.rf
  refine lv_aload_n hx hb d_NInputs_init_0 rfl (lv_at hl 0 rfl) ?_
  refine W.objInit hx hb hown (wd_297 hB _) (wd_101 hB _) (wd_102 hB _) rfl (by rw [hml]; exact hl.1) rfl d_NInputs_init_1 (Nat.le_of_ble_eq_true rfl) (Nat.le_of_ble_eq_true rfl) ?_
  refine W.eq (g2 := F0 m 4 ls []) rfl ?_
  refine lv_aload_n hx hb d_NInputs_init_4 rfl (lv_at hl 0 rfl) ?_
  refine lv_bipush (v := nI 20) hx hb d_NInputs_init_5 (by decide) ?_
  refine gw_arr (atype := .int) (a0 := (20, .inl (fun _ => nI 0))) (N' := 20) (ty := .int) hx hb (wd_201 hB _) rfl 21 hK hP hD hS hA hL (fun _ => rfl) (by decide +kernel) (by decide +kernel) (by decide +kernel) (Nat.le_of_ble_eq_true rfl) (Nat.le_of_ble_eq_true rfl) d_NInputs_init_7 (fun q1 g2 f3 H hz0 t_q1 p_q1 e_q1 y_q1 hK hP hD hS => ?_)
  have d_x_q1 : x ≠ q1 := fun z9 => p_q1 (z9 ▸ m_x)
  have o_q1 := hE.new p_q1
  have hz := hz0.ex
  have hI := IV_tp hz0 hL hI (oc_21.mk t_q1 ⟨_, e_q1⟩) (fun z9 => absurd (t_q1.symm.trans z9) (by decide))
  have hL := LO_tp_21 hz0 hL t_q1 y_q1
  have hN := hN.tp hz0 t_q1 (by decide)
  have hE := hE.tr hz (Or.inr o_q1)
  obtain ⟨m_x, t_x, e_x⟩ := hz.kO m_x d_x_q1 t_x e_x
  have m_q1 := hz0.2.1
  refine W.widen (k := 1) (n := 20) (by omega) (by omega) ?_
  refine gw_putF (v := .ref q1) (ty := (.array .int)) (fs' := [.ref q1, .int (nI 0), .int (nI 0)]) (C := "BigRunner$Inputs") (T := FT1) (N := 3) hx hb (hw1 hB _) (fun _ h9 => h9) TY1 ok1 nm1 hown hK hP hD hS m_x e_x rfl 0 (by decide) (wd_298 hB _) rfl hin rfl (by decide +kernel) rfl rfl (Nat.le_of_ble_eq_true rfl) rfl d_NInputs_init_9 (fun f4 H locs e5 k6 hP hD hS => ?_)
  have hz := EX.wr (g := g2) k6
  have hI := IV_w0 hL hI t_x k6
  have hE := hE.tr hz (Or.inl rfl)
  obtain ⟨m_q1, t_q1, e_q1, y_q1⟩ := hz.kA m_q1 (Ne.symm d_x_q1) t_q1 e_q1 y_q1
  have e_x := e5
  refine lv_aload_n hx hb d_NInputs_init_12 rfl (lv_at hl 0 rfl) ?_
  refine lv_iconst (v := nI 0) hx hb d_NInputs_init_13 (by decide) ?_
  refine pf_put (v := .int (nI 0)) (ty := .int) (fs' := [.ref q1, .int (nI 0), .int (nI 0)]) (C := "BigRunner$Inputs") (T := FT1) (N := 3) hx hb (hw1 hB _) (fun _ h9 => h9) TY1 ok1 nm1 hown hK hP hD hS m_x e_x rfl 1 (by decide) (wd_299 hB _) rfl (by decide +kernel) rfl rfl (Nat.le_of_ble_eq_true rfl) rfl d_NInputs_init_14 (fun f7 H locs e8 k9 hP hD hS => ?_)
  have hz := EX.wr (g := g2) k9
  have hI := IV_w0 hL hI t_x k9
  have hE := hE.tr hz (Or.inl rfl)
  obtain ⟨m_q1, t_q1, e_q1, y_q1⟩ := hz.kA m_q1 (Ne.symm d_x_q1) t_q1 e_q1 y_q1
  have e_x := e8
  refine lv_aload_n hx hb d_NInputs_init_17 rfl (lv_at hl 0 rfl) ?_
  refine lv_iconst (v := nI 0) hx hb d_NInputs_init_18 (by decide) ?_
  refine pf_put (v := .int (nI 0)) (ty := .int) (fs' := [.ref q1, .int (nI 0), .int (nI 0)]) (C := "BigRunner$Inputs") (T := FT1) (N := 3) hx hb (hw1 hB _) (fun _ h9 => h9) TY1 ok1 nm1 hown hK hP hD hS m_x e_x rfl 2 (by decide) (wd_300 hB _) rfl (by decide +kernel) rfl rfl (Nat.le_of_ble_eq_true rfl) rfl d_NInputs_init_19 (fun f10 H locs e11 k12 hP hD hS => ?_)
  have hz := EX.wr (g := g2) k12
  have hI := IV_w0 hL hI t_x k12
  have hE := hE.tr hz (Or.inl rfl)
  obtain ⟨m_q1, t_q1, e_q1, y_q1⟩ := hz.kA m_q1 (Ne.symm d_x_q1) t_q1 e_q1 y_q1
  have e_x := e11
  obtain ⟨g13, hz0, tT, hlk, htn, hac, hLP, htys, hDD⟩ := ty_mk g2 f10 f10 x 2 k (fun j9 => if j9 = 0 then q1 else 0) t_x m_x (fun _ _ => rfl)
  have hK : va_K g13.D vcl g13.tys s := by rw [hDD, htys]; exact hK
  have hP : va_P g13.D vcl (va_pl g13.LP f10) H := by rw [hDD, hLP]; exact hP
  have hD : va_D (pc_A g s.heap.size) (va_pl g13.LP f10) := by rw [hLP]; exact hD
  have hz := hz0.ex
  have l_0 : g13.lk x 0 = q1 := by rw [hlk]; rfl
  obtain ⟨m_q1, t_q1, e_q1, y_q1⟩ := hz.kA m_q1 (Ne.symm d_x_q1) t_q1 e_q1 y_q1
  have m_x := hz0.2.1
  have oc9 : oc g13 x (f10 x) := oc_2.mk tT ⟨0, 0, (by rw [l_0]; exact e_x), (by first | exact Or.inl rfl | exact Or.inr rfl | decide | exact fun z9 => absurd z9 (by decide)), (by first | exact Or.inl rfl | exact Or.inr rfl | decide | exact fun z9 => absurd z9 (by decide))⟩
  have hI := IV_tp hz0 hL hI oc9 (fun z9 => absurd (tT.symm.trans z9) (by decide))
  have hL := LO_tp_2 hz0 hL tT (by rw [l_0]; exact t_q1)
  have hN := (hN.sub (S1 := [7, 24, 25]) (by decide)).tp hz0 tT (by decide)
  have hE := hE.tr hz (Or.inl rfl)
  exact gw_ret hx hb hr hlocks hK hP hD hS d_NInputs_init_22 (by omega) (by omega) ⟨hE, hL, hI, tT, htn, hN, (by unfold IN0; rw [l_0]; exact e_x)⟩
set_option maxHeartbeats 4000000 in
set_option maxRecDepth 100000 in
theorem g6_Runner (l : Launch) (g : Lay) (sz : Nat) (f : Nat → va_E) (x k : Nat) (hL : LO g) (hI : IV g f) (m_x : x ∈ g.LP) (t_x : g.tg x = 0) (e_x : f x = .inr (8, [.null, .null, .int (nI 0), .null, .null, .null, .null, .null, .int (nI 0), .int (nI 0), .int (nI 0), .int (nI 0), .int (nI 0)])) : Met l ⟨"BigRunner$Runner", "<init>", "()V"⟩ [Cond.code ⟨"BigRunner$Runner", "<init>", "()V"⟩ prog_9_method_1_code 2 none] ({ frames := 4, cells := 393, slots := 2774, locals := 73 }) (va_Pc [.ref x] (pc_in g sz f)) (CQ g sz (fun g1 f1 => EX x g f g1 f1 ∧ LO g1 ∧ IV g1 f1 ∧ g1.tg x = 9 ∧ g1.tn x = k ∧ NT [] g g1 ∧ (∃ pr q u : Nat, RN0 g1 f1 x pr ∧ g1.tg pr = 7 ∧ pr ∉ g.LP ∧ PG0 g1 f1 pr ∧ LK5 g1 pr q ∧ g1.tg q = 3 ∧ q ∉ g.LP ∧ f1 q = .inr (2, [.long (-1000000000), .long (nL 1000000000)]) ∧ LK1 g1 x u ∧ g1.tg u = 2 ∧ u ∉ g.LP ∧ IN0 g1 f1 u))) 393 2774 (pc_A g sz) := by
  refine gw_ofW (cc := prog_9_method_1_code) (maxL := 2) (ret := none) (lv := [(0, .ref x)]) (by decide) rfl (Nat.le_of_ble_eq_true rfl) rfl ?_
  intro p e s m args below meth c ls hx hb hr hml hlocks hown hin hB hP hK hD hsz hS hl hA
  subst hsz
  have hL0 := hL
  have tx0 := t_x
  have hE : EX x g f g f := EX.rf
  have hN : NT [] g g := NT.rf
  refine lv_aload_n hx hb d_NRunner_init_0 rfl (lv_at hl 0 rfl) ?_
  refine W.objInit hx hb hown (wd_289 hB _) (wd_101 hB _) (wd_102 hB _) rfl (by rw [hml]; exact hl.1) rfl d_NRunner_init_1 (Nat.le_of_ble_eq_true rfl) (Nat.le_of_ble_eq_true rfl) ?_
  refine W.eq (g2 := F0 m 4 ls []) rfl ?_
  refine lv_aload_n hx hb d_NRunner_init_4 rfl (lv_at hl 0 rfl) ?_
  refine gw_new (ci := 6) (fs := [.null, .int (nI 0), .null, .int (nI 0), .null, .null]) (C := "BigRunner$Program") (T := FT6) (N := 6) hx hb (hw6 hB _) (fun _ h9 => h9) TY6 ok6 hown (wd_290 hB _) (wd_110 hB _) (wd_74 hB _) hK hP hD hS hA hL rfl (fun j hj => by rcases (show j = 0 ∨ j = 1 ∨ j = 2 ∨ j = 3 ∨ j = 4 ∨ j = 5 by omega) with rfl | rfl | rfl | rfl | rfl | rfl <;> rfl) (Nat.le_of_ble_eq_true rfl) (Nat.le_of_ble_eq_true rfl) d_NRunner_init_5 (fun q1 g2 f3 H hz0 t_q1 p_q1 e_q1 hK hP hD hS => ?_)
  have d_x_q1 : x ≠ q1 := fun z9 => p_q1 (z9 ▸ m_x)
  have o_q1 := hE.new p_q1
  have hz := hz0.ex
  have hI := IV_t0 hz0 hL hI t_q1
  have hL := LO_tp_0 hz0 hL t_q1
  have hN := hN.tp hz0 t_q1 (by decide)
  have hE := hE.tr hz (Or.inr o_q1)
  obtain ⟨m_x, t_x, e_x⟩ := hz.kO m_x d_x_q1 t_x e_x
  have m_q1 := hz0.2.1
  refine W.widen (k := 1) (n := 6) (by omega) (by omega) ?_
  refine lv_dup hx hb d_NRunner_init_8 rfl ?_
  have hEo := hE
  have mo_x := m_x
  have mo_q1 := m_q1
  refine gw_call (va_runI (As := []) (rest := [.ref q1, .ref x]) ⟨hx, hb, hml, hown, tb_nil⟩ (g2_Program l g2 H.size f3 q1 0 hL hI m_q1 t_q1 e_q1) ⟨(callB_of 0 (tb_one (wd_113 hB _)) tb_good1 rfl rfl rfl (wd_74 hB _) (wd_291 hB _) (by decide +kernel) ⟨Nat.le_of_ble_eq_true rfl, Nat.le_of_ble_eq_true rfl⟩), rfl, (wd_112 hB _)⟩ ⟨pe_bl, pe_pre hB hK hP hD⟩ rfl rfl hl.1 rfl (lv_room (Nat.le_of_ble_eq_true rfl)) d_NRunner_init_9 ⟨(Nat.le_of_ble_eq_true rfl), (Nat.le_of_ble_eq_true rfl)⟩) hA hD hS (fun g4 f5 H locs hq hK hP hD hS => ?_)
  obtain ⟨hz, hL9, hI9, t9_q1, n_q1, hN9, pg_q1, rd_q1⟩ := hq
  have hL := hL9
  have hI := hI9
  have hN := (hN.sub (S1 := []) (by decide)).tr hN9 (by decide)
  have hE := hE.tr hz (Or.inr o_q1)
  obtain ⟨m_x, t_x, e_x⟩ := hz.kO m_x d_x_q1 t_x e_x
  have m_q1 := hz.mem m_q1
  have t_q1 := t9_q1
  obtain ⟨qo6, lk_q1, t9_qo6, or_qo6, e_qo6⟩ := rd_q1
  have t_qo6 := t9_qo6
  have m_qo6 := lo_in hL t_qo6 (by decide)
  have d_x_qo6 : x ≠ qo6 := fun z9 => or_qo6 (z9 ▸ mo_x)
  have d_q1_qo6 : q1 ≠ qo6 := fun z9 => absurd (t_q1.symm.trans ((congrArg _ z9).trans t_qo6)) (by decide)
  have o_qo6 : qo6 ∉ g.LP := fun z9 => or_qo6 (hEo.mem z9)
  refine W.widen (k := 339) (n := 2270) (by omega) (by omega) ?_
  refine pf_put (v := .ref q1) (ty := (.object "BigRunner$Program")) (fs' := [.ref q1, .null, .int (nI 0), .null, .null, .null, .null, .null, .int (nI 0), .int (nI 0), .int (nI 0), .int (nI 0), .int (nI 0)]) (C := "BigRunner$Runner") (T := FT8) (N := 13) hx hb (hw8 hB _) (fun _ h9 => h9) TY8 ok8 nm8 hown hK hP hD hS m_x e_x rfl 0 (by decide) (wd_330 hB _) rfl (by decide +kernel) rfl rfl (Nat.le_of_ble_eq_true rfl) rfl d_NRunner_init_12 (fun f7 H locs e8 k9 hP hD hS => ?_)
  have hz := EX.wr (g := g4) k9
  have hI := IV_w0 hL hI t_x k9
  have hE := hE.tr hz (Or.inl rfl)
  have n_q1 := hz.kN m_q1 (Ne.symm d_x_q1) n_q1
  have pg_q1 := pg_q1.ex hz m_q1 (Ne.symm d_x_q1)
  have lk_q1 := lk_q1.ex hz m_q1 (Ne.symm d_x_q1)
  obtain ⟨m_q1, t_q1⟩ := hz.kT m_q1 (Ne.symm d_x_q1) t_q1
  obtain ⟨m_qo6, t_qo6, e_qo6⟩ := hz.kO m_qo6 (Ne.symm d_x_qo6) t_qo6 e_qo6
  have e_x := e8
  refine lv_aload_n hx hb d_NRunner_init_15 rfl (lv_at hl 0 rfl) ?_
  refine gw_new (ci := 1) (fs := [.null, .int (nI 0), .int (nI 0)]) (C := "BigRunner$Inputs") (T := FT1) (N := 3) hx hb (hw1 hB _) (fun _ h9 => h9) TY1 ok1 hown (wd_292 hB _) (wd_293 hB _) (wd_80 hB _) hK hP hD hS hA hL rfl (fun j hj => by rcases (show j = 0 ∨ j = 1 ∨ j = 2 by omega) with rfl | rfl | rfl <;> rfl) (Nat.le_of_ble_eq_true rfl) (Nat.le_of_ble_eq_true rfl) d_NRunner_init_16 (fun q10 g11 f12 H hz0 t_q10 p_q10 e_q10 hK hP hD hS => ?_)
  have d_x_q10 : x ≠ q10 := fun z9 => p_q10 (z9 ▸ m_x)
  have d_q1_q10 : q1 ≠ q10 := fun z9 => p_q10 (z9 ▸ m_q1)
  have d_qo6_q10 : qo6 ≠ q10 := fun z9 => p_q10 (z9 ▸ m_qo6)
  have o_q10 := hE.new p_q10
  have hz := hz0.ex
  have hI := IV_t0 hz0 hL hI t_q10
  have hL := LO_tp_0 hz0 hL t_q10
  have hN := hN.tp hz0 t_q10 (by decide)
  have hE := hE.tr hz (Or.inr o_q10)
  obtain ⟨m_x, t_x, e_x⟩ := hz.kO m_x d_x_q10 t_x e_x
  have n_q1 := hz.kN m_q1 d_q1_q10 n_q1
  have pg_q1 := pg_q1.ex hz m_q1 d_q1_q10
  have lk_q1 := lk_q1.ex hz m_q1 d_q1_q10
  obtain ⟨m_q1, t_q1⟩ := hz.kT m_q1 d_q1_q10 t_q1
  obtain ⟨m_qo6, t_qo6, e_qo6⟩ := hz.kO m_qo6 d_qo6_q10 t_qo6 e_qo6
  have m_q10 := hz0.2.1
  refine W.widen (k := 340) (n := 2273) (by omega) (by omega) ?_
  refine lv_dup hx hb d_NRunner_init_19 rfl ?_
  refine gw_call (va_runIN (As := []) (rest := [.ref q10, .ref x]) ⟨hx, hb, hml, hown, tb_nil⟩ (g6_Inputs l g11 H.size f12 q10 0 hL hI m_q10 t_q10 e_q10) ⟨(va_cnB 0 (tb_one (wd_296 hB _)) tb_good1 rfl rfl rfl (va_Nw.of (A := #[]) rfl (wd_294 hB _)) (wd_80 hB _) (by decide +kernel) ⟨Nat.le_of_ble_eq_true rfl, Nat.le_of_ble_eq_true rfl⟩), rfl, (wd_295 hB _)⟩ ⟨pe_bl, pe_pre hB hK hP hD⟩ rfl rfl hl.1 rfl (lv_room (Nat.le_of_ble_eq_true rfl)) d_NRunner_init_20 ⟨(Nat.le_of_ble_eq_true rfl), (Nat.le_of_ble_eq_true rfl)⟩) hA hD hS (fun g13 f14 H locs hq hK hP hD hS => ?_)
  obtain ⟨hz, hL9, hI9, t9_q10, n_q10, hN9, in0_q10⟩ := hq
  have hL := hL9
  have hI := hI9
  have hN := (hN.sub (S1 := []) (by decide)).tr hN9 (by decide)
  have hE := hE.tr hz (Or.inr o_q10)
  obtain ⟨m_x, t_x, e_x⟩ := hz.kO m_x d_x_q10 t_x e_x
  have n_q1 := hz.kN m_q1 d_q1_q10 n_q1
  have pg_q1 := pg_q1.ex hz m_q1 d_q1_q10
  have lk_q1 := lk_q1.ex hz m_q1 d_q1_q10
  obtain ⟨m_q1, t_q1⟩ := hz.kT m_q1 d_q1_q10 t_q1
  obtain ⟨m_qo6, t_qo6, e_qo6⟩ := hz.kO m_qo6 d_qo6_q10 t_qo6 e_qo6
  have m_q10 := hz.mem m_q10
  have t_q10 := t9_q10
  refine W.widen (k := 341) (n := 2293) (by omega) (by omega) ?_
  refine gw_putF (v := .ref q10) (ty := (.object "BigRunner$Inputs")) (fs' := [.ref q1, .ref q10, .int (nI 0), .null, .null, .null, .null, .null, .int (nI 0), .int (nI 0), .int (nI 0), .int (nI 0), .int (nI 0)]) (C := "BigRunner$Runner") (T := FT8) (N := 13) hx hb (hw8 hB _) (fun _ h9 => h9) TY8 ok8 nm8 hown hK hP hD hS m_x e_x rfl 1 (by decide) (wd_332 hB _) rfl hin rfl (by decide +kernel) rfl rfl (Nat.le_of_ble_eq_true rfl) rfl d_NRunner_init_23 (fun f15 H locs e16 k17 hP hD hS => ?_)
  have hz := EX.wr (g := g13) k17
  have hI := IV_w0 hL hI t_x k17
  have hE := hE.tr hz (Or.inl rfl)
  have n_q1 := hz.kN m_q1 (Ne.symm d_x_q1) n_q1
  have pg_q1 := pg_q1.ex hz m_q1 (Ne.symm d_x_q1)
  have lk_q1 := lk_q1.ex hz m_q1 (Ne.symm d_x_q1)
  obtain ⟨m_q1, t_q1⟩ := hz.kT m_q1 (Ne.symm d_x_q1) t_q1
  obtain ⟨m_qo6, t_qo6, e_qo6⟩ := hz.kO m_qo6 (Ne.symm d_x_qo6) t_qo6 e_qo6
  have n_q10 := hz.kN m_q10 (Ne.symm d_x_q10) n_q10
  have in0_q10 := in0_q10.ex hz m_q10 (Ne.symm d_x_q10)
  obtain ⟨m_q10, t_q10⟩ := hz.kT m_q10 (Ne.symm d_x_q10) t_q10
  have e_x := e16
  refine lv_aload_n hx hb d_NRunner_init_26 rfl (lv_at hl 0 rfl) ?_
  refine lv_iconst (v := nI 0) hx hb d_NRunner_init_27 (by decide) ?_
  refine pf_put (v := .int (nI 0)) (ty := .int) (fs' := [.ref q1, .ref q10, .int (nI 0), .null, .null, .null, .null, .null, .int (nI 0), .int (nI 0), .int (nI 0), .int (nI 0), .int (nI 0)]) (C := "BigRunner$Runner") (T := FT8) (N := 13) hx hb (hw8 hB _) (fun _ h9 => h9) TY8 ok8 nm8 hown hK hP hD hS m_x e_x rfl 2 (by decide) (wd_334 hB _) rfl (by decide +kernel) rfl rfl (Nat.le_of_ble_eq_true rfl) rfl d_NRunner_init_28 (fun f18 H locs e19 k20 hP hD hS => ?_)
  have hz := EX.wr (g := g13) k20
  have hI := IV_w0 hL hI t_x k20
  have hE := hE.tr hz (Or.inl rfl)
  have n_q1 := hz.kN m_q1 (Ne.symm d_x_q1) n_q1
  have pg_q1 := pg_q1.ex hz m_q1 (Ne.symm d_x_q1)
  have lk_q1 := lk_q1.ex hz m_q1 (Ne.symm d_x_q1)
  obtain ⟨m_q1, t_q1⟩ := hz.kT m_q1 (Ne.symm d_x_q1) t_q1
  obtain ⟨m_qo6, t_qo6, e_qo6⟩ := hz.kO m_qo6 (Ne.symm d_x_qo6) t_qo6 e_qo6
  have n_q10 := hz.kN m_q10 (Ne.symm d_x_q10) n_q10
  have in0_q10 := in0_q10.ex hz m_q10 (Ne.symm d_x_q10)
  obtain ⟨m_q10, t_q10⟩ := hz.kT m_q10 (Ne.symm d_x_q10) t_q10
  have e_x := e19
  refine lv_aload_n hx hb d_NRunner_init_31 rfl (lv_at hl 0 rfl) ?_
  refine lv_bipush (v := nI 10) hx hb d_NRunner_init_32 (by decide) ?_
  refine gw_arr (atype := .long) (a0 := (10, .inr (.inl (fun _ => nL 0)))) (N' := 10) (ty := .long) hx hb (wd_329 hB _) rfl 27 hK hP hD hS hA hL (fun _ => rfl) (by decide +kernel) (by decide +kernel) (by decide +kernel) (Nat.le_of_ble_eq_true rfl) (Nat.le_of_ble_eq_true rfl) d_NRunner_init_34 (fun q21 g22 f23 H hz0 t_q21 p_q21 e_q21 y_q21 hK hP hD hS => ?_)
  have d_x_q21 : x ≠ q21 := fun z9 => p_q21 (z9 ▸ m_x)
  have d_q1_q21 : q1 ≠ q21 := fun z9 => p_q21 (z9 ▸ m_q1)
  have d_qo6_q21 : qo6 ≠ q21 := fun z9 => p_q21 (z9 ▸ m_qo6)
  have d_q10_q21 : q10 ≠ q21 := fun z9 => p_q21 (z9 ▸ m_q10)
  have o_q21 := hE.new p_q21
  have hz := hz0.ex
  have hI := IV_tp hz0 hL hI (oc_27.mk t_q21 ⟨_, e_q21⟩) (fun z9 => absurd (t_q21.symm.trans z9) (by decide))
  have hL := LO_tp_27 hz0 hL t_q21 y_q21
  have hN := hN.tp hz0 t_q21 (by decide)
  have hE := hE.tr hz (Or.inr o_q21)
  obtain ⟨m_x, t_x, e_x⟩ := hz.kO m_x d_x_q21 t_x e_x
  have n_q1 := hz.kN m_q1 d_q1_q21 n_q1
  have pg_q1 := pg_q1.ex hz m_q1 d_q1_q21
  have lk_q1 := lk_q1.ex hz m_q1 d_q1_q21
  obtain ⟨m_q1, t_q1⟩ := hz.kT m_q1 d_q1_q21 t_q1
  obtain ⟨m_qo6, t_qo6, e_qo6⟩ := hz.kO m_qo6 d_qo6_q21 t_qo6 e_qo6
  have n_q10 := hz.kN m_q10 d_q10_q21 n_q10
  have in0_q10 := in0_q10.ex hz m_q10 d_q10_q21
  obtain ⟨m_q10, t_q10⟩ := hz.kT m_q10 d_q10_q21 t_q10
  have m_q21 := hz0.2.1
  refine W.widen (k := 342) (n := 2303) (by omega) (by omega) ?_
  refine gw_putF (v := .ref q21) (ty := (.array .long)) (fs' := [.ref q1, .ref q10, .int (nI 0), .ref q21, .null, .null, .null, .null, .int (nI 0), .int (nI 0), .int (nI 0), .int (nI 0), .int (nI 0)]) (C := "BigRunner$Runner") (T := FT8) (N := 13) hx hb (hw8 hB _) (fun _ h9 => h9) TY8 ok8 nm8 hown hK hP hD hS m_x e_x rfl 3 (by decide) (wd_335 hB _) rfl hin rfl (by decide +kernel) rfl rfl (Nat.le_of_ble_eq_true rfl) rfl d_NRunner_init_36 (fun f24 H locs e25 k26 hP hD hS => ?_)
  have hz := EX.wr (g := g22) k26
  have hI := IV_w0 hL hI t_x k26
  have hE := hE.tr hz (Or.inl rfl)
  have n_q1 := hz.kN m_q1 (Ne.symm d_x_q1) n_q1
  have pg_q1 := pg_q1.ex hz m_q1 (Ne.symm d_x_q1)
  have lk_q1 := lk_q1.ex hz m_q1 (Ne.symm d_x_q1)
  obtain ⟨m_q1, t_q1⟩ := hz.kT m_q1 (Ne.symm d_x_q1) t_q1
  obtain ⟨m_qo6, t_qo6, e_qo6⟩ := hz.kO m_qo6 (Ne.symm d_x_qo6) t_qo6 e_qo6
  have n_q10 := hz.kN m_q10 (Ne.symm d_x_q10) n_q10
  have in0_q10 := in0_q10.ex hz m_q10 (Ne.symm d_x_q10)
  obtain ⟨m_q10, t_q10⟩ := hz.kT m_q10 (Ne.symm d_x_q10) t_q10
  obtain ⟨m_q21, t_q21, e_q21, y_q21⟩ := hz.kA m_q21 (Ne.symm d_x_q21) t_q21 e_q21 y_q21
  have e_x := e25
  refine lv_aload_n hx hb d_NRunner_init_39 rfl (lv_at hl 0 rfl) ?_
  refine lv_bipush (v := nI 10) hx hb d_NRunner_init_40 (by decide) ?_
  refine gw_arq (C := "BigRunner$LongNumber") (N' := 10) hx hb hown (wd_310 hB _) (va_AO.of (A := #[]) (wd_311 hB _)) hK hP hD hS hA hL (by decide +kernel) (by decide +kernel) (by decide +kernel) (Nat.le_of_ble_eq_true rfl) (Nat.le_of_ble_eq_true rfl) d_NRunner_init_42 (fun q27 g28 f29 H hz0 t_q27 p_q27 e_q27 y_q27 hK hP hD hS => ?_)
  have d_x_q27 : x ≠ q27 := fun z9 => p_q27 (z9 ▸ m_x)
  have d_q1_q27 : q1 ≠ q27 := fun z9 => p_q27 (z9 ▸ m_q1)
  have d_qo6_q27 : qo6 ≠ q27 := fun z9 => p_q27 (z9 ▸ m_qo6)
  have d_q10_q27 : q10 ≠ q27 := fun z9 => p_q27 (z9 ▸ m_q10)
  have d_q21_q27 : q21 ≠ q27 := fun z9 => p_q27 (z9 ▸ m_q21)
  have o_q27 := hE.new p_q27
  have hz := hz0.ex
  have hI := IV_t0 hz0 hL hI t_q27
  have hL := LO_tp_0 hz0 hL t_q27
  have hN := hN.tp hz0 t_q27 (by decide)
  have hE := hE.tr hz (Or.inr o_q27)
  obtain ⟨m_x, t_x, e_x⟩ := hz.kO m_x d_x_q27 t_x e_x
  have n_q1 := hz.kN m_q1 d_q1_q27 n_q1
  have pg_q1 := pg_q1.ex hz m_q1 d_q1_q27
  have lk_q1 := lk_q1.ex hz m_q1 d_q1_q27
  obtain ⟨m_q1, t_q1⟩ := hz.kT m_q1 d_q1_q27 t_q1
  obtain ⟨m_qo6, t_qo6, e_qo6⟩ := hz.kO m_qo6 d_qo6_q27 t_qo6 e_qo6
  have n_q10 := hz.kN m_q10 d_q10_q27 n_q10
  have in0_q10 := in0_q10.ex hz m_q10 d_q10_q27
  obtain ⟨m_q10, t_q10⟩ := hz.kT m_q10 d_q10_q27 t_q10
  obtain ⟨m_q21, t_q21, e_q21, y_q21⟩ := hz.kA m_q21 d_q21_q27 t_q21 e_q21 y_q21
  have m_q27 := hz0.2.1
  refine W.widen (k := 343) (n := 2313) (by omega) (by omega) ?_
  refine gw_putF (v := .ref q27) (ty := (.array (.object "BigRunner$LongNumber"))) (fs' := [.ref q1, .ref q10, .int (nI 0), .ref q21, .ref q27, .null, .null, .null, .int (nI 0), .int (nI 0), .int (nI 0), .int (nI 0), .int (nI 0)]) (C := "BigRunner$Runner") (T := FT8) (N := 13) hx hb (hw8 hB _) (fun _ h9 => h9) TY8 ok8 nm8 hown hK hP hD hS m_x e_x rfl 4 (by decide) (wd_336 hB _) rfl hin rfl (by decide +kernel) rfl rfl (Nat.le_of_ble_eq_true rfl) rfl d_NRunner_init_45 (fun f30 H locs e31 k32 hP hD hS => ?_)
  have hz := EX.wr (g := g28) k32
  have hI := IV_w0 hL hI t_x k32
  have hE := hE.tr hz (Or.inl rfl)
  have n_q1 := hz.kN m_q1 (Ne.symm d_x_q1) n_q1
  have pg_q1 := pg_q1.ex hz m_q1 (Ne.symm d_x_q1)
  have lk_q1 := lk_q1.ex hz m_q1 (Ne.symm d_x_q1)
  obtain ⟨m_q1, t_q1⟩ := hz.kT m_q1 (Ne.symm d_x_q1) t_q1
  obtain ⟨m_qo6, t_qo6, e_qo6⟩ := hz.kO m_qo6 (Ne.symm d_x_qo6) t_qo6 e_qo6
  have n_q10 := hz.kN m_q10 (Ne.symm d_x_q10) n_q10
  have in0_q10 := in0_q10.ex hz m_q10 (Ne.symm d_x_q10)
  obtain ⟨m_q10, t_q10⟩ := hz.kT m_q10 (Ne.symm d_x_q10) t_q10
  obtain ⟨m_q21, t_q21, e_q21, y_q21⟩ := hz.kA m_q21 (Ne.symm d_x_q21) t_q21 e_q21 y_q21
  obtain ⟨m_q27, t_q27, e_q27, y_q27⟩ := hz.kA m_q27 (Ne.symm d_x_q27) t_q27 e_q27 y_q27
  have e_x := e31
  refine lv_aload_n hx hb d_NRunner_init_48 rfl (lv_at hl 0 rfl) ?_
  refine gw_new (ci := 4) (fs := [.int (nI 0), .int (nI 0), .null]) (C := "BigRunner$LongNumber") (T := FT4) (N := 3) hx hb (hw4 hB _) (fun _ h9 => h9) TY4 ok4 hown (wd_310 hB _) (wd_181 hB _) (wd_78 hB _) hK hP hD hS hA hL rfl (fun j hj => by rcases (show j = 0 ∨ j = 1 ∨ j = 2 by omega) with rfl | rfl | rfl <;> rfl) (Nat.le_of_ble_eq_true rfl) (Nat.le_of_ble_eq_true rfl) d_NRunner_init_49 (fun q33 g34 f35 H hz0 t_q33 p_q33 e_q33 hK hP hD hS => ?_)
  have d_x_q33 : x ≠ q33 := fun z9 => p_q33 (z9 ▸ m_x)
  have d_q1_q33 : q1 ≠ q33 := fun z9 => p_q33 (z9 ▸ m_q1)
  have d_qo6_q33 : qo6 ≠ q33 := fun z9 => p_q33 (z9 ▸ m_qo6)
  have d_q10_q33 : q10 ≠ q33 := fun z9 => p_q33 (z9 ▸ m_q10)
  have d_q21_q33 : q21 ≠ q33 := fun z9 => p_q33 (z9 ▸ m_q21)
  have d_q27_q33 : q27 ≠ q33 := fun z9 => p_q33 (z9 ▸ m_q27)
  have o_q33 := hE.new p_q33
  have hz := hz0.ex
  have hI := IV_t0 hz0 hL hI t_q33
  have hL := LO_tp_0 hz0 hL t_q33
  have hN := hN.tp hz0 t_q33 (by decide)
  have hE := hE.tr hz (Or.inr o_q33)
  obtain ⟨m_x, t_x, e_x⟩ := hz.kO m_x d_x_q33 t_x e_x
  have n_q1 := hz.kN m_q1 d_q1_q33 n_q1
  have pg_q1 := pg_q1.ex hz m_q1 d_q1_q33
  have lk_q1 := lk_q1.ex hz m_q1 d_q1_q33
  obtain ⟨m_q1, t_q1⟩ := hz.kT m_q1 d_q1_q33 t_q1
  obtain ⟨m_qo6, t_qo6, e_qo6⟩ := hz.kO m_qo6 d_qo6_q33 t_qo6 e_qo6
  have n_q10 := hz.kN m_q10 d_q10_q33 n_q10
  have in0_q10 := in0_q10.ex hz m_q10 d_q10_q33
  obtain ⟨m_q10, t_q10⟩ := hz.kT m_q10 d_q10_q33 t_q10
  obtain ⟨m_q21, t_q21, e_q21, y_q21⟩ := hz.kA m_q21 d_q21_q33 t_q21 e_q21 y_q21
  obtain ⟨m_q27, t_q27, e_q27, y_q27⟩ := hz.kA m_q27 d_q27_q33 t_q27 e_q27 y_q27
  have m_q33 := hz0.2.1
  refine W.widen (k := 344) (n := 2316) (by omega) (by omega) ?_
  refine lv_dup hx hb d_NRunner_init_52 rfl ?_
  refine gw_call (va_runIN (As := []) (rest := [.ref q33, .ref x]) ⟨hx, hb, hml, hown, tb_nil⟩ (g_LongNumber l g34 H.size f35 q33 140 hL hI m_q33 t_q33 e_q33) ⟨(va_cnB 0 (tb_one (wd_184 hB _)) tb_good1 rfl rfl rfl (va_Nw.of (A := #[]) rfl (wd_312 hB _)) (wd_78 hB _) (by decide +kernel) ⟨Nat.le_of_ble_eq_true rfl, Nat.le_of_ble_eq_true rfl⟩), rfl, (wd_183 hB _)⟩ ⟨pe_bl, pe_pre hB hK hP hD⟩ rfl rfl hl.1 rfl (lv_room (Nat.le_of_ble_eq_true rfl)) d_NRunner_init_53 ⟨(Nat.le_of_ble_eq_true rfl), (Nat.le_of_ble_eq_true rfl)⟩) hA hD hS (fun g36 f37 H locs hq hK hP hD hS => ?_)
  obtain ⟨hz, hL9, hI9, t9_q33, n_q33, hN9⟩ := hq
  have hL := hL9
  have hI := hI9
  have hN := (hN.sub (S1 := []) (by decide)).tr hN9 (by decide)
  have hE := hE.tr hz (Or.inr o_q33)
  obtain ⟨m_x, t_x, e_x⟩ := hz.kO m_x d_x_q33 t_x e_x
  have n_q1 := hz.kN m_q1 d_q1_q33 n_q1
  have pg_q1 := pg_q1.ex hz m_q1 d_q1_q33
  have lk_q1 := lk_q1.ex hz m_q1 d_q1_q33
  obtain ⟨m_q1, t_q1⟩ := hz.kT m_q1 d_q1_q33 t_q1
  obtain ⟨m_qo6, t_qo6, e_qo6⟩ := hz.kO m_qo6 d_qo6_q33 t_qo6 e_qo6
  have n_q10 := hz.kN m_q10 d_q10_q33 n_q10
  have in0_q10 := in0_q10.ex hz m_q10 d_q10_q33
  obtain ⟨m_q10, t_q10⟩ := hz.kT m_q10 d_q10_q33 t_q10
  obtain ⟨m_q21, t_q21, e_q21, y_q21⟩ := hz.kA m_q21 d_q21_q33 t_q21 e_q21 y_q21
  obtain ⟨m_q27, t_q27, e_q27, y_q27⟩ := hz.kA m_q27 d_q27_q33 t_q27 e_q27 y_q27
  have m_q33 := hz.mem m_q33
  have t_q33 := t9_q33
  refine W.widen (k := 345) (n := 2331) (by omega) (by omega) ?_
  refine gw_putF (v := .ref q33) (ty := (.object "BigRunner$LongNumber")) (fs' := [.ref q1, .ref q10, .int (nI 0), .ref q21, .ref q27, .ref q33, .null, .null, .int (nI 0), .int (nI 0), .int (nI 0), .int (nI 0), .int (nI 0)]) (C := "BigRunner$Runner") (T := FT8) (N := 13) hx hb (hw8 hB _) (fun _ h9 => h9) TY8 ok8 nm8 hown hK hP hD hS m_x e_x rfl 5 (by decide) (wd_337 hB _) rfl hin rfl (by decide +kernel) rfl rfl (Nat.le_of_ble_eq_true rfl) rfl d_NRunner_init_56 (fun f38 H locs e39 k40 hP hD hS => ?_)
  have hz := EX.wr (g := g36) k40
  have hI := IV_w0 hL hI t_x k40
  have hE := hE.tr hz (Or.inl rfl)
  have n_q1 := hz.kN m_q1 (Ne.symm d_x_q1) n_q1
  have pg_q1 := pg_q1.ex hz m_q1 (Ne.symm d_x_q1)
  have lk_q1 := lk_q1.ex hz m_q1 (Ne.symm d_x_q1)
  obtain ⟨m_q1, t_q1⟩ := hz.kT m_q1 (Ne.symm d_x_q1) t_q1
  obtain ⟨m_qo6, t_qo6, e_qo6⟩ := hz.kO m_qo6 (Ne.symm d_x_qo6) t_qo6 e_qo6
  have n_q10 := hz.kN m_q10 (Ne.symm d_x_q10) n_q10
  have in0_q10 := in0_q10.ex hz m_q10 (Ne.symm d_x_q10)
  obtain ⟨m_q10, t_q10⟩ := hz.kT m_q10 (Ne.symm d_x_q10) t_q10
  obtain ⟨m_q21, t_q21, e_q21, y_q21⟩ := hz.kA m_q21 (Ne.symm d_x_q21) t_q21 e_q21 y_q21
  obtain ⟨m_q27, t_q27, e_q27, y_q27⟩ := hz.kA m_q27 (Ne.symm d_x_q27) t_q27 e_q27 y_q27
  have n_q33 := hz.kN m_q33 (Ne.symm d_x_q33) n_q33
  obtain ⟨m_q33, t_q33⟩ := hz.kT m_q33 (Ne.symm d_x_q33) t_q33
  have e_x := e39
  refine lv_aload_n hx hb d_NRunner_init_59 rfl (lv_at hl 0 rfl) ?_
  refine gw_new (ci := 3) (fs := [.null, .null, .int (nI 0)]) (C := "BigRunner$LongDivision") (T := FT3) (N := 3) hx hb (hw3 hB _) (fun _ h9 => h9) TY3 ok3 hown (wd_313 hB _) (wd_314 hB _) (wd_81 hB _) hK hP hD hS hA hL rfl (fun j hj => by rcases (show j = 0 ∨ j = 1 ∨ j = 2 by omega) with rfl | rfl | rfl <;> rfl) (Nat.le_of_ble_eq_true rfl) (Nat.le_of_ble_eq_true rfl) d_NRunner_init_60 (fun q41 g42 f43 H hz0 t_q41 p_q41 e_q41 hK hP hD hS => ?_)
  have d_x_q41 : x ≠ q41 := fun z9 => p_q41 (z9 ▸ m_x)
  have d_q1_q41 : q1 ≠ q41 := fun z9 => p_q41 (z9 ▸ m_q1)
  have d_qo6_q41 : qo6 ≠ q41 := fun z9 => p_q41 (z9 ▸ m_qo6)
  have d_q10_q41 : q10 ≠ q41 := fun z9 => p_q41 (z9 ▸ m_q10)
  have d_q21_q41 : q21 ≠ q41 := fun z9 => p_q41 (z9 ▸ m_q21)
  have d_q27_q41 : q27 ≠ q41 := fun z9 => p_q41 (z9 ▸ m_q27)
  have d_q33_q41 : q33 ≠ q41 := fun z9 => p_q41 (z9 ▸ m_q33)
  have o_q41 := hE.new p_q41
  have hz := hz0.ex
  have hI := IV_t0 hz0 hL hI t_q41
  have hL := LO_tp_0 hz0 hL t_q41
  have hN := hN.tp hz0 t_q41 (by decide)
  have hE := hE.tr hz (Or.inr o_q41)
  obtain ⟨m_x, t_x, e_x⟩ := hz.kO m_x d_x_q41 t_x e_x
  have n_q1 := hz.kN m_q1 d_q1_q41 n_q1
  have pg_q1 := pg_q1.ex hz m_q1 d_q1_q41
  have lk_q1 := lk_q1.ex hz m_q1 d_q1_q41
  obtain ⟨m_q1, t_q1⟩ := hz.kT m_q1 d_q1_q41 t_q1
  obtain ⟨m_qo6, t_qo6, e_qo6⟩ := hz.kO m_qo6 d_qo6_q41 t_qo6 e_qo6
  have n_q10 := hz.kN m_q10 d_q10_q41 n_q10
  have in0_q10 := in0_q10.ex hz m_q10 d_q10_q41
  obtain ⟨m_q10, t_q10⟩ := hz.kT m_q10 d_q10_q41 t_q10
  obtain ⟨m_q21, t_q21, e_q21, y_q21⟩ := hz.kA m_q21 d_q21_q41 t_q21 e_q21 y_q21
  obtain ⟨m_q27, t_q27, e_q27, y_q27⟩ := hz.kA m_q27 d_q27_q41 t_q27 e_q27 y_q27
  have n_q33 := hz.kN m_q33 d_q33_q41 n_q33
  obtain ⟨m_q33, t_q33⟩ := hz.kT m_q33 d_q33_q41 t_q33
  have m_q41 := hz0.2.1
  refine W.widen (k := 346) (n := 2334) (by omega) (by omega) ?_
  refine lv_dup hx hb d_NRunner_init_63 rfl ?_
  refine gw_call (va_runIN (As := []) (rest := [.ref q41, .ref x]) ⟨hx, hb, hml, hown, tb_nil⟩ (g_LongDivision l g42 H.size f43 q41 0 hL hI m_q41 t_q41 e_q41) ⟨(va_cnB 0 (tb_one (wd_317 hB _)) tb_good1 rfl rfl rfl (va_Nw.of (A := #[]) rfl (wd_315 hB _)) (wd_81 hB _) (by decide +kernel) ⟨Nat.le_of_ble_eq_true rfl, Nat.le_of_ble_eq_true rfl⟩), rfl, (wd_316 hB _)⟩ ⟨pe_bl, pe_pre hB hK hP hD⟩ rfl rfl hl.1 rfl (lv_room (Nat.le_of_ble_eq_true rfl)) d_NRunner_init_64 ⟨(Nat.le_of_ble_eq_true rfl), (Nat.le_of_ble_eq_true rfl)⟩) hA hD hS (fun g44 f45 H locs hq hK hP hD hS => ?_)
  obtain ⟨hz, hL9, hI9, t9_q41, n_q41, hN9⟩ := hq
  have hL := hL9
  have hI := hI9
  have hN := (hN.sub (S1 := []) (by decide)).tr hN9 (by decide)
  have hE := hE.tr hz (Or.inr o_q41)
  obtain ⟨m_x, t_x, e_x⟩ := hz.kO m_x d_x_q41 t_x e_x
  have n_q1 := hz.kN m_q1 d_q1_q41 n_q1
  have pg_q1 := pg_q1.ex hz m_q1 d_q1_q41
  have lk_q1 := lk_q1.ex hz m_q1 d_q1_q41
  obtain ⟨m_q1, t_q1⟩ := hz.kT m_q1 d_q1_q41 t_q1
  obtain ⟨m_qo6, t_qo6, e_qo6⟩ := hz.kO m_qo6 d_qo6_q41 t_qo6 e_qo6
  have n_q10 := hz.kN m_q10 d_q10_q41 n_q10
  have in0_q10 := in0_q10.ex hz m_q10 d_q10_q41
  obtain ⟨m_q10, t_q10⟩ := hz.kT m_q10 d_q10_q41 t_q10
  obtain ⟨m_q21, t_q21, e_q21, y_q21⟩ := hz.kA m_q21 d_q21_q41 t_q21 e_q21 y_q21
  obtain ⟨m_q27, t_q27, e_q27, y_q27⟩ := hz.kA m_q27 d_q27_q41 t_q27 e_q27 y_q27
  have n_q33 := hz.kN m_q33 d_q33_q41 n_q33
  obtain ⟨m_q33, t_q33⟩ := hz.kT m_q33 d_q33_q41 t_q33
  have m_q41 := hz.mem m_q41
  have t_q41 := t9_q41
  refine W.widen (k := 348) (n := 2366) (by omega) (by omega) ?_
  refine gw_putF (v := .ref q41) (ty := (.object "BigRunner$LongDivision")) (fs' := [.ref q1, .ref q10, .int (nI 0), .ref q21, .ref q27, .ref q33, .ref q41, .null, .int (nI 0), .int (nI 0), .int (nI 0), .int (nI 0), .int (nI 0)]) (C := "BigRunner$Runner") (T := FT8) (N := 13) hx hb (hw8 hB _) (fun _ h9 => h9) TY8 ok8 nm8 hown hK hP hD hS m_x e_x rfl 6 (by decide) (wd_338 hB _) rfl hin rfl (by decide +kernel) rfl rfl (Nat.le_of_ble_eq_true rfl) rfl d_NRunner_init_67 (fun f46 H locs e47 k48 hP hD hS => ?_)
  have hz := EX.wr (g := g44) k48
  have hI := IV_w0 hL hI t_x k48
  have hE := hE.tr hz (Or.inl rfl)
  have n_q1 := hz.kN m_q1 (Ne.symm d_x_q1) n_q1
  have pg_q1 := pg_q1.ex hz m_q1 (Ne.symm d_x_q1)
  have lk_q1 := lk_q1.ex hz m_q1 (Ne.symm d_x_q1)
  obtain ⟨m_q1, t_q1⟩ := hz.kT m_q1 (Ne.symm d_x_q1) t_q1
  obtain ⟨m_qo6, t_qo6, e_qo6⟩ := hz.kO m_qo6 (Ne.symm d_x_qo6) t_qo6 e_qo6
  have n_q10 := hz.kN m_q10 (Ne.symm d_x_q10) n_q10
  have in0_q10 := in0_q10.ex hz m_q10 (Ne.symm d_x_q10)
  obtain ⟨m_q10, t_q10⟩ := hz.kT m_q10 (Ne.symm d_x_q10) t_q10
  obtain ⟨m_q21, t_q21, e_q21, y_q21⟩ := hz.kA m_q21 (Ne.symm d_x_q21) t_q21 e_q21 y_q21
  obtain ⟨m_q27, t_q27, e_q27, y_q27⟩ := hz.kA m_q27 (Ne.symm d_x_q27) t_q27 e_q27 y_q27
  have n_q33 := hz.kN m_q33 (Ne.symm d_x_q33) n_q33
  obtain ⟨m_q33, t_q33⟩ := hz.kT m_q33 (Ne.symm d_x_q33) t_q33
  have n_q41 := hz.kN m_q41 (Ne.symm d_x_q41) n_q41
  obtain ⟨m_q41, t_q41⟩ := hz.kT m_q41 (Ne.symm d_x_q41) t_q41
  have e_x := e47
  refine lv_aload_n hx hb d_NRunner_init_70 rfl (lv_at hl 0 rfl) ?_
  refine lv_bipush (v := nI 12) hx hb d_NRunner_init_71 (by decide) ?_
  refine gw_arq (C := "BigRunner$LongNumber") (N' := 12) hx hb hown (wd_310 hB _) (va_AO.of (A := #[]) (wd_311 hB _)) hK hP hD hS hA hL (by decide +kernel) (by decide +kernel) (by decide +kernel) (Nat.le_of_ble_eq_true rfl) (Nat.le_of_ble_eq_true rfl) d_NRunner_init_73 (fun q49 g50 f51 H hz0 t_q49 p_q49 e_q49 y_q49 hK hP hD hS => ?_)
  have d_x_q49 : x ≠ q49 := fun z9 => p_q49 (z9 ▸ m_x)
  have d_q1_q49 : q1 ≠ q49 := fun z9 => p_q49 (z9 ▸ m_q1)
  have d_qo6_q49 : qo6 ≠ q49 := fun z9 => p_q49 (z9 ▸ m_qo6)
  have d_q10_q49 : q10 ≠ q49 := fun z9 => p_q49 (z9 ▸ m_q10)
  have d_q21_q49 : q21 ≠ q49 := fun z9 => p_q49 (z9 ▸ m_q21)
  have d_q27_q49 : q27 ≠ q49 := fun z9 => p_q49 (z9 ▸ m_q27)
  have d_q33_q49 : q33 ≠ q49 := fun z9 => p_q49 (z9 ▸ m_q33)
  have d_q41_q49 : q41 ≠ q49 := fun z9 => p_q49 (z9 ▸ m_q41)
  have o_q49 := hE.new p_q49
  have hz := hz0.ex
  have hI := IV_t0 hz0 hL hI t_q49
  have hL := LO_tp_0 hz0 hL t_q49
  have hN := hN.tp hz0 t_q49 (by decide)
  have hE := hE.tr hz (Or.inr o_q49)
  obtain ⟨m_x, t_x, e_x⟩ := hz.kO m_x d_x_q49 t_x e_x
  have n_q1 := hz.kN m_q1 d_q1_q49 n_q1
  have pg_q1 := pg_q1.ex hz m_q1 d_q1_q49
  have lk_q1 := lk_q1.ex hz m_q1 d_q1_q49
  obtain ⟨m_q1, t_q1⟩ := hz.kT m_q1 d_q1_q49 t_q1
  obtain ⟨m_qo6, t_qo6, e_qo6⟩ := hz.kO m_qo6 d_qo6_q49 t_qo6 e_qo6
  have n_q10 := hz.kN m_q10 d_q10_q49 n_q10
  have in0_q10 := in0_q10.ex hz m_q10 d_q10_q49
  obtain ⟨m_q10, t_q10⟩ := hz.kT m_q10 d_q10_q49 t_q10
  obtain ⟨m_q21, t_q21, e_q21, y_q21⟩ := hz.kA m_q21 d_q21_q49 t_q21 e_q21 y_q21
  obtain ⟨m_q27, t_q27, e_q27, y_q27⟩ := hz.kA m_q27 d_q27_q49 t_q27 e_q27 y_q27
  have n_q33 := hz.kN m_q33 d_q33_q49 n_q33
  obtain ⟨m_q33, t_q33⟩ := hz.kT m_q33 d_q33_q49 t_q33
  have n_q41 := hz.kN m_q41 d_q41_q49 n_q41
  obtain ⟨m_q41, t_q41⟩ := hz.kT m_q41 d_q41_q49 t_q41
  have m_q49 := hz0.2.1
  refine W.widen (k := 349) (n := 2378) (by omega) (by omega) ?_
  refine gw_putF (v := .ref q49) (ty := (.array (.object "BigRunner$LongNumber"))) (fs' := [.ref q1, .ref q10, .int (nI 0), .ref q21, .ref q27, .ref q33, .ref q41, .ref q49, .int (nI 0), .int (nI 0), .int (nI 0), .int (nI 0), .int (nI 0)]) (C := "BigRunner$Runner") (T := FT8) (N := 13) hx hb (hw8 hB _) (fun _ h9 => h9) TY8 ok8 nm8 hown hK hP hD hS m_x e_x rfl 7 (by decide) (wd_339 hB _) rfl hin rfl (by decide +kernel) rfl rfl (Nat.le_of_ble_eq_true rfl) rfl d_NRunner_init_76 (fun f52 H locs e53 k54 hP hD hS => ?_)
  have hz := EX.wr (g := g50) k54
  have hI := IV_w0 hL hI t_x k54
  have hE := hE.tr hz (Or.inl rfl)
  have n_q1 := hz.kN m_q1 (Ne.symm d_x_q1) n_q1
  have pg_q1 := pg_q1.ex hz m_q1 (Ne.symm d_x_q1)
  have lk_q1 := lk_q1.ex hz m_q1 (Ne.symm d_x_q1)
  obtain ⟨m_q1, t_q1⟩ := hz.kT m_q1 (Ne.symm d_x_q1) t_q1
  obtain ⟨m_qo6, t_qo6, e_qo6⟩ := hz.kO m_qo6 (Ne.symm d_x_qo6) t_qo6 e_qo6
  have n_q10 := hz.kN m_q10 (Ne.symm d_x_q10) n_q10
  have in0_q10 := in0_q10.ex hz m_q10 (Ne.symm d_x_q10)
  obtain ⟨m_q10, t_q10⟩ := hz.kT m_q10 (Ne.symm d_x_q10) t_q10
  obtain ⟨m_q21, t_q21, e_q21, y_q21⟩ := hz.kA m_q21 (Ne.symm d_x_q21) t_q21 e_q21 y_q21
  obtain ⟨m_q27, t_q27, e_q27, y_q27⟩ := hz.kA m_q27 (Ne.symm d_x_q27) t_q27 e_q27 y_q27
  have n_q33 := hz.kN m_q33 (Ne.symm d_x_q33) n_q33
  obtain ⟨m_q33, t_q33⟩ := hz.kT m_q33 (Ne.symm d_x_q33) t_q33
  have n_q41 := hz.kN m_q41 (Ne.symm d_x_q41) n_q41
  obtain ⟨m_q41, t_q41⟩ := hz.kT m_q41 (Ne.symm d_x_q41) t_q41
  obtain ⟨m_q49, t_q49, e_q49, y_q49⟩ := hz.kA m_q49 (Ne.symm d_x_q49) t_q49 e_q49 y_q49
  have e_x := e53
  refine lv_aload_n hx hb d_NRunner_init_79 rfl (lv_at hl 0 rfl) ?_
  refine lv_iconst (v := nI 0) hx hb d_NRunner_init_80 (by decide) ?_
  refine pf_put (v := .int (nI 0)) (ty := .int) (fs' := [.ref q1, .ref q10, .int (nI 0), .ref q21, .ref q27, .ref q33, .ref q41, .ref q49, .int (nI 0), .int (nI 0), .int (nI 0), .int (nI 0), .int (nI 0)]) (C := "BigRunner$Runner") (T := FT8) (N := 13) hx hb (hw8 hB _) (fun _ h9 => h9) TY8 ok8 nm8 hown hK hP hD hS m_x e_x rfl 8 (by decide) (wd_341 hB _) rfl (by decide +kernel) rfl rfl (Nat.le_of_ble_eq_true rfl) rfl d_NRunner_init_81 (fun f55 H locs e56 k57 hP hD hS => ?_)
  have hz := EX.wr (g := g50) k57
  have hI := IV_w0 hL hI t_x k57
  have hE := hE.tr hz (Or.inl rfl)
  have n_q1 := hz.kN m_q1 (Ne.symm d_x_q1) n_q1
  have pg_q1 := pg_q1.ex hz m_q1 (Ne.symm d_x_q1)
  have lk_q1 := lk_q1.ex hz m_q1 (Ne.symm d_x_q1)
  obtain ⟨m_q1, t_q1⟩ := hz.kT m_q1 (Ne.symm d_x_q1) t_q1
  obtain ⟨m_qo6, t_qo6, e_qo6⟩ := hz.kO m_qo6 (Ne.symm d_x_qo6) t_qo6 e_qo6
  have n_q10 := hz.kN m_q10 (Ne.symm d_x_q10) n_q10
  have in0_q10 := in0_q10.ex hz m_q10 (Ne.symm d_x_q10)
  obtain ⟨m_q10, t_q10⟩ := hz.kT m_q10 (Ne.symm d_x_q10) t_q10
  obtain ⟨m_q21, t_q21, e_q21, y_q21⟩ := hz.kA m_q21 (Ne.symm d_x_q21) t_q21 e_q21 y_q21
  obtain ⟨m_q27, t_q27, e_q27, y_q27⟩ := hz.kA m_q27 (Ne.symm d_x_q27) t_q27 e_q27 y_q27
  have n_q33 := hz.kN m_q33 (Ne.symm d_x_q33) n_q33
  obtain ⟨m_q33, t_q33⟩ := hz.kT m_q33 (Ne.symm d_x_q33) t_q33
  have n_q41 := hz.kN m_q41 (Ne.symm d_x_q41) n_q41
  obtain ⟨m_q41, t_q41⟩ := hz.kT m_q41 (Ne.symm d_x_q41) t_q41
  obtain ⟨m_q49, t_q49, e_q49, y_q49⟩ := hz.kA m_q49 (Ne.symm d_x_q49) t_q49 e_q49 y_q49
  have e_x := e56
  refine lv_aload_n hx hb d_NRunner_init_84 rfl (lv_at hl 0 rfl) ?_
  refine lv_iconst (v := nI 0) hx hb d_NRunner_init_85 (by decide) ?_
  refine pf_put (v := .int (nI 0)) (ty := .int) (fs' := [.ref q1, .ref q10, .int (nI 0), .ref q21, .ref q27, .ref q33, .ref q41, .ref q49, .int (nI 0), .int (nI 0), .int (nI 0), .int (nI 0), .int (nI 0)]) (C := "BigRunner$Runner") (T := FT8) (N := 13) hx hb (hw8 hB _) (fun _ h9 => h9) TY8 ok8 nm8 hown hK hP hD hS m_x e_x rfl 9 (by decide) (wd_343 hB _) rfl (by decide +kernel) rfl rfl (Nat.le_of_ble_eq_true rfl) rfl d_NRunner_init_86 (fun f58 H locs e59 k60 hP hD hS => ?_)
  have hz := EX.wr (g := g50) k60
  have hI := IV_w0 hL hI t_x k60
  have hE := hE.tr hz (Or.inl rfl)
  have n_q1 := hz.kN m_q1 (Ne.symm d_x_q1) n_q1
  have pg_q1 := pg_q1.ex hz m_q1 (Ne.symm d_x_q1)
  have lk_q1 := lk_q1.ex hz m_q1 (Ne.symm d_x_q1)
  obtain ⟨m_q1, t_q1⟩ := hz.kT m_q1 (Ne.symm d_x_q1) t_q1
  obtain ⟨m_qo6, t_qo6, e_qo6⟩ := hz.kO m_qo6 (Ne.symm d_x_qo6) t_qo6 e_qo6
  have n_q10 := hz.kN m_q10 (Ne.symm d_x_q10) n_q10
  have in0_q10 := in0_q10.ex hz m_q10 (Ne.symm d_x_q10)
  obtain ⟨m_q10, t_q10⟩ := hz.kT m_q10 (Ne.symm d_x_q10) t_q10
  obtain ⟨m_q21, t_q21, e_q21, y_q21⟩ := hz.kA m_q21 (Ne.symm d_x_q21) t_q21 e_q21 y_q21
  obtain ⟨m_q27, t_q27, e_q27, y_q27⟩ := hz.kA m_q27 (Ne.symm d_x_q27) t_q27 e_q27 y_q27
  have n_q33 := hz.kN m_q33 (Ne.symm d_x_q33) n_q33
  obtain ⟨m_q33, t_q33⟩ := hz.kT m_q33 (Ne.symm d_x_q33) t_q33
  have n_q41 := hz.kN m_q41 (Ne.symm d_x_q41) n_q41
  obtain ⟨m_q41, t_q41⟩ := hz.kT m_q41 (Ne.symm d_x_q41) t_q41
  obtain ⟨m_q49, t_q49, e_q49, y_q49⟩ := hz.kA m_q49 (Ne.symm d_x_q49) t_q49 e_q49 y_q49
  have e_x := e59
  refine lv_aload_n hx hb d_NRunner_init_89 rfl (lv_at hl 0 rfl) ?_
  refine lv_iconst (v := nI 0) hx hb d_NRunner_init_90 (by decide) ?_
  refine pf_put (v := .int (nI 0)) (ty := .int) (fs' := [.ref q1, .ref q10, .int (nI 0), .ref q21, .ref q27, .ref q33, .ref q41, .ref q49, .int (nI 0), .int (nI 0), .int (nI 0), .int (nI 0), .int (nI 0)]) (C := "BigRunner$Runner") (T := FT8) (N := 13) hx hb (hw8 hB _) (fun _ h9 => h9) TY8 ok8 nm8 hown hK hP hD hS m_x e_x rfl 10 (by decide) (wd_345 hB _) rfl (by decide +kernel) rfl rfl (Nat.le_of_ble_eq_true rfl) rfl d_NRunner_init_91 (fun f61 H locs e62 k63 hP hD hS => ?_)
  have hz := EX.wr (g := g50) k63
  have hI := IV_w0 hL hI t_x k63
  have hE := hE.tr hz (Or.inl rfl)
  have n_q1 := hz.kN m_q1 (Ne.symm d_x_q1) n_q1
  have pg_q1 := pg_q1.ex hz m_q1 (Ne.symm d_x_q1)
  have lk_q1 := lk_q1.ex hz m_q1 (Ne.symm d_x_q1)
  obtain ⟨m_q1, t_q1⟩ := hz.kT m_q1 (Ne.symm d_x_q1) t_q1
  obtain ⟨m_qo6, t_qo6, e_qo6⟩ := hz.kO m_qo6 (Ne.symm d_x_qo6) t_qo6 e_qo6
  have n_q10 := hz.kN m_q10 (Ne.symm d_x_q10) n_q10
  have in0_q10 := in0_q10.ex hz m_q10 (Ne.symm d_x_q10)
  obtain ⟨m_q10, t_q10⟩ := hz.kT m_q10 (Ne.symm d_x_q10) t_q10
  obtain ⟨m_q21, t_q21, e_q21, y_q21⟩ := hz.kA m_q21 (Ne.symm d_x_q21) t_q21 e_q21 y_q21
  obtain ⟨m_q27, t_q27, e_q27, y_q27⟩ := hz.kA m_q27 (Ne.symm d_x_q27) t_q27 e_q27 y_q27
  have n_q33 := hz.kN m_q33 (Ne.symm d_x_q33) n_q33
  obtain ⟨m_q33, t_q33⟩ := hz.kT m_q33 (Ne.symm d_x_q33) t_q33
  have n_q41 := hz.kN m_q41 (Ne.symm d_x_q41) n_q41
  obtain ⟨m_q41, t_q41⟩ := hz.kT m_q41 (Ne.symm d_x_q41) t_q41
  obtain ⟨m_q49, t_q49, e_q49, y_q49⟩ := hz.kA m_q49 (Ne.symm d_x_q49) t_q49 e_q49 y_q49
  have e_x := e62
  refine lv_aload_n hx hb d_NRunner_init_94 rfl (lv_at hl 0 rfl) ?_
  refine lv_iconst (v := nI 0) hx hb d_NRunner_init_95 (by decide) ?_
  refine pf_put (v := .int (nI 0)) (ty := .int) (fs' := [.ref q1, .ref q10, .int (nI 0), .ref q21, .ref q27, .ref q33, .ref q41, .ref q49, .int (nI 0), .int (nI 0), .int (nI 0), .int (nI 0), .int (nI 0)]) (C := "BigRunner$Runner") (T := FT8) (N := 13) hx hb (hw8 hB _) (fun _ h9 => h9) TY8 ok8 nm8 hown hK hP hD hS m_x e_x rfl 11 (by decide) (wd_347 hB _) rfl (by decide +kernel) rfl rfl (Nat.le_of_ble_eq_true rfl) rfl d_NRunner_init_96 (fun f64 H locs e65 k66 hP hD hS => ?_)
  have hz := EX.wr (g := g50) k66
  have hI := IV_w0 hL hI t_x k66
  have hE := hE.tr hz (Or.inl rfl)
  have n_q1 := hz.kN m_q1 (Ne.symm d_x_q1) n_q1
  have pg_q1 := pg_q1.ex hz m_q1 (Ne.symm d_x_q1)
  have lk_q1 := lk_q1.ex hz m_q1 (Ne.symm d_x_q1)
  obtain ⟨m_q1, t_q1⟩ := hz.kT m_q1 (Ne.symm d_x_q1) t_q1
  obtain ⟨m_qo6, t_qo6, e_qo6⟩ := hz.kO m_qo6 (Ne.symm d_x_qo6) t_qo6 e_qo6
  have n_q10 := hz.kN m_q10 (Ne.symm d_x_q10) n_q10
  have in0_q10 := in0_q10.ex hz m_q10 (Ne.symm d_x_q10)
  obtain ⟨m_q10, t_q10⟩ := hz.kT m_q10 (Ne.symm d_x_q10) t_q10
  obtain ⟨m_q21, t_q21, e_q21, y_q21⟩ := hz.kA m_q21 (Ne.symm d_x_q21) t_q21 e_q21 y_q21
  obtain ⟨m_q27, t_q27, e_q27, y_q27⟩ := hz.kA m_q27 (Ne.symm d_x_q27) t_q27 e_q27 y_q27
  have n_q33 := hz.kN m_q33 (Ne.symm d_x_q33) n_q33
  obtain ⟨m_q33, t_q33⟩ := hz.kT m_q33 (Ne.symm d_x_q33) t_q33
  have n_q41 := hz.kN m_q41 (Ne.symm d_x_q41) n_q41
  obtain ⟨m_q41, t_q41⟩ := hz.kT m_q41 (Ne.symm d_x_q41) t_q41
  obtain ⟨m_q49, t_q49, e_q49, y_q49⟩ := hz.kA m_q49 (Ne.symm d_x_q49) t_q49 e_q49 y_q49
  have e_x := e65
  refine lv_aload_n hx hb d_NRunner_init_99 rfl (lv_at hl 0 rfl) ?_
  refine lv_iconst (v := nI 0) hx hb d_NRunner_init_100 (by decide) ?_
  refine pf_put (v := .int (nI 0)) (ty := .int) (fs' := [.ref q1, .ref q10, .int (nI 0), .ref q21, .ref q27, .ref q33, .ref q41, .ref q49, .int (nI 0), .int (nI 0), .int (nI 0), .int (nI 0), .int (nI 0)]) (C := "BigRunner$Runner") (T := FT8) (N := 13) hx hb (hw8 hB _) (fun _ h9 => h9) TY8 ok8 nm8 hown hK hP hD hS m_x e_x rfl 12 (by decide) (wd_349 hB _) rfl (by decide +kernel) rfl rfl (Nat.le_of_ble_eq_true rfl) rfl d_NRunner_init_101 (fun f67 H locs e68 k69 hP hD hS => ?_)
  have hz := EX.wr (g := g50) k69
  have hI := IV_w0 hL hI t_x k69
  have hE := hE.tr hz (Or.inl rfl)
  have n_q1 := hz.kN m_q1 (Ne.symm d_x_q1) n_q1
  have pg_q1 := pg_q1.ex hz m_q1 (Ne.symm d_x_q1)
  have lk_q1 := lk_q1.ex hz m_q1 (Ne.symm d_x_q1)
  obtain ⟨m_q1, t_q1⟩ := hz.kT m_q1 (Ne.symm d_x_q1) t_q1
  obtain ⟨m_qo6, t_qo6, e_qo6⟩ := hz.kO m_qo6 (Ne.symm d_x_qo6) t_qo6 e_qo6
  have n_q10 := hz.kN m_q10 (Ne.symm d_x_q10) n_q10
  have in0_q10 := in0_q10.ex hz m_q10 (Ne.symm d_x_q10)
  obtain ⟨m_q10, t_q10⟩ := hz.kT m_q10 (Ne.symm d_x_q10) t_q10
  obtain ⟨m_q21, t_q21, e_q21, y_q21⟩ := hz.kA m_q21 (Ne.symm d_x_q21) t_q21 e_q21 y_q21
  obtain ⟨m_q27, t_q27, e_q27, y_q27⟩ := hz.kA m_q27 (Ne.symm d_x_q27) t_q27 e_q27 y_q27
  have n_q33 := hz.kN m_q33 (Ne.symm d_x_q33) n_q33
  obtain ⟨m_q33, t_q33⟩ := hz.kT m_q33 (Ne.symm d_x_q33) t_q33
  have n_q41 := hz.kN m_q41 (Ne.symm d_x_q41) n_q41
  obtain ⟨m_q41, t_q41⟩ := hz.kT m_q41 (Ne.symm d_x_q41) t_q41
  obtain ⟨m_q49, t_q49, e_q49, y_q49⟩ := hz.kA m_q49 (Ne.symm d_x_q49) t_q49 e_q49 y_q49
  have e_x := e68
  refine lv_iconst (v := nI 0) hx hb d_NRunner_init_104 (by decide) ?_
  refine lv_istore_n (lv' := [(1, .int (nI 0)), (0, .ref x)]) hx hb d_NRunner_init_105 rfl hl (by decide) rfl (fun ls hl => ?_)
  have lp70 : ∀ (k73 i : Nat) (g71 : Lay) (f72 : Nat → va_E) (hQ : Nat → Option Nat) (H : Heap) (locs : List Loc) (ls : Array Slot), (10 < i + k73) → (i ≤ 10) → (EX x g f g71 f72) → (NT [] g g71) → (LO g71) → (IV g71 f72) → (EL g g71 5 100 i hQ) → (x ∈ g71.LP) → (g71.tg x = 0) → (f72 x = .inr (8, [.ref q1, .ref q10, .int (nI 0), .ref q21, .ref q27, .ref q33, .ref q41, .ref q49, .int (nI 0), .int (nI 0), .int (nI 0), .int (nI 0), .int (nI 0)])) → (q1 ∈ g71.LP) → (g71.tg q1 = 7) → (g71.tn q1 = 0) → (PG0 g71 f72 q1) → (LK5 g71 q1 qo6) → (qo6 ∈ g71.LP) → (g71.tg qo6 = 3) → (f72 qo6 = .inr (2, [.long (-1000000000), .long (nL 1000000000)])) → (q10 ∈ g71.LP) → (g71.tg q10 = 2) → (g71.tn q10 = 0) → (IN0 g71 f72 q10) → (q21 ∈ g71.LP) → (g71.tg q21 = 27) → (f72 q21 = .inl (g71.ac q21, 10, .inr (.inl (fun _ => nL 0)))) → (g71.tys[g71.tn q21]? = some (g71.ac q21, .long)) → (q27 ∈ g71.LP) → (g71.tg q27 = 0) → (f72 q27 = .inl (g71.ac q27, 10, .inr (.inr (.inr (.inr hQ))))) → (g71.tys[g71.tn q27]? = some (g71.ac q27, .object "BigRunner$LongNumber")) → (q33 ∈ g71.LP) → (g71.tg q33 = 5) → (g71.tn q33 = 140) → (q41 ∈ g71.LP) → (g71.tg q41 = 4) → (g71.tn q41 = 0) → (q49 ∈ g71.LP) → (g71.tg q49 = 0) → (f72 q49 = .inl (g71.ac q49, 12, .inr (.inr (.inr (.inr (fun _ => none)))))) → (g71.tys[g71.tn q49]? = some (g71.ac q49, .object "BigRunner$LongNumber")) → lv_has ls 2 [(1, .int (nI i)), (0, .ref x)] → va_K g71.D vcl g71.tys s → va_P g71.D vcl (va_pl g71.LP f72) H → va_D (pc_A g s.heap.size) (va_pl g71.LP f72) → va_S (pc_A g s.heap.size) s.heap H locs → W p l e ({ frames := 4, cells := 393, slots := 2774, locals := 73 }) s m args below meth c H locs (349 + 2 * i) (2378 + 18 * i) (MQ below (CQ g s.heap.size (fun g1 f1 => EX x g f g1 f1 ∧ LO g1 ∧ IV g1 f1 ∧ g1.tg x = 9 ∧ g1.tn x = k ∧ NT [] g g1 ∧ (∃ pr q u : Nat, RN0 g1 f1 x pr ∧ g1.tg pr = 7 ∧ pr ∉ g.LP ∧ PG0 g1 f1 pr ∧ LK5 g1 pr q ∧ g1.tg q = 3 ∧ q ∉ g.LP ∧ f1 q = .inr (2, [.long (-1000000000), .long (nL 1000000000)]) ∧ LK1 g1 x u ∧ g1.tg u = 2 ∧ u ∉ g.LP ∧ IN0 g1 f1 u))) args s 393 2774 (pc_A g s.heap.size)) (F0 m 106 ls []) := by
    intro k73
    induction k73 with
    | zero => intros; exfalso; omega
    | succ k73 ih74 =>
      intro i g71 f72 hQ H locs ls hfu hi hE hN hL hI hEL m_x t_x e_x m_q1 t_q1 n_q1 pg_q1 lk_q1 m_qo6 t_qo6 e_qo6 m_q10 t_q10 n_q10 in0_q10 m_q21 t_q21 e_q21 y_q21 m_q27 t_q27 e_q27 y_q27 m_q33 t_q33 n_q33 m_q41 t_q41 n_q41 m_q49 t_q49 e_q49 y_q49 hl hK hP hD hS
      refine lv_iload_n hx hb d_NRunner_init_106 rfl (lv_at hl 0 rfl) ?_
      refine lv_bipush (v := nI 10) hx hb d_NRunner_init_107 (by decide) ?_
      refine lv_icmp_ge (tgt := 131) hx hb d_NRunner_init_109 (by decide) (fun b75 => ?_) (fun b75 => ?_)
      · skip
        replace b75 := (nI_leI (a := 10) (b := i) (by omega) (by omega)).mp b75
        obtain rfl : i = 10 := by omega
        refine W.widen (k := 369) (n := 2558) (by omega) (by omega) ?_
        have hP := va_swap hP e_q27 (fun j hj => (elk_at hEL hj).1)
        have hD : va_D (pc_A g s.heap.size) (va_pl g71.LP (va_up f72 q27 (.inl (g71.ac q27, 10, .inr (.inr (.inr (.inr (fun i => some (elk hQ i))))))))) := va_swapD hD
        obtain ⟨g76, hz0, tT, hlk, htn, hac, hLP, htys, hDD⟩ := ty_mk g71 f72 (va_up f72 q27 (.inl (g71.ac q27, 10, .inr (.inr (.inr (.inr (fun i => some (elk hQ i)))))))) q27 28 (g71.tn q27) (elk hQ) t_q27 m_q27 (fun b hb => va_up_ne _ _ hb)
        have hK : va_K g76.D vcl g76.tys s := by rw [hDD, htys]; exact hK
        have hP : va_P g76.D vcl (va_pl g76.LP (va_up f72 q27 (.inl (g71.ac q27, 10, .inr (.inr (.inr (.inr (fun i => some (elk hQ i))))))))) H := by rw [hDD, hLP]; exact hP
        have hD : va_D (pc_A g s.heap.size) (va_pl g76.LP (va_up f72 q27 (.inl (g71.ac q27, 10, .inr (.inr (.inr (.inr (fun i => some (elk hQ i))))))))) := by rw [hLP]; exact hD
        have hz := hz0.ex
        have e9 : (va_up f72 q27 (.inl (g71.ac q27, 10, .inr (.inr (.inr (.inr (fun i => some (elk hQ i)))))))) q27 = .inl (g76.ac q27, 10, .inr (.inr (.inr (.inr (fun i => some (g76.lk q27 i)))))) := by rw [hlk, hac]; exact va_up_self _ _ _
        generalize (va_up f72 q27 (.inl (g71.ac q27, 10, .inr (.inr (.inr (.inr (fun i => some (elk hQ i)))))))) = f77 at hP hD hz0 hz e9
        have y9 : g76.tys[g76.tn q27]? = some (g76.ac q27, .object "BigRunner$LongNumber") := by rw [htys, htn, hac]; exact y_q27
        have hI := IV_tp hz0 hL hI (oc_28.mk tT e9) (fun z9 => absurd (tT.symm.trans z9) (by decide))
        have hL := LO_tp_28 hz0 hL tT (fun i hi => by rw [hlk]; exact tp_b hz0 (elk_at hEL hi).2.1 (by decide)) y9 (fun i hi => by rw [hlk]; exact (tp_tn hz0 (tp_n hz0 (elk_at hEL hi).2.1 (by decide))).trans ((elk_at hEL hi).2.2.1))
        have hN := (hN.sub (S1 := []) (by decide)).tp hz0 tT (by decide)
        have hE := hE.tr hz (Or.inr o_q27)
        obtain ⟨m_x, t_x, e_x⟩ := hz.kO m_x d_x_q27 t_x e_x
        have n_q1 := hz.kN m_q1 d_q1_q27 n_q1
        have pg_q1 := pg_q1.ex hz m_q1 d_q1_q27
        have lk_q1 := lk_q1.ex hz m_q1 d_q1_q27
        obtain ⟨m_q1, t_q1⟩ := hz.kT m_q1 d_q1_q27 t_q1
        obtain ⟨m_qo6, t_qo6, e_qo6⟩ := hz.kO m_qo6 d_qo6_q27 t_qo6 e_qo6
        have n_q10 := hz.kN m_q10 d_q10_q27 n_q10
        have in0_q10 := in0_q10.ex hz m_q10 d_q10_q27
        obtain ⟨m_q10, t_q10⟩ := hz.kT m_q10 d_q10_q27 t_q10
        obtain ⟨m_q21, t_q21, e_q21, y_q21⟩ := hz.kA m_q21 d_q21_q27 t_q21 e_q21 y_q21
        have n_q33 := hz.kN m_q33 (Ne.symm d_q27_q33) n_q33
        obtain ⟨m_q33, t_q33⟩ := hz.kT m_q33 (Ne.symm d_q27_q33) t_q33
        have n_q41 := hz.kN m_q41 (Ne.symm d_q27_q41) n_q41
        obtain ⟨m_q41, t_q41⟩ := hz.kT m_q41 (Ne.symm d_q27_q41) t_q41
        obtain ⟨m_q49, t_q49, e_q49, y_q49⟩ := hz.kA m_q49 (Ne.symm d_q27_q49) t_q49 e_q49 y_q49
        have m_q27 := hz0.2.1
        have t_q27 := tT
        refine lv_iconst (v := nI 0) hx hb d_NRunner_init_131 (by decide) ?_
        refine lv_istore_n (lv' := [(1, .int (nI 0)), (0, .ref x)]) hx hb d_NRunner_init_132 rfl hl (by decide) rfl (fun ls hl => ?_)
        have lp78 : ∀ (k81 i : Nat) (g79 : Lay) (f80 : Nat → va_E) (hQ : Nat → Option Nat) (H : Heap) (locs : List Loc) (ls : Array Slot), (12 < i + k81) → (i ≤ 12) → (EX x g f g79 f80) → (NT [] g g79) → (LO g79) → (IV g79 f80) → (EL g g79 5 120 i hQ) → (x ∈ g79.LP) → (g79.tg x = 0) → (f80 x = .inr (8, [.ref q1, .ref q10, .int (nI 0), .ref q21, .ref q27, .ref q33, .ref q41, .ref q49, .int (nI 0), .int (nI 0), .int (nI 0), .int (nI 0), .int (nI 0)])) → (q1 ∈ g79.LP) → (g79.tg q1 = 7) → (g79.tn q1 = 0) → (PG0 g79 f80 q1) → (LK5 g79 q1 qo6) → (qo6 ∈ g79.LP) → (g79.tg qo6 = 3) → (f80 qo6 = .inr (2, [.long (-1000000000), .long (nL 1000000000)])) → (q10 ∈ g79.LP) → (g79.tg q10 = 2) → (g79.tn q10 = 0) → (IN0 g79 f80 q10) → (q21 ∈ g79.LP) → (g79.tg q21 = 27) → (f80 q21 = .inl (g79.ac q21, 10, .inr (.inl (fun _ => nL 0)))) → (g79.tys[g79.tn q21]? = some (g79.ac q21, .long)) → (q27 ∈ g79.LP) → (g79.tg q27 = 28) → (q33 ∈ g79.LP) → (g79.tg q33 = 5) → (g79.tn q33 = 140) → (q41 ∈ g79.LP) → (g79.tg q41 = 4) → (g79.tn q41 = 0) → (q49 ∈ g79.LP) → (g79.tg q49 = 0) → (f80 q49 = .inl (g79.ac q49, 12, .inr (.inr (.inr (.inr hQ))))) → (g79.tys[g79.tn q49]? = some (g79.ac q49, .object "BigRunner$LongNumber")) → lv_has ls 2 [(1, .int (nI i)), (0, .ref x)] → va_K g79.D vcl g79.tys s → va_P g79.D vcl (va_pl g79.LP f80) H → va_D (pc_A g s.heap.size) (va_pl g79.LP f80) → va_S (pc_A g s.heap.size) s.heap H locs → W p l e ({ frames := 4, cells := 393, slots := 2774, locals := 73 }) s m args below meth c H locs (369 + 2 * i) (2558 + 18 * i) (MQ below (CQ g s.heap.size (fun g1 f1 => EX x g f g1 f1 ∧ LO g1 ∧ IV g1 f1 ∧ g1.tg x = 9 ∧ g1.tn x = k ∧ NT [] g g1 ∧ (∃ pr q u : Nat, RN0 g1 f1 x pr ∧ g1.tg pr = 7 ∧ pr ∉ g.LP ∧ PG0 g1 f1 pr ∧ LK5 g1 pr q ∧ g1.tg q = 3 ∧ q ∉ g.LP ∧ f1 q = .inr (2, [.long (-1000000000), .long (nL 1000000000)]) ∧ LK1 g1 x u ∧ g1.tg u = 2 ∧ u ∉ g.LP ∧ IN0 g1 f1 u))) args s 393 2774 (pc_A g s.heap.size)) (F0 m 133 ls []) := by
          intro k81
          induction k81 with
          | zero => intros; exfalso; omega
          | succ k81 ih82 =>
            intro i g79 f80 hQ H locs ls hfu hi hE hN hL hI hEL m_x t_x e_x m_q1 t_q1 n_q1 pg_q1 lk_q1 m_qo6 t_qo6 e_qo6 m_q10 t_q10 n_q10 in0_q10 m_q21 t_q21 e_q21 y_q21 m_q27 t_q27 m_q33 t_q33 n_q33 m_q41 t_q41 n_q41 m_q49 t_q49 e_q49 y_q49 hl hK hP hD hS
            refine lv_iload_n hx hb d_NRunner_init_133 rfl (lv_at hl 0 rfl) ?_
            refine lv_bipush (v := nI 12) hx hb d_NRunner_init_134 (by decide) ?_
            refine lv_icmp_ge (tgt := 158) hx hb d_NRunner_init_136 (by decide) (fun b83 => ?_) (fun b83 => ?_)
            · skip
              replace b83 := (nI_leI (a := 12) (b := i) (by omega) (by omega)).mp b83
              obtain rfl : i = 12 := by omega
              refine W.widen (k := 393) (n := 2774) (by omega) (by omega) ?_
              have hP := va_swap hP e_q49 (fun j hj => (elk_at hEL hj).1)
              have hD : va_D (pc_A g s.heap.size) (va_pl g79.LP (va_up f80 q49 (.inl (g79.ac q49, 12, .inr (.inr (.inr (.inr (fun i => some (elk hQ i))))))))) := va_swapD hD
              obtain ⟨g84, hz0, tT, hlk, htn, hac, hLP, htys, hDD⟩ := ty_mk g79 f80 (va_up f80 q49 (.inl (g79.ac q49, 12, .inr (.inr (.inr (.inr (fun i => some (elk hQ i)))))))) q49 29 (g79.tn q49) (elk hQ) t_q49 m_q49 (fun b hb => va_up_ne _ _ hb)
              have hK : va_K g84.D vcl g84.tys s := by rw [hDD, htys]; exact hK
              have hP : va_P g84.D vcl (va_pl g84.LP (va_up f80 q49 (.inl (g79.ac q49, 12, .inr (.inr (.inr (.inr (fun i => some (elk hQ i))))))))) H := by rw [hDD, hLP]; exact hP
              have hD : va_D (pc_A g s.heap.size) (va_pl g84.LP (va_up f80 q49 (.inl (g79.ac q49, 12, .inr (.inr (.inr (.inr (fun i => some (elk hQ i))))))))) := by rw [hLP]; exact hD
              have hz := hz0.ex
              have e9 : (va_up f80 q49 (.inl (g79.ac q49, 12, .inr (.inr (.inr (.inr (fun i => some (elk hQ i)))))))) q49 = .inl (g84.ac q49, 12, .inr (.inr (.inr (.inr (fun i => some (g84.lk q49 i)))))) := by rw [hlk, hac]; exact va_up_self _ _ _
              generalize (va_up f80 q49 (.inl (g79.ac q49, 12, .inr (.inr (.inr (.inr (fun i => some (elk hQ i)))))))) = f85 at hP hD hz0 hz e9
              have y9 : g84.tys[g84.tn q49]? = some (g84.ac q49, .object "BigRunner$LongNumber") := by rw [htys, htn, hac]; exact y_q49
              have hI := IV_tp hz0 hL hI (oc_29.mk tT e9) (fun z9 => absurd (tT.symm.trans z9) (by decide))
              have hL := LO_tp_29 hz0 hL tT (fun i hi => by rw [hlk]; exact tp_b hz0 (elk_at hEL hi).2.1 (by decide)) y9 (fun i hi => by rw [hlk]; exact (tp_tn hz0 (tp_n hz0 (elk_at hEL hi).2.1 (by decide))).trans ((elk_at hEL hi).2.2.1))
              have hN := (hN.sub (S1 := []) (by decide)).tp hz0 tT (by decide)
              have hE := hE.tr hz (Or.inr o_q49)
              obtain ⟨m_x, t_x, e_x⟩ := hz.kO m_x d_x_q49 t_x e_x
              have n_q1 := hz.kN m_q1 d_q1_q49 n_q1
              have pg_q1 := pg_q1.ex hz m_q1 d_q1_q49
              have lk_q1 := lk_q1.ex hz m_q1 d_q1_q49
              obtain ⟨m_q1, t_q1⟩ := hz.kT m_q1 d_q1_q49 t_q1
              obtain ⟨m_qo6, t_qo6, e_qo6⟩ := hz.kO m_qo6 d_qo6_q49 t_qo6 e_qo6
              have n_q10 := hz.kN m_q10 d_q10_q49 n_q10
              have in0_q10 := in0_q10.ex hz m_q10 d_q10_q49
              obtain ⟨m_q10, t_q10⟩ := hz.kT m_q10 d_q10_q49 t_q10
              obtain ⟨m_q21, t_q21, e_q21, y_q21⟩ := hz.kA m_q21 d_q21_q49 t_q21 e_q21 y_q21
              obtain ⟨m_q27, t_q27⟩ := hz.kT m_q27 d_q27_q49 t_q27
              have n_q33 := hz.kN m_q33 d_q33_q49 n_q33
              obtain ⟨m_q33, t_q33⟩ := hz.kT m_q33 d_q33_q49 t_q33
              have n_q41 := hz.kN m_q41 d_q41_q49 n_q41
              obtain ⟨m_q41, t_q41⟩ := hz.kT m_q41 d_q41_q49 t_q41
              have m_q49 := hz0.2.1
              have t_q49 := tT
              obtain ⟨g86, hz0, tT, hlk, htn, hac, hLP, htys, hDD⟩ := ty_mk g84 f85 f85 x 9 k (fun j9 => if j9 = 1 then q10 else if j9 = 3 then q21 else if j9 = 4 then q27 else if j9 = 5 then q33 else if j9 = 6 then q41 else if j9 = 7 then q49 else 0) t_x m_x (fun _ _ => rfl)
              have hK : va_K g86.D vcl g86.tys s := by rw [hDD, htys]; exact hK
              have hP : va_P g86.D vcl (va_pl g86.LP f85) H := by rw [hDD, hLP]; exact hP
              have hD : va_D (pc_A g s.heap.size) (va_pl g86.LP f85) := by rw [hLP]; exact hD
              have hz := hz0.ex
              have l_1 : g86.lk x 1 = q10 := by rw [hlk]; rfl
              have l_3 : g86.lk x 3 = q21 := by rw [hlk]; rfl
              have l_4 : g86.lk x 4 = q27 := by rw [hlk]; rfl
              have l_5 : g86.lk x 5 = q33 := by rw [hlk]; rfl
              have l_6 : g86.lk x 6 = q41 := by rw [hlk]; rfl
              have l_7 : g86.lk x 7 = q49 := by rw [hlk]; rfl
              have n_q1 := hz.kN m_q1 (Ne.symm d_x_q1) n_q1
              have pg_q1 := pg_q1.ex hz m_q1 (Ne.symm d_x_q1)
              have lk_q1 := lk_q1.ex hz m_q1 (Ne.symm d_x_q1)
              obtain ⟨m_q1, t_q1⟩ := hz.kT m_q1 (Ne.symm d_x_q1) t_q1
              obtain ⟨m_qo6, t_qo6, e_qo6⟩ := hz.kO m_qo6 (Ne.symm d_x_qo6) t_qo6 e_qo6
              have n_q10 := hz.kN m_q10 (Ne.symm d_x_q10) n_q10
              have in0_q10 := in0_q10.ex hz m_q10 (Ne.symm d_x_q10)
              obtain ⟨m_q10, t_q10⟩ := hz.kT m_q10 (Ne.symm d_x_q10) t_q10
              obtain ⟨m_q21, t_q21, e_q21, y_q21⟩ := hz.kA m_q21 (Ne.symm d_x_q21) t_q21 e_q21 y_q21
              obtain ⟨m_q27, t_q27⟩ := hz.kT m_q27 (Ne.symm d_x_q27) t_q27
              have n_q33 := hz.kN m_q33 (Ne.symm d_x_q33) n_q33
              obtain ⟨m_q33, t_q33⟩ := hz.kT m_q33 (Ne.symm d_x_q33) t_q33
              have n_q41 := hz.kN m_q41 (Ne.symm d_x_q41) n_q41
              obtain ⟨m_q41, t_q41⟩ := hz.kT m_q41 (Ne.symm d_x_q41) t_q41
              obtain ⟨m_q49, t_q49⟩ := hz.kT m_q49 (Ne.symm d_x_q49) t_q49
              have m_x := hz0.2.1
              have oc9 : oc g86 x (f85 x) := oc_9.mk tT ⟨q1, 0, 0, 0, (nI 0), (nI 0), 0, (by rw [l_1, l_3, l_4, l_5, l_6, l_7]; exact e_x), t_q1, (by first | exact Or.inl rfl | exact Or.inr rfl | decide | exact fun z9 => absurd z9 (by decide)), (by first | exact Or.inl rfl | exact Or.inr rfl | decide | exact fun z9 => absurd z9 (by decide)), (by first | exact Or.inl rfl | exact Or.inr rfl | decide | exact fun z9 => absurd z9 (by decide)), (by first | exact Or.inl rfl | exact Or.inr rfl | decide | exact fun z9 => absurd z9 (by decide))⟩
              have hI := IV_tp hz0 hL hI oc9 (fun z9 => absurd (tT.symm.trans z9) (by decide))
              have hL := LO_tp_9 hz0 hL tT (by rw [l_1]; exact t_q10) (by rw [l_3]; exact t_q21) (by rw [l_4]; exact t_q27) (by rw [l_5]; exact t_q33) (by rw [l_6]; exact t_q41) (by rw [l_7]; exact t_q49) (by rw [l_5]; exact n_q33)
              have hN := (hN.sub (S1 := []) (by decide)).tp hz0 tT (by decide)
              have hE := hE.tr hz (Or.inl rfl)
              exact gw_ret hx hb hr hlocks hK hP hD hS d_NRunner_init_158 (by omega) (by omega) ⟨hE, hL, hI, tT, htn, hN, ⟨_, _, _, (by unfold RN0; rw [l_1, l_3, l_4, l_5, l_6, l_7]; exact e_x), t_q1, o_q1, pg_q1, lk_q1, t_qo6, o_qo6, e_qo6, l_1, t_q10, o_q10, in0_q10⟩⟩
            · skip
              replace b83 := mt (nI_leI (a := 12) (b := i) (by omega) (by omega)).mpr b83
              refine lv_aload_n hx hb d_NRunner_init_139 rfl (lv_at hl 1 rfl) ?_
              refine pf_get (v := .ref q49) (C := "BigRunner$Runner") (T := FT8) (N := 13) hx hb (hw8 hB _) (fun _ h9 => h9) hown hK hP m_x e_x rfl 7 (by decide) (wd_339 hB _) rfl d_NRunner_init_140 ?_
              refine lv_iload_n hx hb d_NRunner_init_143 rfl (lv_at hl 0 rfl) ?_
              refine gw_new (ci := 4) (fs := [.int (nI 0), .int (nI 0), .null]) (C := "BigRunner$LongNumber") (T := FT4) (N := 3) hx hb (hw4 hB _) (fun _ h9 => h9) TY4 ok4 hown (wd_310 hB _) (wd_181 hB _) (wd_78 hB _) hK hP hD hS hA hL rfl (fun j hj => by rcases (show j = 0 ∨ j = 1 ∨ j = 2 by omega) with rfl | rfl | rfl <;> rfl) (show _ ≤ 393 by omega) (show _ ≤ 2774 by omega) d_NRunner_init_144 (fun q87 g88 f89 H hz0 t_q87 p_q87 e_q87 hK hP hD hS => ?_)
              have d_x_q87 : x ≠ q87 := fun z9 => p_q87 (z9 ▸ m_x)
              have d_q1_q87 : q1 ≠ q87 := fun z9 => p_q87 (z9 ▸ m_q1)
              have d_qo6_q87 : qo6 ≠ q87 := fun z9 => p_q87 (z9 ▸ m_qo6)
              have d_q10_q87 : q10 ≠ q87 := fun z9 => p_q87 (z9 ▸ m_q10)
              have d_q21_q87 : q21 ≠ q87 := fun z9 => p_q87 (z9 ▸ m_q21)
              have d_q27_q87 : q27 ≠ q87 := fun z9 => p_q87 (z9 ▸ m_q27)
              have d_q33_q87 : q33 ≠ q87 := fun z9 => p_q87 (z9 ▸ m_q33)
              have d_q41_q87 : q41 ≠ q87 := fun z9 => p_q87 (z9 ▸ m_q41)
              have d_q49_q87 : q49 ≠ q87 := fun z9 => p_q87 (z9 ▸ m_q49)
              have o_q87 := hE.new p_q87
              have hz := hz0.ex
              have hEL := hEL.ex hL (by decide) hz (by rw [hz0.1]; decide)
              have hI := IV_t0 hz0 hL hI t_q87
              have hL := LO_tp_0 hz0 hL t_q87
              have hN := hN.tp hz0 t_q87 (by decide)
              have hE := hE.tr hz (Or.inr o_q87)
              obtain ⟨m_x, t_x, e_x⟩ := hz.kO m_x d_x_q87 t_x e_x
              have n_q1 := hz.kN m_q1 d_q1_q87 n_q1
              have pg_q1 := pg_q1.ex hz m_q1 d_q1_q87
              have lk_q1 := lk_q1.ex hz m_q1 d_q1_q87
              obtain ⟨m_q1, t_q1⟩ := hz.kT m_q1 d_q1_q87 t_q1
              obtain ⟨m_qo6, t_qo6, e_qo6⟩ := hz.kO m_qo6 d_qo6_q87 t_qo6 e_qo6
              have n_q10 := hz.kN m_q10 d_q10_q87 n_q10
              have in0_q10 := in0_q10.ex hz m_q10 d_q10_q87
              obtain ⟨m_q10, t_q10⟩ := hz.kT m_q10 d_q10_q87 t_q10
              obtain ⟨m_q21, t_q21, e_q21, y_q21⟩ := hz.kA m_q21 d_q21_q87 t_q21 e_q21 y_q21
              obtain ⟨m_q27, t_q27⟩ := hz.kT m_q27 d_q27_q87 t_q27
              have n_q33 := hz.kN m_q33 d_q33_q87 n_q33
              obtain ⟨m_q33, t_q33⟩ := hz.kT m_q33 d_q33_q87 t_q33
              have n_q41 := hz.kN m_q41 d_q41_q87 n_q41
              obtain ⟨m_q41, t_q41⟩ := hz.kT m_q41 d_q41_q87 t_q41
              obtain ⟨m_q49, t_q49, e_q49, y_q49⟩ := hz.kA m_q49 d_q49_q87 t_q49 e_q49 y_q49
              have m_q87 := hz0.2.1
              refine W.widen (k := 370 + 2 * i) (n := 2561 + 18 * i) (by omega) (by omega) ?_
              refine lv_dup hx hb d_NRunner_init_147 rfl ?_
              refine gw_call (va_runIN (As := []) (rest := [.ref q87, .int (nI i), .ref q49]) ⟨hx, hb, hml, hown, tb_nil⟩ (g_LongNumber l g88 H.size f89 q87 (120 + i) hL hI m_q87 t_q87 e_q87) ⟨(va_cnB 0 (tb_one (wd_184 hB _)) tb_good1 rfl rfl rfl (va_Nw.of (A := #[]) rfl (wd_312 hB _)) (wd_78 hB _) (by decide +kernel) ⟨Nat.le_of_ble_eq_true rfl, Nat.le_of_ble_eq_true rfl⟩), rfl, (wd_183 hB _)⟩ ⟨pe_bl, pe_pre hB hK hP hD⟩ rfl rfl hl.1 rfl (lv_room (Nat.le_of_ble_eq_true rfl)) d_NRunner_init_148 ⟨(show _ ≤ 393 by omega), (show _ ≤ 2774 by omega)⟩) hA hD hS (fun g90 f91 H locs hq hK hP hD hS => ?_)
              obtain ⟨hz, hL9, hI9, t9_q87, n_q87, hN9⟩ := hq
              have hEL := hEL.ex hL (by decide) hz (by rw [t_q87]; decide)
              have hL := hL9
              have hI := hI9
              have hN := (hN.sub (S1 := []) (by decide)).tr hN9 (by decide)
              have hE := hE.tr hz (Or.inr o_q87)
              obtain ⟨m_x, t_x, e_x⟩ := hz.kO m_x d_x_q87 t_x e_x
              have n_q1 := hz.kN m_q1 d_q1_q87 n_q1
              have pg_q1 := pg_q1.ex hz m_q1 d_q1_q87
              have lk_q1 := lk_q1.ex hz m_q1 d_q1_q87
              obtain ⟨m_q1, t_q1⟩ := hz.kT m_q1 d_q1_q87 t_q1
              obtain ⟨m_qo6, t_qo6, e_qo6⟩ := hz.kO m_qo6 d_qo6_q87 t_qo6 e_qo6
              have n_q10 := hz.kN m_q10 d_q10_q87 n_q10
              have in0_q10 := in0_q10.ex hz m_q10 d_q10_q87
              obtain ⟨m_q10, t_q10⟩ := hz.kT m_q10 d_q10_q87 t_q10
              obtain ⟨m_q21, t_q21, e_q21, y_q21⟩ := hz.kA m_q21 d_q21_q87 t_q21 e_q21 y_q21
              obtain ⟨m_q27, t_q27⟩ := hz.kT m_q27 d_q27_q87 t_q27
              have n_q33 := hz.kN m_q33 d_q33_q87 n_q33
              obtain ⟨m_q33, t_q33⟩ := hz.kT m_q33 d_q33_q87 t_q33
              have n_q41 := hz.kN m_q41 d_q41_q87 n_q41
              obtain ⟨m_q41, t_q41⟩ := hz.kT m_q41 d_q41_q87 t_q41
              obtain ⟨m_q49, t_q49, e_q49, y_q49⟩ := hz.kA m_q49 d_q49_q87 t_q49 e_q49 y_q49
              have m_q87 := hz.mem m_q87
              have t_q87 := t9_q87
              refine W.widen (k := 371 + 2 * i) (n := 2576 + 18 * i) (by omega) (by omega) ?_
              obtain ⟨v92, v93, ez, -⟩ := oc_5.of t_q87 (hI.1 q87)
              refine gw_aast (r := ("BigRunner$LongNumber", FT4, 3)) hx hb hK hP hD hS m_q49 e_q49 y_q49 m_q87 ez rfl (by omega) (by decide) d_NRunner_init_151 (fun f94 H locs e95 k96 hP hD hS => ?_)
              have hz := EX.wr (g := g90) k96
              have hI := IV_w0 hL hI t_q49 k96
              have hE := hE.tr hz (Or.inr o_q49)
              obtain ⟨m_x, t_x, e_x⟩ := hz.kO m_x d_x_q49 t_x e_x
              have n_q1 := hz.kN m_q1 d_q1_q49 n_q1
              have pg_q1 := pg_q1.ex hz m_q1 d_q1_q49
              have lk_q1 := lk_q1.ex hz m_q1 d_q1_q49
              obtain ⟨m_q1, t_q1⟩ := hz.kT m_q1 d_q1_q49 t_q1
              obtain ⟨m_qo6, t_qo6, e_qo6⟩ := hz.kO m_qo6 d_qo6_q49 t_qo6 e_qo6
              have n_q10 := hz.kN m_q10 d_q10_q49 n_q10
              have in0_q10 := in0_q10.ex hz m_q10 d_q10_q49
              obtain ⟨m_q10, t_q10⟩ := hz.kT m_q10 d_q10_q49 t_q10
              obtain ⟨m_q21, t_q21, e_q21, y_q21⟩ := hz.kA m_q21 d_q21_q49 t_q21 e_q21 y_q21
              obtain ⟨m_q27, t_q27⟩ := hz.kT m_q27 d_q27_q49 t_q27
              have n_q33 := hz.kN m_q33 d_q33_q49 n_q33
              obtain ⟨m_q33, t_q33⟩ := hz.kT m_q33 d_q33_q49 t_q33
              have n_q41 := hz.kN m_q41 d_q41_q49 n_q41
              obtain ⟨m_q41, t_q41⟩ := hz.kT m_q41 d_q41_q49 t_q41
              have n_q87 := hz.kN m_q87 (Ne.symm d_q49_q87) n_q87
              obtain ⟨m_q87, t_q87⟩ := hz.kT m_q87 (Ne.symm d_q49_q87) t_q87
              have e_q49 := e95
              have hEL := hEL.sn t_q87 n_q87 o_q87
              refine lv_iinc (k := 0) (v := nI (i + 1)) (lv' := [(1, .int (nI (i + 1))), (0, .ref x)]) hx hb d_NRunner_init_152 hl rfl (by rw [nI_succ]; rfl) (by decide) rfl (fun ls hl => ?_)
              refine lv_goto (tgt := 133) hx hb d_NRunner_init_155 (by decide) ?_
              refine W.widen (k := 369 + 2 * (i + 1)) (n := 2558 + 18 * (i + 1)) (by omega) (by omega) ?_
              exact ih82 (i + 1) g90 f94 _ H locs ls (by omega) (by omega) hE hN hL hI hEL m_x t_x e_x m_q1 t_q1 n_q1 pg_q1 lk_q1 m_qo6 t_qo6 e_qo6 m_q10 t_q10 n_q10 in0_q10 m_q21 t_q21 e_q21 y_q21 m_q27 t_q27 m_q33 t_q33 n_q33 m_q41 t_q41 n_q41 m_q49 t_q49 e_q49 y_q49 hl hK hP hD hS
        exact lp78 13 0 g76 f77 _ H _ ls (by omega) (by omega) hE hN hL hI EL.nil m_x t_x e_x m_q1 t_q1 n_q1 pg_q1 lk_q1 m_qo6 t_qo6 e_qo6 m_q10 t_q10 n_q10 in0_q10 m_q21 t_q21 e_q21 y_q21 m_q27 t_q27 m_q33 t_q33 n_q33 m_q41 t_q41 n_q41 m_q49 t_q49 e_q49 y_q49 hl hK hP hD hS
      · skip
        replace b75 := mt (nI_leI (a := 10) (b := i) (by omega) (by omega)).mpr b75
        refine lv_aload_n hx hb d_NRunner_init_112 rfl (lv_at hl 1 rfl) ?_
        refine pf_get (v := .ref q27) (C := "BigRunner$Runner") (T := FT8) (N := 13) hx hb (hw8 hB _) (fun _ h9 => h9) hown hK hP m_x e_x rfl 4 (by decide) (wd_336 hB _) rfl d_NRunner_init_113 ?_
        refine lv_iload_n hx hb d_NRunner_init_116 rfl (lv_at hl 0 rfl) ?_
        refine gw_new (ci := 4) (fs := [.int (nI 0), .int (nI 0), .null]) (C := "BigRunner$LongNumber") (T := FT4) (N := 3) hx hb (hw4 hB _) (fun _ h9 => h9) TY4 ok4 hown (wd_310 hB _) (wd_181 hB _) (wd_78 hB _) hK hP hD hS hA hL rfl (fun j hj => by rcases (show j = 0 ∨ j = 1 ∨ j = 2 by omega) with rfl | rfl | rfl <;> rfl) (show _ ≤ 393 by omega) (show _ ≤ 2774 by omega) d_NRunner_init_117 (fun q97 g98 f99 H hz0 t_q97 p_q97 e_q97 hK hP hD hS => ?_)
        have d_x_q97 : x ≠ q97 := fun z9 => p_q97 (z9 ▸ m_x)
        have d_q1_q97 : q1 ≠ q97 := fun z9 => p_q97 (z9 ▸ m_q1)
        have d_qo6_q97 : qo6 ≠ q97 := fun z9 => p_q97 (z9 ▸ m_qo6)
        have d_q10_q97 : q10 ≠ q97 := fun z9 => p_q97 (z9 ▸ m_q10)
        have d_q21_q97 : q21 ≠ q97 := fun z9 => p_q97 (z9 ▸ m_q21)
        have d_q27_q97 : q27 ≠ q97 := fun z9 => p_q97 (z9 ▸ m_q27)
        have d_q33_q97 : q33 ≠ q97 := fun z9 => p_q97 (z9 ▸ m_q33)
        have d_q41_q97 : q41 ≠ q97 := fun z9 => p_q97 (z9 ▸ m_q41)
        have d_q49_q97 : q49 ≠ q97 := fun z9 => p_q97 (z9 ▸ m_q49)
        have o_q97 := hE.new p_q97
        have hz := hz0.ex
        have hEL := hEL.ex hL (by decide) hz (by rw [hz0.1]; decide)
        have hI := IV_t0 hz0 hL hI t_q97
        have hL := LO_tp_0 hz0 hL t_q97
        have hN := hN.tp hz0 t_q97 (by decide)
        have hE := hE.tr hz (Or.inr o_q97)
        obtain ⟨m_x, t_x, e_x⟩ := hz.kO m_x d_x_q97 t_x e_x
        have n_q1 := hz.kN m_q1 d_q1_q97 n_q1
        have pg_q1 := pg_q1.ex hz m_q1 d_q1_q97
        have lk_q1 := lk_q1.ex hz m_q1 d_q1_q97
        obtain ⟨m_q1, t_q1⟩ := hz.kT m_q1 d_q1_q97 t_q1
        obtain ⟨m_qo6, t_qo6, e_qo6⟩ := hz.kO m_qo6 d_qo6_q97 t_qo6 e_qo6
        have n_q10 := hz.kN m_q10 d_q10_q97 n_q10
        have in0_q10 := in0_q10.ex hz m_q10 d_q10_q97
        obtain ⟨m_q10, t_q10⟩ := hz.kT m_q10 d_q10_q97 t_q10
        obtain ⟨m_q21, t_q21, e_q21, y_q21⟩ := hz.kA m_q21 d_q21_q97 t_q21 e_q21 y_q21
        obtain ⟨m_q27, t_q27, e_q27, y_q27⟩ := hz.kA m_q27 d_q27_q97 t_q27 e_q27 y_q27
        have n_q33 := hz.kN m_q33 d_q33_q97 n_q33
        obtain ⟨m_q33, t_q33⟩ := hz.kT m_q33 d_q33_q97 t_q33
        have n_q41 := hz.kN m_q41 d_q41_q97 n_q41
        obtain ⟨m_q41, t_q41⟩ := hz.kT m_q41 d_q41_q97 t_q41
        obtain ⟨m_q49, t_q49, e_q49, y_q49⟩ := hz.kA m_q49 d_q49_q97 t_q49 e_q49 y_q49
        have m_q97 := hz0.2.1
        refine W.widen (k := 350 + 2 * i) (n := 2381 + 18 * i) (by omega) (by omega) ?_
        refine lv_dup hx hb d_NRunner_init_120 rfl ?_
        refine gw_call (va_runIN (As := []) (rest := [.ref q97, .int (nI i), .ref q27]) ⟨hx, hb, hml, hown, tb_nil⟩ (g_LongNumber l g98 H.size f99 q97 (100 + i) hL hI m_q97 t_q97 e_q97) ⟨(va_cnB 0 (tb_one (wd_184 hB _)) tb_good1 rfl rfl rfl (va_Nw.of (A := #[]) rfl (wd_312 hB _)) (wd_78 hB _) (by decide +kernel) ⟨Nat.le_of_ble_eq_true rfl, Nat.le_of_ble_eq_true rfl⟩), rfl, (wd_183 hB _)⟩ ⟨pe_bl, pe_pre hB hK hP hD⟩ rfl rfl hl.1 rfl (lv_room (Nat.le_of_ble_eq_true rfl)) d_NRunner_init_121 ⟨(show _ ≤ 393 by omega), (show _ ≤ 2774 by omega)⟩) hA hD hS (fun g100 f101 H locs hq hK hP hD hS => ?_)
        obtain ⟨hz, hL9, hI9, t9_q97, n_q97, hN9⟩ := hq
        have hEL := hEL.ex hL (by decide) hz (by rw [t_q97]; decide)
        have hL := hL9
        have hI := hI9
        have hN := (hN.sub (S1 := []) (by decide)).tr hN9 (by decide)
        have hE := hE.tr hz (Or.inr o_q97)
        obtain ⟨m_x, t_x, e_x⟩ := hz.kO m_x d_x_q97 t_x e_x
        have n_q1 := hz.kN m_q1 d_q1_q97 n_q1
        have pg_q1 := pg_q1.ex hz m_q1 d_q1_q97
        have lk_q1 := lk_q1.ex hz m_q1 d_q1_q97
        obtain ⟨m_q1, t_q1⟩ := hz.kT m_q1 d_q1_q97 t_q1
        obtain ⟨m_qo6, t_qo6, e_qo6⟩ := hz.kO m_qo6 d_qo6_q97 t_qo6 e_qo6
        have n_q10 := hz.kN m_q10 d_q10_q97 n_q10
        have in0_q10 := in0_q10.ex hz m_q10 d_q10_q97
        obtain ⟨m_q10, t_q10⟩ := hz.kT m_q10 d_q10_q97 t_q10
        obtain ⟨m_q21, t_q21, e_q21, y_q21⟩ := hz.kA m_q21 d_q21_q97 t_q21 e_q21 y_q21
        obtain ⟨m_q27, t_q27, e_q27, y_q27⟩ := hz.kA m_q27 d_q27_q97 t_q27 e_q27 y_q27
        have n_q33 := hz.kN m_q33 d_q33_q97 n_q33
        obtain ⟨m_q33, t_q33⟩ := hz.kT m_q33 d_q33_q97 t_q33
        have n_q41 := hz.kN m_q41 d_q41_q97 n_q41
        obtain ⟨m_q41, t_q41⟩ := hz.kT m_q41 d_q41_q97 t_q41
        obtain ⟨m_q49, t_q49, e_q49, y_q49⟩ := hz.kA m_q49 d_q49_q97 t_q49 e_q49 y_q49
        have m_q97 := hz.mem m_q97
        have t_q97 := t9_q97
        refine W.widen (k := 351 + 2 * i) (n := 2396 + 18 * i) (by omega) (by omega) ?_
        obtain ⟨v102, v103, ez, -⟩ := oc_5.of t_q97 (hI.1 q97)
        refine gw_aast (r := ("BigRunner$LongNumber", FT4, 3)) hx hb hK hP hD hS m_q27 e_q27 y_q27 m_q97 ez rfl (by omega) (by decide) d_NRunner_init_124 (fun f104 H locs e105 k106 hP hD hS => ?_)
        have hz := EX.wr (g := g100) k106
        have hI := IV_w0 hL hI t_q27 k106
        have hE := hE.tr hz (Or.inr o_q27)
        obtain ⟨m_x, t_x, e_x⟩ := hz.kO m_x d_x_q27 t_x e_x
        have n_q1 := hz.kN m_q1 d_q1_q27 n_q1
        have pg_q1 := pg_q1.ex hz m_q1 d_q1_q27
        have lk_q1 := lk_q1.ex hz m_q1 d_q1_q27
        obtain ⟨m_q1, t_q1⟩ := hz.kT m_q1 d_q1_q27 t_q1
        obtain ⟨m_qo6, t_qo6, e_qo6⟩ := hz.kO m_qo6 d_qo6_q27 t_qo6 e_qo6
        have n_q10 := hz.kN m_q10 d_q10_q27 n_q10
        have in0_q10 := in0_q10.ex hz m_q10 d_q10_q27
        obtain ⟨m_q10, t_q10⟩ := hz.kT m_q10 d_q10_q27 t_q10
        obtain ⟨m_q21, t_q21, e_q21, y_q21⟩ := hz.kA m_q21 d_q21_q27 t_q21 e_q21 y_q21
        have n_q33 := hz.kN m_q33 (Ne.symm d_q27_q33) n_q33
        obtain ⟨m_q33, t_q33⟩ := hz.kT m_q33 (Ne.symm d_q27_q33) t_q33
        have n_q41 := hz.kN m_q41 (Ne.symm d_q27_q41) n_q41
        obtain ⟨m_q41, t_q41⟩ := hz.kT m_q41 (Ne.symm d_q27_q41) t_q41
        obtain ⟨m_q49, t_q49, e_q49, y_q49⟩ := hz.kA m_q49 (Ne.symm d_q27_q49) t_q49 e_q49 y_q49
        have n_q97 := hz.kN m_q97 (Ne.symm d_q27_q97) n_q97
        obtain ⟨m_q97, t_q97⟩ := hz.kT m_q97 (Ne.symm d_q27_q97) t_q97
        have e_q27 := e105
        have hEL := hEL.sn t_q97 n_q97 o_q97
        refine lv_iinc (k := 0) (v := nI (i + 1)) (lv' := [(1, .int (nI (i + 1))), (0, .ref x)]) hx hb d_NRunner_init_125 hl rfl (by rw [nI_succ]; rfl) (by decide) rfl (fun ls hl => ?_)
        refine lv_goto (tgt := 106) hx hb d_NRunner_init_128 (by decide) ?_
        refine W.widen (k := 349 + 2 * (i + 1)) (n := 2378 + 18 * (i + 1)) (by omega) (by omega) ?_
        exact ih74 (i + 1) g100 f104 _ H locs ls (by omega) (by omega) hE hN hL hI hEL m_x t_x e_x m_q1 t_q1 n_q1 pg_q1 lk_q1 m_qo6 t_qo6 e_qo6 m_q10 t_q10 n_q10 in0_q10 m_q21 t_q21 e_q21 y_q21 m_q27 t_q27 e_q27 y_q27 m_q33 t_q33 n_q33 m_q41 t_q41 n_q41 m_q49 t_q49 e_q49 y_q49 hl hK hP hD hS
  exact lp70 11 0 g50 f67 _ H _ ls (by omega) (by omega) hE hN hL hI EL.nil m_x t_x e_x m_q1 t_q1 n_q1 pg_q1 lk_q1 m_qo6 t_qo6 e_qo6 m_q10 t_q10 n_q10 in0_q10 m_q21 t_q21 e_q21 y_q21 m_q27 t_q27 e_q27 y_q27 m_q33 t_q33 n_q33 m_q41 t_q41 n_q41 m_q49 t_q49 e_q49 y_q49 hl hK hP hD hS
/-- a fresh object of the class: nothing waits -/
def CW0 (g : Lay) (x : Nat) (f : Nat → va_E) : Prop := CK0 g x f ∧ g.tg x = 1 ∧ IN0 g f (g.lk (g.lk x 3) 1)
theorem CW0.ex {g g1 : Lay} {x z : Nat} {f f1 : Nat → va_E} (h : CW0 g x f) (hL : LO g) (hz : EX z g f g1 f1) (h0 : g.tg z = 0) : CW0 g1 x f1 := by
  obtain ⟨-, a1, a2, -⟩ := hz.tg_ hL h0 h.2.1 (by decide)
  obtain ⟨-, b1, b2, -⟩ := hz.tg_ hL h0 (lo_k1_3 hL _ h.2.1) (by decide)
  obtain ⟨c0, -⟩ := hz.tg_ hL h0 (lo_k9_1 hL _ (lo_k1_3 hL _ h.2.1)) (by decide)
  refine ⟨h.1.ex hL hz h0, a1, ?_⟩
  rw [a2, b2]
  exact h.2.2.ex hz c0.1 c0.2
def S00 : PS := PS.mk (fun _ => 0) [] [] 0 0 0
theorem CW0.cv {g : Lay} {x : Nat} {f : Nat → va_E} (h : CW0 g x f) (hL : LO g) (hI : IV g f) : CV2 g x f 0 (fun _ => nI 0) (none, S00) := by
  obtain ⟨⟨tx, PR, pr, t1, t2, t3, hne, e1, e2, e3, e4, e5, e6, e7⟩, -, e8⟩ := h
  obtain ⟨hR, eR⟩ := oc_21.of (lo_k2_0 hL _ (lo_k9_1 hL _ (lo_k1_3 hL _ t1))) (hI.1 (g.lk (g.lk (g.lk x 3) 1) 0))
  exact ⟨nI 0, tx, 0, 0, PR, pr, 0, 0, 0, nI 0, nI 0, 0, 0, 0, t2, t3, e1, by decide, Or.inl rfl, e2, (fun _ _ => rfl), e3, by decide, by decide, e4, by decide, by decide, by decide, by decide, hne, e5, by decide, by decide, (fun i _ q => absurd q (by omega)), (Or.inl (Nat.zero_le _)), e6, e7, ⟨rfl, rfl, ⟨0, 0, hR, e8, eR, by decide, rfl, by decide, fun k hk => absurd hk (by omega)⟩, rfl⟩⟩
set_option maxHeartbeats 4000000 in
set_option maxRecDepth 100000 in
theorem g6_BigRunner (l : Launch) (g : Lay) (sz : Nat) (f : Nat → va_E) (x k : Nat) (hL : LO g) (hI : IV g f) (m_x : x ∈ g.LP) (t_x : g.tg x = 0) (e_x : f x = .inr (0, [.null, .int (nI 0), .null, .null, .int (nI 0)])) : Met l ⟨"BigRunner", "<init>", "()V"⟩ [Cond.code ⟨"BigRunner", "<init>", "()V"⟩ prog_1_method_1_code 1 none] ({ frames := 5, cells := 736, slots := 5133, locals := 94 }) (va_Pc [.ref x] (pc_in g sz f)) (CQ g sz (fun g1 f1 => EX x g f g1 f1 ∧ LO g1 ∧ IV g1 f1 ∧ g1.tg x = 1 ∧ g1.tn x = k ∧ NT [] g g1 ∧ (CW0 g1 x f1))) 736 5133 (pc_A g sz) := by
  refine gw_ofW (cc := prog_1_method_1_code) (maxL := 1) (ret := none) (lv := [(0, .ref x)]) (by decide) rfl (Nat.le_of_ble_eq_true rfl) rfl ?_
  intro p e s m args below meth c ls hx hb hr hml hlocks hown hin hB hP hK hD hsz hS hl hA
  subst hsz
  have hL0 := hL
  have tx0 := t_x
  have hE : EX x g f g f := EX.rf
  have hN : NT [] g g := NT.rf
  refine lv_aload_n hx hb d_B_init_0 rfl (lv_at hl 0 rfl) ?_
  refine W.objInit hx hb hown (wd_100 hB _) (wd_101 hB _) (wd_102 hB _) rfl (by rw [hml]; exact hl.1) rfl d_B_init_1 (Nat.le_of_ble_eq_true rfl) (Nat.le_of_ble_eq_true rfl) ?_
  refine W.eq (g2 := F0 m 4 ls []) rfl ?_
  refine lv_aload_n hx hb d_B_init_4 rfl (lv_at hl 0 rfl) ?_
  refine lv_bipush (v := nI 72) hx hb d_B_init_5 (by decide) ?_
  refine gw_arr (atype := .char) (a0 := (72, .inl (fun _ => nI 0))) (N' := 72) (ty := .char) hx hb (wd_137 hB _) rfl 20 hK hP hD hS hA hL (fun _ => rfl) (by decide +kernel) (by decide +kernel) (by decide +kernel) (Nat.le_of_ble_eq_true rfl) (Nat.le_of_ble_eq_true rfl) d_B_init_7 (fun q1 g2 f3 H hz0 t_q1 p_q1 e_q1 y_q1 hK hP hD hS => ?_)
  have d_x_q1 : x ≠ q1 := fun z9 => p_q1 (z9 ▸ m_x)
  have o_q1 := hE.new p_q1
  have hz := hz0.ex
  have hI := IV_tp hz0 hL hI (oc_20.mk t_q1 ⟨_, e_q1, fun _ _ => rfl⟩) (fun z9 => absurd (t_q1.symm.trans z9) (by decide))
  have hL := LO_tp_20 hz0 hL t_q1 y_q1
  have hN := hN.tp hz0 t_q1 (by decide)
  have hE := hE.tr hz (Or.inr o_q1)
  obtain ⟨m_x, t_x, e_x⟩ := hz.kO m_x d_x_q1 t_x e_x
  have m_q1 := hz0.2.1
  refine W.widen (k := 1) (n := 72) (by omega) (by omega) ?_
  refine gw_putF (v := .ref q1) (ty := (.array .char)) (fs' := [.ref q1, .int (nI 0), .null, .null, .int (nI 0)]) (C := "BigRunner") (T := FT0) (N := 5) hx hb (hw0 hB _) (fun _ h9 => h9) TY0 ok0 nm0 hown hK hP hD hS m_x e_x rfl 0 (by decide) (wd_378 hB _) rfl hin rfl (by decide +kernel) rfl rfl (Nat.le_of_ble_eq_true rfl) rfl d_B_init_9 (fun f4 H locs e5 k6 hP hD hS => ?_)
  have hz := EX.wr (g := g2) k6
  have hI := IV_w0 hL hI t_x k6
  have hE := hE.tr hz (Or.inl rfl)
  obtain ⟨m_q1, t_q1, e_q1, y_q1⟩ := hz.kA m_q1 (Ne.symm d_x_q1) t_q1 e_q1 y_q1
  have e_x := e5
  refine lv_aload_n hx hb d_B_init_12 rfl (lv_at hl 0 rfl) ?_
  refine lv_iconst (v := nI 0) hx hb d_B_init_13 (by decide) ?_
  refine pf_put (v := .int (nI 0)) (ty := .int) (fs' := [.ref q1, .int (nI 0), .null, .null, .int (nI 0)]) (C := "BigRunner") (T := FT0) (N := 5) hx hb (hw0 hB _) (fun _ h9 => h9) TY0 ok0 nm0 hown hK hP hD hS m_x e_x rfl 1 (by decide) (wd_379 hB _) rfl (by decide +kernel) rfl rfl (Nat.le_of_ble_eq_true rfl) rfl d_B_init_14 (fun f7 H locs e8 k9 hP hD hS => ?_)
  have hz := EX.wr (g := g2) k9
  have hI := IV_w0 hL hI t_x k9
  have hE := hE.tr hz (Or.inl rfl)
  obtain ⟨m_q1, t_q1, e_q1, y_q1⟩ := hz.kA m_q1 (Ne.symm d_x_q1) t_q1 e_q1 y_q1
  have e_x := e8
  refine lv_aload_n hx hb d_B_init_17 rfl (lv_at hl 0 rfl) ?_
  refine gw_new (ci := 7) (fs := [.null, .int (nI 0), .int (nI 0), .null]) (C := "BigRunner$Reader") (T := FT7) (N := 4) hx hb (hw7 hB _) (fun _ h9 => h9) TY7 ok7 hown (wd_103 hB _) (wd_104 hB _) (wd_73 hB _) hK hP hD hS hA hL rfl (fun j hj => by rcases (show j = 0 ∨ j = 1 ∨ j = 2 ∨ j = 3 by omega) with rfl | rfl | rfl | rfl <;> rfl) (Nat.le_of_ble_eq_true rfl) (Nat.le_of_ble_eq_true rfl) d_B_init_18 (fun q10 g11 f12 H hz0 t_q10 p_q10 e_q10 hK hP hD hS => ?_)
  have d_x_q10 : x ≠ q10 := fun z9 => p_q10 (z9 ▸ m_x)
  have d_q1_q10 : q1 ≠ q10 := fun z9 => p_q10 (z9 ▸ m_q1)
  have o_q10 := hE.new p_q10
  have hz := hz0.ex
  have hI := IV_t0 hz0 hL hI t_q10
  have hL := LO_tp_0 hz0 hL t_q10
  have hN := hN.tp hz0 t_q10 (by decide)
  have hE := hE.tr hz (Or.inr o_q10)
  obtain ⟨m_x, t_x, e_x⟩ := hz.kO m_x d_x_q10 t_x e_x
  obtain ⟨m_q1, t_q1, e_q1, y_q1⟩ := hz.kA m_q1 d_q1_q10 t_q1 e_q1 y_q1
  have m_q10 := hz0.2.1
  refine W.widen (k := 2) (n := 76) (by omega) (by omega) ?_
  refine lv_dup hx hb d_B_init_21 rfl ?_
  have hEo := hE
  have mo_x := m_x
  have mo_q1 := m_q1
  have mo_q10 := m_q10
  refine gw_call (va_runIN (As := []) (rest := [.ref q10, .ref x]) ⟨hx, hb, hml, hown, tb_nil⟩ (g2_Reader l g11 H.size f12 q10 0 hL hI m_q10 t_q10 e_q10) ⟨(va_cnB 0 (tb_one (wd_107 hB _)) tb_good1 rfl rfl rfl (va_Nw.of (A := #[]) rfl (wd_105 hB _)) (wd_73 hB _) (by decide +kernel) ⟨Nat.le_of_ble_eq_true rfl, Nat.le_of_ble_eq_true rfl⟩), rfl, (wd_106 hB _)⟩ ⟨pe_bl, pe_pre hB hK hP hD⟩ rfl rfl hl.1 rfl (lv_room (Nat.le_of_ble_eq_true rfl)) d_B_init_22 ⟨(Nat.le_of_ble_eq_true rfl), (Nat.le_of_ble_eq_true rfl)⟩) hA hD hS (fun g13 f14 H locs hq hK hP hD hS => ?_)
  obtain ⟨hz, hL9, hI9, t9_q10, n_q10, hN9, rd_q10⟩ := hq
  have hL := hL9
  have hI := hI9
  have hN := (hN.sub (S1 := []) (by decide)).tr hN9 (by decide)
  have hE := hE.tr hz (Or.inr o_q10)
  obtain ⟨m_x, t_x, e_x⟩ := hz.kO m_x d_x_q10 t_x e_x
  obtain ⟨m_q1, t_q1, e_q1, y_q1⟩ := hz.kA m_q1 d_q1_q10 t_q1 e_q1 y_q1
  have m_q10 := hz.mem m_q10
  have t_q10 := t9_q10
  obtain ⟨tx15, PR16, qo17, e_q10, tr_PR16, or_PR16, lk_PR16, t9_qo17, or_qo17, e_qo17⟩ := rd_q10
  have t_PR16 := tr_PR16
  have m_PR16 := lo_in hL t_PR16 (by decide)
  have d_x_PR16 : x ≠ PR16 := fun z9 => or_PR16 (z9 ▸ mo_x)
  have d_q1_PR16 : q1 ≠ PR16 := fun z9 => or_PR16 (z9 ▸ mo_q1)
  have d_q10_PR16 : q10 ≠ PR16 := fun z9 => absurd (t_q10.symm.trans ((congrArg _ z9).trans t_PR16)) (by decide)
  have o_PR16 : PR16 ∉ g.LP := fun z9 => or_PR16 (hEo.mem z9)
  have t_qo17 := t9_qo17
  have m_qo17 := lo_in hL t_qo17 (by decide)
  have d_x_qo17 : x ≠ qo17 := fun z9 => or_qo17 (z9 ▸ mo_x)
  have d_q1_qo17 : q1 ≠ qo17 := fun z9 => or_qo17 (z9 ▸ mo_q1)
  have d_q10_qo17 : q10 ≠ qo17 := fun z9 => absurd (t_q10.symm.trans ((congrArg _ z9).trans t_qo17)) (by decide)
  have d_PR16_qo17 : PR16 ≠ qo17 := fun z9 => absurd (t_PR16.symm.trans ((congrArg _ z9).trans t_qo17)) (by decide)
  have o_qo17 : qo17 ∉ g.LP := fun z9 => or_qo17 (hEo.mem z9)
  refine W.widen (k := 342) (n := 2346) (by omega) (by omega) ?_
  refine gw_putF (v := .ref q10) (ty := (.object "BigRunner$Reader")) (fs' := [.ref q1, .int (nI 0), .ref q10, .null, .int (nI 0)]) (C := "BigRunner") (T := FT0) (N := 5) hx hb (hw0 hB _) (fun _ h9 => h9) TY0 ok0 nm0 hown hK hP hD hS m_x e_x rfl 2 (by decide) (wd_380 hB _) rfl hin rfl (by decide +kernel) rfl rfl (Nat.le_of_ble_eq_true rfl) rfl d_B_init_25 (fun f18 H locs e19 k20 hP hD hS => ?_)
  have hz := EX.wr (g := g13) k20
  have hI := IV_w0 hL hI t_x k20
  have hE := hE.tr hz (Or.inl rfl)
  obtain ⟨m_q1, t_q1, e_q1, y_q1⟩ := hz.kA m_q1 (Ne.symm d_x_q1) t_q1 e_q1 y_q1
  have n_q10 := hz.kN m_q10 (Ne.symm d_x_q10) n_q10
  obtain ⟨m_q10, t_q10, e_q10⟩ := hz.kO m_q10 (Ne.symm d_x_q10) t_q10 e_q10
  have lk_PR16 := lk_PR16.ex hz m_PR16 (Ne.symm d_x_PR16)
  obtain ⟨m_PR16, t_PR16⟩ := hz.kT m_PR16 (Ne.symm d_x_PR16) t_PR16
  obtain ⟨m_qo17, t_qo17, e_qo17⟩ := hz.kO m_qo17 (Ne.symm d_x_qo17) t_qo17 e_qo17
  have e_x := e19
  refine lv_aload_n hx hb d_B_init_28 rfl (lv_at hl 0 rfl) ?_
  refine gw_new (ci := 8) (fs := [.null, .null, .int (nI 0), .null, .null, .null, .null, .null, .int (nI 0), .int (nI 0), .int (nI 0), .int (nI 0), .int (nI 0)]) (C := "BigRunner$Runner") (T := FT8) (N := 13) hx hb (hw8 hB _) (fun _ h9 => h9) TY8 ok8 hown (wd_284 hB _) (wd_285 hB _) (wd_79 hB _) hK hP hD hS hA hL rfl (fun j hj => by rcases (show j = 0 ∨ j = 1 ∨ j = 2 ∨ j = 3 ∨ j = 4 ∨ j = 5 ∨ j = 6 ∨ j = 7 ∨ j = 8 ∨ j = 9 ∨ j = 10 ∨ j = 11 ∨ j = 12 by omega) with rfl | rfl | rfl | rfl | rfl | rfl | rfl | rfl | rfl | rfl | rfl | rfl | rfl <;> rfl) (Nat.le_of_ble_eq_true rfl) (Nat.le_of_ble_eq_true rfl) d_B_init_29 (fun q21 g22 f23 H hz0 t_q21 p_q21 e_q21 hK hP hD hS => ?_)
  have d_x_q21 : x ≠ q21 := fun z9 => p_q21 (z9 ▸ m_x)
  have d_q1_q21 : q1 ≠ q21 := fun z9 => p_q21 (z9 ▸ m_q1)
  have d_q10_q21 : q10 ≠ q21 := fun z9 => p_q21 (z9 ▸ m_q10)
  have d_PR16_q21 : PR16 ≠ q21 := fun z9 => p_q21 (z9 ▸ m_PR16)
  have d_qo17_q21 : qo17 ≠ q21 := fun z9 => p_q21 (z9 ▸ m_qo17)
  have o_q21 := hE.new p_q21
  have hz := hz0.ex
  have hI := IV_t0 hz0 hL hI t_q21
  have hL := LO_tp_0 hz0 hL t_q21
  have hN := hN.tp hz0 t_q21 (by decide)
  have hE := hE.tr hz (Or.inr o_q21)
  obtain ⟨m_x, t_x, e_x⟩ := hz.kO m_x d_x_q21 t_x e_x
  obtain ⟨m_q1, t_q1, e_q1, y_q1⟩ := hz.kA m_q1 d_q1_q21 t_q1 e_q1 y_q1
  have n_q10 := hz.kN m_q10 d_q10_q21 n_q10
  obtain ⟨m_q10, t_q10, e_q10⟩ := hz.kO m_q10 d_q10_q21 t_q10 e_q10
  have lk_PR16 := lk_PR16.ex hz m_PR16 d_PR16_q21
  obtain ⟨m_PR16, t_PR16⟩ := hz.kT m_PR16 d_PR16_q21 t_PR16
  obtain ⟨m_qo17, t_qo17, e_qo17⟩ := hz.kO m_qo17 d_qo17_q21 t_qo17 e_qo17
  have m_q21 := hz0.2.1
  refine W.widen (k := 343) (n := 2359) (by omega) (by omega) ?_
  refine lv_dup hx hb d_B_init_32 rfl ?_
  have hEo := hE
  have mo_x := m_x
  have mo_q1 := m_q1
  have mo_q10 := m_q10
  have mo_PR16 := m_PR16
  have mo_qo17 := m_qo17
  have mo_q21 := m_q21
  refine gw_call (va_runI (As := []) (rest := [.ref q21, .ref x]) ⟨hx, hb, hml, hown, tb_nil⟩ (g6_Runner l g22 H.size f23 q21 0 hL hI m_q21 t_q21 e_q21) ⟨(callB_of 0 (tb_one (wd_288 hB _)) tb_good1 rfl rfl rfl (wd_79 hB _) (wd_286 hB _) (by decide +kernel) ⟨Nat.le_of_ble_eq_true rfl, Nat.le_of_ble_eq_true rfl⟩), rfl, (wd_287 hB _)⟩ ⟨pe_bl, pe_pre hB hK hP hD⟩ rfl rfl hl.1 rfl (lv_room (Nat.le_of_ble_eq_true rfl)) d_B_init_33 ⟨(Nat.le_of_ble_eq_true rfl), (Nat.le_of_ble_eq_true rfl)⟩) hA hD hS (fun g24 f25 H locs hq hK hP hD hS => ?_)
  obtain ⟨hz, hL9, hI9, t9_q21, n_q21, hN9, rn_q21⟩ := hq
  have hL := hL9
  have hI := hI9
  have hN := (hN.sub (S1 := []) (by decide)).tr hN9 (by decide)
  have hE := hE.tr hz (Or.inr o_q21)
  obtain ⟨m_x, t_x, e_x⟩ := hz.kO m_x d_x_q21 t_x e_x
  obtain ⟨m_q1, t_q1, e_q1, y_q1⟩ := hz.kA m_q1 d_q1_q21 t_q1 e_q1 y_q1
  have n_q10 := hz.kN m_q10 d_q10_q21 n_q10
  obtain ⟨m_q10, t_q10, e_q10⟩ := hz.kO m_q10 d_q10_q21 t_q10 e_q10
  have lk_PR16 := lk_PR16.ex hz m_PR16 d_PR16_q21
  obtain ⟨m_PR16, t_PR16⟩ := hz.kT m_PR16 d_PR16_q21 t_PR16
  obtain ⟨m_qo17, t_qo17, e_qo17⟩ := hz.kO m_qo17 d_qo17_q21 t_qo17 e_qo17
  have m_q21 := hz.mem m_q21
  have t_q21 := t9_q21
  obtain ⟨pr26, qo27, uo28, hr_q21, tr_pr26, or_pr26, pg_pr26, lk_pr26, t9_qo27, or_qo27, e_qo27, lk1_q21, t9_uo28, or_uo28, in0_uo28⟩ := rn_q21
  have t_pr26 := tr_pr26
  have m_pr26 := lo_in hL t_pr26 (by decide)
  have d_x_pr26 : x ≠ pr26 := fun z9 => or_pr26 (z9 ▸ mo_x)
  have d_q1_pr26 : q1 ≠ pr26 := fun z9 => or_pr26 (z9 ▸ mo_q1)
  have d_q10_pr26 : q10 ≠ pr26 := fun z9 => or_pr26 (z9 ▸ mo_q10)
  have d_PR16_pr26 : PR16 ≠ pr26 := fun z9 => or_pr26 (z9 ▸ mo_PR16)
  have d_qo17_pr26 : qo17 ≠ pr26 := fun z9 => or_pr26 (z9 ▸ mo_qo17)
  have d_q21_pr26 : q21 ≠ pr26 := fun z9 => absurd (t_q21.symm.trans ((congrArg _ z9).trans t_pr26)) (by decide)
  have o_pr26 : pr26 ∉ g.LP := fun z9 => or_pr26 (hEo.mem z9)
  have t_qo27 := t9_qo27
  have m_qo27 := lo_in hL t_qo27 (by decide)
  have d_x_qo27 : x ≠ qo27 := fun z9 => or_qo27 (z9 ▸ mo_x)
  have d_q1_qo27 : q1 ≠ qo27 := fun z9 => or_qo27 (z9 ▸ mo_q1)
  have d_q10_qo27 : q10 ≠ qo27 := fun z9 => or_qo27 (z9 ▸ mo_q10)
  have d_PR16_qo27 : PR16 ≠ qo27 := fun z9 => or_qo27 (z9 ▸ mo_PR16)
  have d_qo17_qo27 : qo17 ≠ qo27 := fun z9 => or_qo27 (z9 ▸ mo_qo17)
  have d_q21_qo27 : q21 ≠ qo27 := fun z9 => absurd (t_q21.symm.trans ((congrArg _ z9).trans t_qo27)) (by decide)
  have d_pr26_qo27 : pr26 ≠ qo27 := fun z9 => absurd (t_pr26.symm.trans ((congrArg _ z9).trans t_qo27)) (by decide)
  have o_qo27 : qo27 ∉ g.LP := fun z9 => or_qo27 (hEo.mem z9)
  have t_uo28 := t9_uo28
  have m_uo28 := lo_in hL t_uo28 (by decide)
  have d_x_uo28 : x ≠ uo28 := fun z9 => or_uo28 (z9 ▸ mo_x)
  have d_q1_uo28 : q1 ≠ uo28 := fun z9 => or_uo28 (z9 ▸ mo_q1)
  have d_q10_uo28 : q10 ≠ uo28 := fun z9 => or_uo28 (z9 ▸ mo_q10)
  have d_PR16_uo28 : PR16 ≠ uo28 := fun z9 => or_uo28 (z9 ▸ mo_PR16)
  have d_qo17_uo28 : qo17 ≠ uo28 := fun z9 => or_uo28 (z9 ▸ mo_qo17)
  have d_q21_uo28 : q21 ≠ uo28 := fun z9 => absurd (t_q21.symm.trans ((congrArg _ z9).trans t_uo28)) (by decide)
  have d_pr26_uo28 : pr26 ≠ uo28 := fun z9 => absurd (t_pr26.symm.trans ((congrArg _ z9).trans t_uo28)) (by decide)
  have d_qo27_uo28 : qo27 ≠ uo28 := fun z9 => absurd (t_qo27.symm.trans ((congrArg _ z9).trans t_uo28)) (by decide)
  have o_uo28 : uo28 ∉ g.LP := fun z9 => or_uo28 (hEo.mem z9)
  refine W.widen (k := 736) (n := 5133) (by omega) (by omega) ?_
  refine gw_putF (v := .ref q21) (ty := (.object "BigRunner$Runner")) (fs' := [.ref q1, .int (nI 0), .ref q10, .ref q21, .int (nI 0)]) (C := "BigRunner") (T := FT0) (N := 5) hx hb (hw0 hB _) (fun _ h9 => h9) TY0 ok0 nm0 hown hK hP hD hS m_x e_x rfl 3 (by decide) (wd_381 hB _) rfl hin rfl (by decide +kernel) rfl rfl (Nat.le_of_ble_eq_true rfl) rfl d_B_init_36 (fun f29 H locs e30 k31 hP hD hS => ?_)
  have hz := EX.wr (g := g24) k31
  have hI := IV_w0 hL hI t_x k31
  have hE := hE.tr hz (Or.inl rfl)
  obtain ⟨m_q1, t_q1, e_q1, y_q1⟩ := hz.kA m_q1 (Ne.symm d_x_q1) t_q1 e_q1 y_q1
  have n_q10 := hz.kN m_q10 (Ne.symm d_x_q10) n_q10
  obtain ⟨m_q10, t_q10, e_q10⟩ := hz.kO m_q10 (Ne.symm d_x_q10) t_q10 e_q10
  have lk_PR16 := lk_PR16.ex hz m_PR16 (Ne.symm d_x_PR16)
  obtain ⟨m_PR16, t_PR16⟩ := hz.kT m_PR16 (Ne.symm d_x_PR16) t_PR16
  obtain ⟨m_qo17, t_qo17, e_qo17⟩ := hz.kO m_qo17 (Ne.symm d_x_qo17) t_qo17 e_qo17
  have n_q21 := hz.kN m_q21 (Ne.symm d_x_q21) n_q21
  have hr_q21 := hr_q21.ex hz m_q21 (Ne.symm d_x_q21)
  have lk1_q21 := lk1_q21.ex hz m_q21 (Ne.symm d_x_q21)
  obtain ⟨m_q21, t_q21⟩ := hz.kT m_q21 (Ne.symm d_x_q21) t_q21
  have pg_pr26 := pg_pr26.ex hz m_pr26 (Ne.symm d_x_pr26)
  have lk_pr26 := lk_pr26.ex hz m_pr26 (Ne.symm d_x_pr26)
  obtain ⟨m_pr26, t_pr26⟩ := hz.kT m_pr26 (Ne.symm d_x_pr26) t_pr26
  obtain ⟨m_qo27, t_qo27, e_qo27⟩ := hz.kO m_qo27 (Ne.symm d_x_qo27) t_qo27 e_qo27
  have in0_uo28 := in0_uo28.ex hz m_uo28 (Ne.symm d_x_uo28)
  obtain ⟨m_uo28, t_uo28⟩ := hz.kT m_uo28 (Ne.symm d_x_uo28) t_uo28
  have e_x := e30
  refine lv_aload_n hx hb d_B_init_39 rfl (lv_at hl 0 rfl) ?_
  refine lv_iconst (v := nI 0) hx hb d_B_init_40 (by decide) ?_
  refine pf_put (v := .int (nI 0)) (ty := .boolean) (fs' := [.ref q1, .int (nI 0), .ref q10, .ref q21, .int (nI 0)]) (C := "BigRunner") (T := FT0) (N := 5) hx hb (hw0 hB _) (fun _ h9 => h9) TY0 ok0 nm0 hown hK hP hD hS m_x e_x rfl 4 (by decide) (wd_382 hB _) rfl (by decide +kernel) rfl rfl (Nat.le_of_ble_eq_true rfl) rfl d_B_init_41 (fun f32 H locs e33 k34 hP hD hS => ?_)
  have hz := EX.wr (g := g24) k34
  have hI := IV_w0 hL hI t_x k34
  have hE := hE.tr hz (Or.inl rfl)
  obtain ⟨m_q1, t_q1, e_q1, y_q1⟩ := hz.kA m_q1 (Ne.symm d_x_q1) t_q1 e_q1 y_q1
  have n_q10 := hz.kN m_q10 (Ne.symm d_x_q10) n_q10
  obtain ⟨m_q10, t_q10, e_q10⟩ := hz.kO m_q10 (Ne.symm d_x_q10) t_q10 e_q10
  have lk_PR16 := lk_PR16.ex hz m_PR16 (Ne.symm d_x_PR16)
  obtain ⟨m_PR16, t_PR16⟩ := hz.kT m_PR16 (Ne.symm d_x_PR16) t_PR16
  obtain ⟨m_qo17, t_qo17, e_qo17⟩ := hz.kO m_qo17 (Ne.symm d_x_qo17) t_qo17 e_qo17
  have n_q21 := hz.kN m_q21 (Ne.symm d_x_q21) n_q21
  have hr_q21 := hr_q21.ex hz m_q21 (Ne.symm d_x_q21)
  have lk1_q21 := lk1_q21.ex hz m_q21 (Ne.symm d_x_q21)
  obtain ⟨m_q21, t_q21⟩ := hz.kT m_q21 (Ne.symm d_x_q21) t_q21
  have pg_pr26 := pg_pr26.ex hz m_pr26 (Ne.symm d_x_pr26)
  have lk_pr26 := lk_pr26.ex hz m_pr26 (Ne.symm d_x_pr26)
  obtain ⟨m_pr26, t_pr26⟩ := hz.kT m_pr26 (Ne.symm d_x_pr26) t_pr26
  obtain ⟨m_qo27, t_qo27, e_qo27⟩ := hz.kO m_qo27 (Ne.symm d_x_qo27) t_qo27 e_qo27
  have in0_uo28 := in0_uo28.ex hz m_uo28 (Ne.symm d_x_uo28)
  obtain ⟨m_uo28, t_uo28⟩ := hz.kT m_uo28 (Ne.symm d_x_uo28) t_uo28
  have e_x := e33
  obtain ⟨g35, hz0, tT, hlk, htn, hac, hLP, htys, hDD⟩ := ty_mk g24 f32 f32 x 1 k (fun j9 => if j9 = 0 then q1 else if j9 = 2 then q10 else if j9 = 3 then q21 else 0) t_x m_x (fun _ _ => rfl)
  have hK : va_K g35.D vcl g35.tys s := by rw [hDD, htys]; exact hK
  have hP : va_P g35.D vcl (va_pl g35.LP f32) H := by rw [hDD, hLP]; exact hP
  have hD : va_D (pc_A g s.heap.size) (va_pl g35.LP f32) := by rw [hLP]; exact hD
  have hz := hz0.ex
  have l_0 : g35.lk x 0 = q1 := by rw [hlk]; rfl
  have l_2 : g35.lk x 2 = q10 := by rw [hlk]; rfl
  have l_3 : g35.lk x 3 = q21 := by rw [hlk]; rfl
  obtain ⟨m_q1, t_q1, e_q1, y_q1⟩ := hz.kA m_q1 (Ne.symm d_x_q1) t_q1 e_q1 y_q1
  have n_q10 := hz.kN m_q10 (Ne.symm d_x_q10) n_q10
  obtain ⟨m_q10, t_q10, e_q10⟩ := hz.kO m_q10 (Ne.symm d_x_q10) t_q10 e_q10
  have lk_PR16 := lk_PR16.ex hz m_PR16 (Ne.symm d_x_PR16)
  obtain ⟨m_PR16, t_PR16⟩ := hz.kT m_PR16 (Ne.symm d_x_PR16) t_PR16
  obtain ⟨m_qo17, t_qo17, e_qo17⟩ := hz.kO m_qo17 (Ne.symm d_x_qo17) t_qo17 e_qo17
  have n_q21 := hz.kN m_q21 (Ne.symm d_x_q21) n_q21
  have hr_q21 := hr_q21.ex hz m_q21 (Ne.symm d_x_q21)
  have lk1_q21 := lk1_q21.ex hz m_q21 (Ne.symm d_x_q21)
  obtain ⟨m_q21, t_q21⟩ := hz.kT m_q21 (Ne.symm d_x_q21) t_q21
  have pg_pr26 := pg_pr26.ex hz m_pr26 (Ne.symm d_x_pr26)
  have lk_pr26 := lk_pr26.ex hz m_pr26 (Ne.symm d_x_pr26)
  obtain ⟨m_pr26, t_pr26⟩ := hz.kT m_pr26 (Ne.symm d_x_pr26) t_pr26
  obtain ⟨m_qo27, t_qo27, e_qo27⟩ := hz.kO m_qo27 (Ne.symm d_x_qo27) t_qo27 e_qo27
  have in0_uo28 := in0_uo28.ex hz m_uo28 (Ne.symm d_x_uo28)
  obtain ⟨m_uo28, t_uo28⟩ := hz.kT m_uo28 (Ne.symm d_x_uo28) t_uo28
  have m_x := hz0.2.1
  have oc9 : oc g35 x (f32 x) := oc_1.mk tT ⟨0, (nI 0), (by rw [l_0, l_2, l_3]; exact e_x), (by first | exact Or.inl rfl | exact Or.inr rfl | decide | exact fun z9 => absurd z9 (by decide)), (by first | exact Or.inl rfl | exact Or.inr rfl | decide | exact fun z9 => absurd z9 (by decide))⟩
  have hI := IV_tp hz0 hL hI oc9 (fun z9 => absurd (tT.symm.trans z9) (by decide))
  have hL := LO_tp_1 hz0 hL tT (by rw [l_0]; exact t_q1) (by rw [l_2]; exact t_q10) (by rw [l_3]; exact t_q21)
  have hN := (hN.sub (S1 := []) (by decide)).tp hz0 tT (by decide)
  have hE := hE.tr hz (Or.inl rfl)
  exact gw_ret hx hb hr hlocks hK hP hD hS d_B_init_44 (by omega) (by omega) ⟨hE, hL, hI, tT, htn, hN, ⟨⟨_, PR16, pr26, tT, t_PR16, t_pr26, d_PR16_pr26, (by rw [l_0, l_2, l_3]; exact e_x), (by rw [l_0]; exact e_q1), (by rw [l_2]; exact e_q10), (by rw [l_3]; exact hr_q21), pg_pr26, OIN.mk lk_PR16 e_qo17, OIN.mk lk_pr26 e_qo27⟩, tT, (by rw [l_3, show g35.lk q21 1 = uo28 from lk1_q21]; exact in0_uo28)⟩⟩

