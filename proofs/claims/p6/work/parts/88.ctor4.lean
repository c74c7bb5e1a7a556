/-- a fresh object of the class -/
def CJ0 (g : Lay) (x : Nat) (f : Nat → va_E) : Prop := ∃ (tx : Value) (PR pr : Nat), g.tg x = 1 ∧ g.tg PR = 7 ∧ g.tg pr = 7 ∧ PR ≠ pr ∧ f x = .inr (0, [.ref (g.lk x 0), .int (nI 0), .ref (g.lk x 2), .ref (g.lk x 3), .int (nI 0)]) ∧ f (g.lk x 0) = .inl (g.ac (g.lk x 0), 72, .inl (fun _ => nI 0)) ∧ f (g.lk x 2) = .inr (7, [tx, .int (nI 0), .int (nI 0), .ref PR]) ∧ RN0 g f (g.lk x 3) pr ∧ PG0 g f pr
theorem EX.tg_ {z y T : Nat} {g g1 : Lay} {f f1 : Nat → va_E} (hL : LO g) (hz : EX z g f g1 f1) (h0 : g.tg z = 0) (ht : g.tg y = T) (hT : T ≠ 0) : (y ∈ g.LP ∧ y ≠ z) ∧ g1.tg y = T ∧ g1.lk y = g.lk y ∧ g1.ac y = g.ac y ∧ g1.tn y = g.tn y ∧ f1 y = f y := by
  have hm := lo_in hL ht hT
  have hn : y ≠ z := fun q => hT (by rw [← ht, q, h0])
  obtain ⟨a1, a2⟩ := hz.2.2.2 y hm hn
  exact ⟨⟨hm, hn⟩, a1.trans ht, a2⟩
theorem CJ0.ex {g g1 : Lay} {x z : Nat} {f f1 : Nat → va_E} (h : CJ0 g x f) (hL : LO g) (hz : EX z g f g1 f1) (h0 : g.tg z = 0) : CJ0 g1 x f1 := by
  obtain ⟨tx, PR, pr, t1, t2, t3, hne, e1, e2, e3, e4, e5⟩ := h
  obtain ⟨-, a1, a2, a3, a4, a5⟩ := hz.tg_ hL h0 t1 (by decide)
  obtain ⟨-, b1, -⟩ := hz.tg_ hL h0 t2 (by decide)
  obtain ⟨c0, c1, -⟩ := hz.tg_ hL h0 t3 (by decide)
  obtain ⟨-, d1, d2, d3, d4, d5⟩ := hz.tg_ hL h0 (lo_k1_0 hL _ t1) (by decide)
  obtain ⟨-, k1, k2, k3, k4, k5⟩ := hz.tg_ hL h0 (lo_k1_2 hL _ t1) (by decide)
  obtain ⟨r0, -⟩ := hz.tg_ hL h0 (lo_k1_3 hL _ t1) (by decide)
  refine ⟨tx, PR, pr, a1, b1, c1, hne, ?_, ?_, ?_, ?_, e5.ex hz c0.1 c0.2⟩
  · rw [a5, a2]; exact e1
  · rw [a2, d5, d3]; exact e2
  · rw [a2, k5]; exact e3
  · rw [a2]; exact e4.ex hz r0.1 r0.2
theorem CJ0.cj {g : Lay} {x : Nat} {f : Nat → va_E} (h : CJ0 g x f) : CJ g x f 0 (fun _ => nI 0) := by
  obtain ⟨tx, PR, pr, t1, t2, t3, hne, e1, e2, e3, e4, e5⟩ := h
  exact ⟨nI 0, tx, 0, 0, PR, pr, 0, 0, 0, nI 0, nI 0, 0, 0, 0, t2, t3, e1, by decide, Or.inl rfl, e2, (fun _ _ => rfl), e3, by decide, by decide, e4, by decide, by decide, by decide, by decide, hne, e5, by decide, by decide, (fun i _ q => absurd q (by omega)), (Or.inl (Nat.zero_le _))⟩
set_option maxHeartbeats 4000000 in
set_option maxRecDepth 100000 in
theorem g_BigRunner (l : Launch) (g : Lay) (sz : Nat) (f : Nat → va_E) (x k : Nat) (hL : LO g) (hI : IV g f) (m_x : x ∈ g.LP) (t_x : g.tg x = 0) (e_x : f x = .inr (0, [.null, .int (nI 0), .null, .null, .int (nI 0)])) : Met l ⟨"BigRunner", "<init>", "()V"⟩ [Cond.code ⟨"BigRunner", "<init>", "()V"⟩ prog_1_method_1_code 1 none] ({ frames := 5, cells := 736, slots := 5133, locals := 94 }) (va_Pc [.ref x] (pc_in g sz f)) (CQ g sz (fun g1 f1 => EX x g f g1 f1 ∧ LO g1 ∧ IV g1 f1 ∧ g1.tg x = 1 ∧ g1.tn x = k ∧ NT [] g g1 ∧ (CJ0 g1 x f1))) 736 5133 (pc_A g sz) := by
  refine gw_ofW (cc := prog_1_method_1_code) (maxL := 1) (ret := none) (lv := [(0, .ref x)]) (by decide) rfl (Nat.le_of_ble_eq_true rfl) rfl ?_
  intro p e s m args below meth c ls hx hb hr hml hlocks hown hin hB hP hK hD hsz hS hl hA
  subst hsz
  have hL0 := hL
  have tx0 := t_x
  have hE : EX x g f g f := EX.rf
  have hN : NT [] g g := NT.rf
  refine lv_aload_n hx hb d_B_init_0 rfl (lv_at hl 0 rfl) ?_
  refine W.objInit hx hb hown (wd_100 hB _) (wd_101 hB _) (wd_102 hB _) rfl (by rw [hml]; exact hl.1) rfl d_B_init_1 (Nat.le_of_ble_eq_true rfl) (Nat.le_of_ble_eq_true rfl) ?_
  refine W.eq (g2 := F0 m 4 ls []) rfl ?_
  refine lv_aload_n hx hb d_B_init_4 rfl (lv_at hl 0 rfl) ?_
  refine lv_bipush (v := nI 72) hx hb d_B_init_5 (by decide) ?_
  refine gw_arr (atype := .char) (a0 := (72, .inl (fun _ => nI 0))) (N' := 72) (ty := .char) hx hb (wd_137 hB _) rfl 20 hK hP hD hS hA hL (fun _ => rfl) (by decide +kernel) (by decide +kernel) (by decide +kernel) (Nat.le_of_ble_eq_true rfl) (Nat.le_of_ble_eq_true rfl) d_B_init_7 (fun q1 g2 f3 H hz0 t_q1 p_q1 e_q1 y_q1 hK hP hD hS => ?_)
  have d_x_q1 : x ≠ q1 := fun z9 => p_q1 (z9 ▸ m_x)
  have o_q1 := hE.new p_q1
  have hz := hz0.ex
  have hI := IV_tp hz0 hL hI (oc_20.mk t_q1 ⟨_, e_q1, fun _ _ => rfl⟩) (fun z9 => absurd (t_q1.symm.trans z9) (by decide))
  have hL := LO_tp_20 hz0 hL t_q1 y_q1
  have hN := hN.tp hz0 t_q1 (by decide)
  have hE := hE.tr hz (Or.inr o_q1)
  obtain ⟨m_x, t_x, e_x⟩ := hz.kO m_x d_x_q1 t_x e_x
  have m_q1 := hz0.2.1
  refine W.widen (k := 1) (n := 72) (by omega) (by omega) ?_
  refine gw_putF (v := .ref q1) (ty := (.array .char)) (fs' := [.ref q1, .int (nI 0), .null, .null, .int (nI 0)]) (C := "BigRunner") (T := FT0) (N := 5) hx hb (hw0 hB _) (fun _ h9 => h9) TY0 ok0 nm0 hown hK hP hD hS m_x e_x rfl 0 (by decide) (wd_378 hB _) rfl hin rfl (by decide +kernel) rfl rfl (Nat.le_of_ble_eq_true rfl) rfl d_B_init_9 (fun f4 H locs e5 k6 hP hD hS => ?_)
  have hz := EX.wr (g := g2) k6
  have hI := IV_w0 hL hI t_x k6
  have hE := hE.tr hz (Or.inl rfl)
  obtain ⟨m_q1, t_q1, e_q1, y_q1⟩ := hz.kA m_q1 (Ne.symm d_x_q1) t_q1 e_q1 y_q1
  have e_x := e5
  refine lv_aload_n hx hb d_B_init_12 rfl (lv_at hl 0 rfl) ?_
  refine lv_iconst (v := nI 0) hx hb d_B_init_13 (by decide) ?_
  refine pf_put (v := .int (nI 0)) (ty := .int) (fs' := [.ref q1, .int (nI 0), .null, .null, .int (nI 0)]) (C := "BigRunner") (T := FT0) (N := 5) hx hb (hw0 hB _) (fun _ h9 => h9) TY0 ok0 nm0 hown hK hP hD hS m_x e_x rfl 1 (by decide) (wd_379 hB _) rfl (by decide +kernel) rfl rfl (Nat.le_of_ble_eq_true rfl) rfl d_B_init_14 (fun f7 H locs e8 k9 hP hD hS => ?_)
  have hz := EX.wr (g := g2) k9
  have hI := IV_w0 hL hI t_x k9
  have hE := hE.tr hz (Or.inl rfl)
  obtain ⟨m_q1, t_q1, e_q1, y_q1⟩ := hz.kA m_q1 (Ne.symm d_x_q1) t_q1 e_q1 y_q1
  have e_x := e8
  refine lv_aload_n hx hb d_B_init_17 rfl (lv_at hl 0 rfl) ?_
  refine gw_new (ci := 7) (fs := [.null, .int (nI 0), .int (nI 0), .null]) (C := "BigRunner$Reader") (T := FT7) (N := 4) hx hb (hw7 hB _) (fun _ h9 => h9) TY7 ok7 hown (wd_103 hB _) (wd_104 hB _) (wd_73 hB _) hK hP hD hS hA hL rfl (fun j hj => by rcases (show j = 0 ∨ j = 1 ∨ j = 2 ∨ j = 3 by omega) with rfl | rfl | rfl | rfl <;> rfl) (Nat.le_of_ble_eq_true rfl) (Nat.le_of_ble_eq_true rfl) d_B_init_18 (fun q10 g11 f12 H hz0 t_q10 p_q10 e_q10 hK hP hD hS => ?_)
  have d_x_q10 : x ≠ q10 := fun z9 => p_q10 (z9 ▸ m_x)
  have d_q1_q10 : q1 ≠ q10 := fun z9 => p_q10 (z9 ▸ m_q1)
  have o_q10 := hE.new p_q10
  have hz := hz0.ex
  have hI := IV_t0 hz0 hL hI t_q10
  have hL := LO_tp_0 hz0 hL t_q10
  have hN := hN.tp hz0 t_q10 (by decide)
  have hE := hE.tr hz (Or.inr o_q10)
  obtain ⟨m_x, t_x, e_x⟩ := hz.kO m_x d_x_q10 t_x e_x
  obtain ⟨m_q1, t_q1, e_q1, y_q1⟩ := hz.kA m_q1 d_q1_q10 t_q1 e_q1 y_q1
  have m_q10 := hz0.2.1
  refine W.widen (k := 2) (n := 76) (by omega) (by omega) ?_
  refine lv_dup hx hb d_B_init_21 rfl ?_
  have hEo := hE
  have mo_x := m_x
  have mo_q1 := m_q1
  have mo_q10 := m_q10
  refine gw_call (va_runIN (As := []) (rest := [.ref q10, .ref x]) ⟨hx, hb, hml, hown, tb_nil⟩ (g_Reader l g11 H.size f12 q10 0 hL hI m_q10 t_q10 e_q10) ⟨(va_cnB 0 (tb_one (wd_107 hB _)) tb_good1 rfl rfl rfl (va_Nw.of (A := #[]) rfl (wd_105 hB _)) (wd_73 hB _) (by decide +kernel) ⟨Nat.le_of_ble_eq_true rfl, Nat.le_of_ble_eq_true rfl⟩), rfl, (wd_106 hB _)⟩ ⟨pe_bl, pe_pre hB hK hP hD⟩ rfl rfl hl.1 rfl (lv_room (Nat.le_of_ble_eq_true rfl)) d_B_init_22 ⟨(Nat.le_of_ble_eq_true rfl), (Nat.le_of_ble_eq_true rfl)⟩) hA hD hS (fun g13 f14 H locs hq hK hP hD hS => ?_)
  obtain ⟨hz, hL9, hI9, t9_q10, n_q10, hN9, rd_q10⟩ := hq
  have hL := hL9
  have hI := hI9
  have hN := (hN.sub (S1 := []) (by decide)).tr hN9 (by decide)
  have hE := hE.tr hz (Or.inr o_q10)
  obtain ⟨m_x, t_x, e_x⟩ := hz.kO m_x d_x_q10 t_x e_x
  obtain ⟨m_q1, t_q1, e_q1, y_q1⟩ := hz.kA m_q1 d_q1_q10 t_q1 e_q1 y_q1
  have m_q10 := hz.mem m_q10
  have t_q10 := t9_q10
  obtain ⟨tx15, PR16, e_q10, tr_PR16, or_PR16⟩ := rd_q10
  have t_PR16 := tr_PR16
  have m_PR16 := lo_in hL t_PR16 (by decide)
  have d_x_PR16 : x ≠ PR16 := fun z9 => or_PR16 (z9 ▸ mo_x)
  have d_q1_PR16 : q1 ≠ PR16 := fun z9 => or_PR16 (z9 ▸ mo_q1)
  have d_q10_PR16 : q10 ≠ PR16 := fun z9 => absurd (t_q10.symm.trans ((congrArg _ z9).trans t_PR16)) (by decide)
  have o_PR16 : PR16 ∉ g.LP := fun z9 => or_PR16 (hEo.mem z9)
  refine W.widen (k := 342) (n := 2346) (by omega) (by omega) ?_
  refine gw_putF (v := .ref q10) (ty := (.object "BigRunner$Reader")) (fs' := [.ref q1, .int (nI 0), .ref q10, .null, .int (nI 0)]) (C := "BigRunner") (T := FT0) (N := 5) hx hb (hw0 hB _) (fun _ h9 => h9) TY0 ok0 nm0 hown hK hP hD hS m_x e_x rfl 2 (by decide) (wd_380 hB _) rfl hin rfl (by decide +kernel) rfl rfl (Nat.le_of_ble_eq_true rfl) rfl d_B_init_25 (fun f17 H locs e18 k19 hP hD hS => ?_)
  have hz := EX.wr (g := g13) k19
  have hI := IV_w0 hL hI t_x k19
  have hE := hE.tr hz (Or.inl rfl)
  obtain ⟨m_q1, t_q1, e_q1, y_q1⟩ := hz.kA m_q1 (Ne.symm d_x_q1) t_q1 e_q1 y_q1
  have n_q10 := hz.kN m_q10 (Ne.symm d_x_q10) n_q10
  obtain ⟨m_q10, t_q10, e_q10⟩ := hz.kO m_q10 (Ne.symm d_x_q10) t_q10 e_q10
  obtain ⟨m_PR16, t_PR16⟩ := hz.kT m_PR16 (Ne.symm d_x_PR16) t_PR16
  have e_x := e18
  refine lv_aload_n hx hb d_B_init_28 rfl (lv_at hl 0 rfl) ?_
  refine gw_new (ci := 8) (fs := [.null, .null, .int (nI 0), .null, .null, .null, .null, .null, .int (nI 0), .int (nI 0), .int (nI 0), .int (nI 0), .int (nI 0)]) (C := "BigRunner$Runner") (T := FT8) (N := 13) hx hb (hw8 hB _) (fun _ h9 => h9) TY8 ok8 hown (wd_284 hB _) (wd_285 hB _) (wd_79 hB _) hK hP hD hS hA hL rfl (fun j hj => by rcases (show j = 0 ∨ j = 1 ∨ j = 2 ∨ j = 3 ∨ j = 4 ∨ j = 5 ∨ j = 6 ∨ j = 7 ∨ j = 8 ∨ j = 9 ∨ j = 10 ∨ j = 11 ∨ j = 12 by omega) with rfl | rfl | rfl | rfl | rfl | rfl | rfl | rfl | rfl | rfl | rfl | rfl | rfl <;> rfl) (Nat.le_of_ble_eq_true rfl) (Nat.le_of_ble_eq_true rfl) d_B_init_29 (fun q20 g21 f22 H hz0 t_q20 p_q20 e_q20 hK hP hD hS => ?_)
  have d_x_q20 : x ≠ q20 := fun z9 => p_q20 (z9 ▸ m_x)
  have d_q1_q20 : q1 ≠ q20 := fun z9 => p_q20 (z9 ▸ m_q1)
  have d_q10_q20 : q10 ≠ q20 := fun z9 => p_q20 (z9 ▸ m_q10)
  have d_PR16_q20 : PR16 ≠ q20 := fun z9 => p_q20 (z9 ▸ m_PR16)
  have o_q20 := hE.new p_q20
  have hz := hz0.ex
  have hI := IV_t0 hz0 hL hI t_q20
  have hL := LO_tp_0 hz0 hL t_q20
  have hN := hN.tp hz0 t_q20 (by decide)
  have hE := hE.tr hz (Or.inr o_q20)
  obtain ⟨m_x, t_x, e_x⟩ := hz.kO m_x d_x_q20 t_x e_x
  obtain ⟨m_q1, t_q1, e_q1, y_q1⟩ := hz.kA m_q1 d_q1_q20 t_q1 e_q1 y_q1
  have n_q10 := hz.kN m_q10 d_q10_q20 n_q10
  obtain ⟨m_q10, t_q10, e_q10⟩ := hz.kO m_q10 d_q10_q20 t_q10 e_q10
  obtain ⟨m_PR16, t_PR16⟩ := hz.kT m_PR16 d_PR16_q20 t_PR16
  have m_q20 := hz0.2.1
  refine W.widen (k := 343) (n := 2359) (by omega) (by omega) ?_
  refine lv_dup hx hb d_B_init_32 rfl ?_
  have hEo := hE
  have mo_x := m_x
  have mo_q1 := m_q1
  have mo_q10 := m_q10
  have mo_PR16 := m_PR16
  have mo_q20 := m_q20
  refine gw_call (va_runI (As := []) (rest := [.ref q20, .ref x]) ⟨hx, hb, hml, hown, tb_nil⟩ (g_Runner l g21 H.size f22 q20 0 hL hI m_q20 t_q20 e_q20) ⟨(callB_of 0 (tb_one (wd_288 hB _)) tb_good1 rfl rfl rfl (wd_79 hB _) (wd_286 hB _) (by decide +kernel) ⟨Nat.le_of_ble_eq_true rfl, Nat.le_of_ble_eq_true rfl⟩), rfl, (wd_287 hB _)⟩ ⟨pe_bl, pe_pre hB hK hP hD⟩ rfl rfl hl.1 rfl (lv_room (Nat.le_of_ble_eq_true rfl)) d_B_init_33 ⟨(Nat.le_of_ble_eq_true rfl), (Nat.le_of_ble_eq_true rfl)⟩) hA hD hS (fun g23 f24 H locs hq hK hP hD hS => ?_)
  obtain ⟨hz, hL9, hI9, t9_q20, n_q20, hN9, rn_q20⟩ := hq
  have hL := hL9
  have hI := hI9
  have hN := (hN.sub (S1 := []) (by decide)).tr hN9 (by decide)
  have hE := hE.tr hz (Or.inr o_q20)
  obtain ⟨m_x, t_x, e_x⟩ := hz.kO m_x d_x_q20 t_x e_x
  obtain ⟨m_q1, t_q1, e_q1, y_q1⟩ := hz.kA m_q1 d_q1_q20 t_q1 e_q1 y_q1
  have n_q10 := hz.kN m_q10 d_q10_q20 n_q10
  obtain ⟨m_q10, t_q10, e_q10⟩ := hz.kO m_q10 d_q10_q20 t_q10 e_q10
  obtain ⟨m_PR16, t_PR16⟩ := hz.kT m_PR16 d_PR16_q20 t_PR16
  have m_q20 := hz.mem m_q20
  have t_q20 := t9_q20
  obtain ⟨pr25, hr_q20, tr_pr25, or_pr25, pg_pr25⟩ := rn_q20
  have t_pr25 := tr_pr25
  have m_pr25 := lo_in hL t_pr25 (by decide)
  have d_x_pr25 : x ≠ pr25 := fun z9 => or_pr25 (z9 ▸ mo_x)
  have d_q1_pr25 : q1 ≠ pr25 := fun z9 => or_pr25 (z9 ▸ mo_q1)
  have d_q10_pr25 : q10 ≠ pr25 := fun z9 => or_pr25 (z9 ▸ mo_q10)
  have d_PR16_pr25 : PR16 ≠ pr25 := fun z9 => or_pr25 (z9 ▸ mo_PR16)
  have d_q20_pr25 : q20 ≠ pr25 := fun z9 => absurd (t_q20.symm.trans ((congrArg _ z9).trans t_pr25)) (by decide)
  have o_pr25 : pr25 ∉ g.LP := fun z9 => or_pr25 (hEo.mem z9)
  refine W.widen (k := 736) (n := 5133) (by omega) (by omega) ?_
  refine gw_putF (v := .ref q20) (ty := (.object "BigRunner$Runner")) (fs' := [.ref q1, .int (nI 0), .ref q10, .ref q20, .int (nI 0)]) (C := "BigRunner") (T := FT0) (N := 5) hx hb (hw0 hB _) (fun _ h9 => h9) TY0 ok0 nm0 hown hK hP hD hS m_x e_x rfl 3 (by decide) (wd_381 hB _) rfl hin rfl (by decide +kernel) rfl rfl (Nat.le_of_ble_eq_true rfl) rfl d_B_init_36 (fun f26 H locs e27 k28 hP hD hS => ?_)
  have hz := EX.wr (g := g23) k28
  have hI := IV_w0 hL hI t_x k28
  have hE := hE.tr hz (Or.inl rfl)
  obtain ⟨m_q1, t_q1, e_q1, y_q1⟩ := hz.kA m_q1 (Ne.symm d_x_q1) t_q1 e_q1 y_q1
  have n_q10 := hz.kN m_q10 (Ne.symm d_x_q10) n_q10
  obtain ⟨m_q10, t_q10, e_q10⟩ := hz.kO m_q10 (Ne.symm d_x_q10) t_q10 e_q10
  obtain ⟨m_PR16, t_PR16⟩ := hz.kT m_PR16 (Ne.symm d_x_PR16) t_PR16
  have n_q20 := hz.kN m_q20 (Ne.symm d_x_q20) n_q20
  have hr_q20 := hr_q20.ex hz m_q20 (Ne.symm d_x_q20)
  obtain ⟨m_q20, t_q20⟩ := hz.kT m_q20 (Ne.symm d_x_q20) t_q20
  have pg_pr25 := pg_pr25.ex hz m_pr25 (Ne.symm d_x_pr25)
  obtain ⟨m_pr25, t_pr25⟩ := hz.kT m_pr25 (Ne.symm d_x_pr25) t_pr25
  have e_x := e27
  refine lv_aload_n hx hb d_B_init_39 rfl (lv_at hl 0 rfl) ?_
  refine lv_iconst (v := nI 0) hx hb d_B_init_40 (by decide) ?_
  refine pf_put (v := .int (nI 0)) (ty := .boolean) (fs' := [.ref q1, .int (nI 0), .ref q10, .ref q20, .int (nI 0)]) (C := "BigRunner") (T := FT0) (N := 5) hx hb (hw0 hB _) (fun _ h9 => h9) TY0 ok0 nm0 hown hK hP hD hS m_x e_x rfl 4 (by decide) (wd_382 hB _) rfl (by decide +kernel) rfl rfl (Nat.le_of_ble_eq_true rfl) rfl d_B_init_41 (fun f29 H locs e30 k31 hP hD hS => ?_)
  have hz := EX.wr (g := g23) k31
  have hI := IV_w0 hL hI t_x k31
  have hE := hE.tr hz (Or.inl rfl)
  obtain ⟨m_q1, t_q1, e_q1, y_q1⟩ := hz.kA m_q1 (Ne.symm d_x_q1) t_q1 e_q1 y_q1
  have n_q10 := hz.kN m_q10 (Ne.symm d_x_q10) n_q10
  obtain ⟨m_q10, t_q10, e_q10⟩ := hz.kO m_q10 (Ne.symm d_x_q10) t_q10 e_q10
  obtain ⟨m_PR16, t_PR16⟩ := hz.kT m_PR16 (Ne.symm d_x_PR16) t_PR16
  have n_q20 := hz.kN m_q20 (Ne.symm d_x_q20) n_q20
  have hr_q20 := hr_q20.ex hz m_q20 (Ne.symm d_x_q20)
  obtain ⟨m_q20, t_q20⟩ := hz.kT m_q20 (Ne.symm d_x_q20) t_q20
  have pg_pr25 := pg_pr25.ex hz m_pr25 (Ne.symm d_x_pr25)
  obtain ⟨m_pr25, t_pr25⟩ := hz.kT m_pr25 (Ne.symm d_x_pr25) t_pr25
  have e_x := e30
  obtain ⟨g32, hz0, tT, hlk, htn, hac, hLP, htys, hDD⟩ := ty_mk g23 f29 f29 x 1 k (fun j9 => if j9 = 0 then q1 else if j9 = 2 then q10 else if j9 = 3 then q20 else 0) t_x m_x (fun _ _ => rfl)
  have hK : va_K g32.D vcl g32.tys s := by rw [hDD, htys]; exact hK
  have hP : va_P g32.D vcl (va_pl g32.LP f29) H := by rw [hDD, hLP]; exact hP
  have hD : va_D (pc_A g s.heap.size) (va_pl g32.LP f29) := by rw [hLP]; exact hD
  have hz := hz0.ex
  have l_0 : g32.lk x 0 = q1 := by rw [hlk]; rfl
  have l_2 : g32.lk x 2 = q10 := by rw [hlk]; rfl
  have l_3 : g32.lk x 3 = q20 := by rw [hlk]; rfl
  obtain ⟨m_q1, t_q1, e_q1, y_q1⟩ := hz.kA m_q1 (Ne.symm d_x_q1) t_q1 e_q1 y_q1
  have n_q10 := hz.kN m_q10 (Ne.symm d_x_q10) n_q10
  obtain ⟨m_q10, t_q10, e_q10⟩ := hz.kO m_q10 (Ne.symm d_x_q10) t_q10 e_q10
  obtain ⟨m_PR16, t_PR16⟩ := hz.kT m_PR16 (Ne.symm d_x_PR16) t_PR16
  have n_q20 := hz.kN m_q20 (Ne.symm d_x_q20) n_q20
  have hr_q20 := hr_q20.ex hz m_q20 (Ne.symm d_x_q20)
  obtain ⟨m_q20, t_q20⟩ := hz.kT m_q20 (Ne.symm d_x_q20) t_q20
  have pg_pr25 := pg_pr25.ex hz m_pr25 (Ne.symm d_x_pr25)
  obtain ⟨m_pr25, t_pr25⟩ := hz.kT m_pr25 (Ne.symm d_x_pr25) t_pr25
  have m_x := hz0.2.1
  have oc9 : oc g32 x (f29 x) := oc_1.mk tT ⟨0, (nI 0), (by rw [l_0, l_2, l_3]; exact e_x), (by first | exact Or.inl rfl | exact Or.inr rfl | decide | exact fun z9 => absurd z9 (by decide)), (by first | exact Or.inl rfl | exact Or.inr rfl | decide | exact fun z9 => absurd z9 (by decide))⟩
  have hI := IV_tp hz0 hL hI oc9 (fun z9 => absurd (tT.symm.trans z9) (by decide))
  have hL := LO_tp_1 hz0 hL tT (by rw [l_0]; exact t_q1) (by rw [l_2]; exact t_q10) (by rw [l_3]; exact t_q20)
  have hN := (hN.sub (S1 := []) (by decide)).tp hz0 tT (by decide)
  have hE := hE.tr hz (Or.inl rfl)
  exact gw_ret hx hb hr hlocks hK hP hD hS d_B_init_44 (by omega) (by omega) ⟨hE, hL, hI, tT, htn, hN, ⟨_, PR16, pr25, tT, t_PR16, t_pr25, d_PR16_pr25, (by rw [l_0, l_2, l_3]; exact e_x), (by rw [l_0]; exact e_q1), (by rw [l_2]; exact e_q10), (by rw [l_3]; exact hr_q20), pg_pr25⟩⟩
