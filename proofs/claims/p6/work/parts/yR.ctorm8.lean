def MW0 (g : Lay) (M : Nat) (f : Nat → va_E) : Prop := f M = .inr (10, [.int (nI 0), .ref (g.lk M 1), .int (nI 0), .ref (g.lk M 3), .ref (g.lk M 4), .int (nI 0), .ref (g.lk M 6), .ref (g.lk M 7), .ref (g.lk M 8), .int (nI 0), .int (nI 0), .int (nI 0), .ref (g.lk M 12), .int (nI 0), .ref (g.lk M 14), .ref (g.lk M 15), .int (nI 0), .ref (g.lk M 17), .ref (g.lk M 18), .ref (g.lk M 19), .ref (g.lk M 20), .ref (g.lk M 21), .ref (g.lk M 22), .ref (g.lk M 23), .ref (g.lk M 24), .ref (g.lk M 25), .ref (g.lk M 26), .ref (g.lk M 27), .ref (g.lk M 28), .ref (g.lk M 29), .ref (g.lk M 30), .ref (g.lk M 31), .int (nI 0), .ref (g.lk M 33), .ref (g.lk M 34), .ref (g.lk M 35), .int (nI 0), .int (nI 0), .int (nI 0), .int (nI 0), .int (nI 0), .int (nI 0), .int (nI 0), .int (nI 0), .int (nI 0)]) ∧ f (g.lk M 1) = .inl (g.ac (g.lk M 1), 72, .inl (fun _ => nI 0)) ∧ f (g.lk M 30) = .inl (g.ac (g.lk M 30), 1600, .inl ((fun _ => nI 0))) ∧ f (g.lk M 33) = .inl (g.ac (g.lk M 33), 44, .inl ((fun _ => nI 0))) ∧ f (g.lk M 34) = .inl (g.ac (g.lk M 34), 44, .inl ((fun _ => nI 0))) ∧ f (g.lk M 26) = .inl (g.ac (g.lk M 26), 200, .inl ((fun _ => nI 0))) ∧ f (g.lk M 28) = .inl (g.ac (g.lk M 28), 240, .inl ((fun _ => nI 0)))
theorem MW0.ex {g g1 : Lay} {M z : Nat} {f f1 : Nat → va_E} (h : MW0 g M f) (hL : LO g) (t_M : g.tg M = 11) (hz : EX z g f g1 f1) (h0 : g.tg z = 0) : MW0 g1 M f1 := by
  obtain ⟨eM, eT, eLI, eRE, eRS, eVL, eOL⟩ := h
  obtain ⟨-, a1, a2, a3, a4, a5⟩ := hz.tg_ hL h0 t_M (by decide)
  obtain ⟨-, q1, q2, q3, q4, q5⟩ := hz.tg_ hL h0 (lo_k11_1 hL _ t_M) (by decide)
  obtain ⟨-, r01, r02, r03, r04, r05⟩ := hz.tg_ hL h0 (lo_k11_30 hL _ t_M) (by decide)
  obtain ⟨-, r11, r12, r13, r14, r15⟩ := hz.tg_ hL h0 (lo_k11_33 hL _ t_M) (by decide)
  obtain ⟨-, r21, r22, r23, r24, r25⟩ := hz.tg_ hL h0 (lo_k11_34 hL _ t_M) (by decide)
  obtain ⟨-, r31, r32, r33, r34, r35⟩ := hz.tg_ hL h0 (lo_k11_26 hL _ t_M) (by decide)
  obtain ⟨-, r41, r42, r43, r44, r45⟩ := hz.tg_ hL h0 (lo_k11_28 hL _ t_M) (by decide)
  exact ⟨by rw [a5, a2]; exact eM, by rw [a2, q5, q3]; exact eT, by rw [a2, r05, r03]; exact eLI, by rw [a2, r15, r13]; exact eRE, by rw [a2, r25, r23]; exact eRS, by rw [a2, r35, r33]; exact eVL, by rw [a2, r45, r43]; exact eOL⟩
theorem MW0.mv {g : Lay} {M : Nat} {f : Nat → va_E} (h : MW0 g M f) (hL : LO g) (t_M : g.tg M = 11) (hI : IV g f) : MV2 g M f 0 (fun _ => nI 0) (none, S00) := by
  obtain ⟨eM, eT, eLI, eRE, eRS, eVL, eOL⟩ := h
  obtain ⟨hC9, eC9⟩ := oc_43.of (lo_k11_6 hL _ t_M) (hI.1 (g.lk M 6))
  obtain ⟨hA9, eA9⟩ := oc_44.of (lo_k11_7 hL _ t_M) (hI.1 (g.lk M 7))
  obtain ⟨hSI, eSI⟩ := oc_63.of (lo_k11_31 hL _ t_M) (hI.1 (g.lk M 31))
  obtain ⟨hVS, eVS⟩ := oc_59.of (lo_k11_27 hL _ t_M) (hI.1 (g.lk M 27))
  obtain ⟨hOS, eOS⟩ := oc_61.of (lo_k11_29 hL _ t_M) (hI.1 (g.lk M 29))
  obtain ⟨hIN, eIN⟩ := oc_66.of (lo_k11_35 hL _ t_M) (hI.1 (g.lk M 35))
  exact ⟨nI 0, 0, 0, 0, 0, 0, 0, 0, 0, 0, 0, 0, 0, 0, nI 0, nI 0, nI 0, hC9, hA9, fun _ => 0, eM, ⟨by decide, by decide, by decide, by decide, by decide, by decide, by decide, by decide, by decide, by decide, by decide, by decide, by decide, by decide, Or.inl rfl⟩, eT, fun _ _ => rfl, eC9, eA9, ⟨by decide, rfl, fun p hp => absurd hp (by omega)⟩, fun h => by omega, ⟨fun _ => nI 0, hSI, fun _ => nI 0, fun _ => nI 0, fun _ => nI 0, hVS, fun _ => nI 0, hOS, hIN, eLI, eSI, eRE, eRS, eVL, eVS, eOL, eOS, eIN, (fun _ _ => ⟨0, by decide, rfl⟩), (fun _ _ => ⟨0, by decide, rfl⟩), (fun _ _ => ⟨0, by decide, rfl⟩), (fun _ _ => ⟨0, by decide, rfl⟩), (fun _ _ => ⟨0, by decide, rfl⟩), rfl, rfl, rfl, rfl, fun k hk => absurd hk (by omega)⟩⟩
set_option maxHeartbeats 4000000 in
set_option maxRecDepth 100000 in
theorem g6_BigRunnerModel (l : Launch) (g : Lay) (sz : Nat) (f : Nat → va_E) (x k : Nat) (hL : LO g) (hI : IV g f) (m_x : x ∈ g.LP) (t_x : g.tg x = 0) (e_x : f x = .inr (10, [.int (nI 0), .null, .int (nI 0), .null, .null, .int (nI 0), .null, .null, .null, .int (nI 0), .int (nI 0), .int (nI 0), .null, .int (nI 0), .null, .null, .int (nI 0), .null, .null, .null, .null, .null, .null, .null, .null, .null, .null, .null, .null, .null, .null, .null, .int (nI 0), .null, .null, .null, .int (nI 0), .int (nI 0), .int (nI 0), .int (nI 0), .int (nI 0), .int (nI 0), .int (nI 0), .int (nI 0), .int (nI 0)])) : Met l ⟨"BigRunnerModel", "<init>", "()V"⟩ [Cond.code ⟨"BigRunnerModel", "<init>", "()V"⟩ prog_12_method_1_code 1 none] ({ frames := 1, cells := 27, slots := 3414, locals := 12 }) (va_Pc [.ref x] (pc_in g sz f)) (CQ g sz (fun g1 f1 => EX x g f g1 f1 ∧ LO g1 ∧ IV g1 f1 ∧ g1.tg x = 11 ∧ g1.tn x = k ∧ NT [] g g1 ∧ (MW0 g1 x f1))) 27 3414 (pc_A g sz) := by
  refine gw_ofW (cc := prog_12_method_1_code) (maxL := 1) (ret := none) (lv := [(0, .ref x)]) (by decide) rfl (Nat.le_of_ble_eq_true rfl) rfl ?_
  intro p e s m args below meth c ls hx hb hr hml hlocks hown hin hB hP hK hD hsz hS hl hA
  subst hsz
  have hL0 := hL
  have tx0 := t_x
  have hE : EX x g f g f := EX.rf
  have hN : NT [] g g := NT.rf
  refine lv_aload_n hx hb d_M_init_0 rfl (lv_at hl 0 rfl) ?_
  refine W.objInit hx hb hown (wd_946 hB _) (wd_101 hB _) (wd_102 hB _) rfl (by rw [hml]; exact hl.1) rfl d_M_init_1 (Nat.le_of_ble_eq_true rfl) (Nat.le_of_ble_eq_true rfl) ?_
  refine W.eq (g2 := F0 m 4 ls []) rfl ?_
  refine lv_aload_n hx hb d_M_init_4 rfl (lv_at hl 0 rfl) ?_
  refine lv_bipush (v := nI 72) hx hb d_M_init_5 (by decide) ?_
  refine gw_arr (atype := .char) (a0 := (72, .inl (fun _ => nI 0))) (N' := 72) (ty := .char) hx hb (wd_137 hB _) rfl 40 hK hP hD hS hA hL (fun _ => rfl) (by decide +kernel) (by decide +kernel) (by decide +kernel) (Nat.le_of_ble_eq_true rfl) (Nat.le_of_ble_eq_true rfl) d_M_init_7 (fun q1 g2 f3 H hz0 t_q1 p_q1 e_q1 y_q1 hK hP hD hS => ?_)
  have d_x_q1 : x ≠ q1 := fun z9 => p_q1 (z9 ▸ m_x)
  have o_q1 := hE.new p_q1
  have hz := hz0.ex
  have hI := IV_tp hz0 hL hI (oc_40.mk t_q1 ⟨_, e_q1, fun _ _ => rfl⟩) (fun z9 => absurd (t_q1.symm.trans z9) (by decide))
  have hL := LO_tp_40 hz0 hL t_q1 y_q1
  have hN := hN.tp hz0 t_q1 (by decide)
  have hE := hE.tr hz (Or.inr o_q1)
  obtain ⟨m_x, t_x, e_x⟩ := hz.kO m_x d_x_q1 t_x e_x
  have m_q1 := hz0.2.1
  refine W.widen (k := 1) (n := 72) (by omega) (by omega) ?_
  refine gw_putF (v := .ref q1) (ty := (.array .char)) (fs' := [.int (nI 0), .ref q1, .int (nI 0), .null, .null, .int (nI 0), .null, .null, .null, .int (nI 0), .int (nI 0), .int (nI 0), .null, .int (nI 0), .null, .null, .int (nI 0), .null, .null, .null, .null, .null, .null, .null, .null, .null, .null, .null, .null, .null, .null, .null, .int (nI 0), .null, .null, .null, .int (nI 0), .int (nI 0), .int (nI 0), .int (nI 0), .int (nI 0), .int (nI 0), .int (nI 0), .int (nI 0), .int (nI 0)]) (C := "BigRunnerModel") (T := FT10) (N := 45) hx hb (hw10 hB _) (fun _ h9 => h9) TY10 ok10 nm10 hown hK hP hD hS m_x e_x rfl 1 (by decide) (wd_948 hB _) rfl hin rfl (by decide +kernel) rfl rfl (Nat.le_of_ble_eq_true rfl) rfl d_M_init_9 (fun f4 H locs e5 k6 hP hD hS => ?_)
  have hz := EX.wr (g := g2) k6
  have hI := IV_w0 hL hI t_x k6
  have hE := hE.tr hz (Or.inl rfl)
  obtain ⟨m_q1, t_q1, e_q1, y_q1⟩ := hz.kA m_q1 (Ne.symm d_x_q1) t_q1 e_q1 y_q1
  have e_x := e5
  refine lv_aload_n hx hb d_M_init_12 rfl (lv_at hl 0 rfl) ?_
  refine lv_bipush (v := nI 100) hx hb d_M_init_13 (by decide) ?_
  refine gw_arr (atype := .int) (a0 := (100, .inl (fun _ => nI 0))) (N' := 100) (ty := .int) hx hb (wd_201 hB _) rfl 41 hK hP hD hS hA hL (fun _ => rfl) (by decide +kernel) (by decide +kernel) (by decide +kernel) (Nat.le_of_ble_eq_true rfl) (Nat.le_of_ble_eq_true rfl) d_M_init_15 (fun q7 g8 f9 H hz0 t_q7 p_q7 e_q7 y_q7 hK hP hD hS => ?_)
  have d_x_q7 : x ≠ q7 := fun z9 => p_q7 (z9 ▸ m_x)
  have d_q1_q7 : q1 ≠ q7 := fun z9 => p_q7 (z9 ▸ m_q1)
  have o_q7 := hE.new p_q7
  have hz := hz0.ex
  have hI := IV_tp hz0 hL hI (oc_41.mk t_q7 ⟨_, e_q7⟩) (fun z9 => absurd (t_q7.symm.trans z9) (by decide))
  have hL := LO_tp_41 hz0 hL t_q7 y_q7
  have hN := hN.tp hz0 t_q7 (by decide)
  have hE := hE.tr hz (Or.inr o_q7)
  obtain ⟨m_x, t_x, e_x⟩ := hz.kO m_x d_x_q7 t_x e_x
  obtain ⟨m_q1, t_q1, e_q1, y_q1⟩ := hz.kA m_q1 d_q1_q7 t_q1 e_q1 y_q1
  have m_q7 := hz0.2.1
  refine W.widen (k := 2) (n := 172) (by omega) (by omega) ?_
  refine gw_putF (v := .ref q7) (ty := (.array .int)) (fs' := [.int (nI 0), .ref q1, .int (nI 0), .ref q7, .null, .int (nI 0), .null, .null, .null, .int (nI 0), .int (nI 0), .int (nI 0), .null, .int (nI 0), .null, .null, .int (nI 0), .null, .null, .null, .null, .null, .null, .null, .null, .null, .null, .null, .null, .null, .null, .null, .int (nI 0), .null, .null, .null, .int (nI 0), .int (nI 0), .int (nI 0), .int (nI 0), .int (nI 0), .int (nI 0), .int (nI 0), .int (nI 0), .int (nI 0)]) (C := "BigRunnerModel") (T := FT10) (N := 45) hx hb (hw10 hB _) (fun _ h9 => h9) TY10 ok10 nm10 hown hK hP hD hS m_x e_x rfl 3 (by decide) (wd_950 hB _) rfl hin rfl (by decide +kernel) rfl rfl (Nat.le_of_ble_eq_true rfl) rfl d_M_init_17 (fun f10 H locs e11 k12 hP hD hS => ?_)
  have hz := EX.wr (g := g8) k12
  have hI := IV_w0 hL hI t_x k12
  have hE := hE.tr hz (Or.inl rfl)
  obtain ⟨m_q1, t_q1, e_q1, y_q1⟩ := hz.kA m_q1 (Ne.symm d_x_q1) t_q1 e_q1 y_q1
  obtain ⟨m_q7, t_q7⟩ := hz.kT m_q7 (Ne.symm d_x_q7) t_q7
  have e_x := e11
  refine lv_aload_n hx hb d_M_init_20 rfl (lv_at hl 0 rfl) ?_
  refine lv_bipush (v := nI 100) hx hb d_M_init_21 (by decide) ?_
  refine gw_arr (atype := .int) (a0 := (100, .inl (fun _ => nI 0))) (N' := 100) (ty := .int) hx hb (wd_201 hB _) rfl 42 hK hP hD hS hA hL (fun _ => rfl) (by decide +kernel) (by decide +kernel) (by decide +kernel) (Nat.le_of_ble_eq_true rfl) (Nat.le_of_ble_eq_true rfl) d_M_init_23 (fun q13 g14 f15 H hz0 t_q13 p_q13 e_q13 y_q13 hK hP hD hS => ?_)
  have d_x_q13 : x ≠ q13 := fun z9 => p_q13 (z9 ▸ m_x)
  have d_q1_q13 : q1 ≠ q13 := fun z9 => p_q13 (z9 ▸ m_q1)
  have d_q7_q13 : q7 ≠ q13 := fun z9 => p_q13 (z9 ▸ m_q7)
  have o_q13 := hE.new p_q13
  have hz := hz0.ex
  have hI := IV_tp hz0 hL hI (oc_42.mk t_q13 ⟨_, e_q13⟩) (fun z9 => absurd (t_q13.symm.trans z9) (by decide))
  have hL := LO_tp_42 hz0 hL t_q13 y_q13
  have hN := hN.tp hz0 t_q13 (by decide)
  have hE := hE.tr hz (Or.inr o_q13)
  obtain ⟨m_x, t_x, e_x⟩ := hz.kO m_x d_x_q13 t_x e_x
  obtain ⟨m_q1, t_q1, e_q1, y_q1⟩ := hz.kA m_q1 d_q1_q13 t_q1 e_q1 y_q1
  obtain ⟨m_q7, t_q7⟩ := hz.kT m_q7 d_q7_q13 t_q7
  have m_q13 := hz0.2.1
  refine W.widen (k := 3) (n := 272) (by omega) (by omega) ?_
  refine gw_putF (v := .ref q13) (ty := (.array .int)) (fs' := [.int (nI 0), .ref q1, .int (nI 0), .ref q7, .ref q13, .int (nI 0), .null, .null, .null, .int (nI 0), .int (nI 0), .int (nI 0), .null, .int (nI 0), .null, .null, .int (nI 0), .null, .null, .null, .null, .null, .null, .null, .null, .null, .null, .null, .null, .null, .null, .null, .int (nI 0), .null, .null, .null, .int (nI 0), .int (nI 0), .int (nI 0), .int (nI 0), .int (nI 0), .int (nI 0), .int (nI 0), .int (nI 0), .int (nI 0)]) (C := "BigRunnerModel") (T := FT10) (N := 45) hx hb (hw10 hB _) (fun _ h9 => h9) TY10 ok10 nm10 hown hK hP hD hS m_x e_x rfl 4 (by decide) (wd_951 hB _) rfl hin rfl (by decide +kernel) rfl rfl (Nat.le_of_ble_eq_true rfl) rfl d_M_init_25 (fun f16 H locs e17 k18 hP hD hS => ?_)
  have hz := EX.wr (g := g14) k18
  have hI := IV_w0 hL hI t_x k18
  have hE := hE.tr hz (Or.inl rfl)
  obtain ⟨m_q1, t_q1, e_q1, y_q1⟩ := hz.kA m_q1 (Ne.symm d_x_q1) t_q1 e_q1 y_q1
  obtain ⟨m_q7, t_q7⟩ := hz.kT m_q7 (Ne.symm d_x_q7) t_q7
  obtain ⟨m_q13, t_q13⟩ := hz.kT m_q13 (Ne.symm d_x_q13) t_q13
  have e_x := e17
  refine lv_aload_n hx hb d_M_init_28 rfl (lv_at hl 0 rfl) ?_
  refine lv_bipush (v := nI 100) hx hb d_M_init_29 (by decide) ?_
  refine gw_arr (atype := .int) (a0 := (100, .inl (fun _ => nI 0))) (N' := 100) (ty := .int) hx hb (wd_201 hB _) rfl 43 hK hP hD hS hA hL (fun _ => rfl) (by decide +kernel) (by decide +kernel) (by decide +kernel) (Nat.le_of_ble_eq_true rfl) (Nat.le_of_ble_eq_true rfl) d_M_init_31 (fun q19 g20 f21 H hz0 t_q19 p_q19 e_q19 y_q19 hK hP hD hS => ?_)
  have d_x_q19 : x ≠ q19 := fun z9 => p_q19 (z9 ▸ m_x)
  have d_q1_q19 : q1 ≠ q19 := fun z9 => p_q19 (z9 ▸ m_q1)
  have d_q7_q19 : q7 ≠ q19 := fun z9 => p_q19 (z9 ▸ m_q7)
  have d_q13_q19 : q13 ≠ q19 := fun z9 => p_q19 (z9 ▸ m_q13)
  have o_q19 := hE.new p_q19
  have hz := hz0.ex
  have hI := IV_tp hz0 hL hI (oc_43.mk t_q19 ⟨_, e_q19⟩) (fun z9 => absurd (t_q19.symm.trans z9) (by decide))
  have hL := LO_tp_43 hz0 hL t_q19 y_q19
  have hN := hN.tp hz0 t_q19 (by decide)
  have hE := hE.tr hz (Or.inr o_q19)
  obtain ⟨m_x, t_x, e_x⟩ := hz.kO m_x d_x_q19 t_x e_x
  obtain ⟨m_q1, t_q1, e_q1, y_q1⟩ := hz.kA m_q1 d_q1_q19 t_q1 e_q1 y_q1
  obtain ⟨m_q7, t_q7⟩ := hz.kT m_q7 d_q7_q19 t_q7
  obtain ⟨m_q13, t_q13⟩ := hz.kT m_q13 d_q13_q19 t_q13
  have m_q19 := hz0.2.1
  refine W.widen (k := 4) (n := 372) (by omega) (by omega) ?_
  refine gw_putF (v := .ref q19) (ty := (.array .int)) (fs' := [.int (nI 0), .ref q1, .int (nI 0), .ref q7, .ref q13, .int (nI 0), .ref q19, .null, .null, .int (nI 0), .int (nI 0), .int (nI 0), .null, .int (nI 0), .null, .null, .int (nI 0), .null, .null, .null, .null, .null, .null, .null, .null, .null, .null, .null, .null, .null, .null, .null, .int (nI 0), .null, .null, .null, .int (nI 0), .int (nI 0), .int (nI 0), .int (nI 0), .int (nI 0), .int (nI 0), .int (nI 0), .int (nI 0), .int (nI 0)]) (C := "BigRunnerModel") (T := FT10) (N := 45) hx hb (hw10 hB _) (fun _ h9 => h9) TY10 ok10 nm10 hown hK hP hD hS m_x e_x rfl 6 (by decide) (wd_953 hB _) rfl hin rfl (by decide +kernel) rfl rfl (Nat.le_of_ble_eq_true rfl) rfl d_M_init_33 (fun f22 H locs e23 k24 hP hD hS => ?_)
  have hz := EX.wr (g := g20) k24
  have hI := IV_w0 hL hI t_x k24
  have hE := hE.tr hz (Or.inl rfl)
  obtain ⟨m_q1, t_q1, e_q1, y_q1⟩ := hz.kA m_q1 (Ne.symm d_x_q1) t_q1 e_q1 y_q1
  obtain ⟨m_q7, t_q7⟩ := hz.kT m_q7 (Ne.symm d_x_q7) t_q7
  obtain ⟨m_q13, t_q13⟩ := hz.kT m_q13 (Ne.symm d_x_q13) t_q13
  obtain ⟨m_q19, t_q19⟩ := hz.kT m_q19 (Ne.symm d_x_q19) t_q19
  have e_x := e23
  refine lv_aload_n hx hb d_M_init_36 rfl (lv_at hl 0 rfl) ?_
  refine lv_bipush (v := nI 100) hx hb d_M_init_37 (by decide) ?_
  refine gw_arr (atype := .int) (a0 := (100, .inl (fun _ => nI 0))) (N' := 100) (ty := .int) hx hb (wd_201 hB _) rfl 44 hK hP hD hS hA hL (fun _ => rfl) (by decide +kernel) (by decide +kernel) (by decide +kernel) (Nat.le_of_ble_eq_true rfl) (Nat.le_of_ble_eq_true rfl) d_M_init_39 (fun q25 g26 f27 H hz0 t_q25 p_q25 e_q25 y_q25 hK hP hD hS => ?_)
  have d_x_q25 : x ≠ q25 := fun z9 => p_q25 (z9 ▸ m_x)
  have d_q1_q25 : q1 ≠ q25 := fun z9 => p_q25 (z9 ▸ m_q1)
  have d_q7_q25 : q7 ≠ q25 := fun z9 => p_q25 (z9 ▸ m_q7)
  have d_q13_q25 : q13 ≠ q25 := fun z9 => p_q25 (z9 ▸ m_q13)
  have d_q19_q25 : q19 ≠ q25 := fun z9 => p_q25 (z9 ▸ m_q19)
  have o_q25 := hE.new p_q25
  have hz := hz0.ex
  have hI := IV_tp hz0 hL hI (oc_44.mk t_q25 ⟨_, e_q25⟩) (fun z9 => absurd (t_q25.symm.trans z9) (by decide))
  have hL := LO_tp_44 hz0 hL t_q25 y_q25
  have hN := hN.tp hz0 t_q25 (by decide)
  have hE := hE.tr hz (Or.inr o_q25)
  obtain ⟨m_x, t_x, e_x⟩ := hz.kO m_x d_x_q25 t_x e_x
  obtain ⟨m_q1, t_q1, e_q1, y_q1⟩ := hz.kA m_q1 d_q1_q25 t_q1 e_q1 y_q1
  obtain ⟨m_q7, t_q7⟩ := hz.kT m_q7 d_q7_q25 t_q7
  obtain ⟨m_q13, t_q13⟩ := hz.kT m_q13 d_q13_q25 t_q13
  obtain ⟨m_q19, t_q19⟩ := hz.kT m_q19 d_q19_q25 t_q19
  have m_q25 := hz0.2.1
  refine W.widen (k := 5) (n := 472) (by omega) (by omega) ?_
  refine gw_putF (v := .ref q25) (ty := (.array .int)) (fs' := [.int (nI 0), .ref q1, .int (nI 0), .ref q7, .ref q13, .int (nI 0), .ref q19, .ref q25, .null, .int (nI 0), .int (nI 0), .int (nI 0), .null, .int (nI 0), .null, .null, .int (nI 0), .null, .null, .null, .null, .null, .null, .null, .null, .null, .null, .null, .null, .null, .null, .null, .int (nI 0), .null, .null, .null, .int (nI 0), .int (nI 0), .int (nI 0), .int (nI 0), .int (nI 0), .int (nI 0), .int (nI 0), .int (nI 0), .int (nI 0)]) (C := "BigRunnerModel") (T := FT10) (N := 45) hx hb (hw10 hB _) (fun _ h9 => h9) TY10 ok10 nm10 hown hK hP hD hS m_x e_x rfl 7 (by decide) (wd_954 hB _) rfl hin rfl (by decide +kernel) rfl rfl (Nat.le_of_ble_eq_true rfl) rfl d_M_init_41 (fun f28 H locs e29 k30 hP hD hS => ?_)
  have hz := EX.wr (g := g26) k30
  have hI := IV_w0 hL hI t_x k30
  have hE := hE.tr hz (Or.inl rfl)
  obtain ⟨m_q1, t_q1, e_q1, y_q1⟩ := hz.kA m_q1 (Ne.symm d_x_q1) t_q1 e_q1 y_q1
  obtain ⟨m_q7, t_q7⟩ := hz.kT m_q7 (Ne.symm d_x_q7) t_q7
  obtain ⟨m_q13, t_q13⟩ := hz.kT m_q13 (Ne.symm d_x_q13) t_q13
  obtain ⟨m_q19, t_q19⟩ := hz.kT m_q19 (Ne.symm d_x_q19) t_q19
  obtain ⟨m_q25, t_q25⟩ := hz.kT m_q25 (Ne.symm d_x_q25) t_q25
  have e_x := e29
  refine lv_aload_n hx hb d_M_init_44 rfl (lv_at hl 0 rfl) ?_
  refine lv_bipush (v := nI 100) hx hb d_M_init_45 (by decide) ?_
  refine gw_arr (atype := .boolean) (a0 := (100, .inl (fun _ => nI 0))) (N' := 100) (ty := .boolean) hx hb (wd_1083 hB _) rfl 45 hK hP hD hS hA hL (fun _ => rfl) (by decide +kernel) (by decide +kernel) (by decide +kernel) (Nat.le_of_ble_eq_true rfl) (Nat.le_of_ble_eq_true rfl) d_M_init_47 (fun q31 g32 f33 H hz0 t_q31 p_q31 e_q31 y_q31 hK hP hD hS => ?_)
  have d_x_q31 : x ≠ q31 := fun z9 => p_q31 (z9 ▸ m_x)
  have d_q1_q31 : q1 ≠ q31 := fun z9 => p_q31 (z9 ▸ m_q1)
  have d_q7_q31 : q7 ≠ q31 := fun z9 => p_q31 (z9 ▸ m_q7)
  have d_q13_q31 : q13 ≠ q31 := fun z9 => p_q31 (z9 ▸ m_q13)
  have d_q19_q31 : q19 ≠ q31 := fun z9 => p_q31 (z9 ▸ m_q19)
  have d_q25_q31 : q25 ≠ q31 := fun z9 => p_q31 (z9 ▸ m_q25)
  have o_q31 := hE.new p_q31
  have hz := hz0.ex
  have hI := IV_tp hz0 hL hI (oc_45.mk t_q31 ⟨_, e_q31⟩) (fun z9 => absurd (t_q31.symm.trans z9) (by decide))
  have hL := LO_tp_45 hz0 hL t_q31 y_q31
  have hN := hN.tp hz0 t_q31 (by decide)
  have hE := hE.tr hz (Or.inr o_q31)
  obtain ⟨m_x, t_x, e_x⟩ := hz.kO m_x d_x_q31 t_x e_x
  obtain ⟨m_q1, t_q1, e_q1, y_q1⟩ := hz.kA m_q1 d_q1_q31 t_q1 e_q1 y_q1
  obtain ⟨m_q7, t_q7⟩ := hz.kT m_q7 d_q7_q31 t_q7
  obtain ⟨m_q13, t_q13⟩ := hz.kT m_q13 d_q13_q31 t_q13
  obtain ⟨m_q19, t_q19⟩ := hz.kT m_q19 d_q19_q31 t_q19
  obtain ⟨m_q25, t_q25⟩ := hz.kT m_q25 d_q25_q31 t_q25
  have m_q31 := hz0.2.1
  refine W.widen (k := 6) (n := 572) (by omega) (by omega) ?_
  refine gw_putF (v := .ref q31) (ty := (.array .boolean)) (fs' := [.int (nI 0), .ref q1, .int (nI 0), .ref q7, .ref q13, .int (nI 0), .ref q19, .ref q25, .ref q31, .int (nI 0), .int (nI 0), .int (nI 0), .null, .int (nI 0), .null, .null, .int (nI 0), .null, .null, .null, .null, .null, .null, .null, .null, .null, .null, .null, .null, .null, .null, .null, .int (nI 0), .null, .null, .null, .int (nI 0), .int (nI 0), .int (nI 0), .int (nI 0), .int (nI 0), .int (nI 0), .int (nI 0), .int (nI 0), .int (nI 0)]) (C := "BigRunnerModel") (T := FT10) (N := 45) hx hb (hw10 hB _) (fun _ h9 => h9) TY10 ok10 nm10 hown hK hP hD hS m_x e_x rfl 8 (by decide) (wd_955 hB _) rfl hin rfl (by decide +kernel) rfl rfl (Nat.le_of_ble_eq_true rfl) rfl d_M_init_49 (fun f34 H locs e35 k36 hP hD hS => ?_)
  have hz := EX.wr (g := g32) k36
  have hI := IV_w0 hL hI t_x k36
  have hE := hE.tr hz (Or.inl rfl)
  obtain ⟨m_q1, t_q1, e_q1, y_q1⟩ := hz.kA m_q1 (Ne.symm d_x_q1) t_q1 e_q1 y_q1
  obtain ⟨m_q7, t_q7⟩ := hz.kT m_q7 (Ne.symm d_x_q7) t_q7
  obtain ⟨m_q13, t_q13⟩ := hz.kT m_q13 (Ne.symm d_x_q13) t_q13
  obtain ⟨m_q19, t_q19⟩ := hz.kT m_q19 (Ne.symm d_x_q19) t_q19
  obtain ⟨m_q25, t_q25⟩ := hz.kT m_q25 (Ne.symm d_x_q25) t_q25
  obtain ⟨m_q31, t_q31⟩ := hz.kT m_q31 (Ne.symm d_x_q31) t_q31
  have e_x := e35
  refine lv_aload_n hx hb d_M_init_52 rfl (lv_at hl 0 rfl) ?_
  refine lv_bipush (v := nI 72) hx hb d_M_init_53 (by decide) ?_
  refine gw_arr (atype := .char) (a0 := (72, .inl (fun _ => nI 0))) (N' := 72) (ty := .char) hx hb (wd_137 hB _) rfl 46 hK hP hD hS hA hL (fun _ => rfl) (by decide +kernel) (by decide +kernel) (by decide +kernel) (Nat.le_of_ble_eq_true rfl) (Nat.le_of_ble_eq_true rfl) d_M_init_55 (fun q37 g38 f39 H hz0 t_q37 p_q37 e_q37 y_q37 hK hP hD hS => ?_)
  have d_x_q37 : x ≠ q37 := fun z9 => p_q37 (z9 ▸ m_x)
  have d_q1_q37 : q1 ≠ q37 := fun z9 => p_q37 (z9 ▸ m_q1)
  have d_q7_q37 : q7 ≠ q37 := fun z9 => p_q37 (z9 ▸ m_q7)
  have d_q13_q37 : q13 ≠ q37 := fun z9 => p_q37 (z9 ▸ m_q13)
  have d_q19_q37 : q19 ≠ q37 := fun z9 => p_q37 (z9 ▸ m_q19)
  have d_q25_q37 : q25 ≠ q37 := fun z9 => p_q37 (z9 ▸ m_q25)
  have d_q31_q37 : q31 ≠ q37 := fun z9 => p_q37 (z9 ▸ m_q31)
  have o_q37 := hE.new p_q37
  have hz := hz0.ex
  have hI := IV_tp hz0 hL hI (oc_46.mk t_q37 ⟨_, e_q37⟩) (fun z9 => absurd (t_q37.symm.trans z9) (by decide))
  have hL := LO_tp_46 hz0 hL t_q37 y_q37
  have hN := hN.tp hz0 t_q37 (by decide)
  have hE := hE.tr hz (Or.inr o_q37)
  obtain ⟨m_x, t_x, e_x⟩ := hz.kO m_x d_x_q37 t_x e_x
  obtain ⟨m_q1, t_q1, e_q1, y_q1⟩ := hz.kA m_q1 d_q1_q37 t_q1 e_q1 y_q1
  obtain ⟨m_q7, t_q7⟩ := hz.kT m_q7 d_q7_q37 t_q7
  obtain ⟨m_q13, t_q13⟩ := hz.kT m_q13 d_q13_q37 t_q13
  obtain ⟨m_q19, t_q19⟩ := hz.kT m_q19 d_q19_q37 t_q19
  obtain ⟨m_q25, t_q25⟩ := hz.kT m_q25 d_q25_q37 t_q25
  obtain ⟨m_q31, t_q31⟩ := hz.kT m_q31 d_q31_q37 t_q31
  have m_q37 := hz0.2.1
  refine W.widen (k := 7) (n := 644) (by omega) (by omega) ?_
  refine gw_putF (v := .ref q37) (ty := (.array .char)) (fs' := [.int (nI 0), .ref q1, .int (nI 0), .ref q7, .ref q13, .int (nI 0), .ref q19, .ref q25, .ref q31, .int (nI 0), .int (nI 0), .int (nI 0), .ref q37, .int (nI 0), .null, .null, .int (nI 0), .null, .null, .null, .null, .null, .null, .null, .null, .null, .null, .null, .null, .null, .null, .null, .int (nI 0), .null, .null, .null, .int (nI 0), .int (nI 0), .int (nI 0), .int (nI 0), .int (nI 0), .int (nI 0), .int (nI 0), .int (nI 0), .int (nI 0)]) (C := "BigRunnerModel") (T := FT10) (N := 45) hx hb (hw10 hB _) (fun _ h9 => h9) TY10 ok10 nm10 hown hK hP hD hS m_x e_x rfl 12 (by decide) (wd_959 hB _) rfl hin rfl (by decide +kernel) rfl rfl (Nat.le_of_ble_eq_true rfl) rfl d_M_init_57 (fun f40 H locs e41 k42 hP hD hS => ?_)
  have hz := EX.wr (g := g38) k42
  have hI := IV_w0 hL hI t_x k42
  have hE := hE.tr hz (Or.inl rfl)
  obtain ⟨m_q1, t_q1, e_q1, y_q1⟩ := hz.kA m_q1 (Ne.symm d_x_q1) t_q1 e_q1 y_q1
  obtain ⟨m_q7, t_q7⟩ := hz.kT m_q7 (Ne.symm d_x_q7) t_q7
  obtain ⟨m_q13, t_q13⟩ := hz.kT m_q13 (Ne.symm d_x_q13) t_q13
  obtain ⟨m_q19, t_q19⟩ := hz.kT m_q19 (Ne.symm d_x_q19) t_q19
  obtain ⟨m_q25, t_q25⟩ := hz.kT m_q25 (Ne.symm d_x_q25) t_q25
  obtain ⟨m_q31, t_q31⟩ := hz.kT m_q31 (Ne.symm d_x_q31) t_q31
  obtain ⟨m_q37, t_q37⟩ := hz.kT m_q37 (Ne.symm d_x_q37) t_q37
  have e_x := e41
  refine lv_aload_n hx hb d_M_init_60 rfl (lv_at hl 0 rfl) ?_
  refine lv_bipush (v := nI 40) hx hb d_M_init_61 (by decide) ?_
  refine gw_arr (atype := .int) (a0 := (40, .inl (fun _ => nI 0))) (N' := 40) (ty := .int) hx hb (wd_201 hB _) rfl 47 hK hP hD hS hA hL (fun _ => rfl) (by decide +kernel) (by decide +kernel) (by decide +kernel) (Nat.le_of_ble_eq_true rfl) (Nat.le_of_ble_eq_true rfl) d_M_init_63 (fun q43 g44 f45 H hz0 t_q43 p_q43 e_q43 y_q43 hK hP hD hS => ?_)
  have d_x_q43 : x ≠ q43 := fun z9 => p_q43 (z9 ▸ m_x)
  have d_q1_q43 : q1 ≠ q43 := fun z9 => p_q43 (z9 ▸ m_q1)
  have d_q7_q43 : q7 ≠ q43 := fun z9 => p_q43 (z9 ▸ m_q7)
  have d_q13_q43 : q13 ≠ q43 := fun z9 => p_q43 (z9 ▸ m_q13)
  have d_q19_q43 : q19 ≠ q43 := fun z9 => p_q43 (z9 ▸ m_q19)
  have d_q25_q43 : q25 ≠ q43 := fun z9 => p_q43 (z9 ▸ m_q25)
  have d_q31_q43 : q31 ≠ q43 := fun z9 => p_q43 (z9 ▸ m_q31)
  have d_q37_q43 : q37 ≠ q43 := fun z9 => p_q43 (z9 ▸ m_q37)
  have o_q43 := hE.new p_q43
  have hz := hz0.ex
  have hI := IV_tp hz0 hL hI (oc_47.mk t_q43 ⟨_, e_q43⟩) (fun z9 => absurd (t_q43.symm.trans z9) (by decide))
  have hL := LO_tp_47 hz0 hL t_q43 y_q43
  have hN := hN.tp hz0 t_q43 (by decide)
  have hE := hE.tr hz (Or.inr o_q43)
  obtain ⟨m_x, t_x, e_x⟩ := hz.kO m_x d_x_q43 t_x e_x
  obtain ⟨m_q1, t_q1, e_q1, y_q1⟩ := hz.kA m_q1 d_q1_q43 t_q1 e_q1 y_q1
  obtain ⟨m_q7, t_q7⟩ := hz.kT m_q7 d_q7_q43 t_q7
  obtain ⟨m_q13, t_q13⟩ := hz.kT m_q13 d_q13_q43 t_q13
  obtain ⟨m_q19, t_q19⟩ := hz.kT m_q19 d_q19_q43 t_q19
  obtain ⟨m_q25, t_q25⟩ := hz.kT m_q25 d_q25_q43 t_q25
  obtain ⟨m_q31, t_q31⟩ := hz.kT m_q31 d_q31_q43 t_q31
  obtain ⟨m_q37, t_q37⟩ := hz.kT m_q37 d_q37_q43 t_q37
  have m_q43 := hz0.2.1
  refine W.widen (k := 8) (n := 684) (by omega) (by omega) ?_
  refine gw_putF (v := .ref q43) (ty := (.array .int)) (fs' := [.int (nI 0), .ref q1, .int (nI 0), .ref q7, .ref q13, .int (nI 0), .ref q19, .ref q25, .ref q31, .int (nI 0), .int (nI 0), .int (nI 0), .ref q37, .int (nI 0), .ref q43, .null, .int (nI 0), .null, .null, .null, .null, .null, .null, .null, .null, .null, .null, .null, .null, .null, .null, .null, .int (nI 0), .null, .null, .null, .int (nI 0), .int (nI 0), .int (nI 0), .int (nI 0), .int (nI 0), .int (nI 0), .int (nI 0), .int (nI 0), .int (nI 0)]) (C := "BigRunnerModel") (T := FT10) (N := 45) hx hb (hw10 hB _) (fun _ h9 => h9) TY10 ok10 nm10 hown hK hP hD hS m_x e_x rfl 14 (by decide) (wd_961 hB _) rfl hin rfl (by decide +kernel) rfl rfl (Nat.le_of_ble_eq_true rfl) rfl d_M_init_65 (fun f46 H locs e47 k48 hP hD hS => ?_)
  have hz := EX.wr (g := g44) k48
  have hI := IV_w0 hL hI t_x k48
  have hE := hE.tr hz (Or.inl rfl)
  obtain ⟨m_q1, t_q1, e_q1, y_q1⟩ := hz.kA m_q1 (Ne.symm d_x_q1) t_q1 e_q1 y_q1
  obtain ⟨m_q7, t_q7⟩ := hz.kT m_q7 (Ne.symm d_x_q7) t_q7
  obtain ⟨m_q13, t_q13⟩ := hz.kT m_q13 (Ne.symm d_x_q13) t_q13
  obtain ⟨m_q19, t_q19⟩ := hz.kT m_q19 (Ne.symm d_x_q19) t_q19
  obtain ⟨m_q25, t_q25⟩ := hz.kT m_q25 (Ne.symm d_x_q25) t_q25
  obtain ⟨m_q31, t_q31⟩ := hz.kT m_q31 (Ne.symm d_x_q31) t_q31
  obtain ⟨m_q37, t_q37⟩ := hz.kT m_q37 (Ne.symm d_x_q37) t_q37
  obtain ⟨m_q43, t_q43⟩ := hz.kT m_q43 (Ne.symm d_x_q43) t_q43
  have e_x := e47
  refine lv_aload_n hx hb d_M_init_68 rfl (lv_at hl 0 rfl) ?_
  refine lv_bipush (v := nI 40) hx hb d_M_init_69 (by decide) ?_
  refine gw_arr (atype := .int) (a0 := (40, .inl (fun _ => nI 0))) (N' := 40) (ty := .int) hx hb (wd_201 hB _) rfl 48 hK hP hD hS hA hL (fun _ => rfl) (by decide +kernel) (by decide +kernel) (by decide +kernel) (Nat.le_of_ble_eq_true rfl) (Nat.le_of_ble_eq_true rfl) d_M_init_71 (fun q49 g50 f51 H hz0 t_q49 p_q49 e_q49 y_q49 hK hP hD hS => ?_)
  have d_x_q49 : x ≠ q49 := fun z9 => p_q49 (z9 ▸ m_x)
  have d_q1_q49 : q1 ≠ q49 := fun z9 => p_q49 (z9 ▸ m_q1)
  have d_q7_q49 : q7 ≠ q49 := fun z9 => p_q49 (z9 ▸ m_q7)
  have d_q13_q49 : q13 ≠ q49 := fun z9 => p_q49 (z9 ▸ m_q13)
  have d_q19_q49 : q19 ≠ q49 := fun z9 => p_q49 (z9 ▸ m_q19)
  have d_q25_q49 : q25 ≠ q49 := fun z9 => p_q49 (z9 ▸ m_q25)
  have d_q31_q49 : q31 ≠ q49 := fun z9 => p_q49 (z9 ▸ m_q31)
  have d_q37_q49 : q37 ≠ q49 := fun z9 => p_q49 (z9 ▸ m_q37)
  have d_q43_q49 : q43 ≠ q49 := fun z9 => p_q49 (z9 ▸ m_q43)
  have o_q49 := hE.new p_q49
  have hz := hz0.ex
  have hI := IV_tp hz0 hL hI (oc_48.mk t_q49 ⟨_, e_q49⟩) (fun z9 => absurd (t_q49.symm.trans z9) (by decide))
  have hL := LO_tp_48 hz0 hL t_q49 y_q49
  have hN := hN.tp hz0 t_q49 (by decide)
  have hE := hE.tr hz (Or.inr o_q49)
  obtain ⟨m_x, t_x, e_x⟩ := hz.kO m_x d_x_q49 t_x e_x
  obtain ⟨m_q1, t_q1, e_q1, y_q1⟩ := hz.kA m_q1 d_q1_q49 t_q1 e_q1 y_q1
  obtain ⟨m_q7, t_q7⟩ := hz.kT m_q7 d_q7_q49 t_q7
  obtain ⟨m_q13, t_q13⟩ := hz.kT m_q13 d_q13_q49 t_q13
  obtain ⟨m_q19, t_q19⟩ := hz.kT m_q19 d_q19_q49 t_q19
  obtain ⟨m_q25, t_q25⟩ := hz.kT m_q25 d_q25_q49 t_q25
  obtain ⟨m_q31, t_q31⟩ := hz.kT m_q31 d_q31_q49 t_q31
  obtain ⟨m_q37, t_q37⟩ := hz.kT m_q37 d_q37_q49 t_q37
  obtain ⟨m_q43, t_q43⟩ := hz.kT m_q43 d_q43_q49 t_q43
  have m_q49 := hz0.2.1
  refine W.widen (k := 9) (n := 724) (by omega) (by omega) ?_
  refine gw_putF (v := .ref q49) (ty := (.array .int)) (fs' := [.int (nI 0), .ref q1, .int (nI 0), .ref q7, .ref q13, .int (nI 0), .ref q19, .ref q25, .ref q31, .int (nI 0), .int (nI 0), .int (nI 0), .ref q37, .int (nI 0), .ref q43, .ref q49, .int (nI 0), .null, .null, .null, .null, .null, .null, .null, .null, .null, .null, .null, .null, .null, .null, .null, .int (nI 0), .null, .null, .null, .int (nI 0), .int (nI 0), .int (nI 0), .int (nI 0), .int (nI 0), .int (nI 0), .int (nI 0), .int (nI 0), .int (nI 0)]) (C := "BigRunnerModel") (T := FT10) (N := 45) hx hb (hw10 hB _) (fun _ h9 => h9) TY10 ok10 nm10 hown hK hP hD hS m_x e_x rfl 15 (by decide) (wd_962 hB _) rfl hin rfl (by decide +kernel) rfl rfl (Nat.le_of_ble_eq_true rfl) rfl d_M_init_73 (fun f52 H locs e53 k54 hP hD hS => ?_)
  have hz := EX.wr (g := g50) k54
  have hI := IV_w0 hL hI t_x k54
  have hE := hE.tr hz (Or.inl rfl)
  obtain ⟨m_q1, t_q1, e_q1, y_q1⟩ := hz.kA m_q1 (Ne.symm d_x_q1) t_q1 e_q1 y_q1
  obtain ⟨m_q7, t_q7⟩ := hz.kT m_q7 (Ne.symm d_x_q7) t_q7
  obtain ⟨m_q13, t_q13⟩ := hz.kT m_q13 (Ne.symm d_x_q13) t_q13
  obtain ⟨m_q19, t_q19⟩ := hz.kT m_q19 (Ne.symm d_x_q19) t_q19
  obtain ⟨m_q25, t_q25⟩ := hz.kT m_q25 (Ne.symm d_x_q25) t_q25
  obtain ⟨m_q31, t_q31⟩ := hz.kT m_q31 (Ne.symm d_x_q31) t_q31
  obtain ⟨m_q37, t_q37⟩ := hz.kT m_q37 (Ne.symm d_x_q37) t_q37
  obtain ⟨m_q43, t_q43⟩ := hz.kT m_q43 (Ne.symm d_x_q43) t_q43
  obtain ⟨m_q49, t_q49⟩ := hz.kT m_q49 (Ne.symm d_x_q49) t_q49
  have e_x := e53
  refine lv_aload_n hx hb d_M_init_76 rfl (lv_at hl 0 rfl) ?_
  refine lv_bipush (v := nI 10) hx hb d_M_init_77 (by decide) ?_
  refine gw_arr (atype := .long) (a0 := (10, .inr (.inl (fun _ => nL 0)))) (N' := 10) (ty := .long) hx hb (wd_329 hB _) rfl 49 hK hP hD hS hA hL (fun _ => rfl) (by decide +kernel) (by decide +kernel) (by decide +kernel) (Nat.le_of_ble_eq_true rfl) (Nat.le_of_ble_eq_true rfl) d_M_init_79 (fun q55 g56 f57 H hz0 t_q55 p_q55 e_q55 y_q55 hK hP hD hS => ?_)
  have d_x_q55 : x ≠ q55 := fun z9 => p_q55 (z9 ▸ m_x)
  have d_q1_q55 : q1 ≠ q55 := fun z9 => p_q55 (z9 ▸ m_q1)
  have d_q7_q55 : q7 ≠ q55 := fun z9 => p_q55 (z9 ▸ m_q7)
  have d_q13_q55 : q13 ≠ q55 := fun z9 => p_q55 (z9 ▸ m_q13)
  have d_q19_q55 : q19 ≠ q55 := fun z9 => p_q55 (z9 ▸ m_q19)
  have d_q25_q55 : q25 ≠ q55 := fun z9 => p_q55 (z9 ▸ m_q25)
  have d_q31_q55 : q31 ≠ q55 := fun z9 => p_q55 (z9 ▸ m_q31)
  have d_q37_q55 : q37 ≠ q55 := fun z9 => p_q55 (z9 ▸ m_q37)
  have d_q43_q55 : q43 ≠ q55 := fun z9 => p_q55 (z9 ▸ m_q43)
  have d_q49_q55 : q49 ≠ q55 := fun z9 => p_q55 (z9 ▸ m_q49)
  have o_q55 := hE.new p_q55
  have hz := hz0.ex
  have hI := IV_tp hz0 hL hI (oc_49.mk t_q55 ⟨_, e_q55⟩) (fun z9 => absurd (t_q55.symm.trans z9) (by decide))
  have hL := LO_tp_49 hz0 hL t_q55 y_q55
  have hN := hN.tp hz0 t_q55 (by decide)
  have hE := hE.tr hz (Or.inr o_q55)
  obtain ⟨m_x, t_x, e_x⟩ := hz.kO m_x d_x_q55 t_x e_x
  obtain ⟨m_q1, t_q1, e_q1, y_q1⟩ := hz.kA m_q1 d_q1_q55 t_q1 e_q1 y_q1
  obtain ⟨m_q7, t_q7⟩ := hz.kT m_q7 d_q7_q55 t_q7
  obtain ⟨m_q13, t_q13⟩ := hz.kT m_q13 d_q13_q55 t_q13
  obtain ⟨m_q19, t_q19⟩ := hz.kT m_q19 d_q19_q55 t_q19
  obtain ⟨m_q25, t_q25⟩ := hz.kT m_q25 d_q25_q55 t_q25
  obtain ⟨m_q31, t_q31⟩ := hz.kT m_q31 d_q31_q55 t_q31
  obtain ⟨m_q37, t_q37⟩ := hz.kT m_q37 d_q37_q55 t_q37
  obtain ⟨m_q43, t_q43⟩ := hz.kT m_q43 d_q43_q55 t_q43
  obtain ⟨m_q49, t_q49⟩ := hz.kT m_q49 d_q49_q55 t_q49
  have m_q55 := hz0.2.1
  refine W.widen (k := 10) (n := 734) (by omega) (by omega) ?_
  refine gw_putF (v := .ref q55) (ty := (.array .long)) (fs' := [.int (nI 0), .ref q1, .int (nI 0), .ref q7, .ref q13, .int (nI 0), .ref q19, .ref q25, .ref q31, .int (nI 0), .int (nI 0), .int (nI 0), .ref q37, .int (nI 0), .ref q43, .ref q49, .int (nI 0), .ref q55, .null, .null, .null, .null, .null, .null, .null, .null, .null, .null, .null, .null, .null, .null, .int (nI 0), .null, .null, .null, .int (nI 0), .int (nI 0), .int (nI 0), .int (nI 0), .int (nI 0), .int (nI 0), .int (nI 0), .int (nI 0), .int (nI 0)]) (C := "BigRunnerModel") (T := FT10) (N := 45) hx hb (hw10 hB _) (fun _ h9 => h9) TY10 ok10 nm10 hown hK hP hD hS m_x e_x rfl 17 (by decide) (wd_964 hB _) rfl hin rfl (by decide +kernel) rfl rfl (Nat.le_of_ble_eq_true rfl) rfl d_M_init_81 (fun f58 H locs e59 k60 hP hD hS => ?_)
  have hz := EX.wr (g := g56) k60
  have hI := IV_w0 hL hI t_x k60
  have hE := hE.tr hz (Or.inl rfl)
  obtain ⟨m_q1, t_q1, e_q1, y_q1⟩ := hz.kA m_q1 (Ne.symm d_x_q1) t_q1 e_q1 y_q1
  obtain ⟨m_q7, t_q7⟩ := hz.kT m_q7 (Ne.symm d_x_q7) t_q7
  obtain ⟨m_q13, t_q13⟩ := hz.kT m_q13 (Ne.symm d_x_q13) t_q13
  obtain ⟨m_q19, t_q19⟩ := hz.kT m_q19 (Ne.symm d_x_q19) t_q19
  obtain ⟨m_q25, t_q25⟩ := hz.kT m_q25 (Ne.symm d_x_q25) t_q25
  obtain ⟨m_q31, t_q31⟩ := hz.kT m_q31 (Ne.symm d_x_q31) t_q31
  obtain ⟨m_q37, t_q37⟩ := hz.kT m_q37 (Ne.symm d_x_q37) t_q37
  obtain ⟨m_q43, t_q43⟩ := hz.kT m_q43 (Ne.symm d_x_q43) t_q43
  obtain ⟨m_q49, t_q49⟩ := hz.kT m_q49 (Ne.symm d_x_q49) t_q49
  obtain ⟨m_q55, t_q55⟩ := hz.kT m_q55 (Ne.symm d_x_q55) t_q55
  have e_x := e59
  refine lv_aload_n hx hb d_M_init_84 rfl (lv_at hl 0 rfl) ?_
  refine lv_bipush (v := nI 10) hx hb d_M_init_85 (by decide) ?_
  refine gw_arr (atype := .long) (a0 := (10, .inr (.inl (fun _ => nL 0)))) (N' := 10) (ty := .long) hx hb (wd_329 hB _) rfl 50 hK hP hD hS hA hL (fun _ => rfl) (by decide +kernel) (by decide +kernel) (by decide +kernel) (Nat.le_of_ble_eq_true rfl) (Nat.le_of_ble_eq_true rfl) d_M_init_87 (fun q61 g62 f63 H hz0 t_q61 p_q61 e_q61 y_q61 hK hP hD hS => ?_)
  have d_x_q61 : x ≠ q61 := fun z9 => p_q61 (z9 ▸ m_x)
  have d_q1_q61 : q1 ≠ q61 := fun z9 => p_q61 (z9 ▸ m_q1)
  have d_q7_q61 : q7 ≠ q61 := fun z9 => p_q61 (z9 ▸ m_q7)
  have d_q13_q61 : q13 ≠ q61 := fun z9 => p_q61 (z9 ▸ m_q13)
  have d_q19_q61 : q19 ≠ q61 := fun z9 => p_q61 (z9 ▸ m_q19)
  have d_q25_q61 : q25 ≠ q61 := fun z9 => p_q61 (z9 ▸ m_q25)
  have d_q31_q61 : q31 ≠ q61 := fun z9 => p_q61 (z9 ▸ m_q31)
  have d_q37_q61 : q37 ≠ q61 := fun z9 => p_q61 (z9 ▸ m_q37)
  have d_q43_q61 : q43 ≠ q61 := fun z9 => p_q61 (z9 ▸ m_q43)
  have d_q49_q61 : q49 ≠ q61 := fun z9 => p_q61 (z9 ▸ m_q49)
  have d_q55_q61 : q55 ≠ q61 := fun z9 => p_q61 (z9 ▸ m_q55)
  have o_q61 := hE.new p_q61
  have hz := hz0.ex
  have hI := IV_tp hz0 hL hI (oc_50.mk t_q61 ⟨_, e_q61⟩) (fun z9 => absurd (t_q61.symm.trans z9) (by decide))
  have hL := LO_tp_50 hz0 hL t_q61 y_q61
  have hN := hN.tp hz0 t_q61 (by decide)
  have hE := hE.tr hz (Or.inr o_q61)
  obtain ⟨m_x, t_x, e_x⟩ := hz.kO m_x d_x_q61 t_x e_x
  obtain ⟨m_q1, t_q1, e_q1, y_q1⟩ := hz.kA m_q1 d_q1_q61 t_q1 e_q1 y_q1
  obtain ⟨m_q7, t_q7⟩ := hz.kT m_q7 d_q7_q61 t_q7
  obtain ⟨m_q13, t_q13⟩ := hz.kT m_q13 d_q13_q61 t_q13
  obtain ⟨m_q19, t_q19⟩ := hz.kT m_q19 d_q19_q61 t_q19
  obtain ⟨m_q25, t_q25⟩ := hz.kT m_q25 d_q25_q61 t_q25
  obtain ⟨m_q31, t_q31⟩ := hz.kT m_q31 d_q31_q61 t_q31
  obtain ⟨m_q37, t_q37⟩ := hz.kT m_q37 d_q37_q61 t_q37
  obtain ⟨m_q43, t_q43⟩ := hz.kT m_q43 d_q43_q61 t_q43
  obtain ⟨m_q49, t_q49⟩ := hz.kT m_q49 d_q49_q61 t_q49
  obtain ⟨m_q55, t_q55⟩ := hz.kT m_q55 d_q55_q61 t_q55
  have m_q61 := hz0.2.1
  refine W.widen (k := 11) (n := 744) (by omega) (by omega) ?_
  refine gw_putF (v := .ref q61) (ty := (.array .long)) (fs' := [.int (nI 0), .ref q1, .int (nI 0), .ref q7, .ref q13, .int (nI 0), .ref q19, .ref q25, .ref q31, .int (nI 0), .int (nI 0), .int (nI 0), .ref q37, .int (nI 0), .ref q43, .ref q49, .int (nI 0), .ref q55, .ref q61, .null, .null, .null, .null, .null, .null, .null, .null, .null, .null, .null, .null, .null, .int (nI 0), .null, .null, .null, .int (nI 0), .int (nI 0), .int (nI 0), .int (nI 0), .int (nI 0), .int (nI 0), .int (nI 0), .int (nI 0), .int (nI 0)]) (C := "BigRunnerModel") (T := FT10) (N := 45) hx hb (hw10 hB _) (fun _ h9 => h9) TY10 ok10 nm10 hown hK hP hD hS m_x e_x rfl 18 (by decide) (wd_965 hB _) rfl hin rfl (by decide +kernel) rfl rfl (Nat.le_of_ble_eq_true rfl) rfl d_M_init_89 (fun f64 H locs e65 k66 hP hD hS => ?_)
  have hz := EX.wr (g := g62) k66
  have hI := IV_w0 hL hI t_x k66
  have hE := hE.tr hz (Or.inl rfl)
  obtain ⟨m_q1, t_q1, e_q1, y_q1⟩ := hz.kA m_q1 (Ne.symm d_x_q1) t_q1 e_q1 y_q1
  obtain ⟨m_q7, t_q7⟩ := hz.kT m_q7 (Ne.symm d_x_q7) t_q7
  obtain ⟨m_q13, t_q13⟩ := hz.kT m_q13 (Ne.symm d_x_q13) t_q13
  obtain ⟨m_q19, t_q19⟩ := hz.kT m_q19 (Ne.symm d_x_q19) t_q19
  obtain ⟨m_q25, t_q25⟩ := hz.kT m_q25 (Ne.symm d_x_q25) t_q25
  obtain ⟨m_q31, t_q31⟩ := hz.kT m_q31 (Ne.symm d_x_q31) t_q31
  obtain ⟨m_q37, t_q37⟩ := hz.kT m_q37 (Ne.symm d_x_q37) t_q37
  obtain ⟨m_q43, t_q43⟩ := hz.kT m_q43 (Ne.symm d_x_q43) t_q43
  obtain ⟨m_q49, t_q49⟩ := hz.kT m_q49 (Ne.symm d_x_q49) t_q49
  obtain ⟨m_q55, t_q55⟩ := hz.kT m_q55 (Ne.symm d_x_q55) t_q55
  obtain ⟨m_q61, t_q61⟩ := hz.kT m_q61 (Ne.symm d_x_q61) t_q61
  have e_x := e65
  refine lv_aload_n hx hb d_M_init_92 rfl (lv_at hl 0 rfl) ?_
  refine lv_bipush (v := nI 10) hx hb d_M_init_93 (by decide) ?_
  refine gw_arr (atype := .boolean) (a0 := (10, .inl (fun _ => nI 0))) (N' := 10) (ty := .boolean) hx hb (wd_1083 hB _) rfl 51 hK hP hD hS hA hL (fun _ => rfl) (by decide +kernel) (by decide +kernel) (by decide +kernel) (Nat.le_of_ble_eq_true rfl) (Nat.le_of_ble_eq_true rfl) d_M_init_95 (fun q67 g68 f69 H hz0 t_q67 p_q67 e_q67 y_q67 hK hP hD hS => ?_)
  have d_x_q67 : x ≠ q67 := fun z9 => p_q67 (z9 ▸ m_x)
  have d_q1_q67 : q1 ≠ q67 := fun z9 => p_q67 (z9 ▸ m_q1)
  have d_q7_q67 : q7 ≠ q67 := fun z9 => p_q67 (z9 ▸ m_q7)
  have d_q13_q67 : q13 ≠ q67 := fun z9 => p_q67 (z9 ▸ m_q13)
  have d_q19_q67 : q19 ≠ q67 := fun z9 => p_q67 (z9 ▸ m_q19)
  have d_q25_q67 : q25 ≠ q67 := fun z9 => p_q67 (z9 ▸ m_q25)
  have d_q31_q67 : q31 ≠ q67 := fun z9 => p_q67 (z9 ▸ m_q31)
  have d_q37_q67 : q37 ≠ q67 := fun z9 => p_q67 (z9 ▸ m_q37)
  have d_q43_q67 : q43 ≠ q67 := fun z9 => p_q67 (z9 ▸ m_q43)
  have d_q49_q67 : q49 ≠ q67 := fun z9 => p_q67 (z9 ▸ m_q49)
  have d_q55_q67 : q55 ≠ q67 := fun z9 => p_q67 (z9 ▸ m_q55)
  have d_q61_q67 : q61 ≠ q67 := fun z9 => p_q67 (z9 ▸ m_q61)
  have o_q67 := hE.new p_q67
  have hz := hz0.ex
  have hI := IV_tp hz0 hL hI (oc_51.mk t_q67 ⟨_, e_q67⟩) (fun z9 => absurd (t_q67.symm.trans z9) (by decide))
  have hL := LO_tp_51 hz0 hL t_q67 y_q67
  have hN := hN.tp hz0 t_q67 (by decide)
  have hE := hE.tr hz (Or.inr o_q67)
  obtain ⟨m_x, t_x, e_x⟩ := hz.kO m_x d_x_q67 t_x e_x
  obtain ⟨m_q1, t_q1, e_q1, y_q1⟩ := hz.kA m_q1 d_q1_q67 t_q1 e_q1 y_q1
  obtain ⟨m_q7, t_q7⟩ := hz.kT m_q7 d_q7_q67 t_q7
  obtain ⟨m_q13, t_q13⟩ := hz.kT m_q13 d_q13_q67 t_q13
  obtain ⟨m_q19, t_q19⟩ := hz.kT m_q19 d_q19_q67 t_q19
  obtain ⟨m_q25, t_q25⟩ := hz.kT m_q25 d_q25_q67 t_q25
  obtain ⟨m_q31, t_q31⟩ := hz.kT m_q31 d_q31_q67 t_q31
  obtain ⟨m_q37, t_q37⟩ := hz.kT m_q37 d_q37_q67 t_q37
  obtain ⟨m_q43, t_q43⟩ := hz.kT m_q43 d_q43_q67 t_q43
  obtain ⟨m_q49, t_q49⟩ := hz.kT m_q49 d_q49_q67 t_q49
  obtain ⟨m_q55, t_q55⟩ := hz.kT m_q55 d_q55_q67 t_q55
  obtain ⟨m_q61, t_q61⟩ := hz.kT m_q61 d_q61_q67 t_q61
  have m_q67 := hz0.2.1
  refine W.widen (k := 12) (n := 754) (by omega) (by omega) ?_
  refine gw_putF (v := .ref q67) (ty := (.array .boolean)) (fs' := [.int (nI 0), .ref q1, .int (nI 0), .ref q7, .ref q13, .int (nI 0), .ref q19, .ref q25, .ref q31, .int (nI 0), .int (nI 0), .int (nI 0), .ref q37, .int (nI 0), .ref q43, .ref q49, .int (nI 0), .ref q55, .ref q61, .ref q67, .null, .null, .null, .null, .null, .null, .null, .null, .null, .null, .null, .null, .int (nI 0), .null, .null, .null, .int (nI 0), .int (nI 0), .int (nI 0), .int (nI 0), .int (nI 0), .int (nI 0), .int (nI 0), .int (nI 0), .int (nI 0)]) (C := "BigRunnerModel") (T := FT10) (N := 45) hx hb (hw10 hB _) (fun _ h9 => h9) TY10 ok10 nm10 hown hK hP hD hS m_x e_x rfl 19 (by decide) (wd_966 hB _) rfl hin rfl (by decide +kernel) rfl rfl (Nat.le_of_ble_eq_true rfl) rfl d_M_init_97 (fun f70 H locs e71 k72 hP hD hS => ?_)
  have hz := EX.wr (g := g68) k72
  have hI := IV_w0 hL hI t_x k72
  have hE := hE.tr hz (Or.inl rfl)
  obtain ⟨m_q1, t_q1, e_q1, y_q1⟩ := hz.kA m_q1 (Ne.symm d_x_q1) t_q1 e_q1 y_q1
  obtain ⟨m_q7, t_q7⟩ := hz.kT m_q7 (Ne.symm d_x_q7) t_q7
  obtain ⟨m_q13, t_q13⟩ := hz.kT m_q13 (Ne.symm d_x_q13) t_q13
  obtain ⟨m_q19, t_q19⟩ := hz.kT m_q19 (Ne.symm d_x_q19) t_q19
  obtain ⟨m_q25, t_q25⟩ := hz.kT m_q25 (Ne.symm d_x_q25) t_q25
  obtain ⟨m_q31, t_q31⟩ := hz.kT m_q31 (Ne.symm d_x_q31) t_q31
  obtain ⟨m_q37, t_q37⟩ := hz.kT m_q37 (Ne.symm d_x_q37) t_q37
  obtain ⟨m_q43, t_q43⟩ := hz.kT m_q43 (Ne.symm d_x_q43) t_q43
  obtain ⟨m_q49, t_q49⟩ := hz.kT m_q49 (Ne.symm d_x_q49) t_q49
  obtain ⟨m_q55, t_q55⟩ := hz.kT m_q55 (Ne.symm d_x_q55) t_q55
  obtain ⟨m_q61, t_q61⟩ := hz.kT m_q61 (Ne.symm d_x_q61) t_q61
  obtain ⟨m_q67, t_q67⟩ := hz.kT m_q67 (Ne.symm d_x_q67) t_q67
  have e_x := e71
  refine lv_aload_n hx hb d_M_init_100 rfl (lv_at hl 0 rfl) ?_
  refine lv_bipush (v := nI 10) hx hb d_M_init_101 (by decide) ?_
  refine gw_arr (atype := .boolean) (a0 := (10, .inl (fun _ => nI 0))) (N' := 10) (ty := .boolean) hx hb (wd_1083 hB _) rfl 52 hK hP hD hS hA hL (fun _ => rfl) (by decide +kernel) (by decide +kernel) (by decide +kernel) (Nat.le_of_ble_eq_true rfl) (Nat.le_of_ble_eq_true rfl) d_M_init_103 (fun q73 g74 f75 H hz0 t_q73 p_q73 e_q73 y_q73 hK hP hD hS => ?_)
  have d_x_q73 : x ≠ q73 := fun z9 => p_q73 (z9 ▸ m_x)
  have d_q1_q73 : q1 ≠ q73 := fun z9 => p_q73 (z9 ▸ m_q1)
  have d_q7_q73 : q7 ≠ q73 := fun z9 => p_q73 (z9 ▸ m_q7)
  have d_q13_q73 : q13 ≠ q73 := fun z9 => p_q73 (z9 ▸ m_q13)
  have d_q19_q73 : q19 ≠ q73 := fun z9 => p_q73 (z9 ▸ m_q19)
  have d_q25_q73 : q25 ≠ q73 := fun z9 => p_q73 (z9 ▸ m_q25)
  have d_q31_q73 : q31 ≠ q73 := fun z9 => p_q73 (z9 ▸ m_q31)
  have d_q37_q73 : q37 ≠ q73 := fun z9 => p_q73 (z9 ▸ m_q37)
  have d_q43_q73 : q43 ≠ q73 := fun z9 => p_q73 (z9 ▸ m_q43)
  have d_q49_q73 : q49 ≠ q73 := fun z9 => p_q73 (z9 ▸ m_q49)
  have d_q55_q73 : q55 ≠ q73 := fun z9 => p_q73 (z9 ▸ m_q55)
  have d_q61_q73 : q61 ≠ q73 := fun z9 => p_q73 (z9 ▸ m_q61)
  have d_q67_q73 : q67 ≠ q73 := fun z9 => p_q73 (z9 ▸ m_q67)
  have o_q73 := hE.new p_q73
  have hz := hz0.ex
  have hI := IV_tp hz0 hL hI (oc_52.mk t_q73 ⟨_, e_q73⟩) (fun z9 => absurd (t_q73.symm.trans z9) (by decide))
  have hL := LO_tp_52 hz0 hL t_q73 y_q73
  have hN := hN.tp hz0 t_q73 (by decide)
  have hE := hE.tr hz (Or.inr o_q73)
  obtain ⟨m_x, t_x, e_x⟩ := hz.kO m_x d_x_q73 t_x e_x
  obtain ⟨m_q1, t_q1, e_q1, y_q1⟩ := hz.kA m_q1 d_q1_q73 t_q1 e_q1 y_q1
  obtain ⟨m_q7, t_q7⟩ := hz.kT m_q7 d_q7_q73 t_q7
  obtain ⟨m_q13, t_q13⟩ := hz.kT m_q13 d_q13_q73 t_q13
  obtain ⟨m_q19, t_q19⟩ := hz.kT m_q19 d_q19_q73 t_q19
  obtain ⟨m_q25, t_q25⟩ := hz.kT m_q25 d_q25_q73 t_q25
  obtain ⟨m_q31, t_q31⟩ := hz.kT m_q31 d_q31_q73 t_q31
  obtain ⟨m_q37, t_q37⟩ := hz.kT m_q37 d_q37_q73 t_q37
  obtain ⟨m_q43, t_q43⟩ := hz.kT m_q43 d_q43_q73 t_q43
  obtain ⟨m_q49, t_q49⟩ := hz.kT m_q49 d_q49_q73 t_q49
  obtain ⟨m_q55, t_q55⟩ := hz.kT m_q55 d_q55_q73 t_q55
  obtain ⟨m_q61, t_q61⟩ := hz.kT m_q61 d_q61_q73 t_q61
  obtain ⟨m_q67, t_q67⟩ := hz.kT m_q67 d_q67_q73 t_q67
  have m_q73 := hz0.2.1
  refine W.widen (k := 13) (n := 764) (by omega) (by omega) ?_
  refine gw_putF (v := .ref q73) (ty := (.array .boolean)) (fs' := [.int (nI 0), .ref q1, .int (nI 0), .ref q7, .ref q13, .int (nI 0), .ref q19, .ref q25, .ref q31, .int (nI 0), .int (nI 0), .int (nI 0), .ref q37, .int (nI 0), .ref q43, .ref q49, .int (nI 0), .ref q55, .ref q61, .ref q67, .ref q73, .null, .null, .null, .null, .null, .null, .null, .null, .null, .null, .null, .int (nI 0), .null, .null, .null, .int (nI 0), .int (nI 0), .int (nI 0), .int (nI 0), .int (nI 0), .int (nI 0), .int (nI 0), .int (nI 0), .int (nI 0)]) (C := "BigRunnerModel") (T := FT10) (N := 45) hx hb (hw10 hB _) (fun _ h9 => h9) TY10 ok10 nm10 hown hK hP hD hS m_x e_x rfl 20 (by decide) (wd_967 hB _) rfl hin rfl (by decide +kernel) rfl rfl (Nat.le_of_ble_eq_true rfl) rfl d_M_init_105 (fun f76 H locs e77 k78 hP hD hS => ?_)
  have hz := EX.wr (g := g74) k78
  have hI := IV_w0 hL hI t_x k78
  have hE := hE.tr hz (Or.inl rfl)
  obtain ⟨m_q1, t_q1, e_q1, y_q1⟩ := hz.kA m_q1 (Ne.symm d_x_q1) t_q1 e_q1 y_q1
  obtain ⟨m_q7, t_q7⟩ := hz.kT m_q7 (Ne.symm d_x_q7) t_q7
  obtain ⟨m_q13, t_q13⟩ := hz.kT m_q13 (Ne.symm d_x_q13) t_q13
  obtain ⟨m_q19, t_q19⟩ := hz.kT m_q19 (Ne.symm d_x_q19) t_q19
  obtain ⟨m_q25, t_q25⟩ := hz.kT m_q25 (Ne.symm d_x_q25) t_q25
  obtain ⟨m_q31, t_q31⟩ := hz.kT m_q31 (Ne.symm d_x_q31) t_q31
  obtain ⟨m_q37, t_q37⟩ := hz.kT m_q37 (Ne.symm d_x_q37) t_q37
  obtain ⟨m_q43, t_q43⟩ := hz.kT m_q43 (Ne.symm d_x_q43) t_q43
  obtain ⟨m_q49, t_q49⟩ := hz.kT m_q49 (Ne.symm d_x_q49) t_q49
  obtain ⟨m_q55, t_q55⟩ := hz.kT m_q55 (Ne.symm d_x_q55) t_q55
  obtain ⟨m_q61, t_q61⟩ := hz.kT m_q61 (Ne.symm d_x_q61) t_q61
  obtain ⟨m_q67, t_q67⟩ := hz.kT m_q67 (Ne.symm d_x_q67) t_q67
  obtain ⟨m_q73, t_q73⟩ := hz.kT m_q73 (Ne.symm d_x_q73) t_q73
  have e_x := e77
  refine lv_aload_n hx hb d_M_init_108 rfl (lv_at hl 0 rfl) ?_
  refine lv_bipush (v := nI 80) hx hb d_M_init_109 (by decide) ?_
  refine gw_arr (atype := .long) (a0 := (80, .inr (.inl (fun _ => nL 0)))) (N' := 80) (ty := .long) hx hb (wd_329 hB _) rfl 53 hK hP hD hS hA hL (fun _ => rfl) (by decide +kernel) (by decide +kernel) (by decide +kernel) (Nat.le_of_ble_eq_true rfl) (Nat.le_of_ble_eq_true rfl) d_M_init_111 (fun q79 g80 f81 H hz0 t_q79 p_q79 e_q79 y_q79 hK hP hD hS => ?_)
  have d_x_q79 : x ≠ q79 := fun z9 => p_q79 (z9 ▸ m_x)
  have d_q1_q79 : q1 ≠ q79 := fun z9 => p_q79 (z9 ▸ m_q1)
  have d_q7_q79 : q7 ≠ q79 := fun z9 => p_q79 (z9 ▸ m_q7)
  have d_q13_q79 : q13 ≠ q79 := fun z9 => p_q79 (z9 ▸ m_q13)
  have d_q19_q79 : q19 ≠ q79 := fun z9 => p_q79 (z9 ▸ m_q19)
  have d_q25_q79 : q25 ≠ q79 := fun z9 => p_q79 (z9 ▸ m_q25)
  have d_q31_q79 : q31 ≠ q79 := fun z9 => p_q79 (z9 ▸ m_q31)
  have d_q37_q79 : q37 ≠ q79 := fun z9 => p_q79 (z9 ▸ m_q37)
  have d_q43_q79 : q43 ≠ q79 := fun z9 => p_q79 (z9 ▸ m_q43)
  have d_q49_q79 : q49 ≠ q79 := fun z9 => p_q79 (z9 ▸ m_q49)
  have d_q55_q79 : q55 ≠ q79 := fun z9 => p_q79 (z9 ▸ m_q55)
  have d_q61_q79 : q61 ≠ q79 := fun z9 => p_q79 (z9 ▸ m_q61)
  have d_q67_q79 : q67 ≠ q79 := fun z9 => p_q79 (z9 ▸ m_q67)
  have d_q73_q79 : q73 ≠ q79 := fun z9 => p_q79 (z9 ▸ m_q73)
  have o_q79 := hE.new p_q79
  have hz := hz0.ex
  have hI := IV_tp hz0 hL hI (oc_53.mk t_q79 ⟨_, e_q79⟩) (fun z9 => absurd (t_q79.symm.trans z9) (by decide))
  have hL := LO_tp_53 hz0 hL t_q79 y_q79
  have hN := hN.tp hz0 t_q79 (by decide)
  have hE := hE.tr hz (Or.inr o_q79)
  obtain ⟨m_x, t_x, e_x⟩ := hz.kO m_x d_x_q79 t_x e_x
  obtain ⟨m_q1, t_q1, e_q1, y_q1⟩ := hz.kA m_q1 d_q1_q79 t_q1 e_q1 y_q1
  obtain ⟨m_q7, t_q7⟩ := hz.kT m_q7 d_q7_q79 t_q7
  obtain ⟨m_q13, t_q13⟩ := hz.kT m_q13 d_q13_q79 t_q13
  obtain ⟨m_q19, t_q19⟩ := hz.kT m_q19 d_q19_q79 t_q19
  obtain ⟨m_q25, t_q25⟩ := hz.kT m_q25 d_q25_q79 t_q25
  obtain ⟨m_q31, t_q31⟩ := hz.kT m_q31 d_q31_q79 t_q31
  obtain ⟨m_q37, t_q37⟩ := hz.kT m_q37 d_q37_q79 t_q37
  obtain ⟨m_q43, t_q43⟩ := hz.kT m_q43 d_q43_q79 t_q43
  obtain ⟨m_q49, t_q49⟩ := hz.kT m_q49 d_q49_q79 t_q49
  obtain ⟨m_q55, t_q55⟩ := hz.kT m_q55 d_q55_q79 t_q55
  obtain ⟨m_q61, t_q61⟩ := hz.kT m_q61 d_q61_q79 t_q61
  obtain ⟨m_q67, t_q67⟩ := hz.kT m_q67 d_q67_q79 t_q67
  obtain ⟨m_q73, t_q73⟩ := hz.kT m_q73 d_q73_q79 t_q73
  have m_q79 := hz0.2.1
  refine W.widen (k := 14) (n := 844) (by omega) (by omega) ?_
  refine gw_putF (v := .ref q79) (ty := (.array .long)) (fs' := [.int (nI 0), .ref q1, .int (nI 0), .ref q7, .ref q13, .int (nI 0), .ref q19, .ref q25, .ref q31, .int (nI 0), .int (nI 0), .int (nI 0), .ref q37, .int (nI 0), .ref q43, .ref q49, .int (nI 0), .ref q55, .ref q61, .ref q67, .ref q73, .ref q79, .null, .null, .null, .null, .null, .null, .null, .null, .null, .null, .int (nI 0), .null, .null, .null, .int (nI 0), .int (nI 0), .int (nI 0), .int (nI 0), .int (nI 0), .int (nI 0), .int (nI 0), .int (nI 0), .int (nI 0)]) (C := "BigRunnerModel") (T := FT10) (N := 45) hx hb (hw10 hB _) (fun _ h9 => h9) TY10 ok10 nm10 hown hK hP hD hS m_x e_x rfl 21 (by decide) (wd_968 hB _) rfl hin rfl (by decide +kernel) rfl rfl (Nat.le_of_ble_eq_true rfl) rfl d_M_init_113 (fun f82 H locs e83 k84 hP hD hS => ?_)
  have hz := EX.wr (g := g80) k84
  have hI := IV_w0 hL hI t_x k84
  have hE := hE.tr hz (Or.inl rfl)
  obtain ⟨m_q1, t_q1, e_q1, y_q1⟩ := hz.kA m_q1 (Ne.symm d_x_q1) t_q1 e_q1 y_q1
  obtain ⟨m_q7, t_q7⟩ := hz.kT m_q7 (Ne.symm d_x_q7) t_q7
  obtain ⟨m_q13, t_q13⟩ := hz.kT m_q13 (Ne.symm d_x_q13) t_q13
  obtain ⟨m_q19, t_q19⟩ := hz.kT m_q19 (Ne.symm d_x_q19) t_q19
  obtain ⟨m_q25, t_q25⟩ := hz.kT m_q25 (Ne.symm d_x_q25) t_q25
  obtain ⟨m_q31, t_q31⟩ := hz.kT m_q31 (Ne.symm d_x_q31) t_q31
  obtain ⟨m_q37, t_q37⟩ := hz.kT m_q37 (Ne.symm d_x_q37) t_q37
  obtain ⟨m_q43, t_q43⟩ := hz.kT m_q43 (Ne.symm d_x_q43) t_q43
  obtain ⟨m_q49, t_q49⟩ := hz.kT m_q49 (Ne.symm d_x_q49) t_q49
  obtain ⟨m_q55, t_q55⟩ := hz.kT m_q55 (Ne.symm d_x_q55) t_q55
  obtain ⟨m_q61, t_q61⟩ := hz.kT m_q61 (Ne.symm d_x_q61) t_q61
  obtain ⟨m_q67, t_q67⟩ := hz.kT m_q67 (Ne.symm d_x_q67) t_q67
  obtain ⟨m_q73, t_q73⟩ := hz.kT m_q73 (Ne.symm d_x_q73) t_q73
  obtain ⟨m_q79, t_q79⟩ := hz.kT m_q79 (Ne.symm d_x_q79) t_q79
  have e_x := e83
  refine lv_aload_n hx hb d_M_init_116 rfl (lv_at hl 0 rfl) ?_
  refine lv_bipush (v := nI 80) hx hb d_M_init_117 (by decide) ?_
  refine gw_arr (atype := .long) (a0 := (80, .inr (.inl (fun _ => nL 0)))) (N' := 80) (ty := .long) hx hb (wd_329 hB _) rfl 54 hK hP hD hS hA hL (fun _ => rfl) (by decide +kernel) (by decide +kernel) (by decide +kernel) (Nat.le_of_ble_eq_true rfl) (Nat.le_of_ble_eq_true rfl) d_M_init_119 (fun q85 g86 f87 H hz0 t_q85 p_q85 e_q85 y_q85 hK hP hD hS => ?_)
  have d_x_q85 : x ≠ q85 := fun z9 => p_q85 (z9 ▸ m_x)
  have d_q1_q85 : q1 ≠ q85 := fun z9 => p_q85 (z9 ▸ m_q1)
  have d_q7_q85 : q7 ≠ q85 := fun z9 => p_q85 (z9 ▸ m_q7)
  have d_q13_q85 : q13 ≠ q85 := fun z9 => p_q85 (z9 ▸ m_q13)
  have d_q19_q85 : q19 ≠ q85 := fun z9 => p_q85 (z9 ▸ m_q19)
  have d_q25_q85 : q25 ≠ q85 := fun z9 => p_q85 (z9 ▸ m_q25)
  have d_q31_q85 : q31 ≠ q85 := fun z9 => p_q85 (z9 ▸ m_q31)
  have d_q37_q85 : q37 ≠ q85 := fun z9 => p_q85 (z9 ▸ m_q37)
  have d_q43_q85 : q43 ≠ q85 := fun z9 => p_q85 (z9 ▸ m_q43)
  have d_q49_q85 : q49 ≠ q85 := fun z9 => p_q85 (z9 ▸ m_q49)
  have d_q55_q85 : q55 ≠ q85 := fun z9 => p_q85 (z9 ▸ m_q55)
  have d_q61_q85 : q61 ≠ q85 := fun z9 => p_q85 (z9 ▸ m_q61)
  have d_q67_q85 : q67 ≠ q85 := fun z9 => p_q85 (z9 ▸ m_q67)
  have d_q73_q85 : q73 ≠ q85 := fun z9 => p_q85 (z9 ▸ m_q73)
  have d_q79_q85 : q79 ≠ q85 := fun z9 => p_q85 (z9 ▸ m_q79)
  have o_q85 := hE.new p_q85
  have hz := hz0.ex
  have hI := IV_tp hz0 hL hI (oc_54.mk t_q85 ⟨_, e_q85⟩) (fun z9 => absurd (t_q85.symm.trans z9) (by decide))
  have hL := LO_tp_54 hz0 hL t_q85 y_q85
  have hN := hN.tp hz0 t_q85 (by decide)
  have hE := hE.tr hz (Or.inr o_q85)
  obtain ⟨m_x, t_x, e_x⟩ := hz.kO m_x d_x_q85 t_x e_x
  obtain ⟨m_q1, t_q1, e_q1, y_q1⟩ := hz.kA m_q1 d_q1_q85 t_q1 e_q1 y_q1
  obtain ⟨m_q7, t_q7⟩ := hz.kT m_q7 d_q7_q85 t_q7
  obtain ⟨m_q13, t_q13⟩ := hz.kT m_q13 d_q13_q85 t_q13
  obtain ⟨m_q19, t_q19⟩ := hz.kT m_q19 d_q19_q85 t_q19
  obtain ⟨m_q25, t_q25⟩ := hz.kT m_q25 d_q25_q85 t_q25
  obtain ⟨m_q31, t_q31⟩ := hz.kT m_q31 d_q31_q85 t_q31
  obtain ⟨m_q37, t_q37⟩ := hz.kT m_q37 d_q37_q85 t_q37
  obtain ⟨m_q43, t_q43⟩ := hz.kT m_q43 d_q43_q85 t_q43
  obtain ⟨m_q49, t_q49⟩ := hz.kT m_q49 d_q49_q85 t_q49
  obtain ⟨m_q55, t_q55⟩ := hz.kT m_q55 d_q55_q85 t_q55
  obtain ⟨m_q61, t_q61⟩ := hz.kT m_q61 d_q61_q85 t_q61
  obtain ⟨m_q67, t_q67⟩ := hz.kT m_q67 d_q67_q85 t_q67
  obtain ⟨m_q73, t_q73⟩ := hz.kT m_q73 d_q73_q85 t_q73
  obtain ⟨m_q79, t_q79⟩ := hz.kT m_q79 d_q79_q85 t_q79
  have m_q85 := hz0.2.1
  refine W.widen (k := 15) (n := 924) (by omega) (by omega) ?_
  refine gw_putF (v := .ref q85) (ty := (.array .long)) (fs' := [.int (nI 0), .ref q1, .int (nI 0), .ref q7, .ref q13, .int (nI 0), .ref q19, .ref q25, .ref q31, .int (nI 0), .int (nI 0), .int (nI 0), .ref q37, .int (nI 0), .ref q43, .ref q49, .int (nI 0), .ref q55, .ref q61, .ref q67, .ref q73, .ref q79, .ref q85, .null, .null, .null, .null, .null, .null, .null, .null, .null, .int (nI 0), .null, .null, .null, .int (nI 0), .int (nI 0), .int (nI 0), .int (nI 0), .int (nI 0), .int (nI 0), .int (nI 0), .int (nI 0), .int (nI 0)]) (C := "BigRunnerModel") (T := FT10) (N := 45) hx hb (hw10 hB _) (fun _ h9 => h9) TY10 ok10 nm10 hown hK hP hD hS m_x e_x rfl 22 (by decide) (wd_969 hB _) rfl hin rfl (by decide +kernel) rfl rfl (Nat.le_of_ble_eq_true rfl) rfl d_M_init_121 (fun f88 H locs e89 k90 hP hD hS => ?_)
  have hz := EX.wr (g := g86) k90
  have hI := IV_w0 hL hI t_x k90
  have hE := hE.tr hz (Or.inl rfl)
  obtain ⟨m_q1, t_q1, e_q1, y_q1⟩ := hz.kA m_q1 (Ne.symm d_x_q1) t_q1 e_q1 y_q1
  obtain ⟨m_q7, t_q7⟩ := hz.kT m_q7 (Ne.symm d_x_q7) t_q7
  obtain ⟨m_q13, t_q13⟩ := hz.kT m_q13 (Ne.symm d_x_q13) t_q13
  obtain ⟨m_q19, t_q19⟩ := hz.kT m_q19 (Ne.symm d_x_q19) t_q19
  obtain ⟨m_q25, t_q25⟩ := hz.kT m_q25 (Ne.symm d_x_q25) t_q25
  obtain ⟨m_q31, t_q31⟩ := hz.kT m_q31 (Ne.symm d_x_q31) t_q31
  obtain ⟨m_q37, t_q37⟩ := hz.kT m_q37 (Ne.symm d_x_q37) t_q37
  obtain ⟨m_q43, t_q43⟩ := hz.kT m_q43 (Ne.symm d_x_q43) t_q43
  obtain ⟨m_q49, t_q49⟩ := hz.kT m_q49 (Ne.symm d_x_q49) t_q49
  obtain ⟨m_q55, t_q55⟩ := hz.kT m_q55 (Ne.symm d_x_q55) t_q55
  obtain ⟨m_q61, t_q61⟩ := hz.kT m_q61 (Ne.symm d_x_q61) t_q61
  obtain ⟨m_q67, t_q67⟩ := hz.kT m_q67 (Ne.symm d_x_q67) t_q67
  obtain ⟨m_q73, t_q73⟩ := hz.kT m_q73 (Ne.symm d_x_q73) t_q73
  obtain ⟨m_q79, t_q79⟩ := hz.kT m_q79 (Ne.symm d_x_q79) t_q79
  obtain ⟨m_q85, t_q85⟩ := hz.kT m_q85 (Ne.symm d_x_q85) t_q85
  have e_x := e89
  refine lv_aload_n hx hb d_M_init_124 rfl (lv_at hl 0 rfl) ?_
  refine lv_bipush (v := nI 80) hx hb d_M_init_125 (by decide) ?_
  refine gw_arr (atype := .boolean) (a0 := (80, .inl (fun _ => nI 0))) (N' := 80) (ty := .boolean) hx hb (wd_1083 hB _) rfl 55 hK hP hD hS hA hL (fun _ => rfl) (by decide +kernel) (by decide +kernel) (by decide +kernel) (Nat.le_of_ble_eq_true rfl) (Nat.le_of_ble_eq_true rfl) d_M_init_127 (fun q91 g92 f93 H hz0 t_q91 p_q91 e_q91 y_q91 hK hP hD hS => ?_)
  have d_x_q91 : x ≠ q91 := fun z9 => p_q91 (z9 ▸ m_x)
  have d_q1_q91 : q1 ≠ q91 := fun z9 => p_q91 (z9 ▸ m_q1)
  have d_q7_q91 : q7 ≠ q91 := fun z9 => p_q91 (z9 ▸ m_q7)
  have d_q13_q91 : q13 ≠ q91 := fun z9 => p_q91 (z9 ▸ m_q13)
  have d_q19_q91 : q19 ≠ q91 := fun z9 => p_q91 (z9 ▸ m_q19)
  have d_q25_q91 : q25 ≠ q91 := fun z9 => p_q91 (z9 ▸ m_q25)
  have d_q31_q91 : q31 ≠ q91 := fun z9 => p_q91 (z9 ▸ m_q31)
  have d_q37_q91 : q37 ≠ q91 := fun z9 => p_q91 (z9 ▸ m_q37)
  have d_q43_q91 : q43 ≠ q91 := fun z9 => p_q91 (z9 ▸ m_q43)
  have d_q49_q91 : q49 ≠ q91 := fun z9 => p_q91 (z9 ▸ m_q49)
  have d_q55_q91 : q55 ≠ q91 := fun z9 => p_q91 (z9 ▸ m_q55)
  have d_q61_q91 : q61 ≠ q91 := fun z9 => p_q91 (z9 ▸ m_q61)
  have d_q67_q91 : q67 ≠ q91 := fun z9 => p_q91 (z9 ▸ m_q67)
  have d_q73_q91 : q73 ≠ q91 := fun z9 => p_q91 (z9 ▸ m_q73)
  have d_q79_q91 : q79 ≠ q91 := fun z9 => p_q91 (z9 ▸ m_q79)
  have d_q85_q91 : q85 ≠ q91 := fun z9 => p_q91 (z9 ▸ m_q85)
  have o_q91 := hE.new p_q91
  have hz := hz0.ex
  have hI := IV_tp hz0 hL hI (oc_55.mk t_q91 ⟨_, e_q91⟩) (fun z9 => absurd (t_q91.symm.trans z9) (by decide))
  have hL := LO_tp_55 hz0 hL t_q91 y_q91
  have hN := hN.tp hz0 t_q91 (by decide)
  have hE := hE.tr hz (Or.inr o_q91)
  obtain ⟨m_x, t_x, e_x⟩ := hz.kO m_x d_x_q91 t_x e_x
  obtain ⟨m_q1, t_q1, e_q1, y_q1⟩ := hz.kA m_q1 d_q1_q91 t_q1 e_q1 y_q1
  obtain ⟨m_q7, t_q7⟩ := hz.kT m_q7 d_q7_q91 t_q7
  obtain ⟨m_q13, t_q13⟩ := hz.kT m_q13 d_q13_q91 t_q13
  obtain ⟨m_q19, t_q19⟩ := hz.kT m_q19 d_q19_q91 t_q19
  obtain ⟨m_q25, t_q25⟩ := hz.kT m_q25 d_q25_q91 t_q25
  obtain ⟨m_q31, t_q31⟩ := hz.kT m_q31 d_q31_q91 t_q31
  obtain ⟨m_q37, t_q37⟩ := hz.kT m_q37 d_q37_q91 t_q37
  obtain ⟨m_q43, t_q43⟩ := hz.kT m_q43 d_q43_q91 t_q43
  obtain ⟨m_q49, t_q49⟩ := hz.kT m_q49 d_q49_q91 t_q49
  obtain ⟨m_q55, t_q55⟩ := hz.kT m_q55 d_q55_q91 t_q55
  obtain ⟨m_q61, t_q61⟩ := hz.kT m_q61 d_q61_q91 t_q61
  obtain ⟨m_q67, t_q67⟩ := hz.kT m_q67 d_q67_q91 t_q67
  obtain ⟨m_q73, t_q73⟩ := hz.kT m_q73 d_q73_q91 t_q73
  obtain ⟨m_q79, t_q79⟩ := hz.kT m_q79 d_q79_q91 t_q79
  obtain ⟨m_q85, t_q85⟩ := hz.kT m_q85 d_q85_q91 t_q85
  have m_q91 := hz0.2.1
  refine W.widen (k := 16) (n := 1004) (by omega) (by omega) ?_
  refine gw_putF (v := .ref q91) (ty := (.array .boolean)) (fs' := [.int (nI 0), .ref q1, .int (nI 0), .ref q7, .ref q13, .int (nI 0), .ref q19, .ref q25, .ref q31, .int (nI 0), .int (nI 0), .int (nI 0), .ref q37, .int (nI 0), .ref q43, .ref q49, .int (nI 0), .ref q55, .ref q61, .ref q67, .ref q73, .ref q79, .ref q85, .ref q91, .null, .null, .null, .null, .null, .null, .null, .null, .int (nI 0), .null, .null, .null, .int (nI 0), .int (nI 0), .int (nI 0), .int (nI 0), .int (nI 0), .int (nI 0), .int (nI 0), .int (nI 0), .int (nI 0)]) (C := "BigRunnerModel") (T := FT10) (N := 45) hx hb (hw10 hB _) (fun _ h9 => h9) TY10 ok10 nm10 hown hK hP hD hS m_x e_x rfl 23 (by decide) (wd_970 hB _) rfl hin rfl (by decide +kernel) rfl rfl (Nat.le_of_ble_eq_true rfl) rfl d_M_init_129 (fun f94 H locs e95 k96 hP hD hS => ?_)
  have hz := EX.wr (g := g92) k96
  have hI := IV_w0 hL hI t_x k96
  have hE := hE.tr hz (Or.inl rfl)
  obtain ⟨m_q1, t_q1, e_q1, y_q1⟩ := hz.kA m_q1 (Ne.symm d_x_q1) t_q1 e_q1 y_q1
  obtain ⟨m_q7, t_q7⟩ := hz.kT m_q7 (Ne.symm d_x_q7) t_q7
  obtain ⟨m_q13, t_q13⟩ := hz.kT m_q13 (Ne.symm d_x_q13) t_q13
  obtain ⟨m_q19, t_q19⟩ := hz.kT m_q19 (Ne.symm d_x_q19) t_q19
  obtain ⟨m_q25, t_q25⟩ := hz.kT m_q25 (Ne.symm d_x_q25) t_q25
  obtain ⟨m_q31, t_q31⟩ := hz.kT m_q31 (Ne.symm d_x_q31) t_q31
  obtain ⟨m_q37, t_q37⟩ := hz.kT m_q37 (Ne.symm d_x_q37) t_q37
  obtain ⟨m_q43, t_q43⟩ := hz.kT m_q43 (Ne.symm d_x_q43) t_q43
  obtain ⟨m_q49, t_q49⟩ := hz.kT m_q49 (Ne.symm d_x_q49) t_q49
  obtain ⟨m_q55, t_q55⟩ := hz.kT m_q55 (Ne.symm d_x_q55) t_q55
  obtain ⟨m_q61, t_q61⟩ := hz.kT m_q61 (Ne.symm d_x_q61) t_q61
  obtain ⟨m_q67, t_q67⟩ := hz.kT m_q67 (Ne.symm d_x_q67) t_q67
  obtain ⟨m_q73, t_q73⟩ := hz.kT m_q73 (Ne.symm d_x_q73) t_q73
  obtain ⟨m_q79, t_q79⟩ := hz.kT m_q79 (Ne.symm d_x_q79) t_q79
  obtain ⟨m_q85, t_q85⟩ := hz.kT m_q85 (Ne.symm d_x_q85) t_q85
  obtain ⟨m_q91, t_q91⟩ := hz.kT m_q91 (Ne.symm d_x_q91) t_q91
  have e_x := e95
  refine lv_aload_n hx hb d_M_init_132 rfl (lv_at hl 0 rfl) ?_
  refine lv_bipush (v := nI 80) hx hb d_M_init_133 (by decide) ?_
  refine gw_arr (atype := .boolean) (a0 := (80, .inl (fun _ => nI 0))) (N' := 80) (ty := .boolean) hx hb (wd_1083 hB _) rfl 56 hK hP hD hS hA hL (fun _ => rfl) (by decide +kernel) (by decide +kernel) (by decide +kernel) (Nat.le_of_ble_eq_true rfl) (Nat.le_of_ble_eq_true rfl) d_M_init_135 (fun q97 g98 f99 H hz0 t_q97 p_q97 e_q97 y_q97 hK hP hD hS => ?_)
  have d_x_q97 : x ≠ q97 := fun z9 => p_q97 (z9 ▸ m_x)
  have d_q1_q97 : q1 ≠ q97 := fun z9 => p_q97 (z9 ▸ m_q1)
  have d_q7_q97 : q7 ≠ q97 := fun z9 => p_q97 (z9 ▸ m_q7)
  have d_q13_q97 : q13 ≠ q97 := fun z9 => p_q97 (z9 ▸ m_q13)
  have d_q19_q97 : q19 ≠ q97 := fun z9 => p_q97 (z9 ▸ m_q19)
  have d_q25_q97 : q25 ≠ q97 := fun z9 => p_q97 (z9 ▸ m_q25)
  have d_q31_q97 : q31 ≠ q97 := fun z9 => p_q97 (z9 ▸ m_q31)
  have d_q37_q97 : q37 ≠ q97 := fun z9 => p_q97 (z9 ▸ m_q37)
  have d_q43_q97 : q43 ≠ q97 := fun z9 => p_q97 (z9 ▸ m_q43)
  have d_q49_q97 : q49 ≠ q97 := fun z9 => p_q97 (z9 ▸ m_q49)
  have d_q55_q97 : q55 ≠ q97 := fun z9 => p_q97 (z9 ▸ m_q55)
  have d_q61_q97 : q61 ≠ q97 := fun z9 => p_q97 (z9 ▸ m_q61)
  have d_q67_q97 : q67 ≠ q97 := fun z9 => p_q97 (z9 ▸ m_q67)
  have d_q73_q97 : q73 ≠ q97 := fun z9 => p_q97 (z9 ▸ m_q73)
  have d_q79_q97 : q79 ≠ q97 := fun z9 => p_q97 (z9 ▸ m_q79)
  have d_q85_q97 : q85 ≠ q97 := fun z9 => p_q97 (z9 ▸ m_q85)
  have d_q91_q97 : q91 ≠ q97 := fun z9 => p_q97 (z9 ▸ m_q91)
  have o_q97 := hE.new p_q97
  have hz := hz0.ex
  have hI := IV_tp hz0 hL hI (oc_56.mk t_q97 ⟨_, e_q97⟩) (fun z9 => absurd (t_q97.symm.trans z9) (by decide))
  have hL := LO_tp_56 hz0 hL t_q97 y_q97
  have hN := hN.tp hz0 t_q97 (by decide)
  have hE := hE.tr hz (Or.inr o_q97)
  obtain ⟨m_x, t_x, e_x⟩ := hz.kO m_x d_x_q97 t_x e_x
  obtain ⟨m_q1, t_q1, e_q1, y_q1⟩ := hz.kA m_q1 d_q1_q97 t_q1 e_q1 y_q1
  obtain ⟨m_q7, t_q7⟩ := hz.kT m_q7 d_q7_q97 t_q7
  obtain ⟨m_q13, t_q13⟩ := hz.kT m_q13 d_q13_q97 t_q13
  obtain ⟨m_q19, t_q19⟩ := hz.kT m_q19 d_q19_q97 t_q19
  obtain ⟨m_q25, t_q25⟩ := hz.kT m_q25 d_q25_q97 t_q25
  obtain ⟨m_q31, t_q31⟩ := hz.kT m_q31 d_q31_q97 t_q31
  obtain ⟨m_q37, t_q37⟩ := hz.kT m_q37 d_q37_q97 t_q37
  obtain ⟨m_q43, t_q43⟩ := hz.kT m_q43 d_q43_q97 t_q43
  obtain ⟨m_q49, t_q49⟩ := hz.kT m_q49 d_q49_q97 t_q49
  obtain ⟨m_q55, t_q55⟩ := hz.kT m_q55 d_q55_q97 t_q55
  obtain ⟨m_q61, t_q61⟩ := hz.kT m_q61 d_q61_q97 t_q61
  obtain ⟨m_q67, t_q67⟩ := hz.kT m_q67 d_q67_q97 t_q67
  obtain ⟨m_q73, t_q73⟩ := hz.kT m_q73 d_q73_q97 t_q73
  obtain ⟨m_q79, t_q79⟩ := hz.kT m_q79 d_q79_q97 t_q79
  obtain ⟨m_q85, t_q85⟩ := hz.kT m_q85 d_q85_q97 t_q85
  obtain ⟨m_q91, t_q91⟩ := hz.kT m_q91 d_q91_q97 t_q91
  have m_q97 := hz0.2.1
  refine W.widen (k := 17) (n := 1084) (by omega) (by omega) ?_
  refine gw_putF (v := .ref q97) (ty := (.array .boolean)) (fs' := [.int (nI 0), .ref q1, .int (nI 0), .ref q7, .ref q13, .int (nI 0), .ref q19, .ref q25, .ref q31, .int (nI 0), .int (nI 0), .int (nI 0), .ref q37, .int (nI 0), .ref q43, .ref q49, .int (nI 0), .ref q55, .ref q61, .ref q67, .ref q73, .ref q79, .ref q85, .ref q91, .ref q97, .null, .null, .null, .null, .null, .null, .null, .int (nI 0), .null, .null, .null, .int (nI 0), .int (nI 0), .int (nI 0), .int (nI 0), .int (nI 0), .int (nI 0), .int (nI 0), .int (nI 0), .int (nI 0)]) (C := "BigRunnerModel") (T := FT10) (N := 45) hx hb (hw10 hB _) (fun _ h9 => h9) TY10 ok10 nm10 hown hK hP hD hS m_x e_x rfl 24 (by decide) (wd_971 hB _) rfl hin rfl (by decide +kernel) rfl rfl (Nat.le_of_ble_eq_true rfl) rfl d_M_init_137 (fun f100 H locs e101 k102 hP hD hS => ?_)
  have hz := EX.wr (g := g98) k102
  have hI := IV_w0 hL hI t_x k102
  have hE := hE.tr hz (Or.inl rfl)
  obtain ⟨m_q1, t_q1, e_q1, y_q1⟩ := hz.kA m_q1 (Ne.symm d_x_q1) t_q1 e_q1 y_q1
  obtain ⟨m_q7, t_q7⟩ := hz.kT m_q7 (Ne.symm d_x_q7) t_q7
  obtain ⟨m_q13, t_q13⟩ := hz.kT m_q13 (Ne.symm d_x_q13) t_q13
  obtain ⟨m_q19, t_q19⟩ := hz.kT m_q19 (Ne.symm d_x_q19) t_q19
  obtain ⟨m_q25, t_q25⟩ := hz.kT m_q25 (Ne.symm d_x_q25) t_q25
  obtain ⟨m_q31, t_q31⟩ := hz.kT m_q31 (Ne.symm d_x_q31) t_q31
  obtain ⟨m_q37, t_q37⟩ := hz.kT m_q37 (Ne.symm d_x_q37) t_q37
  obtain ⟨m_q43, t_q43⟩ := hz.kT m_q43 (Ne.symm d_x_q43) t_q43
  obtain ⟨m_q49, t_q49⟩ := hz.kT m_q49 (Ne.symm d_x_q49) t_q49
  obtain ⟨m_q55, t_q55⟩ := hz.kT m_q55 (Ne.symm d_x_q55) t_q55
  obtain ⟨m_q61, t_q61⟩ := hz.kT m_q61 (Ne.symm d_x_q61) t_q61
  obtain ⟨m_q67, t_q67⟩ := hz.kT m_q67 (Ne.symm d_x_q67) t_q67
  obtain ⟨m_q73, t_q73⟩ := hz.kT m_q73 (Ne.symm d_x_q73) t_q73
  obtain ⟨m_q79, t_q79⟩ := hz.kT m_q79 (Ne.symm d_x_q79) t_q79
  obtain ⟨m_q85, t_q85⟩ := hz.kT m_q85 (Ne.symm d_x_q85) t_q85
  obtain ⟨m_q91, t_q91⟩ := hz.kT m_q91 (Ne.symm d_x_q91) t_q91
  obtain ⟨m_q97, t_q97⟩ := hz.kT m_q97 (Ne.symm d_x_q97) t_q97
  have e_x := e101
  refine lv_aload_n hx hb d_M_init_140 rfl (lv_at hl 0 rfl) ?_
  refine lv_bipush (v := nI 80) hx hb d_M_init_141 (by decide) ?_
  refine gw_arr (atype := .boolean) (a0 := (80, .inl (fun _ => nI 0))) (N' := 80) (ty := .boolean) hx hb (wd_1083 hB _) rfl 57 hK hP hD hS hA hL (fun _ => rfl) (by decide +kernel) (by decide +kernel) (by decide +kernel) (Nat.le_of_ble_eq_true rfl) (Nat.le_of_ble_eq_true rfl) d_M_init_143 (fun q103 g104 f105 H hz0 t_q103 p_q103 e_q103 y_q103 hK hP hD hS => ?_)
  have d_x_q103 : x ≠ q103 := fun z9 => p_q103 (z9 ▸ m_x)
  have d_q1_q103 : q1 ≠ q103 := fun z9 => p_q103 (z9 ▸ m_q1)
  have d_q7_q103 : q7 ≠ q103 := fun z9 => p_q103 (z9 ▸ m_q7)
  have d_q13_q103 : q13 ≠ q103 := fun z9 => p_q103 (z9 ▸ m_q13)
  have d_q19_q103 : q19 ≠ q103 := fun z9 => p_q103 (z9 ▸ m_q19)
  have d_q25_q103 : q25 ≠ q103 := fun z9 => p_q103 (z9 ▸ m_q25)
  have d_q31_q103 : q31 ≠ q103 := fun z9 => p_q103 (z9 ▸ m_q31)
  have d_q37_q103 : q37 ≠ q103 := fun z9 => p_q103 (z9 ▸ m_q37)
  have d_q43_q103 : q43 ≠ q103 := fun z9 => p_q103 (z9 ▸ m_q43)
  have d_q49_q103 : q49 ≠ q103 := fun z9 => p_q103 (z9 ▸ m_q49)
  have d_q55_q103 : q55 ≠ q103 := fun z9 => p_q103 (z9 ▸ m_q55)
  have d_q61_q103 : q61 ≠ q103 := fun z9 => p_q103 (z9 ▸ m_q61)
  have d_q67_q103 : q67 ≠ q103 := fun z9 => p_q103 (z9 ▸ m_q67)
  have d_q73_q103 : q73 ≠ q103 := fun z9 => p_q103 (z9 ▸ m_q73)
  have d_q79_q103 : q79 ≠ q103 := fun z9 => p_q103 (z9 ▸ m_q79)
  have d_q85_q103 : q85 ≠ q103 := fun z9 => p_q103 (z9 ▸ m_q85)
  have d_q91_q103 : q91 ≠ q103 := fun z9 => p_q103 (z9 ▸ m_q91)
  have d_q97_q103 : q97 ≠ q103 := fun z9 => p_q103 (z9 ▸ m_q97)
  have o_q103 := hE.new p_q103
  have hz := hz0.ex
  have hI := IV_tp hz0 hL hI (oc_57.mk t_q103 ⟨_, e_q103⟩) (fun z9 => absurd (t_q103.symm.trans z9) (by decide))
  have hL := LO_tp_57 hz0 hL t_q103 y_q103
  have hN := hN.tp hz0 t_q103 (by decide)
  have hE := hE.tr hz (Or.inr o_q103)
  obtain ⟨m_x, t_x, e_x⟩ := hz.kO m_x d_x_q103 t_x e_x
  obtain ⟨m_q1, t_q1, e_q1, y_q1⟩ := hz.kA m_q1 d_q1_q103 t_q1 e_q1 y_q1
  obtain ⟨m_q7, t_q7⟩ := hz.kT m_q7 d_q7_q103 t_q7
  obtain ⟨m_q13, t_q13⟩ := hz.kT m_q13 d_q13_q103 t_q13
  obtain ⟨m_q19, t_q19⟩ := hz.kT m_q19 d_q19_q103 t_q19
  obtain ⟨m_q25, t_q25⟩ := hz.kT m_q25 d_q25_q103 t_q25
  obtain ⟨m_q31, t_q31⟩ := hz.kT m_q31 d_q31_q103 t_q31
  obtain ⟨m_q37, t_q37⟩ := hz.kT m_q37 d_q37_q103 t_q37
  obtain ⟨m_q43, t_q43⟩ := hz.kT m_q43 d_q43_q103 t_q43
  obtain ⟨m_q49, t_q49⟩ := hz.kT m_q49 d_q49_q103 t_q49
  obtain ⟨m_q55, t_q55⟩ := hz.kT m_q55 d_q55_q103 t_q55
  obtain ⟨m_q61, t_q61⟩ := hz.kT m_q61 d_q61_q103 t_q61
  obtain ⟨m_q67, t_q67⟩ := hz.kT m_q67 d_q67_q103 t_q67
  obtain ⟨m_q73, t_q73⟩ := hz.kT m_q73 d_q73_q103 t_q73
  obtain ⟨m_q79, t_q79⟩ := hz.kT m_q79 d_q79_q103 t_q79
  obtain ⟨m_q85, t_q85⟩ := hz.kT m_q85 d_q85_q103 t_q85
  obtain ⟨m_q91, t_q91⟩ := hz.kT m_q91 d_q91_q103 t_q91
  obtain ⟨m_q97, t_q97⟩ := hz.kT m_q97 d_q97_q103 t_q97
  have m_q103 := hz0.2.1
  refine W.widen (k := 18) (n := 1164) (by omega) (by omega) ?_
  refine gw_putF (v := .ref q103) (ty := (.array .boolean)) (fs' := [.int (nI 0), .ref q1, .int (nI 0), .ref q7, .ref q13, .int (nI 0), .ref q19, .ref q25, .ref q31, .int (nI 0), .int (nI 0), .int (nI 0), .ref q37, .int (nI 0), .ref q43, .ref q49, .int (nI 0), .ref q55, .ref q61, .ref q67, .ref q73, .ref q79, .ref q85, .ref q91, .ref q97, .ref q103, .null, .null, .null, .null, .null, .null, .int (nI 0), .null, .null, .null, .int (nI 0), .int (nI 0), .int (nI 0), .int (nI 0), .int (nI 0), .int (nI 0), .int (nI 0), .int (nI 0), .int (nI 0)]) (C := "BigRunnerModel") (T := FT10) (N := 45) hx hb (hw10 hB _) (fun _ h9 => h9) TY10 ok10 nm10 hown hK hP hD hS m_x e_x rfl 25 (by decide) (wd_972 hB _) rfl hin rfl (by decide +kernel) rfl rfl (Nat.le_of_ble_eq_true rfl) rfl d_M_init_145 (fun f106 H locs e107 k108 hP hD hS => ?_)
  have hz := EX.wr (g := g104) k108
  have hI := IV_w0 hL hI t_x k108
  have hE := hE.tr hz (Or.inl rfl)
  obtain ⟨m_q1, t_q1, e_q1, y_q1⟩ := hz.kA m_q1 (Ne.symm d_x_q1) t_q1 e_q1 y_q1
  obtain ⟨m_q7, t_q7⟩ := hz.kT m_q7 (Ne.symm d_x_q7) t_q7
  obtain ⟨m_q13, t_q13⟩ := hz.kT m_q13 (Ne.symm d_x_q13) t_q13
  obtain ⟨m_q19, t_q19⟩ := hz.kT m_q19 (Ne.symm d_x_q19) t_q19
  obtain ⟨m_q25, t_q25⟩ := hz.kT m_q25 (Ne.symm d_x_q25) t_q25
  obtain ⟨m_q31, t_q31⟩ := hz.kT m_q31 (Ne.symm d_x_q31) t_q31
  obtain ⟨m_q37, t_q37⟩ := hz.kT m_q37 (Ne.symm d_x_q37) t_q37
  obtain ⟨m_q43, t_q43⟩ := hz.kT m_q43 (Ne.symm d_x_q43) t_q43
  obtain ⟨m_q49, t_q49⟩ := hz.kT m_q49 (Ne.symm d_x_q49) t_q49
  obtain ⟨m_q55, t_q55⟩ := hz.kT m_q55 (Ne.symm d_x_q55) t_q55
  obtain ⟨m_q61, t_q61⟩ := hz.kT m_q61 (Ne.symm d_x_q61) t_q61
  obtain ⟨m_q67, t_q67⟩ := hz.kT m_q67 (Ne.symm d_x_q67) t_q67
  obtain ⟨m_q73, t_q73⟩ := hz.kT m_q73 (Ne.symm d_x_q73) t_q73
  obtain ⟨m_q79, t_q79⟩ := hz.kT m_q79 (Ne.symm d_x_q79) t_q79
  obtain ⟨m_q85, t_q85⟩ := hz.kT m_q85 (Ne.symm d_x_q85) t_q85
  obtain ⟨m_q91, t_q91⟩ := hz.kT m_q91 (Ne.symm d_x_q91) t_q91
  obtain ⟨m_q97, t_q97⟩ := hz.kT m_q97 (Ne.symm d_x_q97) t_q97
  obtain ⟨m_q103, t_q103⟩ := hz.kT m_q103 (Ne.symm d_x_q103) t_q103
  have e_x := e107
  refine lv_aload_n hx hb d_M_init_148 rfl (lv_at hl 0 rfl) ?_
  refine lv_sipush (v := nI 200) hx hb d_M_init_149 (by decide) ?_
  refine gw_arr (atype := .int) (a0 := (200, .inl (fun _ => nI 0))) (N' := 200) (ty := .int) hx hb (wd_201 hB _) rfl 58 hK hP hD hS hA hL (fun _ => rfl) (by decide +kernel) (by decide +kernel) (by decide +kernel) (Nat.le_of_ble_eq_true rfl) (Nat.le_of_ble_eq_true rfl) d_M_init_152 (fun q109 g110 f111 H hz0 t_q109 p_q109 e_q109 y_q109 hK hP hD hS => ?_)
  have d_x_q109 : x ≠ q109 := fun z9 => p_q109 (z9 ▸ m_x)
  have d_q1_q109 : q1 ≠ q109 := fun z9 => p_q109 (z9 ▸ m_q1)
  have d_q7_q109 : q7 ≠ q109 := fun z9 => p_q109 (z9 ▸ m_q7)
  have d_q13_q109 : q13 ≠ q109 := fun z9 => p_q109 (z9 ▸ m_q13)
  have d_q19_q109 : q19 ≠ q109 := fun z9 => p_q109 (z9 ▸ m_q19)
  have d_q25_q109 : q25 ≠ q109 := fun z9 => p_q109 (z9 ▸ m_q25)
  have d_q31_q109 : q31 ≠ q109 := fun z9 => p_q109 (z9 ▸ m_q31)
  have d_q37_q109 : q37 ≠ q109 := fun z9 => p_q109 (z9 ▸ m_q37)
  have d_q43_q109 : q43 ≠ q109 := fun z9 => p_q109 (z9 ▸ m_q43)
  have d_q49_q109 : q49 ≠ q109 := fun z9 => p_q109 (z9 ▸ m_q49)
  have d_q55_q109 : q55 ≠ q109 := fun z9 => p_q109 (z9 ▸ m_q55)
  have d_q61_q109 : q61 ≠ q109 := fun z9 => p_q109 (z9 ▸ m_q61)
  have d_q67_q109 : q67 ≠ q109 := fun z9 => p_q109 (z9 ▸ m_q67)
  have d_q73_q109 : q73 ≠ q109 := fun z9 => p_q109 (z9 ▸ m_q73)
  have d_q79_q109 : q79 ≠ q109 := fun z9 => p_q109 (z9 ▸ m_q79)
  have d_q85_q109 : q85 ≠ q109 := fun z9 => p_q109 (z9 ▸ m_q85)
  have d_q91_q109 : q91 ≠ q109 := fun z9 => p_q109 (z9 ▸ m_q91)
  have d_q97_q109 : q97 ≠ q109 := fun z9 => p_q109 (z9 ▸ m_q97)
  have d_q103_q109 : q103 ≠ q109 := fun z9 => p_q109 (z9 ▸ m_q103)
  have o_q109 := hE.new p_q109
  have hz := hz0.ex
  have hI := IV_tp hz0 hL hI (oc_58.mk t_q109 ⟨_, e_q109⟩) (fun z9 => absurd (t_q109.symm.trans z9) (by decide))
  have hL := LO_tp_58 hz0 hL t_q109 y_q109
  have hN := hN.tp hz0 t_q109 (by decide)
  have hE := hE.tr hz (Or.inr o_q109)
  obtain ⟨m_x, t_x, e_x⟩ := hz.kO m_x d_x_q109 t_x e_x
  obtain ⟨m_q1, t_q1, e_q1, y_q1⟩ := hz.kA m_q1 d_q1_q109 t_q1 e_q1 y_q1
  obtain ⟨m_q7, t_q7⟩ := hz.kT m_q7 d_q7_q109 t_q7
  obtain ⟨m_q13, t_q13⟩ := hz.kT m_q13 d_q13_q109 t_q13
  obtain ⟨m_q19, t_q19⟩ := hz.kT m_q19 d_q19_q109 t_q19
  obtain ⟨m_q25, t_q25⟩ := hz.kT m_q25 d_q25_q109 t_q25
  obtain ⟨m_q31, t_q31⟩ := hz.kT m_q31 d_q31_q109 t_q31
  obtain ⟨m_q37, t_q37⟩ := hz.kT m_q37 d_q37_q109 t_q37
  obtain ⟨m_q43, t_q43⟩ := hz.kT m_q43 d_q43_q109 t_q43
  obtain ⟨m_q49, t_q49⟩ := hz.kT m_q49 d_q49_q109 t_q49
  obtain ⟨m_q55, t_q55⟩ := hz.kT m_q55 d_q55_q109 t_q55
  obtain ⟨m_q61, t_q61⟩ := hz.kT m_q61 d_q61_q109 t_q61
  obtain ⟨m_q67, t_q67⟩ := hz.kT m_q67 d_q67_q109 t_q67
  obtain ⟨m_q73, t_q73⟩ := hz.kT m_q73 d_q73_q109 t_q73
  obtain ⟨m_q79, t_q79⟩ := hz.kT m_q79 d_q79_q109 t_q79
  obtain ⟨m_q85, t_q85⟩ := hz.kT m_q85 d_q85_q109 t_q85
  obtain ⟨m_q91, t_q91⟩ := hz.kT m_q91 d_q91_q109 t_q91
  obtain ⟨m_q97, t_q97⟩ := hz.kT m_q97 d_q97_q109 t_q97
  obtain ⟨m_q103, t_q103⟩ := hz.kT m_q103 d_q103_q109 t_q103
  have m_q109 := hz0.2.1
  refine W.widen (k := 19) (n := 1364) (by omega) (by omega) ?_
  refine gw_putF (v := .ref q109) (ty := (.array .int)) (fs' := [.int (nI 0), .ref q1, .int (nI 0), .ref q7, .ref q13, .int (nI 0), .ref q19, .ref q25, .ref q31, .int (nI 0), .int (nI 0), .int (nI 0), .ref q37, .int (nI 0), .ref q43, .ref q49, .int (nI 0), .ref q55, .ref q61, .ref q67, .ref q73, .ref q79, .ref q85, .ref q91, .ref q97, .ref q103, .ref q109, .null, .null, .null, .null, .null, .int (nI 0), .null, .null, .null, .int (nI 0), .int (nI 0), .int (nI 0), .int (nI 0), .int (nI 0), .int (nI 0), .int (nI 0), .int (nI 0), .int (nI 0)]) (C := "BigRunnerModel") (T := FT10) (N := 45) hx hb (hw10 hB _) (fun _ h9 => h9) TY10 ok10 nm10 hown hK hP hD hS m_x e_x rfl 26 (by decide) (wd_973 hB _) rfl hin rfl (by decide +kernel) rfl rfl (Nat.le_of_ble_eq_true rfl) rfl d_M_init_154 (fun f112 H locs e113 k114 hP hD hS => ?_)
  have hz := EX.wr (g := g110) k114
  have hI := IV_w0 hL hI t_x k114
  have hE := hE.tr hz (Or.inl rfl)
  obtain ⟨m_q1, t_q1, e_q1, y_q1⟩ := hz.kA m_q1 (Ne.symm d_x_q1) t_q1 e_q1 y_q1
  obtain ⟨m_q7, t_q7⟩ := hz.kT m_q7 (Ne.symm d_x_q7) t_q7
  obtain ⟨m_q13, t_q13⟩ := hz.kT m_q13 (Ne.symm d_x_q13) t_q13
  obtain ⟨m_q19, t_q19⟩ := hz.kT m_q19 (Ne.symm d_x_q19) t_q19
  obtain ⟨m_q25, t_q25⟩ := hz.kT m_q25 (Ne.symm d_x_q25) t_q25
  obtain ⟨m_q31, t_q31⟩ := hz.kT m_q31 (Ne.symm d_x_q31) t_q31
  obtain ⟨m_q37, t_q37⟩ := hz.kT m_q37 (Ne.symm d_x_q37) t_q37
  obtain ⟨m_q43, t_q43⟩ := hz.kT m_q43 (Ne.symm d_x_q43) t_q43
  obtain ⟨m_q49, t_q49⟩ := hz.kT m_q49 (Ne.symm d_x_q49) t_q49
  obtain ⟨m_q55, t_q55⟩ := hz.kT m_q55 (Ne.symm d_x_q55) t_q55
  obtain ⟨m_q61, t_q61⟩ := hz.kT m_q61 (Ne.symm d_x_q61) t_q61
  obtain ⟨m_q67, t_q67⟩ := hz.kT m_q67 (Ne.symm d_x_q67) t_q67
  obtain ⟨m_q73, t_q73⟩ := hz.kT m_q73 (Ne.symm d_x_q73) t_q73
  obtain ⟨m_q79, t_q79⟩ := hz.kT m_q79 (Ne.symm d_x_q79) t_q79
  obtain ⟨m_q85, t_q85⟩ := hz.kT m_q85 (Ne.symm d_x_q85) t_q85
  obtain ⟨m_q91, t_q91⟩ := hz.kT m_q91 (Ne.symm d_x_q91) t_q91
  obtain ⟨m_q97, t_q97⟩ := hz.kT m_q97 (Ne.symm d_x_q97) t_q97
  obtain ⟨m_q103, t_q103⟩ := hz.kT m_q103 (Ne.symm d_x_q103) t_q103
  obtain ⟨m_q109, t_q109, e_q109, y_q109⟩ := hz.kA m_q109 (Ne.symm d_x_q109) t_q109 e_q109 y_q109
  have e_x := e113
  refine lv_aload_n hx hb d_M_init_157 rfl (lv_at hl 0 rfl) ?_
  refine lv_bipush (v := nI 10) hx hb d_M_init_158 (by decide) ?_
  refine gw_arr (atype := .int) (a0 := (10, .inl (fun _ => nI 0))) (N' := 10) (ty := .int) hx hb (wd_201 hB _) rfl 59 hK hP hD hS hA hL (fun _ => rfl) (by decide +kernel) (by decide +kernel) (by decide +kernel) (Nat.le_of_ble_eq_true rfl) (Nat.le_of_ble_eq_true rfl) d_M_init_160 (fun q115 g116 f117 H hz0 t_q115 p_q115 e_q115 y_q115 hK hP hD hS => ?_)
  have d_x_q115 : x ≠ q115 := fun z9 => p_q115 (z9 ▸ m_x)
  have d_q1_q115 : q1 ≠ q115 := fun z9 => p_q115 (z9 ▸ m_q1)
  have d_q7_q115 : q7 ≠ q115 := fun z9 => p_q115 (z9 ▸ m_q7)
  have d_q13_q115 : q13 ≠ q115 := fun z9 => p_q115 (z9 ▸ m_q13)
  have d_q19_q115 : q19 ≠ q115 := fun z9 => p_q115 (z9 ▸ m_q19)
  have d_q25_q115 : q25 ≠ q115 := fun z9 => p_q115 (z9 ▸ m_q25)
  have d_q31_q115 : q31 ≠ q115 := fun z9 => p_q115 (z9 ▸ m_q31)
  have d_q37_q115 : q37 ≠ q115 := fun z9 => p_q115 (z9 ▸ m_q37)
  have d_q43_q115 : q43 ≠ q115 := fun z9 => p_q115 (z9 ▸ m_q43)
  have d_q49_q115 : q49 ≠ q115 := fun z9 => p_q115 (z9 ▸ m_q49)
  have d_q55_q115 : q55 ≠ q115 := fun z9 => p_q115 (z9 ▸ m_q55)
  have d_q61_q115 : q61 ≠ q115 := fun z9 => p_q115 (z9 ▸ m_q61)
  have d_q67_q115 : q67 ≠ q115 := fun z9 => p_q115 (z9 ▸ m_q67)
  have d_q73_q115 : q73 ≠ q115 := fun z9 => p_q115 (z9 ▸ m_q73)
  have d_q79_q115 : q79 ≠ q115 := fun z9 => p_q115 (z9 ▸ m_q79)
  have d_q85_q115 : q85 ≠ q115 := fun z9 => p_q115 (z9 ▸ m_q85)
  have d_q91_q115 : q91 ≠ q115 := fun z9 => p_q115 (z9 ▸ m_q91)
  have d_q97_q115 : q97 ≠ q115 := fun z9 => p_q115 (z9 ▸ m_q97)
  have d_q103_q115 : q103 ≠ q115 := fun z9 => p_q115 (z9 ▸ m_q103)
  have d_q109_q115 : q109 ≠ q115 := fun z9 => p_q115 (z9 ▸ m_q109)
  have o_q115 := hE.new p_q115
  have hz := hz0.ex
  have hI := IV_tp hz0 hL hI (oc_59.mk t_q115 ⟨_, e_q115⟩) (fun z9 => absurd (t_q115.symm.trans z9) (by decide))
  have hL := LO_tp_59 hz0 hL t_q115 y_q115
  have hN := hN.tp hz0 t_q115 (by decide)
  have hE := hE.tr hz (Or.inr o_q115)
  obtain ⟨m_x, t_x, e_x⟩ := hz.kO m_x d_x_q115 t_x e_x
  obtain ⟨m_q1, t_q1, e_q1, y_q1⟩ := hz.kA m_q1 d_q1_q115 t_q1 e_q1 y_q1
  obtain ⟨m_q7, t_q7⟩ := hz.kT m_q7 d_q7_q115 t_q7
  obtain ⟨m_q13, t_q13⟩ := hz.kT m_q13 d_q13_q115 t_q13
  obtain ⟨m_q19, t_q19⟩ := hz.kT m_q19 d_q19_q115 t_q19
  obtain ⟨m_q25, t_q25⟩ := hz.kT m_q25 d_q25_q115 t_q25
  obtain ⟨m_q31, t_q31⟩ := hz.kT m_q31 d_q31_q115 t_q31
  obtain ⟨m_q37, t_q37⟩ := hz.kT m_q37 d_q37_q115 t_q37
  obtain ⟨m_q43, t_q43⟩ := hz.kT m_q43 d_q43_q115 t_q43
  obtain ⟨m_q49, t_q49⟩ := hz.kT m_q49 d_q49_q115 t_q49
  obtain ⟨m_q55, t_q55⟩ := hz.kT m_q55 d_q55_q115 t_q55
  obtain ⟨m_q61, t_q61⟩ := hz.kT m_q61 d_q61_q115 t_q61
  obtain ⟨m_q67, t_q67⟩ := hz.kT m_q67 d_q67_q115 t_q67
  obtain ⟨m_q73, t_q73⟩ := hz.kT m_q73 d_q73_q115 t_q73
  obtain ⟨m_q79, t_q79⟩ := hz.kT m_q79 d_q79_q115 t_q79
  obtain ⟨m_q85, t_q85⟩ := hz.kT m_q85 d_q85_q115 t_q85
  obtain ⟨m_q91, t_q91⟩ := hz.kT m_q91 d_q91_q115 t_q91
  obtain ⟨m_q97, t_q97⟩ := hz.kT m_q97 d_q97_q115 t_q97
  obtain ⟨m_q103, t_q103⟩ := hz.kT m_q103 d_q103_q115 t_q103
  obtain ⟨m_q109, t_q109, e_q109, y_q109⟩ := hz.kA m_q109 d_q109_q115 t_q109 e_q109 y_q109
  have m_q115 := hz0.2.1
  refine W.widen (k := 20) (n := 1374) (by omega) (by omega) ?_
  refine gw_putF (v := .ref q115) (ty := (.array .int)) (fs' := [.int (nI 0), .ref q1, .int (nI 0), .ref q7, .ref q13, .int (nI 0), .ref q19, .ref q25, .ref q31, .int (nI 0), .int (nI 0), .int (nI 0), .ref q37, .int (nI 0), .ref q43, .ref q49, .int (nI 0), .ref q55, .ref q61, .ref q67, .ref q73, .ref q79, .ref q85, .ref q91, .ref q97, .ref q103, .ref q109, .ref q115, .null, .null, .null, .null, .int (nI 0), .null, .null, .null, .int (nI 0), .int (nI 0), .int (nI 0), .int (nI 0), .int (nI 0), .int (nI 0), .int (nI 0), .int (nI 0), .int (nI 0)]) (C := "BigRunnerModel") (T := FT10) (N := 45) hx hb (hw10 hB _) (fun _ h9 => h9) TY10 ok10 nm10 hown hK hP hD hS m_x e_x rfl 27 (by decide) (wd_974 hB _) rfl hin rfl (by decide +kernel) rfl rfl (Nat.le_of_ble_eq_true rfl) rfl d_M_init_162 (fun f118 H locs e119 k120 hP hD hS => ?_)
  have hz := EX.wr (g := g116) k120
  have hI := IV_w0 hL hI t_x k120
  have hE := hE.tr hz (Or.inl rfl)
  obtain ⟨m_q1, t_q1, e_q1, y_q1⟩ := hz.kA m_q1 (Ne.symm d_x_q1) t_q1 e_q1 y_q1
  obtain ⟨m_q7, t_q7⟩ := hz.kT m_q7 (Ne.symm d_x_q7) t_q7
  obtain ⟨m_q13, t_q13⟩ := hz.kT m_q13 (Ne.symm d_x_q13) t_q13
  obtain ⟨m_q19, t_q19⟩ := hz.kT m_q19 (Ne.symm d_x_q19) t_q19
  obtain ⟨m_q25, t_q25⟩ := hz.kT m_q25 (Ne.symm d_x_q25) t_q25
  obtain ⟨m_q31, t_q31⟩ := hz.kT m_q31 (Ne.symm d_x_q31) t_q31
  obtain ⟨m_q37, t_q37⟩ := hz.kT m_q37 (Ne.symm d_x_q37) t_q37
  obtain ⟨m_q43, t_q43⟩ := hz.kT m_q43 (Ne.symm d_x_q43) t_q43
  obtain ⟨m_q49, t_q49⟩ := hz.kT m_q49 (Ne.symm d_x_q49) t_q49
  obtain ⟨m_q55, t_q55⟩ := hz.kT m_q55 (Ne.symm d_x_q55) t_q55
  obtain ⟨m_q61, t_q61⟩ := hz.kT m_q61 (Ne.symm d_x_q61) t_q61
  obtain ⟨m_q67, t_q67⟩ := hz.kT m_q67 (Ne.symm d_x_q67) t_q67
  obtain ⟨m_q73, t_q73⟩ := hz.kT m_q73 (Ne.symm d_x_q73) t_q73
  obtain ⟨m_q79, t_q79⟩ := hz.kT m_q79 (Ne.symm d_x_q79) t_q79
  obtain ⟨m_q85, t_q85⟩ := hz.kT m_q85 (Ne.symm d_x_q85) t_q85
  obtain ⟨m_q91, t_q91⟩ := hz.kT m_q91 (Ne.symm d_x_q91) t_q91
  obtain ⟨m_q97, t_q97⟩ := hz.kT m_q97 (Ne.symm d_x_q97) t_q97
  obtain ⟨m_q103, t_q103⟩ := hz.kT m_q103 (Ne.symm d_x_q103) t_q103
  obtain ⟨m_q109, t_q109, e_q109, y_q109⟩ := hz.kA m_q109 (Ne.symm d_x_q109) t_q109 e_q109 y_q109
  obtain ⟨m_q115, t_q115⟩ := hz.kT m_q115 (Ne.symm d_x_q115) t_q115
  have e_x := e119
  refine lv_aload_n hx hb d_M_init_165 rfl (lv_at hl 0 rfl) ?_
  refine lv_sipush (v := nI 240) hx hb d_M_init_166 (by decide) ?_
  refine gw_arr (atype := .int) (a0 := (240, .inl (fun _ => nI 0))) (N' := 240) (ty := .int) hx hb (wd_201 hB _) rfl 60 hK hP hD hS hA hL (fun _ => rfl) (by decide +kernel) (by decide +kernel) (by decide +kernel) (Nat.le_of_ble_eq_true rfl) (Nat.le_of_ble_eq_true rfl) d_M_init_169 (fun q121 g122 f123 H hz0 t_q121 p_q121 e_q121 y_q121 hK hP hD hS => ?_)
  have d_x_q121 : x ≠ q121 := fun z9 => p_q121 (z9 ▸ m_x)
  have d_q1_q121 : q1 ≠ q121 := fun z9 => p_q121 (z9 ▸ m_q1)
  have d_q7_q121 : q7 ≠ q121 := fun z9 => p_q121 (z9 ▸ m_q7)
  have d_q13_q121 : q13 ≠ q121 := fun z9 => p_q121 (z9 ▸ m_q13)
  have d_q19_q121 : q19 ≠ q121 := fun z9 => p_q121 (z9 ▸ m_q19)
  have d_q25_q121 : q25 ≠ q121 := fun z9 => p_q121 (z9 ▸ m_q25)
  have d_q31_q121 : q31 ≠ q121 := fun z9 => p_q121 (z9 ▸ m_q31)
  have d_q37_q121 : q37 ≠ q121 := fun z9 => p_q121 (z9 ▸ m_q37)
  have d_q43_q121 : q43 ≠ q121 := fun z9 => p_q121 (z9 ▸ m_q43)
  have d_q49_q121 : q49 ≠ q121 := fun z9 => p_q121 (z9 ▸ m_q49)
  have d_q55_q121 : q55 ≠ q121 := fun z9 => p_q121 (z9 ▸ m_q55)
  have d_q61_q121 : q61 ≠ q121 := fun z9 => p_q121 (z9 ▸ m_q61)
  have d_q67_q121 : q67 ≠ q121 := fun z9 => p_q121 (z9 ▸ m_q67)
  have d_q73_q121 : q73 ≠ q121 := fun z9 => p_q121 (z9 ▸ m_q73)
  have d_q79_q121 : q79 ≠ q121 := fun z9 => p_q121 (z9 ▸ m_q79)
  have d_q85_q121 : q85 ≠ q121 := fun z9 => p_q121 (z9 ▸ m_q85)
  have d_q91_q121 : q91 ≠ q121 := fun z9 => p_q121 (z9 ▸ m_q91)
  have d_q97_q121 : q97 ≠ q121 := fun z9 => p_q121 (z9 ▸ m_q97)
  have d_q103_q121 : q103 ≠ q121 := fun z9 => p_q121 (z9 ▸ m_q103)
  have d_q109_q121 : q109 ≠ q121 := fun z9 => p_q121 (z9 ▸ m_q109)
  have d_q115_q121 : q115 ≠ q121 := fun z9 => p_q121 (z9 ▸ m_q115)
  have o_q121 := hE.new p_q121
  have hz := hz0.ex
  have hI := IV_tp hz0 hL hI (oc_60.mk t_q121 ⟨_, e_q121⟩) (fun z9 => absurd (t_q121.symm.trans z9) (by decide))
  have hL := LO_tp_60 hz0 hL t_q121 y_q121
  have hN := hN.tp hz0 t_q121 (by decide)
  have hE := hE.tr hz (Or.inr o_q121)
  obtain ⟨m_x, t_x, e_x⟩ := hz.kO m_x d_x_q121 t_x e_x
  obtain ⟨m_q1, t_q1, e_q1, y_q1⟩ := hz.kA m_q1 d_q1_q121 t_q1 e_q1 y_q1
  obtain ⟨m_q7, t_q7⟩ := hz.kT m_q7 d_q7_q121 t_q7
  obtain ⟨m_q13, t_q13⟩ := hz.kT m_q13 d_q13_q121 t_q13
  obtain ⟨m_q19, t_q19⟩ := hz.kT m_q19 d_q19_q121 t_q19
  obtain ⟨m_q25, t_q25⟩ := hz.kT m_q25 d_q25_q121 t_q25
  obtain ⟨m_q31, t_q31⟩ := hz.kT m_q31 d_q31_q121 t_q31
  obtain ⟨m_q37, t_q37⟩ := hz.kT m_q37 d_q37_q121 t_q37
  obtain ⟨m_q43, t_q43⟩ := hz.kT m_q43 d_q43_q121 t_q43
  obtain ⟨m_q49, t_q49⟩ := hz.kT m_q49 d_q49_q121 t_q49
  obtain ⟨m_q55, t_q55⟩ := hz.kT m_q55 d_q55_q121 t_q55
  obtain ⟨m_q61, t_q61⟩ := hz.kT m_q61 d_q61_q121 t_q61
  obtain ⟨m_q67, t_q67⟩ := hz.kT m_q67 d_q67_q121 t_q67
  obtain ⟨m_q73, t_q73⟩ := hz.kT m_q73 d_q73_q121 t_q73
  obtain ⟨m_q79, t_q79⟩ := hz.kT m_q79 d_q79_q121 t_q79
  obtain ⟨m_q85, t_q85⟩ := hz.kT m_q85 d_q85_q121 t_q85
  obtain ⟨m_q91, t_q91⟩ := hz.kT m_q91 d_q91_q121 t_q91
  obtain ⟨m_q97, t_q97⟩ := hz.kT m_q97 d_q97_q121 t_q97
  obtain ⟨m_q103, t_q103⟩ := hz.kT m_q103 d_q103_q121 t_q103
  obtain ⟨m_q109, t_q109, e_q109, y_q109⟩ := hz.kA m_q109 d_q109_q121 t_q109 e_q109 y_q109
  obtain ⟨m_q115, t_q115⟩ := hz.kT m_q115 d_q115_q121 t_q115
  have m_q121 := hz0.2.1
  refine W.widen (k := 21) (n := 1614) (by omega) (by omega) ?_
  refine gw_putF (v := .ref q121) (ty := (.array .int)) (fs' := [.int (nI 0), .ref q1, .int (nI 0), .ref q7, .ref q13, .int (nI 0), .ref q19, .ref q25, .ref q31, .int (nI 0), .int (nI 0), .int (nI 0), .ref q37, .int (nI 0), .ref q43, .ref q49, .int (nI 0), .ref q55, .ref q61, .ref q67, .ref q73, .ref q79, .ref q85, .ref q91, .ref q97, .ref q103, .ref q109, .ref q115, .ref q121, .null, .null, .null, .int (nI 0), .null, .null, .null, .int (nI 0), .int (nI 0), .int (nI 0), .int (nI 0), .int (nI 0), .int (nI 0), .int (nI 0), .int (nI 0), .int (nI 0)]) (C := "BigRunnerModel") (T := FT10) (N := 45) hx hb (hw10 hB _) (fun _ h9 => h9) TY10 ok10 nm10 hown hK hP hD hS m_x e_x rfl 28 (by decide) (wd_975 hB _) rfl hin rfl (by decide +kernel) rfl rfl (Nat.le_of_ble_eq_true rfl) rfl d_M_init_171 (fun f124 H locs e125 k126 hP hD hS => ?_)
  have hz := EX.wr (g := g122) k126
  have hI := IV_w0 hL hI t_x k126
  have hE := hE.tr hz (Or.inl rfl)
  obtain ⟨m_q1, t_q1, e_q1, y_q1⟩ := hz.kA m_q1 (Ne.symm d_x_q1) t_q1 e_q1 y_q1
  obtain ⟨m_q7, t_q7⟩ := hz.kT m_q7 (Ne.symm d_x_q7) t_q7
  obtain ⟨m_q13, t_q13⟩ := hz.kT m_q13 (Ne.symm d_x_q13) t_q13
  obtain ⟨m_q19, t_q19⟩ := hz.kT m_q19 (Ne.symm d_x_q19) t_q19
  obtain ⟨m_q25, t_q25⟩ := hz.kT m_q25 (Ne.symm d_x_q25) t_q25
  obtain ⟨m_q31, t_q31⟩ := hz.kT m_q31 (Ne.symm d_x_q31) t_q31
  obtain ⟨m_q37, t_q37⟩ := hz.kT m_q37 (Ne.symm d_x_q37) t_q37
  obtain ⟨m_q43, t_q43⟩ := hz.kT m_q43 (Ne.symm d_x_q43) t_q43
  obtain ⟨m_q49, t_q49⟩ := hz.kT m_q49 (Ne.symm d_x_q49) t_q49
  obtain ⟨m_q55, t_q55⟩ := hz.kT m_q55 (Ne.symm d_x_q55) t_q55
  obtain ⟨m_q61, t_q61⟩ := hz.kT m_q61 (Ne.symm d_x_q61) t_q61
  obtain ⟨m_q67, t_q67⟩ := hz.kT m_q67 (Ne.symm d_x_q67) t_q67
  obtain ⟨m_q73, t_q73⟩ := hz.kT m_q73 (Ne.symm d_x_q73) t_q73
  obtain ⟨m_q79, t_q79⟩ := hz.kT m_q79 (Ne.symm d_x_q79) t_q79
  obtain ⟨m_q85, t_q85⟩ := hz.kT m_q85 (Ne.symm d_x_q85) t_q85
  obtain ⟨m_q91, t_q91⟩ := hz.kT m_q91 (Ne.symm d_x_q91) t_q91
  obtain ⟨m_q97, t_q97⟩ := hz.kT m_q97 (Ne.symm d_x_q97) t_q97
  obtain ⟨m_q103, t_q103⟩ := hz.kT m_q103 (Ne.symm d_x_q103) t_q103
  obtain ⟨m_q109, t_q109, e_q109, y_q109⟩ := hz.kA m_q109 (Ne.symm d_x_q109) t_q109 e_q109 y_q109
  obtain ⟨m_q115, t_q115⟩ := hz.kT m_q115 (Ne.symm d_x_q115) t_q115
  obtain ⟨m_q121, t_q121, e_q121, y_q121⟩ := hz.kA m_q121 (Ne.symm d_x_q121) t_q121 e_q121 y_q121
  have e_x := e125
  refine lv_aload_n hx hb d_M_init_174 rfl (lv_at hl 0 rfl) ?_
  refine lv_bipush (v := nI 12) hx hb d_M_init_175 (by decide) ?_
  refine gw_arr (atype := .int) (a0 := (12, .inl (fun _ => nI 0))) (N' := 12) (ty := .int) hx hb (wd_201 hB _) rfl 61 hK hP hD hS hA hL (fun _ => rfl) (by decide +kernel) (by decide +kernel) (by decide +kernel) (Nat.le_of_ble_eq_true rfl) (Nat.le_of_ble_eq_true rfl) d_M_init_177 (fun q127 g128 f129 H hz0 t_q127 p_q127 e_q127 y_q127 hK hP hD hS => ?_)
  have d_x_q127 : x ≠ q127 := fun z9 => p_q127 (z9 ▸ m_x)
  have d_q1_q127 : q1 ≠ q127 := fun z9 => p_q127 (z9 ▸ m_q1)
  have d_q7_q127 : q7 ≠ q127 := fun z9 => p_q127 (z9 ▸ m_q7)
  have d_q13_q127 : q13 ≠ q127 := fun z9 => p_q127 (z9 ▸ m_q13)
  have d_q19_q127 : q19 ≠ q127 := fun z9 => p_q127 (z9 ▸ m_q19)
  have d_q25_q127 : q25 ≠ q127 := fun z9 => p_q127 (z9 ▸ m_q25)
  have d_q31_q127 : q31 ≠ q127 := fun z9 => p_q127 (z9 ▸ m_q31)
  have d_q37_q127 : q37 ≠ q127 := fun z9 => p_q127 (z9 ▸ m_q37)
  have d_q43_q127 : q43 ≠ q127 := fun z9 => p_q127 (z9 ▸ m_q43)
  have d_q49_q127 : q49 ≠ q127 := fun z9 => p_q127 (z9 ▸ m_q49)
  have d_q55_q127 : q55 ≠ q127 := fun z9 => p_q127 (z9 ▸ m_q55)
  have d_q61_q127 : q61 ≠ q127 := fun z9 => p_q127 (z9 ▸ m_q61)
  have d_q67_q127 : q67 ≠ q127 := fun z9 => p_q127 (z9 ▸ m_q67)
  have d_q73_q127 : q73 ≠ q127 := fun z9 => p_q127 (z9 ▸ m_q73)
  have d_q79_q127 : q79 ≠ q127 := fun z9 => p_q127 (z9 ▸ m_q79)
  have d_q85_q127 : q85 ≠ q127 := fun z9 => p_q127 (z9 ▸ m_q85)
  have d_q91_q127 : q91 ≠ q127 := fun z9 => p_q127 (z9 ▸ m_q91)
  have d_q97_q127 : q97 ≠ q127 := fun z9 => p_q127 (z9 ▸ m_q97)
  have d_q103_q127 : q103 ≠ q127 := fun z9 => p_q127 (z9 ▸ m_q103)
  have d_q109_q127 : q109 ≠ q127 := fun z9 => p_q127 (z9 ▸ m_q109)
  have d_q115_q127 : q115 ≠ q127 := fun z9 => p_q127 (z9 ▸ m_q115)
  have d_q121_q127 : q121 ≠ q127 := fun z9 => p_q127 (z9 ▸ m_q121)
  have o_q127 := hE.new p_q127
  have hz := hz0.ex
  have hI := IV_tp hz0 hL hI (oc_61.mk t_q127 ⟨_, e_q127⟩) (fun z9 => absurd (t_q127.symm.trans z9) (by decide))
  have hL := LO_tp_61 hz0 hL t_q127 y_q127
  have hN := hN.tp hz0 t_q127 (by decide)
  have hE := hE.tr hz (Or.inr o_q127)
  obtain ⟨m_x, t_x, e_x⟩ := hz.kO m_x d_x_q127 t_x e_x
  obtain ⟨m_q1, t_q1, e_q1, y_q1⟩ := hz.kA m_q1 d_q1_q127 t_q1 e_q1 y_q1
  obtain ⟨m_q7, t_q7⟩ := hz.kT m_q7 d_q7_q127 t_q7
  obtain ⟨m_q13, t_q13⟩ := hz.kT m_q13 d_q13_q127 t_q13
  obtain ⟨m_q19, t_q19⟩ := hz.kT m_q19 d_q19_q127 t_q19
  obtain ⟨m_q25, t_q25⟩ := hz.kT m_q25 d_q25_q127 t_q25
  obtain ⟨m_q31, t_q31⟩ := hz.kT m_q31 d_q31_q127 t_q31
  obtain ⟨m_q37, t_q37⟩ := hz.kT m_q37 d_q37_q127 t_q37
  obtain ⟨m_q43, t_q43⟩ := hz.kT m_q43 d_q43_q127 t_q43
  obtain ⟨m_q49, t_q49⟩ := hz.kT m_q49 d_q49_q127 t_q49
  obtain ⟨m_q55, t_q55⟩ := hz.kT m_q55 d_q55_q127 t_q55
  obtain ⟨m_q61, t_q61⟩ := hz.kT m_q61 d_q61_q127 t_q61
  obtain ⟨m_q67, t_q67⟩ := hz.kT m_q67 d_q67_q127 t_q67
  obtain ⟨m_q73, t_q73⟩ := hz.kT m_q73 d_q73_q127 t_q73
  obtain ⟨m_q79, t_q79⟩ := hz.kT m_q79 d_q79_q127 t_q79
  obtain ⟨m_q85, t_q85⟩ := hz.kT m_q85 d_q85_q127 t_q85
  obtain ⟨m_q91, t_q91⟩ := hz.kT m_q91 d_q91_q127 t_q91
  obtain ⟨m_q97, t_q97⟩ := hz.kT m_q97 d_q97_q127 t_q97
  obtain ⟨m_q103, t_q103⟩ := hz.kT m_q103 d_q103_q127 t_q103
  obtain ⟨m_q109, t_q109, e_q109, y_q109⟩ := hz.kA m_q109 d_q109_q127 t_q109 e_q109 y_q109
  obtain ⟨m_q115, t_q115⟩ := hz.kT m_q115 d_q115_q127 t_q115
  obtain ⟨m_q121, t_q121, e_q121, y_q121⟩ := hz.kA m_q121 d_q121_q127 t_q121 e_q121 y_q121
  have m_q127 := hz0.2.1
  refine W.widen (k := 22) (n := 1626) (by omega) (by omega) ?_
  refine gw_putF (v := .ref q127) (ty := (.array .int)) (fs' := [.int (nI 0), .ref q1, .int (nI 0), .ref q7, .ref q13, .int (nI 0), .ref q19, .ref q25, .ref q31, .int (nI 0), .int (nI 0), .int (nI 0), .ref q37, .int (nI 0), .ref q43, .ref q49, .int (nI 0), .ref q55, .ref q61, .ref q67, .ref q73, .ref q79, .ref q85, .ref q91, .ref q97, .ref q103, .ref q109, .ref q115, .ref q121, .ref q127, .null, .null, .int (nI 0), .null, .null, .null, .int (nI 0), .int (nI 0), .int (nI 0), .int (nI 0), .int (nI 0), .int (nI 0), .int (nI 0), .int (nI 0), .int (nI 0)]) (C := "BigRunnerModel") (T := FT10) (N := 45) hx hb (hw10 hB _) (fun _ h9 => h9) TY10 ok10 nm10 hown hK hP hD hS m_x e_x rfl 29 (by decide) (wd_976 hB _) rfl hin rfl (by decide +kernel) rfl rfl (Nat.le_of_ble_eq_true rfl) rfl d_M_init_179 (fun f130 H locs e131 k132 hP hD hS => ?_)
  have hz := EX.wr (g := g128) k132
  have hI := IV_w0 hL hI t_x k132
  have hE := hE.tr hz (Or.inl rfl)
  obtain ⟨m_q1, t_q1, e_q1, y_q1⟩ := hz.kA m_q1 (Ne.symm d_x_q1) t_q1 e_q1 y_q1
  obtain ⟨m_q7, t_q7⟩ := hz.kT m_q7 (Ne.symm d_x_q7) t_q7
  obtain ⟨m_q13, t_q13⟩ := hz.kT m_q13 (Ne.symm d_x_q13) t_q13
  obtain ⟨m_q19, t_q19⟩ := hz.kT m_q19 (Ne.symm d_x_q19) t_q19
  obtain ⟨m_q25, t_q25⟩ := hz.kT m_q25 (Ne.symm d_x_q25) t_q25
  obtain ⟨m_q31, t_q31⟩ := hz.kT m_q31 (Ne.symm d_x_q31) t_q31
  obtain ⟨m_q37, t_q37⟩ := hz.kT m_q37 (Ne.symm d_x_q37) t_q37
  obtain ⟨m_q43, t_q43⟩ := hz.kT m_q43 (Ne.symm d_x_q43) t_q43
  obtain ⟨m_q49, t_q49⟩ := hz.kT m_q49 (Ne.symm d_x_q49) t_q49
  obtain ⟨m_q55, t_q55⟩ := hz.kT m_q55 (Ne.symm d_x_q55) t_q55
  obtain ⟨m_q61, t_q61⟩ := hz.kT m_q61 (Ne.symm d_x_q61) t_q61
  obtain ⟨m_q67, t_q67⟩ := hz.kT m_q67 (Ne.symm d_x_q67) t_q67
  obtain ⟨m_q73, t_q73⟩ := hz.kT m_q73 (Ne.symm d_x_q73) t_q73
  obtain ⟨m_q79, t_q79⟩ := hz.kT m_q79 (Ne.symm d_x_q79) t_q79
  obtain ⟨m_q85, t_q85⟩ := hz.kT m_q85 (Ne.symm d_x_q85) t_q85
  obtain ⟨m_q91, t_q91⟩ := hz.kT m_q91 (Ne.symm d_x_q91) t_q91
  obtain ⟨m_q97, t_q97⟩ := hz.kT m_q97 (Ne.symm d_x_q97) t_q97
  obtain ⟨m_q103, t_q103⟩ := hz.kT m_q103 (Ne.symm d_x_q103) t_q103
  obtain ⟨m_q109, t_q109, e_q109, y_q109⟩ := hz.kA m_q109 (Ne.symm d_x_q109) t_q109 e_q109 y_q109
  obtain ⟨m_q115, t_q115⟩ := hz.kT m_q115 (Ne.symm d_x_q115) t_q115
  obtain ⟨m_q121, t_q121, e_q121, y_q121⟩ := hz.kA m_q121 (Ne.symm d_x_q121) t_q121 e_q121 y_q121
  obtain ⟨m_q127, t_q127⟩ := hz.kT m_q127 (Ne.symm d_x_q127) t_q127
  have e_x := e131
  refine lv_aload_n hx hb d_M_init_182 rfl (lv_at hl 0 rfl) ?_
  refine lv_sipush (v := nI 1600) hx hb d_M_init_183 (by decide) ?_
  refine gw_arr (atype := .int) (a0 := (1600, .inl (fun _ => nI 0))) (N' := 1600) (ty := .int) hx hb (wd_201 hB _) rfl 62 hK hP hD hS hA hL (fun _ => rfl) (by decide +kernel) (by decide +kernel) (by decide +kernel) (Nat.le_of_ble_eq_true rfl) (Nat.le_of_ble_eq_true rfl) d_M_init_186 (fun q133 g134 f135 H hz0 t_q133 p_q133 e_q133 y_q133 hK hP hD hS => ?_)
  have d_x_q133 : x ≠ q133 := fun z9 => p_q133 (z9 ▸ m_x)
  have d_q1_q133 : q1 ≠ q133 := fun z9 => p_q133 (z9 ▸ m_q1)
  have d_q7_q133 : q7 ≠ q133 := fun z9 => p_q133 (z9 ▸ m_q7)
  have d_q13_q133 : q13 ≠ q133 := fun z9 => p_q133 (z9 ▸ m_q13)
  have d_q19_q133 : q19 ≠ q133 := fun z9 => p_q133 (z9 ▸ m_q19)
  have d_q25_q133 : q25 ≠ q133 := fun z9 => p_q133 (z9 ▸ m_q25)
  have d_q31_q133 : q31 ≠ q133 := fun z9 => p_q133 (z9 ▸ m_q31)
  have d_q37_q133 : q37 ≠ q133 := fun z9 => p_q133 (z9 ▸ m_q37)
  have d_q43_q133 : q43 ≠ q133 := fun z9 => p_q133 (z9 ▸ m_q43)
  have d_q49_q133 : q49 ≠ q133 := fun z9 => p_q133 (z9 ▸ m_q49)
  have d_q55_q133 : q55 ≠ q133 := fun z9 => p_q133 (z9 ▸ m_q55)
  have d_q61_q133 : q61 ≠ q133 := fun z9 => p_q133 (z9 ▸ m_q61)
  have d_q67_q133 : q67 ≠ q133 := fun z9 => p_q133 (z9 ▸ m_q67)
  have d_q73_q133 : q73 ≠ q133 := fun z9 => p_q133 (z9 ▸ m_q73)
  have d_q79_q133 : q79 ≠ q133 := fun z9 => p_q133 (z9 ▸ m_q79)
  have d_q85_q133 : q85 ≠ q133 := fun z9 => p_q133 (z9 ▸ m_q85)
  have d_q91_q133 : q91 ≠ q133 := fun z9 => p_q133 (z9 ▸ m_q91)
  have d_q97_q133 : q97 ≠ q133 := fun z9 => p_q133 (z9 ▸ m_q97)
  have d_q103_q133 : q103 ≠ q133 := fun z9 => p_q133 (z9 ▸ m_q103)
  have d_q109_q133 : q109 ≠ q133 := fun z9 => p_q133 (z9 ▸ m_q109)
  have d_q115_q133 : q115 ≠ q133 := fun z9 => p_q133 (z9 ▸ m_q115)
  have d_q121_q133 : q121 ≠ q133 := fun z9 => p_q133 (z9 ▸ m_q121)
  have d_q127_q133 : q127 ≠ q133 := fun z9 => p_q133 (z9 ▸ m_q127)
  have o_q133 := hE.new p_q133
  have hz := hz0.ex
  have hI := IV_tp hz0 hL hI (oc_62.mk t_q133 ⟨_, e_q133⟩) (fun z9 => absurd (t_q133.symm.trans z9) (by decide))
  have hL := LO_tp_62 hz0 hL t_q133 y_q133
  have hN := hN.tp hz0 t_q133 (by decide)
  have hE := hE.tr hz (Or.inr o_q133)
  obtain ⟨m_x, t_x, e_x⟩ := hz.kO m_x d_x_q133 t_x e_x
  obtain ⟨m_q1, t_q1, e_q1, y_q1⟩ := hz.kA m_q1 d_q1_q133 t_q1 e_q1 y_q1
  obtain ⟨m_q7, t_q7⟩ := hz.kT m_q7 d_q7_q133 t_q7
  obtain ⟨m_q13, t_q13⟩ := hz.kT m_q13 d_q13_q133 t_q13
  obtain ⟨m_q19, t_q19⟩ := hz.kT m_q19 d_q19_q133 t_q19
  obtain ⟨m_q25, t_q25⟩ := hz.kT m_q25 d_q25_q133 t_q25
  obtain ⟨m_q31, t_q31⟩ := hz.kT m_q31 d_q31_q133 t_q31
  obtain ⟨m_q37, t_q37⟩ := hz.kT m_q37 d_q37_q133 t_q37
  obtain ⟨m_q43, t_q43⟩ := hz.kT m_q43 d_q43_q133 t_q43
  obtain ⟨m_q49, t_q49⟩ := hz.kT m_q49 d_q49_q133 t_q49
  obtain ⟨m_q55, t_q55⟩ := hz.kT m_q55 d_q55_q133 t_q55
  obtain ⟨m_q61, t_q61⟩ := hz.kT m_q61 d_q61_q133 t_q61
  obtain ⟨m_q67, t_q67⟩ := hz.kT m_q67 d_q67_q133 t_q67
  obtain ⟨m_q73, t_q73⟩ := hz.kT m_q73 d_q73_q133 t_q73
  obtain ⟨m_q79, t_q79⟩ := hz.kT m_q79 d_q79_q133 t_q79
  obtain ⟨m_q85, t_q85⟩ := hz.kT m_q85 d_q85_q133 t_q85
  obtain ⟨m_q91, t_q91⟩ := hz.kT m_q91 d_q91_q133 t_q91
  obtain ⟨m_q97, t_q97⟩ := hz.kT m_q97 d_q97_q133 t_q97
  obtain ⟨m_q103, t_q103⟩ := hz.kT m_q103 d_q103_q133 t_q103
  obtain ⟨m_q109, t_q109, e_q109, y_q109⟩ := hz.kA m_q109 d_q109_q133 t_q109 e_q109 y_q109
  obtain ⟨m_q115, t_q115⟩ := hz.kT m_q115 d_q115_q133 t_q115
  obtain ⟨m_q121, t_q121, e_q121, y_q121⟩ := hz.kA m_q121 d_q121_q133 t_q121 e_q121 y_q121
  obtain ⟨m_q127, t_q127⟩ := hz.kT m_q127 d_q127_q133 t_q127
  have m_q133 := hz0.2.1
  refine W.widen (k := 23) (n := 3226) (by omega) (by omega) ?_
  refine gw_putF (v := .ref q133) (ty := (.array .int)) (fs' := [.int (nI 0), .ref q1, .int (nI 0), .ref q7, .ref q13, .int (nI 0), .ref q19, .ref q25, .ref q31, .int (nI 0), .int (nI 0), .int (nI 0), .ref q37, .int (nI 0), .ref q43, .ref q49, .int (nI 0), .ref q55, .ref q61, .ref q67, .ref q73, .ref q79, .ref q85, .ref q91, .ref q97, .ref q103, .ref q109, .ref q115, .ref q121, .ref q127, .ref q133, .null, .int (nI 0), .null, .null, .null, .int (nI 0), .int (nI 0), .int (nI 0), .int (nI 0), .int (nI 0), .int (nI 0), .int (nI 0), .int (nI 0), .int (nI 0)]) (C := "BigRunnerModel") (T := FT10) (N := 45) hx hb (hw10 hB _) (fun _ h9 => h9) TY10 ok10 nm10 hown hK hP hD hS m_x e_x rfl 30 (by decide) (wd_977 hB _) rfl hin rfl (by decide +kernel) rfl rfl (Nat.le_of_ble_eq_true rfl) rfl d_M_init_188 (fun f136 H locs e137 k138 hP hD hS => ?_)
  have hz := EX.wr (g := g134) k138
  have hI := IV_w0 hL hI t_x k138
  have hE := hE.tr hz (Or.inl rfl)
  obtain ⟨m_q1, t_q1, e_q1, y_q1⟩ := hz.kA m_q1 (Ne.symm d_x_q1) t_q1 e_q1 y_q1
  obtain ⟨m_q7, t_q7⟩ := hz.kT m_q7 (Ne.symm d_x_q7) t_q7
  obtain ⟨m_q13, t_q13⟩ := hz.kT m_q13 (Ne.symm d_x_q13) t_q13
  obtain ⟨m_q19, t_q19⟩ := hz.kT m_q19 (Ne.symm d_x_q19) t_q19
  obtain ⟨m_q25, t_q25⟩ := hz.kT m_q25 (Ne.symm d_x_q25) t_q25
  obtain ⟨m_q31, t_q31⟩ := hz.kT m_q31 (Ne.symm d_x_q31) t_q31
  obtain ⟨m_q37, t_q37⟩ := hz.kT m_q37 (Ne.symm d_x_q37) t_q37
  obtain ⟨m_q43, t_q43⟩ := hz.kT m_q43 (Ne.symm d_x_q43) t_q43
  obtain ⟨m_q49, t_q49⟩ := hz.kT m_q49 (Ne.symm d_x_q49) t_q49
  obtain ⟨m_q55, t_q55⟩ := hz.kT m_q55 (Ne.symm d_x_q55) t_q55
  obtain ⟨m_q61, t_q61⟩ := hz.kT m_q61 (Ne.symm d_x_q61) t_q61
  obtain ⟨m_q67, t_q67⟩ := hz.kT m_q67 (Ne.symm d_x_q67) t_q67
  obtain ⟨m_q73, t_q73⟩ := hz.kT m_q73 (Ne.symm d_x_q73) t_q73
  obtain ⟨m_q79, t_q79⟩ := hz.kT m_q79 (Ne.symm d_x_q79) t_q79
  obtain ⟨m_q85, t_q85⟩ := hz.kT m_q85 (Ne.symm d_x_q85) t_q85
  obtain ⟨m_q91, t_q91⟩ := hz.kT m_q91 (Ne.symm d_x_q91) t_q91
  obtain ⟨m_q97, t_q97⟩ := hz.kT m_q97 (Ne.symm d_x_q97) t_q97
  obtain ⟨m_q103, t_q103⟩ := hz.kT m_q103 (Ne.symm d_x_q103) t_q103
  obtain ⟨m_q109, t_q109, e_q109, y_q109⟩ := hz.kA m_q109 (Ne.symm d_x_q109) t_q109 e_q109 y_q109
  obtain ⟨m_q115, t_q115⟩ := hz.kT m_q115 (Ne.symm d_x_q115) t_q115
  obtain ⟨m_q121, t_q121, e_q121, y_q121⟩ := hz.kA m_q121 (Ne.symm d_x_q121) t_q121 e_q121 y_q121
  obtain ⟨m_q127, t_q127⟩ := hz.kT m_q127 (Ne.symm d_x_q127) t_q127
  obtain ⟨m_q133, t_q133, e_q133, y_q133⟩ := hz.kA m_q133 (Ne.symm d_x_q133) t_q133 e_q133 y_q133
  have e_x := e137
  refine lv_aload_n hx hb d_M_init_191 rfl (lv_at hl 0 rfl) ?_
  refine lv_bipush (v := nI 80) hx hb d_M_init_192 (by decide) ?_
  refine gw_arr (atype := .int) (a0 := (80, .inl (fun _ => nI 0))) (N' := 80) (ty := .int) hx hb (wd_201 hB _) rfl 63 hK hP hD hS hA hL (fun _ => rfl) (by decide +kernel) (by decide +kernel) (by decide +kernel) (Nat.le_of_ble_eq_true rfl) (Nat.le_of_ble_eq_true rfl) d_M_init_194 (fun q139 g140 f141 H hz0 t_q139 p_q139 e_q139 y_q139 hK hP hD hS => ?_)
  have d_x_q139 : x ≠ q139 := fun z9 => p_q139 (z9 ▸ m_x)
  have d_q1_q139 : q1 ≠ q139 := fun z9 => p_q139 (z9 ▸ m_q1)
  have d_q7_q139 : q7 ≠ q139 := fun z9 => p_q139 (z9 ▸ m_q7)
  have d_q13_q139 : q13 ≠ q139 := fun z9 => p_q139 (z9 ▸ m_q13)
  have d_q19_q139 : q19 ≠ q139 := fun z9 => p_q139 (z9 ▸ m_q19)
  have d_q25_q139 : q25 ≠ q139 := fun z9 => p_q139 (z9 ▸ m_q25)
  have d_q31_q139 : q31 ≠ q139 := fun z9 => p_q139 (z9 ▸ m_q31)
  have d_q37_q139 : q37 ≠ q139 := fun z9 => p_q139 (z9 ▸ m_q37)
  have d_q43_q139 : q43 ≠ q139 := fun z9 => p_q139 (z9 ▸ m_q43)
  have d_q49_q139 : q49 ≠ q139 := fun z9 => p_q139 (z9 ▸ m_q49)
  have d_q55_q139 : q55 ≠ q139 := fun z9 => p_q139 (z9 ▸ m_q55)
  have d_q61_q139 : q61 ≠ q139 := fun z9 => p_q139 (z9 ▸ m_q61)
  have d_q67_q139 : q67 ≠ q139 := fun z9 => p_q139 (z9 ▸ m_q67)
  have d_q73_q139 : q73 ≠ q139 := fun z9 => p_q139 (z9 ▸ m_q73)
  have d_q79_q139 : q79 ≠ q139 := fun z9 => p_q139 (z9 ▸ m_q79)
  have d_q85_q139 : q85 ≠ q139 := fun z9 => p_q139 (z9 ▸ m_q85)
  have d_q91_q139 : q91 ≠ q139 := fun z9 => p_q139 (z9 ▸ m_q91)
  have d_q97_q139 : q97 ≠ q139 := fun z9 => p_q139 (z9 ▸ m_q97)
  have d_q103_q139 : q103 ≠ q139 := fun z9 => p_q139 (z9 ▸ m_q103)
  have d_q109_q139 : q109 ≠ q139 := fun z9 => p_q139 (z9 ▸ m_q109)
  have d_q115_q139 : q115 ≠ q139 := fun z9 => p_q139 (z9 ▸ m_q115)
  have d_q121_q139 : q121 ≠ q139 := fun z9 => p_q139 (z9 ▸ m_q121)
  have d_q127_q139 : q127 ≠ q139 := fun z9 => p_q139 (z9 ▸ m_q127)
  have d_q133_q139 : q133 ≠ q139 := fun z9 => p_q139 (z9 ▸ m_q133)
  have o_q139 := hE.new p_q139
  have hz := hz0.ex
  have hI := IV_tp hz0 hL hI (oc_63.mk t_q139 ⟨_, e_q139⟩) (fun z9 => absurd (t_q139.symm.trans z9) (by decide))
  have hL := LO_tp_63 hz0 hL t_q139 y_q139
  have hN := hN.tp hz0 t_q139 (by decide)
  have hE := hE.tr hz (Or.inr o_q139)
  obtain ⟨m_x, t_x, e_x⟩ := hz.kO m_x d_x_q139 t_x e_x
  obtain ⟨m_q1, t_q1, e_q1, y_q1⟩ := hz.kA m_q1 d_q1_q139 t_q1 e_q1 y_q1
  obtain ⟨m_q7, t_q7⟩ := hz.kT m_q7 d_q7_q139 t_q7
  obtain ⟨m_q13, t_q13⟩ := hz.kT m_q13 d_q13_q139 t_q13
  obtain ⟨m_q19, t_q19⟩ := hz.kT m_q19 d_q19_q139 t_q19
  obtain ⟨m_q25, t_q25⟩ := hz.kT m_q25 d_q25_q139 t_q25
  obtain ⟨m_q31, t_q31⟩ := hz.kT m_q31 d_q31_q139 t_q31
  obtain ⟨m_q37, t_q37⟩ := hz.kT m_q37 d_q37_q139 t_q37
  obtain ⟨m_q43, t_q43⟩ := hz.kT m_q43 d_q43_q139 t_q43
  obtain ⟨m_q49, t_q49⟩ := hz.kT m_q49 d_q49_q139 t_q49
  obtain ⟨m_q55, t_q55⟩ := hz.kT m_q55 d_q55_q139 t_q55
  obtain ⟨m_q61, t_q61⟩ := hz.kT m_q61 d_q61_q139 t_q61
  obtain ⟨m_q67, t_q67⟩ := hz.kT m_q67 d_q67_q139 t_q67
  obtain ⟨m_q73, t_q73⟩ := hz.kT m_q73 d_q73_q139 t_q73
  obtain ⟨m_q79, t_q79⟩ := hz.kT m_q79 d_q79_q139 t_q79
  obtain ⟨m_q85, t_q85⟩ := hz.kT m_q85 d_q85_q139 t_q85
  obtain ⟨m_q91, t_q91⟩ := hz.kT m_q91 d_q91_q139 t_q91
  obtain ⟨m_q97, t_q97⟩ := hz.kT m_q97 d_q97_q139 t_q97
  obtain ⟨m_q103, t_q103⟩ := hz.kT m_q103 d_q103_q139 t_q103
  obtain ⟨m_q109, t_q109, e_q109, y_q109⟩ := hz.kA m_q109 d_q109_q139 t_q109 e_q109 y_q109
  obtain ⟨m_q115, t_q115⟩ := hz.kT m_q115 d_q115_q139 t_q115
  obtain ⟨m_q121, t_q121, e_q121, y_q121⟩ := hz.kA m_q121 d_q121_q139 t_q121 e_q121 y_q121
  obtain ⟨m_q127, t_q127⟩ := hz.kT m_q127 d_q127_q139 t_q127
  obtain ⟨m_q133, t_q133, e_q133, y_q133⟩ := hz.kA m_q133 d_q133_q139 t_q133 e_q133 y_q133
  have m_q139 := hz0.2.1
  refine W.widen (k := 24) (n := 3306) (by omega) (by omega) ?_
  refine gw_putF (v := .ref q139) (ty := (.array .int)) (fs' := [.int (nI 0), .ref q1, .int (nI 0), .ref q7, .ref q13, .int (nI 0), .ref q19, .ref q25, .ref q31, .int (nI 0), .int (nI 0), .int (nI 0), .ref q37, .int (nI 0), .ref q43, .ref q49, .int (nI 0), .ref q55, .ref q61, .ref q67, .ref q73, .ref q79, .ref q85, .ref q91, .ref q97, .ref q103, .ref q109, .ref q115, .ref q121, .ref q127, .ref q133, .ref q139, .int (nI 0), .null, .null, .null, .int (nI 0), .int (nI 0), .int (nI 0), .int (nI 0), .int (nI 0), .int (nI 0), .int (nI 0), .int (nI 0), .int (nI 0)]) (C := "BigRunnerModel") (T := FT10) (N := 45) hx hb (hw10 hB _) (fun _ h9 => h9) TY10 ok10 nm10 hown hK hP hD hS m_x e_x rfl 31 (by decide) (wd_978 hB _) rfl hin rfl (by decide +kernel) rfl rfl (Nat.le_of_ble_eq_true rfl) rfl d_M_init_196 (fun f142 H locs e143 k144 hP hD hS => ?_)
  have hz := EX.wr (g := g140) k144
  have hI := IV_w0 hL hI t_x k144
  have hE := hE.tr hz (Or.inl rfl)
  obtain ⟨m_q1, t_q1, e_q1, y_q1⟩ := hz.kA m_q1 (Ne.symm d_x_q1) t_q1 e_q1 y_q1
  obtain ⟨m_q7, t_q7⟩ := hz.kT m_q7 (Ne.symm d_x_q7) t_q7
  obtain ⟨m_q13, t_q13⟩ := hz.kT m_q13 (Ne.symm d_x_q13) t_q13
  obtain ⟨m_q19, t_q19⟩ := hz.kT m_q19 (Ne.symm d_x_q19) t_q19
  obtain ⟨m_q25, t_q25⟩ := hz.kT m_q25 (Ne.symm d_x_q25) t_q25
  obtain ⟨m_q31, t_q31⟩ := hz.kT m_q31 (Ne.symm d_x_q31) t_q31
  obtain ⟨m_q37, t_q37⟩ := hz.kT m_q37 (Ne.symm d_x_q37) t_q37
  obtain ⟨m_q43, t_q43⟩ := hz.kT m_q43 (Ne.symm d_x_q43) t_q43
  obtain ⟨m_q49, t_q49⟩ := hz.kT m_q49 (Ne.symm d_x_q49) t_q49
  obtain ⟨m_q55, t_q55⟩ := hz.kT m_q55 (Ne.symm d_x_q55) t_q55
  obtain ⟨m_q61, t_q61⟩ := hz.kT m_q61 (Ne.symm d_x_q61) t_q61
  obtain ⟨m_q67, t_q67⟩ := hz.kT m_q67 (Ne.symm d_x_q67) t_q67
  obtain ⟨m_q73, t_q73⟩ := hz.kT m_q73 (Ne.symm d_x_q73) t_q73
  obtain ⟨m_q79, t_q79⟩ := hz.kT m_q79 (Ne.symm d_x_q79) t_q79
  obtain ⟨m_q85, t_q85⟩ := hz.kT m_q85 (Ne.symm d_x_q85) t_q85
  obtain ⟨m_q91, t_q91⟩ := hz.kT m_q91 (Ne.symm d_x_q91) t_q91
  obtain ⟨m_q97, t_q97⟩ := hz.kT m_q97 (Ne.symm d_x_q97) t_q97
  obtain ⟨m_q103, t_q103⟩ := hz.kT m_q103 (Ne.symm d_x_q103) t_q103
  obtain ⟨m_q109, t_q109, e_q109, y_q109⟩ := hz.kA m_q109 (Ne.symm d_x_q109) t_q109 e_q109 y_q109
  obtain ⟨m_q115, t_q115⟩ := hz.kT m_q115 (Ne.symm d_x_q115) t_q115
  obtain ⟨m_q121, t_q121, e_q121, y_q121⟩ := hz.kA m_q121 (Ne.symm d_x_q121) t_q121 e_q121 y_q121
  obtain ⟨m_q127, t_q127⟩ := hz.kT m_q127 (Ne.symm d_x_q127) t_q127
  obtain ⟨m_q133, t_q133, e_q133, y_q133⟩ := hz.kA m_q133 (Ne.symm d_x_q133) t_q133 e_q133 y_q133
  obtain ⟨m_q139, t_q139⟩ := hz.kT m_q139 (Ne.symm d_x_q139) t_q139
  have e_x := e143
  refine lv_aload_n hx hb d_M_init_199 rfl (lv_at hl 0 rfl) ?_
  refine lv_bipush (v := nI 44) hx hb d_M_init_200 (by decide) ?_
  refine gw_arr (atype := .int) (a0 := (44, .inl (fun _ => nI 0))) (N' := 44) (ty := .int) hx hb (wd_201 hB _) rfl 64 hK hP hD hS hA hL (fun _ => rfl) (by decide +kernel) (by decide +kernel) (by decide +kernel) (Nat.le_of_ble_eq_true rfl) (Nat.le_of_ble_eq_true rfl) d_M_init_202 (fun q145 g146 f147 H hz0 t_q145 p_q145 e_q145 y_q145 hK hP hD hS => ?_)
  have d_x_q145 : x ≠ q145 := fun z9 => p_q145 (z9 ▸ m_x)
  have d_q1_q145 : q1 ≠ q145 := fun z9 => p_q145 (z9 ▸ m_q1)
  have d_q7_q145 : q7 ≠ q145 := fun z9 => p_q145 (z9 ▸ m_q7)
  have d_q13_q145 : q13 ≠ q145 := fun z9 => p_q145 (z9 ▸ m_q13)
  have d_q19_q145 : q19 ≠ q145 := fun z9 => p_q145 (z9 ▸ m_q19)
  have d_q25_q145 : q25 ≠ q145 := fun z9 => p_q145 (z9 ▸ m_q25)
  have d_q31_q145 : q31 ≠ q145 := fun z9 => p_q145 (z9 ▸ m_q31)
  have d_q37_q145 : q37 ≠ q145 := fun z9 => p_q145 (z9 ▸ m_q37)
  have d_q43_q145 : q43 ≠ q145 := fun z9 => p_q145 (z9 ▸ m_q43)
  have d_q49_q145 : q49 ≠ q145 := fun z9 => p_q145 (z9 ▸ m_q49)
  have d_q55_q145 : q55 ≠ q145 := fun z9 => p_q145 (z9 ▸ m_q55)
  have d_q61_q145 : q61 ≠ q145 := fun z9 => p_q145 (z9 ▸ m_q61)
  have d_q67_q145 : q67 ≠ q145 := fun z9 => p_q145 (z9 ▸ m_q67)
  have d_q73_q145 : q73 ≠ q145 := fun z9 => p_q145 (z9 ▸ m_q73)
  have d_q79_q145 : q79 ≠ q145 := fun z9 => p_q145 (z9 ▸ m_q79)
  have d_q85_q145 : q85 ≠ q145 := fun z9 => p_q145 (z9 ▸ m_q85)
  have d_q91_q145 : q91 ≠ q145 := fun z9 => p_q145 (z9 ▸ m_q91)
  have d_q97_q145 : q97 ≠ q145 := fun z9 => p_q145 (z9 ▸ m_q97)
  have d_q103_q145 : q103 ≠ q145 := fun z9 => p_q145 (z9 ▸ m_q103)
  have d_q109_q145 : q109 ≠ q145 := fun z9 => p_q145 (z9 ▸ m_q109)
  have d_q115_q145 : q115 ≠ q145 := fun z9 => p_q145 (z9 ▸ m_q115)
  have d_q121_q145 : q121 ≠ q145 := fun z9 => p_q145 (z9 ▸ m_q121)
  have d_q127_q145 : q127 ≠ q145 := fun z9 => p_q145 (z9 ▸ m_q127)
  have d_q133_q145 : q133 ≠ q145 := fun z9 => p_q145 (z9 ▸ m_q133)
  have d_q139_q145 : q139 ≠ q145 := fun z9 => p_q145 (z9 ▸ m_q139)
  have o_q145 := hE.new p_q145
  have hz := hz0.ex
  have hI := IV_tp hz0 hL hI (oc_64.mk t_q145 ⟨_, e_q145⟩) (fun z9 => absurd (t_q145.symm.trans z9) (by decide))
  have hL := LO_tp_64 hz0 hL t_q145 y_q145
  have hN := hN.tp hz0 t_q145 (by decide)
  have hE := hE.tr hz (Or.inr o_q145)
  obtain ⟨m_x, t_x, e_x⟩ := hz.kO m_x d_x_q145 t_x e_x
  obtain ⟨m_q1, t_q1, e_q1, y_q1⟩ := hz.kA m_q1 d_q1_q145 t_q1 e_q1 y_q1
  obtain ⟨m_q7, t_q7⟩ := hz.kT m_q7 d_q7_q145 t_q7
  obtain ⟨m_q13, t_q13⟩ := hz.kT m_q13 d_q13_q145 t_q13
  obtain ⟨m_q19, t_q19⟩ := hz.kT m_q19 d_q19_q145 t_q19
  obtain ⟨m_q25, t_q25⟩ := hz.kT m_q25 d_q25_q145 t_q25
  obtain ⟨m_q31, t_q31⟩ := hz.kT m_q31 d_q31_q145 t_q31
  obtain ⟨m_q37, t_q37⟩ := hz.kT m_q37 d_q37_q145 t_q37
  obtain ⟨m_q43, t_q43⟩ := hz.kT m_q43 d_q43_q145 t_q43
  obtain ⟨m_q49, t_q49⟩ := hz.kT m_q49 d_q49_q145 t_q49
  obtain ⟨m_q55, t_q55⟩ := hz.kT m_q55 d_q55_q145 t_q55
  obtain ⟨m_q61, t_q61⟩ := hz.kT m_q61 d_q61_q145 t_q61
  obtain ⟨m_q67, t_q67⟩ := hz.kT m_q67 d_q67_q145 t_q67
  obtain ⟨m_q73, t_q73⟩ := hz.kT m_q73 d_q73_q145 t_q73
  obtain ⟨m_q79, t_q79⟩ := hz.kT m_q79 d_q79_q145 t_q79
  obtain ⟨m_q85, t_q85⟩ := hz.kT m_q85 d_q85_q145 t_q85
  obtain ⟨m_q91, t_q91⟩ := hz.kT m_q91 d_q91_q145 t_q91
  obtain ⟨m_q97, t_q97⟩ := hz.kT m_q97 d_q97_q145 t_q97
  obtain ⟨m_q103, t_q103⟩ := hz.kT m_q103 d_q103_q145 t_q103
  obtain ⟨m_q109, t_q109, e_q109, y_q109⟩ := hz.kA m_q109 d_q109_q145 t_q109 e_q109 y_q109
  obtain ⟨m_q115, t_q115⟩ := hz.kT m_q115 d_q115_q145 t_q115
  obtain ⟨m_q121, t_q121, e_q121, y_q121⟩ := hz.kA m_q121 d_q121_q145 t_q121 e_q121 y_q121
  obtain ⟨m_q127, t_q127⟩ := hz.kT m_q127 d_q127_q145 t_q127
  obtain ⟨m_q133, t_q133, e_q133, y_q133⟩ := hz.kA m_q133 d_q133_q145 t_q133 e_q133 y_q133
  obtain ⟨m_q139, t_q139⟩ := hz.kT m_q139 d_q139_q145 t_q139
  have m_q145 := hz0.2.1
  refine W.widen (k := 25) (n := 3350) (by omega) (by omega) ?_
  refine gw_putF (v := .ref q145) (ty := (.array .int)) (fs' := [.int (nI 0), .ref q1, .int (nI 0), .ref q7, .ref q13, .int (nI 0), .ref q19, .ref q25, .ref q31, .int (nI 0), .int (nI 0), .int (nI 0), .ref q37, .int (nI 0), .ref q43, .ref q49, .int (nI 0), .ref q55, .ref q61, .ref q67, .ref q73, .ref q79, .ref q85, .ref q91, .ref q97, .ref q103, .ref q109, .ref q115, .ref q121, .ref q127, .ref q133, .ref q139, .int (nI 0), .ref q145, .null, .null, .int (nI 0), .int (nI 0), .int (nI 0), .int (nI 0), .int (nI 0), .int (nI 0), .int (nI 0), .int (nI 0), .int (nI 0)]) (C := "BigRunnerModel") (T := FT10) (N := 45) hx hb (hw10 hB _) (fun _ h9 => h9) TY10 ok10 nm10 hown hK hP hD hS m_x e_x rfl 33 (by decide) (wd_980 hB _) rfl hin rfl (by decide +kernel) rfl rfl (Nat.le_of_ble_eq_true rfl) rfl d_M_init_204 (fun f148 H locs e149 k150 hP hD hS => ?_)
  have hz := EX.wr (g := g146) k150
  have hI := IV_w0 hL hI t_x k150
  have hE := hE.tr hz (Or.inl rfl)
  obtain ⟨m_q1, t_q1, e_q1, y_q1⟩ := hz.kA m_q1 (Ne.symm d_x_q1) t_q1 e_q1 y_q1
  obtain ⟨m_q7, t_q7⟩ := hz.kT m_q7 (Ne.symm d_x_q7) t_q7
  obtain ⟨m_q13, t_q13⟩ := hz.kT m_q13 (Ne.symm d_x_q13) t_q13
  obtain ⟨m_q19, t_q19⟩ := hz.kT m_q19 (Ne.symm d_x_q19) t_q19
  obtain ⟨m_q25, t_q25⟩ := hz.kT m_q25 (Ne.symm d_x_q25) t_q25
  obtain ⟨m_q31, t_q31⟩ := hz.kT m_q31 (Ne.symm d_x_q31) t_q31
  obtain ⟨m_q37, t_q37⟩ := hz.kT m_q37 (Ne.symm d_x_q37) t_q37
  obtain ⟨m_q43, t_q43⟩ := hz.kT m_q43 (Ne.symm d_x_q43) t_q43
  obtain ⟨m_q49, t_q49⟩ := hz.kT m_q49 (Ne.symm d_x_q49) t_q49
  obtain ⟨m_q55, t_q55⟩ := hz.kT m_q55 (Ne.symm d_x_q55) t_q55
  obtain ⟨m_q61, t_q61⟩ := hz.kT m_q61 (Ne.symm d_x_q61) t_q61
  obtain ⟨m_q67, t_q67⟩ := hz.kT m_q67 (Ne.symm d_x_q67) t_q67
  obtain ⟨m_q73, t_q73⟩ := hz.kT m_q73 (Ne.symm d_x_q73) t_q73
  obtain ⟨m_q79, t_q79⟩ := hz.kT m_q79 (Ne.symm d_x_q79) t_q79
  obtain ⟨m_q85, t_q85⟩ := hz.kT m_q85 (Ne.symm d_x_q85) t_q85
  obtain ⟨m_q91, t_q91⟩ := hz.kT m_q91 (Ne.symm d_x_q91) t_q91
  obtain ⟨m_q97, t_q97⟩ := hz.kT m_q97 (Ne.symm d_x_q97) t_q97
  obtain ⟨m_q103, t_q103⟩ := hz.kT m_q103 (Ne.symm d_x_q103) t_q103
  obtain ⟨m_q109, t_q109, e_q109, y_q109⟩ := hz.kA m_q109 (Ne.symm d_x_q109) t_q109 e_q109 y_q109
  obtain ⟨m_q115, t_q115⟩ := hz.kT m_q115 (Ne.symm d_x_q115) t_q115
  obtain ⟨m_q121, t_q121, e_q121, y_q121⟩ := hz.kA m_q121 (Ne.symm d_x_q121) t_q121 e_q121 y_q121
  obtain ⟨m_q127, t_q127⟩ := hz.kT m_q127 (Ne.symm d_x_q127) t_q127
  obtain ⟨m_q133, t_q133, e_q133, y_q133⟩ := hz.kA m_q133 (Ne.symm d_x_q133) t_q133 e_q133 y_q133
  obtain ⟨m_q139, t_q139⟩ := hz.kT m_q139 (Ne.symm d_x_q139) t_q139
  obtain ⟨m_q145, t_q145, e_q145, y_q145⟩ := hz.kA m_q145 (Ne.symm d_x_q145) t_q145 e_q145 y_q145
  have e_x := e149
  refine lv_aload_n hx hb d_M_init_207 rfl (lv_at hl 0 rfl) ?_
  refine lv_bipush (v := nI 44) hx hb d_M_init_208 (by decide) ?_
  refine gw_arr (atype := .int) (a0 := (44, .inl (fun _ => nI 0))) (N' := 44) (ty := .int) hx hb (wd_201 hB _) rfl 65 hK hP hD hS hA hL (fun _ => rfl) (by decide +kernel) (by decide +kernel) (by decide +kernel) (Nat.le_of_ble_eq_true rfl) (Nat.le_of_ble_eq_true rfl) d_M_init_210 (fun q151 g152 f153 H hz0 t_q151 p_q151 e_q151 y_q151 hK hP hD hS => ?_)
  have d_x_q151 : x ≠ q151 := fun z9 => p_q151 (z9 ▸ m_x)
  have d_q1_q151 : q1 ≠ q151 := fun z9 => p_q151 (z9 ▸ m_q1)
  have d_q7_q151 : q7 ≠ q151 := fun z9 => p_q151 (z9 ▸ m_q7)
  have d_q13_q151 : q13 ≠ q151 := fun z9 => p_q151 (z9 ▸ m_q13)
  have d_q19_q151 : q19 ≠ q151 := fun z9 => p_q151 (z9 ▸ m_q19)
  have d_q25_q151 : q25 ≠ q151 := fun z9 => p_q151 (z9 ▸ m_q25)
  have d_q31_q151 : q31 ≠ q151 := fun z9 => p_q151 (z9 ▸ m_q31)
  have d_q37_q151 : q37 ≠ q151 := fun z9 => p_q151 (z9 ▸ m_q37)
  have d_q43_q151 : q43 ≠ q151 := fun z9 => p_q151 (z9 ▸ m_q43)
  have d_q49_q151 : q49 ≠ q151 := fun z9 => p_q151 (z9 ▸ m_q49)
  have d_q55_q151 : q55 ≠ q151 := fun z9 => p_q151 (z9 ▸ m_q55)
  have d_q61_q151 : q61 ≠ q151 := fun z9 => p_q151 (z9 ▸ m_q61)
  have d_q67_q151 : q67 ≠ q151 := fun z9 => p_q151 (z9 ▸ m_q67)
  have d_q73_q151 : q73 ≠ q151 := fun z9 => p_q151 (z9 ▸ m_q73)
  have d_q79_q151 : q79 ≠ q151 := fun z9 => p_q151 (z9 ▸ m_q79)
  have d_q85_q151 : q85 ≠ q151 := fun z9 => p_q151 (z9 ▸ m_q85)
  have d_q91_q151 : q91 ≠ q151 := fun z9 => p_q151 (z9 ▸ m_q91)
  have d_q97_q151 : q97 ≠ q151 := fun z9 => p_q151 (z9 ▸ m_q97)
  have d_q103_q151 : q103 ≠ q151 := fun z9 => p_q151 (z9 ▸ m_q103)
  have d_q109_q151 : q109 ≠ q151 := fun z9 => p_q151 (z9 ▸ m_q109)
  have d_q115_q151 : q115 ≠ q151 := fun z9 => p_q151 (z9 ▸ m_q115)
  have d_q121_q151 : q121 ≠ q151 := fun z9 => p_q151 (z9 ▸ m_q121)
  have d_q127_q151 : q127 ≠ q151 := fun z9 => p_q151 (z9 ▸ m_q127)
  have d_q133_q151 : q133 ≠ q151 := fun z9 => p_q151 (z9 ▸ m_q133)
  have d_q139_q151 : q139 ≠ q151 := fun z9 => p_q151 (z9 ▸ m_q139)
  have d_q145_q151 : q145 ≠ q151 := fun z9 => p_q151 (z9 ▸ m_q145)
  have o_q151 := hE.new p_q151
  have hz := hz0.ex
  have hI := IV_tp hz0 hL hI (oc_65.mk t_q151 ⟨_, e_q151⟩) (fun z9 => absurd (t_q151.symm.trans z9) (by decide))
  have hL := LO_tp_65 hz0 hL t_q151 y_q151
  have hN := hN.tp hz0 t_q151 (by decide)
  have hE := hE.tr hz (Or.inr o_q151)
  obtain ⟨m_x, t_x, e_x⟩ := hz.kO m_x d_x_q151 t_x e_x
  obtain ⟨m_q1, t_q1, e_q1, y_q1⟩ := hz.kA m_q1 d_q1_q151 t_q1 e_q1 y_q1
  obtain ⟨m_q7, t_q7⟩ := hz.kT m_q7 d_q7_q151 t_q7
  obtain ⟨m_q13, t_q13⟩ := hz.kT m_q13 d_q13_q151 t_q13
  obtain ⟨m_q19, t_q19⟩ := hz.kT m_q19 d_q19_q151 t_q19
  obtain ⟨m_q25, t_q25⟩ := hz.kT m_q25 d_q25_q151 t_q25
  obtain ⟨m_q31, t_q31⟩ := hz.kT m_q31 d_q31_q151 t_q31
  obtain ⟨m_q37, t_q37⟩ := hz.kT m_q37 d_q37_q151 t_q37
  obtain ⟨m_q43, t_q43⟩ := hz.kT m_q43 d_q43_q151 t_q43
  obtain ⟨m_q49, t_q49⟩ := hz.kT m_q49 d_q49_q151 t_q49
  obtain ⟨m_q55, t_q55⟩ := hz.kT m_q55 d_q55_q151 t_q55
  obtain ⟨m_q61, t_q61⟩ := hz.kT m_q61 d_q61_q151 t_q61
  obtain ⟨m_q67, t_q67⟩ := hz.kT m_q67 d_q67_q151 t_q67
  obtain ⟨m_q73, t_q73⟩ := hz.kT m_q73 d_q73_q151 t_q73
  obtain ⟨m_q79, t_q79⟩ := hz.kT m_q79 d_q79_q151 t_q79
  obtain ⟨m_q85, t_q85⟩ := hz.kT m_q85 d_q85_q151 t_q85
  obtain ⟨m_q91, t_q91⟩ := hz.kT m_q91 d_q91_q151 t_q91
  obtain ⟨m_q97, t_q97⟩ := hz.kT m_q97 d_q97_q151 t_q97
  obtain ⟨m_q103, t_q103⟩ := hz.kT m_q103 d_q103_q151 t_q103
  obtain ⟨m_q109, t_q109, e_q109, y_q109⟩ := hz.kA m_q109 d_q109_q151 t_q109 e_q109 y_q109
  obtain ⟨m_q115, t_q115⟩ := hz.kT m_q115 d_q115_q151 t_q115
  obtain ⟨m_q121, t_q121, e_q121, y_q121⟩ := hz.kA m_q121 d_q121_q151 t_q121 e_q121 y_q121
  obtain ⟨m_q127, t_q127⟩ := hz.kT m_q127 d_q127_q151 t_q127
  obtain ⟨m_q133, t_q133, e_q133, y_q133⟩ := hz.kA m_q133 d_q133_q151 t_q133 e_q133 y_q133
  obtain ⟨m_q139, t_q139⟩ := hz.kT m_q139 d_q139_q151 t_q139
  obtain ⟨m_q145, t_q145, e_q145, y_q145⟩ := hz.kA m_q145 d_q145_q151 t_q145 e_q145 y_q145
  have m_q151 := hz0.2.1
  refine W.widen (k := 26) (n := 3394) (by omega) (by omega) ?_
  refine gw_putF (v := .ref q151) (ty := (.array .int)) (fs' := [.int (nI 0), .ref q1, .int (nI 0), .ref q7, .ref q13, .int (nI 0), .ref q19, .ref q25, .ref q31, .int (nI 0), .int (nI 0), .int (nI 0), .ref q37, .int (nI 0), .ref q43, .ref q49, .int (nI 0), .ref q55, .ref q61, .ref q67, .ref q73, .ref q79, .ref q85, .ref q91, .ref q97, .ref q103, .ref q109, .ref q115, .ref q121, .ref q127, .ref q133, .ref q139, .int (nI 0), .ref q145, .ref q151, .null, .int (nI 0), .int (nI 0), .int (nI 0), .int (nI 0), .int (nI 0), .int (nI 0), .int (nI 0), .int (nI 0), .int (nI 0)]) (C := "BigRunnerModel") (T := FT10) (N := 45) hx hb (hw10 hB _) (fun _ h9 => h9) TY10 ok10 nm10 hown hK hP hD hS m_x e_x rfl 34 (by decide) (wd_981 hB _) rfl hin rfl (by decide +kernel) rfl rfl (Nat.le_of_ble_eq_true rfl) rfl d_M_init_212 (fun f154 H locs e155 k156 hP hD hS => ?_)
  have hz := EX.wr (g := g152) k156
  have hI := IV_w0 hL hI t_x k156
  have hE := hE.tr hz (Or.inl rfl)
  obtain ⟨m_q1, t_q1, e_q1, y_q1⟩ := hz.kA m_q1 (Ne.symm d_x_q1) t_q1 e_q1 y_q1
  obtain ⟨m_q7, t_q7⟩ := hz.kT m_q7 (Ne.symm d_x_q7) t_q7
  obtain ⟨m_q13, t_q13⟩ := hz.kT m_q13 (Ne.symm d_x_q13) t_q13
  obtain ⟨m_q19, t_q19⟩ := hz.kT m_q19 (Ne.symm d_x_q19) t_q19
  obtain ⟨m_q25, t_q25⟩ := hz.kT m_q25 (Ne.symm d_x_q25) t_q25
  obtain ⟨m_q31, t_q31⟩ := hz.kT m_q31 (Ne.symm d_x_q31) t_q31
  obtain ⟨m_q37, t_q37⟩ := hz.kT m_q37 (Ne.symm d_x_q37) t_q37
  obtain ⟨m_q43, t_q43⟩ := hz.kT m_q43 (Ne.symm d_x_q43) t_q43
  obtain ⟨m_q49, t_q49⟩ := hz.kT m_q49 (Ne.symm d_x_q49) t_q49
  obtain ⟨m_q55, t_q55⟩ := hz.kT m_q55 (Ne.symm d_x_q55) t_q55
  obtain ⟨m_q61, t_q61⟩ := hz.kT m_q61 (Ne.symm d_x_q61) t_q61
  obtain ⟨m_q67, t_q67⟩ := hz.kT m_q67 (Ne.symm d_x_q67) t_q67
  obtain ⟨m_q73, t_q73⟩ := hz.kT m_q73 (Ne.symm d_x_q73) t_q73
  obtain ⟨m_q79, t_q79⟩ := hz.kT m_q79 (Ne.symm d_x_q79) t_q79
  obtain ⟨m_q85, t_q85⟩ := hz.kT m_q85 (Ne.symm d_x_q85) t_q85
  obtain ⟨m_q91, t_q91⟩ := hz.kT m_q91 (Ne.symm d_x_q91) t_q91
  obtain ⟨m_q97, t_q97⟩ := hz.kT m_q97 (Ne.symm d_x_q97) t_q97
  obtain ⟨m_q103, t_q103⟩ := hz.kT m_q103 (Ne.symm d_x_q103) t_q103
  obtain ⟨m_q109, t_q109, e_q109, y_q109⟩ := hz.kA m_q109 (Ne.symm d_x_q109) t_q109 e_q109 y_q109
  obtain ⟨m_q115, t_q115⟩ := hz.kT m_q115 (Ne.symm d_x_q115) t_q115
  obtain ⟨m_q121, t_q121, e_q121, y_q121⟩ := hz.kA m_q121 (Ne.symm d_x_q121) t_q121 e_q121 y_q121
  obtain ⟨m_q127, t_q127⟩ := hz.kT m_q127 (Ne.symm d_x_q127) t_q127
  obtain ⟨m_q133, t_q133, e_q133, y_q133⟩ := hz.kA m_q133 (Ne.symm d_x_q133) t_q133 e_q133 y_q133
  obtain ⟨m_q139, t_q139⟩ := hz.kT m_q139 (Ne.symm d_x_q139) t_q139
  obtain ⟨m_q145, t_q145, e_q145, y_q145⟩ := hz.kA m_q145 (Ne.symm d_x_q145) t_q145 e_q145 y_q145
  obtain ⟨m_q151, t_q151, e_q151, y_q151⟩ := hz.kA m_q151 (Ne.symm d_x_q151) t_q151 e_q151 y_q151
  have e_x := e155
  refine lv_aload_n hx hb d_M_init_215 rfl (lv_at hl 0 rfl) ?_
  refine lv_bipush (v := nI 20) hx hb d_M_init_216 (by decide) ?_
  refine gw_arr (atype := .int) (a0 := (20, .inl (fun _ => nI 0))) (N' := 20) (ty := .int) hx hb (wd_201 hB _) rfl 66 hK hP hD hS hA hL (fun _ => rfl) (by decide +kernel) (by decide +kernel) (by decide +kernel) (Nat.le_of_ble_eq_true rfl) (Nat.le_of_ble_eq_true rfl) d_M_init_218 (fun q157 g158 f159 H hz0 t_q157 p_q157 e_q157 y_q157 hK hP hD hS => ?_)
  have d_x_q157 : x ≠ q157 := fun z9 => p_q157 (z9 ▸ m_x)
  have d_q1_q157 : q1 ≠ q157 := fun z9 => p_q157 (z9 ▸ m_q1)
  have d_q7_q157 : q7 ≠ q157 := fun z9 => p_q157 (z9 ▸ m_q7)
  have d_q13_q157 : q13 ≠ q157 := fun z9 => p_q157 (z9 ▸ m_q13)
  have d_q19_q157 : q19 ≠ q157 := fun z9 => p_q157 (z9 ▸ m_q19)
  have d_q25_q157 : q25 ≠ q157 := fun z9 => p_q157 (z9 ▸ m_q25)
  have d_q31_q157 : q31 ≠ q157 := fun z9 => p_q157 (z9 ▸ m_q31)
  have d_q37_q157 : q37 ≠ q157 := fun z9 => p_q157 (z9 ▸ m_q37)
  have d_q43_q157 : q43 ≠ q157 := fun z9 => p_q157 (z9 ▸ m_q43)
  have d_q49_q157 : q49 ≠ q157 := fun z9 => p_q157 (z9 ▸ m_q49)
  have d_q55_q157 : q55 ≠ q157 := fun z9 => p_q157 (z9 ▸ m_q55)
  have d_q61_q157 : q61 ≠ q157 := fun z9 => p_q157 (z9 ▸ m_q61)
  have d_q67_q157 : q67 ≠ q157 := fun z9 => p_q157 (z9 ▸ m_q67)
  have d_q73_q157 : q73 ≠ q157 := fun z9 => p_q157 (z9 ▸ m_q73)
  have d_q79_q157 : q79 ≠ q157 := fun z9 => p_q157 (z9 ▸ m_q79)
  have d_q85_q157 : q85 ≠ q157 := fun z9 => p_q157 (z9 ▸ m_q85)
  have d_q91_q157 : q91 ≠ q157 := fun z9 => p_q157 (z9 ▸ m_q91)
  have d_q97_q157 : q97 ≠ q157 := fun z9 => p_q157 (z9 ▸ m_q97)
  have d_q103_q157 : q103 ≠ q157 := fun z9 => p_q157 (z9 ▸ m_q103)
  have d_q109_q157 : q109 ≠ q157 := fun z9 => p_q157 (z9 ▸ m_q109)
  have d_q115_q157 : q115 ≠ q157 := fun z9 => p_q157 (z9 ▸ m_q115)
  have d_q121_q157 : q121 ≠ q157 := fun z9 => p_q157 (z9 ▸ m_q121)
  have d_q127_q157 : q127 ≠ q157 := fun z9 => p_q157 (z9 ▸ m_q127)
  have d_q133_q157 : q133 ≠ q157 := fun z9 => p_q157 (z9 ▸ m_q133)
  have d_q139_q157 : q139 ≠ q157 := fun z9 => p_q157 (z9 ▸ m_q139)
  have d_q145_q157 : q145 ≠ q157 := fun z9 => p_q157 (z9 ▸ m_q145)
  have d_q151_q157 : q151 ≠ q157 := fun z9 => p_q157 (z9 ▸ m_q151)
  have o_q157 := hE.new p_q157
  have hz := hz0.ex
  have hI := IV_tp hz0 hL hI (oc_66.mk t_q157 ⟨_, e_q157⟩) (fun z9 => absurd (t_q157.symm.trans z9) (by decide))
  have hL := LO_tp_66 hz0 hL t_q157 y_q157
  have hN := hN.tp hz0 t_q157 (by decide)
  have hE := hE.tr hz (Or.inr o_q157)
  obtain ⟨m_x, t_x, e_x⟩ := hz.kO m_x d_x_q157 t_x e_x
  obtain ⟨m_q1, t_q1, e_q1, y_q1⟩ := hz.kA m_q1 d_q1_q157 t_q1 e_q1 y_q1
  obtain ⟨m_q7, t_q7⟩ := hz.kT m_q7 d_q7_q157 t_q7
  obtain ⟨m_q13, t_q13⟩ := hz.kT m_q13 d_q13_q157 t_q13
  obtain ⟨m_q19, t_q19⟩ := hz.kT m_q19 d_q19_q157 t_q19
  obtain ⟨m_q25, t_q25⟩ := hz.kT m_q25 d_q25_q157 t_q25
  obtain ⟨m_q31, t_q31⟩ := hz.kT m_q31 d_q31_q157 t_q31
  obtain ⟨m_q37, t_q37⟩ := hz.kT m_q37 d_q37_q157 t_q37
  obtain ⟨m_q43, t_q43⟩ := hz.kT m_q43 d_q43_q157 t_q43
  obtain ⟨m_q49, t_q49⟩ := hz.kT m_q49 d_q49_q157 t_q49
  obtain ⟨m_q55, t_q55⟩ := hz.kT m_q55 d_q55_q157 t_q55
  obtain ⟨m_q61, t_q61⟩ := hz.kT m_q61 d_q61_q157 t_q61
  obtain ⟨m_q67, t_q67⟩ := hz.kT m_q67 d_q67_q157 t_q67
  obtain ⟨m_q73, t_q73⟩ := hz.kT m_q73 d_q73_q157 t_q73
  obtain ⟨m_q79, t_q79⟩ := hz.kT m_q79 d_q79_q157 t_q79
  obtain ⟨m_q85, t_q85⟩ := hz.kT m_q85 d_q85_q157 t_q85
  obtain ⟨m_q91, t_q91⟩ := hz.kT m_q91 d_q91_q157 t_q91
  obtain ⟨m_q97, t_q97⟩ := hz.kT m_q97 d_q97_q157 t_q97
  obtain ⟨m_q103, t_q103⟩ := hz.kT m_q103 d_q103_q157 t_q103
  obtain ⟨m_q109, t_q109, e_q109, y_q109⟩ := hz.kA m_q109 d_q109_q157 t_q109 e_q109 y_q109
  obtain ⟨m_q115, t_q115⟩ := hz.kT m_q115 d_q115_q157 t_q115
  obtain ⟨m_q121, t_q121, e_q121, y_q121⟩ := hz.kA m_q121 d_q121_q157 t_q121 e_q121 y_q121
  obtain ⟨m_q127, t_q127⟩ := hz.kT m_q127 d_q127_q157 t_q127
  obtain ⟨m_q133, t_q133, e_q133, y_q133⟩ := hz.kA m_q133 d_q133_q157 t_q133 e_q133 y_q133
  obtain ⟨m_q139, t_q139⟩ := hz.kT m_q139 d_q139_q157 t_q139
  obtain ⟨m_q145, t_q145, e_q145, y_q145⟩ := hz.kA m_q145 d_q145_q157 t_q145 e_q145 y_q145
  obtain ⟨m_q151, t_q151, e_q151, y_q151⟩ := hz.kA m_q151 d_q151_q157 t_q151 e_q151 y_q151
  have m_q157 := hz0.2.1
  refine W.widen (k := 27) (n := 3414) (by omega) (by omega) ?_
  refine gw_putF (v := .ref q157) (ty := (.array .int)) (fs' := [.int (nI 0), .ref q1, .int (nI 0), .ref q7, .ref q13, .int (nI 0), .ref q19, .ref q25, .ref q31, .int (nI 0), .int (nI 0), .int (nI 0), .ref q37, .int (nI 0), .ref q43, .ref q49, .int (nI 0), .ref q55, .ref q61, .ref q67, .ref q73, .ref q79, .ref q85, .ref q91, .ref q97, .ref q103, .ref q109, .ref q115, .ref q121, .ref q127, .ref q133, .ref q139, .int (nI 0), .ref q145, .ref q151, .ref q157, .int (nI 0), .int (nI 0), .int (nI 0), .int (nI 0), .int (nI 0), .int (nI 0), .int (nI 0), .int (nI 0), .int (nI 0)]) (C := "BigRunnerModel") (T := FT10) (N := 45) hx hb (hw10 hB _) (fun _ h9 => h9) TY10 ok10 nm10 hown hK hP hD hS m_x e_x rfl 35 (by decide) (wd_982 hB _) rfl hin rfl (by decide +kernel) rfl rfl (Nat.le_of_ble_eq_true rfl) rfl d_M_init_220 (fun f160 H locs e161 k162 hP hD hS => ?_)
  have hz := EX.wr (g := g158) k162
  have hI := IV_w0 hL hI t_x k162
  have hE := hE.tr hz (Or.inl rfl)
  obtain ⟨m_q1, t_q1, e_q1, y_q1⟩ := hz.kA m_q1 (Ne.symm d_x_q1) t_q1 e_q1 y_q1
  obtain ⟨m_q7, t_q7⟩ := hz.kT m_q7 (Ne.symm d_x_q7) t_q7
  obtain ⟨m_q13, t_q13⟩ := hz.kT m_q13 (Ne.symm d_x_q13) t_q13
  obtain ⟨m_q19, t_q19⟩ := hz.kT m_q19 (Ne.symm d_x_q19) t_q19
  obtain ⟨m_q25, t_q25⟩ := hz.kT m_q25 (Ne.symm d_x_q25) t_q25
  obtain ⟨m_q31, t_q31⟩ := hz.kT m_q31 (Ne.symm d_x_q31) t_q31
  obtain ⟨m_q37, t_q37⟩ := hz.kT m_q37 (Ne.symm d_x_q37) t_q37
  obtain ⟨m_q43, t_q43⟩ := hz.kT m_q43 (Ne.symm d_x_q43) t_q43
  obtain ⟨m_q49, t_q49⟩ := hz.kT m_q49 (Ne.symm d_x_q49) t_q49
  obtain ⟨m_q55, t_q55⟩ := hz.kT m_q55 (Ne.symm d_x_q55) t_q55
  obtain ⟨m_q61, t_q61⟩ := hz.kT m_q61 (Ne.symm d_x_q61) t_q61
  obtain ⟨m_q67, t_q67⟩ := hz.kT m_q67 (Ne.symm d_x_q67) t_q67
  obtain ⟨m_q73, t_q73⟩ := hz.kT m_q73 (Ne.symm d_x_q73) t_q73
  obtain ⟨m_q79, t_q79⟩ := hz.kT m_q79 (Ne.symm d_x_q79) t_q79
  obtain ⟨m_q85, t_q85⟩ := hz.kT m_q85 (Ne.symm d_x_q85) t_q85
  obtain ⟨m_q91, t_q91⟩ := hz.kT m_q91 (Ne.symm d_x_q91) t_q91
  obtain ⟨m_q97, t_q97⟩ := hz.kT m_q97 (Ne.symm d_x_q97) t_q97
  obtain ⟨m_q103, t_q103⟩ := hz.kT m_q103 (Ne.symm d_x_q103) t_q103
  obtain ⟨m_q109, t_q109, e_q109, y_q109⟩ := hz.kA m_q109 (Ne.symm d_x_q109) t_q109 e_q109 y_q109
  obtain ⟨m_q115, t_q115⟩ := hz.kT m_q115 (Ne.symm d_x_q115) t_q115
  obtain ⟨m_q121, t_q121, e_q121, y_q121⟩ := hz.kA m_q121 (Ne.symm d_x_q121) t_q121 e_q121 y_q121
  obtain ⟨m_q127, t_q127⟩ := hz.kT m_q127 (Ne.symm d_x_q127) t_q127
  obtain ⟨m_q133, t_q133, e_q133, y_q133⟩ := hz.kA m_q133 (Ne.symm d_x_q133) t_q133 e_q133 y_q133
  obtain ⟨m_q139, t_q139⟩ := hz.kT m_q139 (Ne.symm d_x_q139) t_q139
  obtain ⟨m_q145, t_q145, e_q145, y_q145⟩ := hz.kA m_q145 (Ne.symm d_x_q145) t_q145 e_q145 y_q145
  obtain ⟨m_q151, t_q151, e_q151, y_q151⟩ := hz.kA m_q151 (Ne.symm d_x_q151) t_q151 e_q151 y_q151
  obtain ⟨m_q157, t_q157⟩ := hz.kT m_q157 (Ne.symm d_x_q157) t_q157
  have e_x := e161
  obtain ⟨g163, hz0, tT, hlk, htn, hac, hLP, htys, hDD⟩ := ty_mk g158 f160 f160 x 11 k (fun j9 => if j9 = 1 then q1 else if j9 = 3 then q7 else if j9 = 4 then q13 else if j9 = 6 then q19 else if j9 = 7 then q25 else if j9 = 8 then q31 else if j9 = 12 then q37 else if j9 = 14 then q43 else if j9 = 15 then q49 else if j9 = 17 then q55 else if j9 = 18 then q61 else if j9 = 19 then q67 else if j9 = 20 then q73 else if j9 = 21 then q79 else if j9 = 22 then q85 else if j9 = 23 then q91 else if j9 = 24 then q97 else if j9 = 25 then q103 else if j9 = 26 then q109 else if j9 = 27 then q115 else if j9 = 28 then q121 else if j9 = 29 then q127 else if j9 = 30 then q133 else if j9 = 31 then q139 else if j9 = 33 then q145 else if j9 = 34 then q151 else if j9 = 35 then q157 else 0) t_x m_x (fun _ _ => rfl)
  have hK : va_K g163.D vcl g163.tys s := by rw [hDD, htys]; exact hK
  have hP : va_P g163.D vcl (va_pl g163.LP f160) H := by rw [hDD, hLP]; exact hP
  have hD : va_D (pc_A g s.heap.size) (va_pl g163.LP f160) := by rw [hLP]; exact hD
  have hz := hz0.ex
  have l_1 : g163.lk x 1 = q1 := by rw [hlk]; rfl
  have l_3 : g163.lk x 3 = q7 := by rw [hlk]; rfl
  have l_4 : g163.lk x 4 = q13 := by rw [hlk]; rfl
  have l_6 : g163.lk x 6 = q19 := by rw [hlk]; rfl
  have l_7 : g163.lk x 7 = q25 := by rw [hlk]; rfl
  have l_8 : g163.lk x 8 = q31 := by rw [hlk]; rfl
  have l_12 : g163.lk x 12 = q37 := by rw [hlk]; rfl
  have l_14 : g163.lk x 14 = q43 := by rw [hlk]; rfl
  have l_15 : g163.lk x 15 = q49 := by rw [hlk]; rfl
  have l_17 : g163.lk x 17 = q55 := by rw [hlk]; rfl
  have l_18 : g163.lk x 18 = q61 := by rw [hlk]; rfl
  have l_19 : g163.lk x 19 = q67 := by rw [hlk]; rfl
  have l_20 : g163.lk x 20 = q73 := by rw [hlk]; rfl
  have l_21 : g163.lk x 21 = q79 := by rw [hlk]; rfl
  have l_22 : g163.lk x 22 = q85 := by rw [hlk]; rfl
  have l_23 : g163.lk x 23 = q91 := by rw [hlk]; rfl
  have l_24 : g163.lk x 24 = q97 := by rw [hlk]; rfl
  have l_25 : g163.lk x 25 = q103 := by rw [hlk]; rfl
  have l_26 : g163.lk x 26 = q109 := by rw [hlk]; rfl
  have l_27 : g163.lk x 27 = q115 := by rw [hlk]; rfl
  have l_28 : g163.lk x 28 = q121 := by rw [hlk]; rfl
  have l_29 : g163.lk x 29 = q127 := by rw [hlk]; rfl
  have l_30 : g163.lk x 30 = q133 := by rw [hlk]; rfl
  have l_31 : g163.lk x 31 = q139 := by rw [hlk]; rfl
  have l_33 : g163.lk x 33 = q145 := by rw [hlk]; rfl
  have l_34 : g163.lk x 34 = q151 := by rw [hlk]; rfl
  have l_35 : g163.lk x 35 = q157 := by rw [hlk]; rfl
  obtain ⟨m_q1, t_q1, e_q1, y_q1⟩ := hz.kA m_q1 (Ne.symm d_x_q1) t_q1 e_q1 y_q1
  obtain ⟨m_q7, t_q7⟩ := hz.kT m_q7 (Ne.symm d_x_q7) t_q7
  obtain ⟨m_q13, t_q13⟩ := hz.kT m_q13 (Ne.symm d_x_q13) t_q13
  obtain ⟨m_q19, t_q19⟩ := hz.kT m_q19 (Ne.symm d_x_q19) t_q19
  obtain ⟨m_q25, t_q25⟩ := hz.kT m_q25 (Ne.symm d_x_q25) t_q25
  obtain ⟨m_q31, t_q31⟩ := hz.kT m_q31 (Ne.symm d_x_q31) t_q31
  obtain ⟨m_q37, t_q37⟩ := hz.kT m_q37 (Ne.symm d_x_q37) t_q37
  obtain ⟨m_q43, t_q43⟩ := hz.kT m_q43 (Ne.symm d_x_q43) t_q43
  obtain ⟨m_q49, t_q49⟩ := hz.kT m_q49 (Ne.symm d_x_q49) t_q49
  obtain ⟨m_q55, t_q55⟩ := hz.kT m_q55 (Ne.symm d_x_q55) t_q55
  obtain ⟨m_q61, t_q61⟩ := hz.kT m_q61 (Ne.symm d_x_q61) t_q61
  obtain ⟨m_q67, t_q67⟩ := hz.kT m_q67 (Ne.symm d_x_q67) t_q67
  obtain ⟨m_q73, t_q73⟩ := hz.kT m_q73 (Ne.symm d_x_q73) t_q73
  obtain ⟨m_q79, t_q79⟩ := hz.kT m_q79 (Ne.symm d_x_q79) t_q79
  obtain ⟨m_q85, t_q85⟩ := hz.kT m_q85 (Ne.symm d_x_q85) t_q85
  obtain ⟨m_q91, t_q91⟩ := hz.kT m_q91 (Ne.symm d_x_q91) t_q91
  obtain ⟨m_q97, t_q97⟩ := hz.kT m_q97 (Ne.symm d_x_q97) t_q97
  obtain ⟨m_q103, t_q103⟩ := hz.kT m_q103 (Ne.symm d_x_q103) t_q103
  obtain ⟨m_q109, t_q109, e_q109, y_q109⟩ := hz.kA m_q109 (Ne.symm d_x_q109) t_q109 e_q109 y_q109
  obtain ⟨m_q115, t_q115⟩ := hz.kT m_q115 (Ne.symm d_x_q115) t_q115
  obtain ⟨m_q121, t_q121, e_q121, y_q121⟩ := hz.kA m_q121 (Ne.symm d_x_q121) t_q121 e_q121 y_q121
  obtain ⟨m_q127, t_q127⟩ := hz.kT m_q127 (Ne.symm d_x_q127) t_q127
  obtain ⟨m_q133, t_q133, e_q133, y_q133⟩ := hz.kA m_q133 (Ne.symm d_x_q133) t_q133 e_q133 y_q133
  obtain ⟨m_q139, t_q139⟩ := hz.kT m_q139 (Ne.symm d_x_q139) t_q139
  obtain ⟨m_q145, t_q145, e_q145, y_q145⟩ := hz.kA m_q145 (Ne.symm d_x_q145) t_q145 e_q145 y_q145
  obtain ⟨m_q151, t_q151, e_q151, y_q151⟩ := hz.kA m_q151 (Ne.symm d_x_q151) t_q151 e_q151 y_q151
  obtain ⟨m_q157, t_q157⟩ := hz.kT m_q157 (Ne.symm d_x_q157) t_q157
  have m_x := hz0.2.1
  have oc9 : oc g163 x (f160 x) := oc_11.mk tT ⟨(nI 0), 0, 0, 0, 0, 0, 0, 0, 0, 0, 0, 0, 0, 0, 0, (nI 0), (nI 0), (nI 0), (by rw [l_1, l_3, l_4, l_6, l_7, l_8, l_12, l_14, l_15, l_17, l_18, l_19, l_20, l_21, l_22, l_23, l_24, l_25, l_26, l_27, l_28, l_29, l_30, l_31, l_33, l_34, l_35]; exact e_x), (by first | exact Or.inl rfl | exact Or.inr rfl | decide | exact fun z9 => absurd z9 (by decide)), (by first | exact Or.inl rfl | exact Or.inr rfl | decide | exact fun z9 => absurd z9 (by decide)), (by first | exact Or.inl rfl | exact Or.inr rfl | decide | exact fun z9 => absurd z9 (by decide)), (by first | exact Or.inl rfl | exact Or.inr rfl | decide | exact fun z9 => absurd z9 (by decide)), (by first | exact Or.inl rfl | exact Or.inr rfl | decide | exact fun z9 => absurd z9 (by decide)), (by first | exact Or.inl rfl | exact Or.inr rfl | decide | exact fun z9 => absurd z9 (by decide)), (by first | exact Or.inl rfl | exact Or.inr rfl | decide | exact fun z9 => absurd z9 (by decide)), (by first | exact Or.inl rfl | exact Or.inr rfl | decide | exact fun z9 => absurd z9 (by decide)), (by first | exact Or.inl rfl | exact Or.inr rfl | decide | exact fun z9 => absurd z9 (by decide)), (by first | exact Or.inl rfl | exact Or.inr rfl | decide | exact fun z9 => absurd z9 (by decide)), (by first | exact Or.inl rfl | exact Or.inr rfl | decide | exact fun z9 => absurd z9 (by decide)), (by first | exact Or.inl rfl | exact Or.inr rfl | decide | exact fun z9 => absurd z9 (by decide)), (by first | exact Or.inl rfl | exact Or.inr rfl | decide | exact fun z9 => absurd z9 (by decide)), (by first | exact Or.inl rfl | exact Or.inr rfl | decide | exact fun z9 => absurd z9 (by decide)), (by first | exact Or.inl rfl | exact Or.inr rfl | decide | exact fun z9 => absurd z9 (by decide))⟩
  have hI := IV_tp hz0 hL hI oc9 (fun z9 => absurd (tT.symm.trans z9) (by decide))
  have hL := LO_tp_11 hz0 hL tT (by rw [l_1]; exact t_q1) (by rw [l_3]; exact t_q7) (by rw [l_4]; exact t_q13) (by rw [l_6]; exact t_q19) (by rw [l_7]; exact t_q25) (by rw [l_8]; exact t_q31) (by rw [l_12]; exact t_q37) (by rw [l_14]; exact t_q43) (by rw [l_15]; exact t_q49) (by rw [l_17]; exact t_q55) (by rw [l_18]; exact t_q61) (by rw [l_19]; exact t_q67) (by rw [l_20]; exact t_q73) (by rw [l_21]; exact t_q79) (by rw [l_22]; exact t_q85) (by rw [l_23]; exact t_q91) (by rw [l_24]; exact t_q97) (by rw [l_25]; exact t_q103) (by rw [l_26]; exact t_q109) (by rw [l_27]; exact t_q115) (by rw [l_28]; exact t_q121) (by rw [l_29]; exact t_q127) (by rw [l_30]; exact t_q133) (by rw [l_31]; exact t_q139) (by rw [l_33]; exact t_q145) (by rw [l_34]; exact t_q151) (by rw [l_35]; exact t_q157)
  have hN := (hN.sub (S1 := []) (by decide)).tp hz0 tT (by decide)
  have hE := hE.tr hz (Or.inl rfl)
  exact gw_ret hx hb hr hlocks hK hP hD hS d_M_init_223 (by omega) (by omega) ⟨hE, hL, hI, tT, htn, hN, ⟨(by rw [l_1, l_3, l_4, l_6, l_7, l_8, l_12, l_14, l_15, l_17, l_18, l_19, l_20, l_21, l_22, l_23, l_24, l_25, l_26, l_27, l_28, l_29, l_30, l_31, l_33, l_34, l_35]; exact e_x), (by rw [l_1]; exact e_q1), (by rw [l_30]; exact e_q133), (by rw [l_33]; exact e_q145), (by rw [l_34]; exact e_q151), (by rw [l_26]; exact e_q109), (by rw [l_28]; exact e_q121)⟩⟩

