set_option maxHeartbeats 4000000 in
set_option maxRecDepth 100000 in
theorem g_Interval (l : Launch) (g : Lay) (sz : Nat) (f : Nat → va_E) (x k : Nat) (hL : LO g) (hI : IV g f) (m_x : x ∈ g.LP) (t_x : g.tg x = 0) (e_x : f x = .inr (2, [.long (nL 0), .long (nL 0)])) : Met l ⟨"BigRunner$Interval", "<init>", "()V"⟩ [Cond.code ⟨"BigRunner$Interval", "<init>", "()V"⟩ prog_3_method_1_code 1 none] ({ frames := 1, cells := 0, slots := 0, locals := 12 }) (va_Pc [.ref x] (pc_in g sz f)) (CQ g sz (fun g1 f1 => EX x g f g1 f1 ∧ LO g1 ∧ IV g1 f1 ∧ g1.tg x = 3 ∧ g1.tn x = k ∧ NT [7, 24, 25] g g1)) 0 0 (pc_A g sz) := by
  refine gw_ofW (cc := prog_3_method_1_code) (maxL := 1) (ret := none) (lv := [(0, .ref x)]) (by decide) rfl (Nat.le_of_ble_eq_true rfl) rfl ?_
  intro p e s m args below meth c ls hx hb hr hml hlocks hown hin hB hP hK hD hsz hS hl hA
  subst hsz
  have hL0 := hL
  have tx0 := t_x
  have hE : EX x g f g f := EX.rf
  have hN : NT [7, 24, 25] g g := NT.rf
  refine lv_aload_n hx hb d_NInterval_init_0 rfl (lv_at hl 0 rfl) ?_
  refine W.objInit hx hb hown (wd_125 hB _) (wd_101 hB _) (wd_102 hB _) rfl (by rw [hml]; exact hl.1) rfl d_NInterval_init_1 (Nat.le_of_ble_eq_true rfl) (Nat.le_of_ble_eq_true rfl) ?_
  refine W.eq (g2 := F0 m 4 ls []) rfl ?_
  refine lv_aload_n hx hb d_NInterval_init_4 rfl (lv_at hl 0 rfl) ?_
  refine lv_lconst (v := nL 0) hx hb d_NInterval_init_5 (by decide) ?_
  refine pf_put (v := .long (nL 0)) (ty := .long) (fs' := [.long (nL 0), .long (nL 0)]) (C := "BigRunner$Interval") (T := FT2) (N := 2) hx hb (hw2 hB _) (fun _ h9 => h9) TY2 ok2 nm2 hown hK hP hD hS m_x e_x rfl 0 (by decide) (wd_126 hB _) rfl (by decide +kernel) rfl rfl (Nat.le_of_ble_eq_true rfl) rfl d_NInterval_init_6 (fun f1 H locs e2 k3 hP hD hS => ?_)
  have hz := EX.wr (g := g) k3
  have hI := IV_w0 hL hI t_x k3
  have hE := hE.tr hz (Or.inl rfl)
  have e_x := e2
  refine lv_aload_n hx hb d_NInterval_init_9 rfl (lv_at hl 0 rfl) ?_
  refine lv_lconst (v := nL 0) hx hb d_NInterval_init_10 (by decide) ?_
  refine pf_put (v := .long (nL 0)) (ty := .long) (fs' := [.long (nL 0), .long (nL 0)]) (C := "BigRunner$Interval") (T := FT2) (N := 2) hx hb (hw2 hB _) (fun _ h9 => h9) TY2 ok2 nm2 hown hK hP hD hS m_x e_x rfl 1 (by decide) (wd_129 hB _) rfl (by decide +kernel) rfl rfl (Nat.le_of_ble_eq_true rfl) rfl d_NInterval_init_11 (fun f4 H locs e5 k6 hP hD hS => ?_)
  have hz := EX.wr (g := g) k6
  have hI := IV_w0 hL hI t_x k6
  have hE := hE.tr hz (Or.inl rfl)
  have e_x := e5
  obtain ⟨g7, hz0, tT, hlk, htn, hac, hLP, htys, hDD⟩ := ty_mk g f4 f4 x 3 k (fun j9 => 0) t_x m_x (fun _ _ => rfl)
  have hK : va_K g7.D vcl g7.tys s := by rw [hDD, htys]; exact hK
  have hP : va_P g7.D vcl (va_pl g7.LP f4) H := by rw [hDD, hLP]; exact hP
  have hD : va_D (pc_A g s.heap.size) (va_pl g7.LP f4) := by rw [hLP]; exact hD
  have hz := hz0.ex
  have m_x := hz0.2.1
  have oc9 : oc g7 x (f4 x) := oc_3.mk tT ⟨(nL 0), (nL 0), e_x⟩
  have hI := IV_tp hz0 hL hI oc9 (fun z9 => absurd (tT.symm.trans z9) (by decide))
  have hL := LO_tp_3 hz0 hL tT 
  have hN := (hN.sub (S1 := [7, 24, 25]) (by decide)).tp hz0 tT (by decide)
  have hE := hE.tr hz (Or.inl rfl)
  exact gw_ret hx hb hr hlocks hK hP hD hS d_NInterval_init_14 (by omega) (by omega) ⟨hE, hL, hI, tT, htn, hN⟩
set_option maxHeartbeats 4000000 in
set_option maxRecDepth 100000 in
theorem g_Statement (l : Launch) (g : Lay) (sz : Nat) (f : Nat → va_E) (x k : Nat) (hL : LO g) (hI : IV g f) (m_x : x ∈ g.LP) (t_x : g.tg x = 0) (e_x : f x = .inr (9, [.int (nI 0), .int (nI 0), .int (nI 0), .int (nI 0), .int (nI 0)])) : Met l ⟨"BigRunner$Statement", "<init>", "()V"⟩ [Cond.code ⟨"BigRunner$Statement", "<init>", "()V"⟩ prog_10_method_1_code 1 none] ({ frames := 1, cells := 0, slots := 0, locals := 12 }) (va_Pc [.ref x] (pc_in g sz f)) (CQ g sz (fun g1 f1 => EX x g f g1 f1 ∧ LO g1 ∧ IV g1 f1 ∧ g1.tg x = 10 ∧ g1.tn x = k ∧ NT [7, 24, 25] g g1)) 0 0 (pc_A g sz) := by
  refine gw_ofW (cc := prog_10_method_1_code) (maxL := 1) (ret := none) (lv := [(0, .ref x)]) (by decide) rfl (Nat.le_of_ble_eq_true rfl) rfl ?_
  intro p e s m args below meth c ls hx hb hr hml hlocks hown hin hB hP hK hD hsz hS hl hA
  subst hsz
  have hL0 := hL
  have tx0 := t_x
  have hE : EX x g f g f := EX.rf
  have hN : NT [7, 24, 25] g g := NT.rf
  refine lv_aload_n hx hb d_NStatement_init_0 rfl (lv_at hl 0 rfl) ?_
  refine W.objInit hx hb hown (wd_142 hB _) (wd_101 hB _) (wd_102 hB _) rfl (by rw [hml]; exact hl.1) rfl d_NStatement_init_1 (Nat.le_of_ble_eq_true rfl) (Nat.le_of_ble_eq_true rfl) ?_
  refine W.eq (g2 := F0 m 4 ls []) rfl ?_
  refine lv_aload_n hx hb d_NStatement_init_4 rfl (lv_at hl 0 rfl) ?_
  refine lv_iconst (v := nI 5) hx hb d_NStatement_init_5 (by decide) ?_
  refine pf_put (v := .int (nI 5)) (ty := .int) (fs' := [.int (nI 5), .int (nI 0), .int (nI 0), .int (nI 0), .int (nI 0)]) (C := "BigRunner$Statement") (T := FT9) (N := 5) hx hb (hw9 hB _) (fun _ h9 => h9) TY9 ok9 nm9 hown hK hP hD hS m_x e_x rfl 0 (by decide) (wd_143 hB _) rfl (by decide +kernel) rfl rfl (Nat.le_of_ble_eq_true rfl) rfl d_NStatement_init_6 (fun f1 H locs e2 k3 hP hD hS => ?_)
  have hz := EX.wr (g := g) k3
  have hI := IV_w0 hL hI t_x k3
  have hE := hE.tr hz (Or.inl rfl)
  have e_x := e2
  refine lv_aload_n hx hb d_NStatement_init_9 rfl (lv_at hl 0 rfl) ?_
  refine lv_iconst (v := nI 0) hx hb d_NStatement_init_10 (by decide) ?_
  refine pf_put (v := .int (nI 0)) (ty := .int) (fs' := [.int (nI 5), .int (nI 0), .int (nI 0), .int (nI 0), .int (nI 0)]) (C := "BigRunner$Statement") (T := FT9) (N := 5) hx hb (hw9 hB _) (fun _ h9 => h9) TY9 ok9 nm9 hown hK hP hD hS m_x e_x rfl 1 (by decide) (wd_147 hB _) rfl (by decide +kernel) rfl rfl (Nat.le_of_ble_eq_true rfl) rfl d_NStatement_init_11 (fun f4 H locs e5 k6 hP hD hS => ?_)
  have hz := EX.wr (g := g) k6
  have hI := IV_w0 hL hI t_x k6
  have hE := hE.tr hz (Or.inl rfl)
  have e_x := e5
  refine lv_aload_n hx hb d_NStatement_init_14 rfl (lv_at hl 0 rfl) ?_
  refine lv_iconst (v := nI 0) hx hb d_NStatement_init_15 (by decide) ?_
  refine pf_put (v := .int (nI 0)) (ty := .int) (fs' := [.int (nI 5), .int (nI 0), .int (nI 0), .int (nI 0), .int (nI 0)]) (C := "BigRunner$Statement") (T := FT9) (N := 5) hx hb (hw9 hB _) (fun _ h9 => h9) TY9 ok9 nm9 hown hK hP hD hS m_x e_x rfl 2 (by decide) (wd_151 hB _) rfl (by decide +kernel) rfl rfl (Nat.le_of_ble_eq_true rfl) rfl d_NStatement_init_16 (fun f7 H locs e8 k9 hP hD hS => ?_)
  have hz := EX.wr (g := g) k9
  have hI := IV_w0 hL hI t_x k9
  have hE := hE.tr hz (Or.inl rfl)
  have e_x := e8
  refine lv_aload_n hx hb d_NStatement_init_19 rfl (lv_at hl 0 rfl) ?_
  refine lv_iconst (v := (-1)) hx hb d_NStatement_init_20 (by decide) ?_
  refine pf_put (v := .int (-1)) (ty := .int) (fs' := [.int (nI 5), .int (nI 0), .int (nI 0), .int (-1), .int (nI 0)]) (C := "BigRunner$Statement") (T := FT9) (N := 5) hx hb (hw9 hB _) (fun _ h9 => h9) TY9 ok9 nm9 hown hK hP hD hS m_x e_x rfl 3 (by decide) (wd_155 hB _) rfl (by decide +kernel) rfl rfl (Nat.le_of_ble_eq_true rfl) rfl d_NStatement_init_21 (fun f10 H locs e11 k12 hP hD hS => ?_)
  have hz := EX.wr (g := g) k12
  have hI := IV_w0 hL hI t_x k12
  have hE := hE.tr hz (Or.inl rfl)
  have e_x := e11
  refine lv_aload_n hx hb d_NStatement_init_24 rfl (lv_at hl 0 rfl) ?_
  refine lv_iconst (v := nI 0) hx hb d_NStatement_init_25 (by decide) ?_
  refine pf_put (v := .int (nI 0)) (ty := .int) (fs' := [.int (nI 5), .int (nI 0), .int (nI 0), .int (-1), .int (nI 0)]) (C := "BigRunner$Statement") (T := FT9) (N := 5) hx hb (hw9 hB _) (fun _ h9 => h9) TY9 ok9 nm9 hown hK hP hD hS m_x e_x rfl 4 (by decide) (wd_159 hB _) rfl (by decide +kernel) rfl rfl (Nat.le_of_ble_eq_true rfl) rfl d_NStatement_init_26 (fun f13 H locs e14 k15 hP hD hS => ?_)
  have hz := EX.wr (g := g) k15
  have hI := IV_w0 hL hI t_x k15
  have hE := hE.tr hz (Or.inl rfl)
  have e_x := e14
  obtain ⟨g16, hz0, tT, hlk, htn, hac, hLP, htys, hDD⟩ := ty_mk g f13 f13 x 10 k (fun j9 => 0) t_x m_x (fun _ _ => rfl)
  have hK : va_K g16.D vcl g16.tys s := by rw [hDD, htys]; exact hK
  have hP : va_P g16.D vcl (va_pl g16.LP f13) H := by rw [hDD, hLP]; exact hP
  have hD : va_D (pc_A g s.heap.size) (va_pl g16.LP f13) := by rw [hLP]; exact hD
  have hz := hz0.ex
  have m_x := hz0.2.1
  have oc9 : oc g16 x (f13 x) := oc_10.mk tT ⟨5, 0, 0, (-1), 0, e_x, (by first | exact Or.inl rfl | exact Or.inr rfl | decide | exact fun z9 => absurd z9 (by decide)), (by first | exact Or.inl rfl | exact Or.inr rfl | decide | exact fun z9 => absurd z9 (by decide)), (by first | exact Or.inl rfl | exact Or.inr rfl | decide | exact fun z9 => absurd z9 (by decide)), (by first | exact Or.inl rfl | exact Or.inr rfl | decide | exact fun z9 => absurd z9 (by decide)), (by first | exact Or.inl rfl | exact Or.inr rfl | decide | exact fun z9 => absurd z9 (by decide))⟩
  have hI := IV_tp hz0 hL hI oc9 (fun z9 => absurd (tT.symm.trans z9) (by decide))
  have hL := LO_tp_10 hz0 hL tT 
  have hN := (hN.sub (S1 := [7, 24, 25]) (by decide)).tp hz0 tT (by decide)
  have hE := hE.tr hz (Or.inl rfl)
  exact gw_ret hx hb hr hlocks hK hP hD hS d_NStatement_init_29 (by omega) (by omega) ⟨hE, hL, hI, tT, htn, hN⟩
set_option maxHeartbeats 4000000 in
set_option maxRecDepth 100000 in
theorem g_LongNumber (l : Launch) (g : Lay) (sz : Nat) (f : Nat → va_E) (x k : Nat) (hL : LO g) (hI : IV g f) (m_x : x ∈ g.LP) (t_x : g.tg x = 0) (e_x : f x = .inr (4, [.int (nI 0), .int (nI 0), .null])) : Met l ⟨"BigRunner$LongNumber", "<init>", "()V"⟩ [Cond.code ⟨"BigRunner$LongNumber", "<init>", "()V"⟩ prog_5_method_1_code 1 none] ({ frames := 1, cells := 1, slots := 15, locals := 12 }) (va_Pc [.ref x] (pc_in g sz f)) (CQ g sz (fun g1 f1 => EX x g f g1 f1 ∧ LO g1 ∧ IV g1 f1 ∧ g1.tg x = 5 ∧ g1.tn x = k ∧ NT [7, 24, 25] g g1)) 1 15 (pc_A g sz) := by
  refine gw_ofW (cc := prog_5_method_1_code) (maxL := 1) (ret := none) (lv := [(0, .ref x)]) (by decide) rfl (Nat.le_of_ble_eq_true rfl) rfl ?_
  intro p e s m args below meth c ls hx hb hr hml hlocks hown hin hB hP hK hD hsz hS hl hA
  subst hsz
  have hL0 := hL
  have tx0 := t_x
  have hE : EX x g f g f := EX.rf
  have hN : NT [5, 7, 24, 25] g g := NT.rf
  refine lv_aload_n hx hb d_NLongNumber_init_0 rfl (lv_at hl 0 rfl) ?_
  refine W.objInit hx hb hown (wd_185 hB _) (wd_101 hB _) (wd_102 hB _) rfl (by rw [hml]; exact hl.1) rfl d_NLongNumber_init_1 (Nat.le_of_ble_eq_true rfl) (Nat.le_of_ble_eq_true rfl) ?_
  refine W.eq (g2 := F0 m 4 ls []) rfl ?_
  refine lv_aload_n hx hb d_NLongNumber_init_4 rfl (lv_at hl 0 rfl) ?_
  refine lv_iconst (v := nI 0) hx hb d_NLongNumber_init_5 (by decide) ?_
  refine pf_put (v := .int (nI 0)) (ty := .int) (fs' := [.int (nI 0), .int (nI 0), .null]) (C := "BigRunner$LongNumber") (T := FT4) (N := 3) hx hb (hw4 hB _) (fun _ h9 => h9) TY4 ok4 nm4 hown hK hP hD hS m_x e_x rfl 0 (by decide) (wd_186 hB _) rfl (by decide +kernel) rfl rfl (Nat.le_of_ble_eq_true rfl) rfl d_NLongNumber_init_6 (fun f1 H locs e2 k3 hP hD hS => ?_)
  have hz := EX.wr (g := g) k3
  have hI := IV_w0 hL hI t_x k3
  have hE := hE.tr hz (Or.inl rfl)
  have e_x := e2
  refine lv_aload_n hx hb d_NLongNumber_init_9 rfl (lv_at hl 0 rfl) ?_
  refine lv_iconst (v := nI 0) hx hb d_NLongNumber_init_10 (by decide) ?_
  refine pf_put (v := .int (nI 0)) (ty := .int) (fs' := [.int (nI 0), .int (nI 0), .null]) (C := "BigRunner$LongNumber") (T := FT4) (N := 3) hx hb (hw4 hB _) (fun _ h9 => h9) TY4 ok4 nm4 hown hK hP hD hS m_x e_x rfl 1 (by decide) (wd_190 hB _) rfl (by decide +kernel) rfl rfl (Nat.le_of_ble_eq_true rfl) rfl d_NLongNumber_init_11 (fun f4 H locs e5 k6 hP hD hS => ?_)
  have hz := EX.wr (g := g) k6
  have hI := IV_w0 hL hI t_x k6
  have hE := hE.tr hz (Or.inl rfl)
  have e_x := e5
  refine lv_aload_n hx hb d_NLongNumber_init_14 rfl (lv_at hl 0 rfl) ?_
  refine lv_bipush (v := nI 15) hx hb d_NLongNumber_init_15 (by decide) ?_
  refine gw_arr (atype := .int) (a0 := (15, .inl (fun _ => nI 0))) (N' := 15) (ty := .int) hx hb (wd_201 hB _) rfl 23 hK hP hD hS hA hL (fun _ => rfl) (by decide +kernel) (by decide +kernel) (by decide +kernel) (Nat.le_of_ble_eq_true rfl) (Nat.le_of_ble_eq_true rfl) d_NLongNumber_init_17 (fun q7 g8 f9 H hz0 t_q7 p_q7 e_q7 y_q7 hK hP hD hS => ?_)
  have d_x_q7 : x ≠ q7 := fun z9 => p_q7 (z9 ▸ m_x)
  have o_q7 := hE.new p_q7
  have hz := hz0.ex
  have hI := IV_tp hz0 hL hI (oc_23.mk t_q7 ⟨_, e_q7, fun _ _ => ⟨0, by decide, rfl⟩⟩) (fun z9 => absurd (t_q7.symm.trans z9) (by decide))
  have hL := LO_tp_23 hz0 hL t_q7 y_q7
  have hN := hN.tp hz0 t_q7 (by decide)
  have hE := hE.tr hz (Or.inr o_q7)
  obtain ⟨m_x, t_x, e_x⟩ := hz.kO m_x d_x_q7 t_x e_x
  have m_q7 := hz0.2.1
  refine W.widen (k := 1) (n := 15) (by omega) (by omega) ?_
  refine gw_putF (v := .ref q7) (ty := (.array .int)) (fs' := [.int (nI 0), .int (nI 0), .ref q7]) (C := "BigRunner$LongNumber") (T := FT4) (N := 3) hx hb (hw4 hB _) (fun _ h9 => h9) TY4 ok4 nm4 hown hK hP hD hS m_x e_x rfl 2 (by decide) (wd_192 hB _) rfl hin rfl (by decide +kernel) rfl rfl (Nat.le_of_ble_eq_true rfl) rfl d_NLongNumber_init_19 (fun f10 H locs e11 k12 hP hD hS => ?_)
  have hz := EX.wr (g := g8) k12
  have hI := IV_w0 hL hI t_x k12
  have hE := hE.tr hz (Or.inl rfl)
  obtain ⟨m_q7, t_q7, e_q7, y_q7⟩ := hz.kA m_q7 (Ne.symm d_x_q7) t_q7 e_q7 y_q7
  have e_x := e11
  obtain ⟨g13, hz0, tT, hlk, htn, hac, hLP, htys, hDD⟩ := ty_mk g8 f10 f10 x 5 k (fun j9 => if j9 = 2 then q7 else 0) t_x m_x (fun _ _ => rfl)
  have hK : va_K g13.D vcl g13.tys s := by rw [hDD, htys]; exact hK
  have hP : va_P g13.D vcl (va_pl g13.LP f10) H := by rw [hDD, hLP]; exact hP
  have hD : va_D (pc_A g s.heap.size) (va_pl g13.LP f10) := by rw [hLP]; exact hD
  have hz := hz0.ex
  have l_2 : g13.lk x 2 = q7 := by rw [hlk]; rfl
  obtain ⟨m_q7, t_q7, e_q7, y_q7⟩ := hz.kA m_q7 (Ne.symm d_x_q7) t_q7 e_q7 y_q7
  have m_x := hz0.2.1
  have oc9 : oc g13 x (f10 x) := oc_5.mk tT ⟨(nI 0), 0, (by rw [l_2]; exact e_x), (by first | exact Or.inl rfl | exact Or.inr rfl | decide | exact fun z9 => absurd z9 (by decide))⟩
  have hI := IV_tp hz0 hL hI oc9 (fun _ => nr_mk (n := 0) (by rw [l_2]; exact e_x) (by rw [l_2]; exact e_q7) (by decide) (fun z9 => absurd z9 (by decide)))
  have hL := LO_tp_5 hz0 hL tT (by rw [l_2]; exact t_q7) (fun b hb z => by rw [l_2] at z; obtain ⟨w1, w2⟩ := hN.old hE hL0 tx0 (by decide) (by decide) hb; rw [w2] at z; exact o_q7 (z ▸ lo_in hL0 (lo_k5_2 hL0 b w1) (by decide)))
  have hN := (hN.sub (S1 := [7, 24, 25]) (by decide)).tp hz0 tT (by decide)
  have hE := hE.tr hz (Or.inl rfl)
  exact gw_ret hx hb hr hlocks hK hP hD hS d_NLongNumber_init_22 (by omega) (by omega) ⟨hE, hL, hI, tT, htn, hN⟩
set_option maxHeartbeats 4000000 in
set_option maxRecDepth 100000 in
theorem g_LongDivision (l : Launch) (g : Lay) (sz : Nat) (f : Nat → va_E) (x k : Nat) (hL : LO g) (hI : IV g f) (m_x : x ∈ g.LP) (t_x : g.tg x = 0) (e_x : f x = .inr (3, [.null, .null, .int (nI 0)])) : Met l ⟨"BigRunner$LongDivision", "<init>", "()V"⟩ [Cond.code ⟨"BigRunner$LongDivision", "<init>", "()V"⟩ prog_4_method_1_code 1 none] ({ frames := 1, cells := 2, slots := 32, locals := 12 }) (va_Pc [.ref x] (pc_in g sz f)) (CQ g sz (fun g1 f1 => EX x g f g1 f1 ∧ LO g1 ∧ IV g1 f1 ∧ g1.tg x = 4 ∧ g1.tn x = k ∧ NT [7, 24, 25] g g1)) 2 32 (pc_A g sz) := by
  refine gw_ofW (cc := prog_4_method_1_code) (maxL := 1) (ret := none) (lv := [(0, .ref x)]) (by decide) rfl (Nat.le_of_ble_eq_true rfl) rfl ?_
  intro p e s m args below meth c ls hx hb hr hml hlocks hown hin hB hP hK hD hsz hS hl hA
  subst hsz
  have hL0 := hL
  have tx0 := t_x
  have hE : EX x g f g f := EX.rf
  have hN : NT [7, 24, 25] g g := NT.rf
  refine lv_aload_n hx hb d_NLongDivision_init_0 rfl (lv_at hl 0 rfl) ?_
  refine W.objInit hx hb hown (wd_318 hB _) (wd_101 hB _) (wd_102 hB _) rfl (by rw [hml]; exact hl.1) rfl d_NLongDivision_init_1 (Nat.le_of_ble_eq_true rfl) (Nat.le_of_ble_eq_true rfl) ?_
  refine W.eq (g2 := F0 m 4 ls []) rfl ?_
  refine lv_aload_n hx hb d_NLongDivision_init_4 rfl (lv_at hl 0 rfl) ?_
  refine lv_bipush (v := nI 16) hx hb d_NLongDivision_init_5 (by decide) ?_
  refine gw_arr (atype := .int) (a0 := (16, .inl (fun _ => nI 0))) (N' := 16) (ty := .int) hx hb (wd_201 hB _) rfl 22 hK hP hD hS hA hL (fun _ => rfl) (by decide +kernel) (by decide +kernel) (by decide +kernel) (Nat.le_of_ble_eq_true rfl) (Nat.le_of_ble_eq_true rfl) d_NLongDivision_init_7 (fun q1 g2 f3 H hz0 t_q1 p_q1 e_q1 y_q1 hK hP hD hS => ?_)
  have d_x_q1 : x ≠ q1 := fun z9 => p_q1 (z9 ▸ m_x)
  have o_q1 := hE.new p_q1
  have hz := hz0.ex
  have hI := IV_tp hz0 hL hI (oc_22.mk t_q1 ⟨_, e_q1, fun _ _ => ⟨0, by decide, rfl⟩⟩) (fun z9 => absurd (t_q1.symm.trans z9) (by decide))
  have hL := LO_tp_22 hz0 hL t_q1 y_q1
  have hN := hN.tp hz0 t_q1 (by decide)
  have hE := hE.tr hz (Or.inr o_q1)
  obtain ⟨m_x, t_x, e_x⟩ := hz.kO m_x d_x_q1 t_x e_x
  have m_q1 := hz0.2.1
  refine W.widen (k := 1) (n := 16) (by omega) (by omega) ?_
  refine gw_putF (v := .ref q1) (ty := (.array .int)) (fs' := [.ref q1, .null, .int (nI 0)]) (C := "BigRunner$LongDivision") (T := FT3) (N := 3) hx hb (hw3 hB _) (fun _ h9 => h9) TY3 ok3 nm3 hown hK hP hD hS m_x e_x rfl 0 (by decide) (wd_319 hB _) rfl hin rfl (by decide +kernel) rfl rfl (Nat.le_of_ble_eq_true rfl) rfl d_NLongDivision_init_9 (fun f4 H locs e5 k6 hP hD hS => ?_)
  have hz := EX.wr (g := g2) k6
  have hI := IV_w0 hL hI t_x k6
  have hE := hE.tr hz (Or.inl rfl)
  obtain ⟨m_q1, t_q1, e_q1, y_q1⟩ := hz.kA m_q1 (Ne.symm d_x_q1) t_q1 e_q1 y_q1
  have e_x := e5
  refine lv_aload_n hx hb d_NLongDivision_init_12 rfl (lv_at hl 0 rfl) ?_
  refine lv_bipush (v := nI 16) hx hb d_NLongDivision_init_13 (by decide) ?_
  refine gw_arr (atype := .int) (a0 := (16, .inl (fun _ => nI 0))) (N' := 16) (ty := .int) hx hb (wd_201 hB _) rfl 22 hK hP hD hS hA hL (fun _ => rfl) (by decide +kernel) (by decide +kernel) (by decide +kernel) (Nat.le_of_ble_eq_true rfl) (Nat.le_of_ble_eq_true rfl) d_NLongDivision_init_15 (fun q7 g8 f9 H hz0 t_q7 p_q7 e_q7 y_q7 hK hP hD hS => ?_)
  have d_x_q7 : x ≠ q7 := fun z9 => p_q7 (z9 ▸ m_x)
  have d_q1_q7 : q1 ≠ q7 := fun z9 => p_q7 (z9 ▸ m_q1)
  have o_q7 := hE.new p_q7
  have hz := hz0.ex
  have hI := IV_tp hz0 hL hI (oc_22.mk t_q7 ⟨_, e_q7, fun _ _ => ⟨0, by decide, rfl⟩⟩) (fun z9 => absurd (t_q7.symm.trans z9) (by decide))
  have hL := LO_tp_22 hz0 hL t_q7 y_q7
  have hN := hN.tp hz0 t_q7 (by decide)
  have hE := hE.tr hz (Or.inr o_q7)
  obtain ⟨m_x, t_x, e_x⟩ := hz.kO m_x d_x_q7 t_x e_x
  obtain ⟨m_q1, t_q1, e_q1, y_q1⟩ := hz.kA m_q1 d_q1_q7 t_q1 e_q1 y_q1
  have m_q7 := hz0.2.1
  refine W.widen (k := 2) (n := 32) (by omega) (by omega) ?_
  refine gw_putF (v := .ref q7) (ty := (.array .int)) (fs' := [.ref q1, .ref q7, .int (nI 0)]) (C := "BigRunner$LongDivision") (T := FT3) (N := 3) hx hb (hw3 hB _) (fun _ h9 => h9) TY3 ok3 nm3 hown hK hP hD hS m_x e_x rfl 1 (by decide) (wd_320 hB _) rfl hin rfl (by decide +kernel) rfl rfl (Nat.le_of_ble_eq_true rfl) rfl d_NLongDivision_init_17 (fun f10 H locs e11 k12 hP hD hS => ?_)
  have hz := EX.wr (g := g8) k12
  have hI := IV_w0 hL hI t_x k12
  have hE := hE.tr hz (Or.inl rfl)
  obtain ⟨m_q1, t_q1, e_q1, y_q1⟩ := hz.kA m_q1 (Ne.symm d_x_q1) t_q1 e_q1 y_q1
  obtain ⟨m_q7, t_q7, e_q7, y_q7⟩ := hz.kA m_q7 (Ne.symm d_x_q7) t_q7 e_q7 y_q7
  have e_x := e11
  refine lv_aload_n hx hb d_NLongDivision_init_20 rfl (lv_at hl 0 rfl) ?_
  refine lv_iconst (v := nI 0) hx hb d_NLongDivision_init_21 (by decide) ?_
  refine pf_put (v := .int (nI 0)) (ty := .int) (fs' := [.ref q1, .ref q7, .int (nI 0)]) (C := "BigRunner$LongDivision") (T := FT3) (N := 3) hx hb (hw3 hB _) (fun _ h9 => h9) TY3 ok3 nm3 hown hK hP hD hS m_x e_x rfl 2 (by decide) (wd_321 hB _) rfl (by decide +kernel) rfl rfl (Nat.le_of_ble_eq_true rfl) rfl d_NLongDivision_init_22 (fun f13 H locs e14 k15 hP hD hS => ?_)
  have hz := EX.wr (g := g8) k15
  have hI := IV_w0 hL hI t_x k15
  have hE := hE.tr hz (Or.inl rfl)
  obtain ⟨m_q1, t_q1, e_q1, y_q1⟩ := hz.kA m_q1 (Ne.symm d_x_q1) t_q1 e_q1 y_q1
  obtain ⟨m_q7, t_q7, e_q7, y_q7⟩ := hz.kA m_q7 (Ne.symm d_x_q7) t_q7 e_q7 y_q7
  have e_x := e14
  obtain ⟨g16, hz0, tT, hlk, htn, hac, hLP, htys, hDD⟩ := ty_mk g8 f13 f13 x 4 k (fun j9 => if j9 = 0 then q1 else if j9 = 1 then q7 else 0) t_x m_x (fun _ _ => rfl)
  have hK : va_K g16.D vcl g16.tys s := by rw [hDD, htys]; exact hK
  have hP : va_P g16.D vcl (va_pl g16.LP f13) H := by rw [hDD, hLP]; exact hP
  have hD : va_D (pc_A g s.heap.size) (va_pl g16.LP f13) := by rw [hLP]; exact hD
  have hz := hz0.ex
  have l_0 : g16.lk x 0 = q1 := by rw [hlk]; rfl
  have l_1 : g16.lk x 1 = q7 := by rw [hlk]; rfl
  obtain ⟨m_q1, t_q1, e_q1, y_q1⟩ := hz.kA m_q1 (Ne.symm d_x_q1) t_q1 e_q1 y_q1
  obtain ⟨m_q7, t_q7, e_q7, y_q7⟩ := hz.kA m_q7 (Ne.symm d_x_q7) t_q7 e_q7 y_q7
  have m_x := hz0.2.1
  have oc9 : oc g16 x (f13 x) := oc_4.mk tT ⟨0, (by rw [l_0, l_1]; exact e_x), (by first | exact Or.inl rfl | exact Or.inr rfl | decide | exact fun z9 => absurd z9 (by decide))⟩
  have hI := IV_tp hz0 hL hI oc9 (fun z9 => absurd (tT.symm.trans z9) (by decide))
  have hL := LO_tp_4 hz0 hL tT (by rw [l_0]; exact t_q1) (by rw [l_1]; exact t_q7) (by rw [l_0, l_1]; exact d_q1_q7)
  have hN := (hN.sub (S1 := [7, 24, 25]) (by decide)).tp hz0 tT (by decide)
  have hE := hE.tr hz (Or.inl rfl)
  exact gw_ret hx hb hr hlocks hK hP hD hS d_NLongDivision_init_25 (by omega) (by omega) ⟨hE, hL, hI, tT, htn, hN⟩
set_option maxHeartbeats 4000000 in
set_option maxRecDepth 100000 in
theorem g_Node (l : Launch) (g : Lay) (sz : Nat) (f : Nat → va_E) (x k : Nat) (hL : LO g) (hI : IV g f) (m_x : x ∈ g.LP) (t_x : g.tg x = 0) (e_x : f x = .inr (5, [.int (nI 0), .int (nI 0), .int (nI 0), .null, .int (nI 0), .long (nL 0), .null])) : Met l ⟨"BigRunner$Node", "<init>", "()V"⟩ [Cond.code ⟨"BigRunner$Node", "<init>", "()V"⟩ prog_6_method_1_code 1 none] ({ frames := 2, cells := 3, slots := 20, locals := 32 }) (va_Pc [.ref x] (pc_in g sz f)) (CQ g sz (fun g1 f1 => EX x g f g1 f1 ∧ LO g1 ∧ IV g1 f1 ∧ g1.tg x = 6 ∧ g1.tn x = k ∧ NT [7, 24, 25] g g1)) 3 20 (pc_A g sz) := by
  refine gw_ofW (cc := prog_6_method_1_code) (maxL := 1) (ret := none) (lv := [(0, .ref x)]) (by decide) rfl (Nat.le_of_ble_eq_true rfl) rfl ?_
  intro p e s m args below meth c ls hx hb hr hml hlocks hown hin hB hP hK hD hsz hS hl hA
  subst hsz
  have hL0 := hL
  have tx0 := t_x
  have hE : EX x g f g f := EX.rf
  have hN : NT [7, 24, 25] g g := NT.rf
  refine lv_aload_n hx hb d_NNode_init_0 rfl (lv_at hl 0 rfl) ?_
  refine W.objInit hx hb hown (wd_177 hB _) (wd_101 hB _) (wd_102 hB _) rfl (by rw [hml]; exact hl.1) rfl d_NNode_init_1 (Nat.le_of_ble_eq_true rfl) (Nat.le_of_ble_eq_true rfl) ?_
  refine W.eq (g2 := F0 m 4 ls []) rfl ?_
  refine lv_aload_n hx hb d_NNode_init_4 rfl (lv_at hl 0 rfl) ?_
  refine lv_iconst (v := nI 0) hx hb d_NNode_init_5 (by decide) ?_
  refine pf_put (v := .int (nI 0)) (ty := .int) (fs' := [.int (nI 0), .int (nI 0), .int (nI 0), .null, .int (nI 0), .long (nL 0), .null]) (C := "BigRunner$Node") (T := FT5) (N := 7) hx hb (hw5 hB _) (fun _ h9 => h9) TY5 ok5 nm5 hown hK hP hD hS m_x e_x rfl 0 (by decide) (wd_202 hB _) rfl (by decide +kernel) rfl rfl (Nat.le_of_ble_eq_true rfl) rfl d_NNode_init_6 (fun f1 H locs e2 k3 hP hD hS => ?_)
  have hz := EX.wr (g := g) k3
  have hI := IV_w0 hL hI t_x k3
  have hE := hE.tr hz (Or.inl rfl)
  have e_x := e2
  refine lv_aload_n hx hb d_NNode_init_9 rfl (lv_at hl 0 rfl) ?_
  refine lv_iconst (v := nI 0) hx hb d_NNode_init_10 (by decide) ?_
  refine pf_put (v := .int (nI 0)) (ty := .int) (fs' := [.int (nI 0), .int (nI 0), .int (nI 0), .null, .int (nI 0), .long (nL 0), .null]) (C := "BigRunner$Node") (T := FT5) (N := 7) hx hb (hw5 hB _) (fun _ h9 => h9) TY5 ok5 nm5 hown hK hP hD hS m_x e_x rfl 1 (by decide) (wd_206 hB _) rfl (by decide +kernel) rfl rfl (Nat.le_of_ble_eq_true rfl) rfl d_NNode_init_11 (fun f4 H locs e5 k6 hP hD hS => ?_)
  have hz := EX.wr (g := g) k6
  have hI := IV_w0 hL hI t_x k6
  have hE := hE.tr hz (Or.inl rfl)
  have e_x := e5
  refine lv_aload_n hx hb d_NNode_init_14 rfl (lv_at hl 0 rfl) ?_
  refine lv_iconst (v := nI 0) hx hb d_NNode_init_15 (by decide) ?_
  refine pf_put (v := .int (nI 0)) (ty := .int) (fs' := [.int (nI 0), .int (nI 0), .int (nI 0), .null, .int (nI 0), .long (nL 0), .null]) (C := "BigRunner$Node") (T := FT5) (N := 7) hx hb (hw5 hB _) (fun _ h9 => h9) TY5 ok5 nm5 hown hK hP hD hS m_x e_x rfl 2 (by decide) (wd_210 hB _) rfl (by decide +kernel) rfl rfl (Nat.le_of_ble_eq_true rfl) rfl d_NNode_init_16 (fun f7 H locs e8 k9 hP hD hS => ?_)
  have hz := EX.wr (g := g) k9
  have hI := IV_w0 hL hI t_x k9
  have hE := hE.tr hz (Or.inl rfl)
  have e_x := e8
  refine lv_aload_n hx hb d_NNode_init_19 rfl (lv_at hl 0 rfl) ?_
  refine gw_new (ci := 2) (fs := [.long (nL 0), .long (nL 0)]) (C := "BigRunner$Interval") (T := FT2) (N := 2) hx hb (hw2 hB _) (fun _ h9 => h9) TY2 ok2 hown (wd_178 hB _) (wd_121 hB _) (wd_75 hB _) hK hP hD hS hA hL rfl (fun j hj => by rcases (show j = 0 ∨ j = 1 by omega) with rfl | rfl <;> rfl) (Nat.le_of_ble_eq_true rfl) (Nat.le_of_ble_eq_true rfl) d_NNode_init_20 (fun q10 g11 f12 H hz0 t_q10 p_q10 e_q10 hK hP hD hS => ?_)
  have d_x_q10 : x ≠ q10 := fun z9 => p_q10 (z9 ▸ m_x)
  have o_q10 := hE.new p_q10
  have hz := hz0.ex
  have hI := IV_t0 hz0 hL hI t_q10
  have hL := LO_tp_0 hz0 hL t_q10
  have hN := hN.tp hz0 t_q10 (by decide)
  have hE := hE.tr hz (Or.inr o_q10)
  obtain ⟨m_x, t_x, e_x⟩ := hz.kO m_x d_x_q10 t_x e_x
  have m_q10 := hz0.2.1
  refine W.widen (k := 1) (n := 2) (by omega) (by omega) ?_
  refine lv_dup hx hb d_NNode_init_23 rfl ?_
  refine gw_call (va_runIN (As := []) (rest := [.ref q10, .ref x]) ⟨hx, hb, hml, hown, tb_nil⟩ (g_Interval l g11 H.size f12 q10 k hL hI m_q10 t_q10 e_q10) ⟨(va_cnB 0 (tb_one (wd_124 hB _)) tb_good1 rfl rfl rfl (va_Nw.of (A := #[]) rfl (wd_179 hB _)) (wd_75 hB _) (by decide +kernel) ⟨Nat.le_of_ble_eq_true rfl, Nat.le_of_ble_eq_true rfl⟩), rfl, (wd_123 hB _)⟩ ⟨pe_bl, pe_pre hB hK hP hD⟩ rfl rfl hl.1 rfl (lv_room (Nat.le_of_ble_eq_true rfl)) d_NNode_init_24 ⟨(Nat.le_of_ble_eq_true rfl), (Nat.le_of_ble_eq_true rfl)⟩) hA hD hS (fun g13 f14 H locs hq hK hP hD hS => ?_)
  obtain ⟨hz, hL9, hI9, t9_q10, n_q10, hN9⟩ := hq
  have hL := hL9
  have hI := hI9
  have hN := (hN.sub (S1 := [7, 24, 25]) (by decide)).tr hN9 (by decide)
  have hE := hE.tr hz (Or.inr o_q10)
  obtain ⟨m_x, t_x, e_x⟩ := hz.kO m_x d_x_q10 t_x e_x
  have m_q10 := hz.mem m_q10
  have t_q10 := t9_q10
  refine W.widen (k := 1) (n := 2) (by omega) (by omega) ?_
  refine gw_putF (v := .ref q10) (ty := (.object "BigRunner$Interval")) (fs' := [.int (nI 0), .int (nI 0), .int (nI 0), .ref q10, .int (nI 0), .long (nL 0), .null]) (C := "BigRunner$Node") (T := FT5) (N := 7) hx hb (hw5 hB _) (fun _ h9 => h9) TY5 ok5 nm5 hown hK hP hD hS m_x e_x rfl 3 (by decide) (wd_214 hB _) rfl hin rfl (by decide +kernel) rfl rfl (Nat.le_of_ble_eq_true rfl) rfl d_NNode_init_27 (fun f15 H locs e16 k17 hP hD hS => ?_)
  have hz := EX.wr (g := g13) k17
  have hI := IV_w0 hL hI t_x k17
  have hE := hE.tr hz (Or.inl rfl)
  have n_q10 := hz.kN m_q10 (Ne.symm d_x_q10) n_q10
  obtain ⟨m_q10, t_q10⟩ := hz.kT m_q10 (Ne.symm d_x_q10) t_q10
  have e_x := e16
  refine lv_aload_n hx hb d_NNode_init_30 rfl (lv_at hl 0 rfl) ?_
  refine lv_iconst (v := nI 1) hx hb d_NNode_init_31 (by decide) ?_
  refine pf_put (v := .int (nI 1)) (ty := .boolean) (fs' := [.int (nI 0), .int (nI 0), .int (nI 0), .ref q10, .int (nI 1), .long (nL 0), .null]) (C := "BigRunner$Node") (T := FT5) (N := 7) hx hb (hw5 hB _) (fun _ h9 => h9) TY5 ok5 nm5 hown hK hP hD hS m_x e_x rfl 4 (by decide) (wd_216 hB _) rfl (by decide +kernel) rfl rfl (Nat.le_of_ble_eq_true rfl) rfl d_NNode_init_32 (fun f18 H locs e19 k20 hP hD hS => ?_)
  have hz := EX.wr (g := g13) k20
  have hI := IV_w0 hL hI t_x k20
  have hE := hE.tr hz (Or.inl rfl)
  have n_q10 := hz.kN m_q10 (Ne.symm d_x_q10) n_q10
  obtain ⟨m_q10, t_q10⟩ := hz.kT m_q10 (Ne.symm d_x_q10) t_q10
  have e_x := e19
  refine lv_aload_n hx hb d_NNode_init_35 rfl (lv_at hl 0 rfl) ?_
  refine lv_lconst (v := nL 0) hx hb d_NNode_init_36 (by decide) ?_
  refine pf_put (v := .long (nL 0)) (ty := .long) (fs' := [.int (nI 0), .int (nI 0), .int (nI 0), .ref q10, .int (nI 1), .long (nL 0), .null]) (C := "BigRunner$Node") (T := FT5) (N := 7) hx hb (hw5 hB _) (fun _ h9 => h9) TY5 ok5 nm5 hown hK hP hD hS m_x e_x rfl 5 (by decide) (wd_219 hB _) rfl (by decide +kernel) rfl rfl (Nat.le_of_ble_eq_true rfl) rfl d_NNode_init_37 (fun f21 H locs e22 k23 hP hD hS => ?_)
  have hz := EX.wr (g := g13) k23
  have hI := IV_w0 hL hI t_x k23
  have hE := hE.tr hz (Or.inl rfl)
  have n_q10 := hz.kN m_q10 (Ne.symm d_x_q10) n_q10
  obtain ⟨m_q10, t_q10⟩ := hz.kT m_q10 (Ne.symm d_x_q10) t_q10
  have e_x := e22
  refine lv_aload_n hx hb d_NNode_init_40 rfl (lv_at hl 0 rfl) ?_
  refine gw_new (ci := 4) (fs := [.int (nI 0), .int (nI 0), .null]) (C := "BigRunner$LongNumber") (T := FT4) (N := 3) hx hb (hw4 hB _) (fun _ h9 => h9) TY4 ok4 hown (wd_180 hB _) (wd_181 hB _) (wd_78 hB _) hK hP hD hS hA hL rfl (fun j hj => by rcases (show j = 0 ∨ j = 1 ∨ j = 2 by omega) with rfl | rfl | rfl <;> rfl) (Nat.le_of_ble_eq_true rfl) (Nat.le_of_ble_eq_true rfl) d_NNode_init_41 (fun q24 g25 f26 H hz0 t_q24 p_q24 e_q24 hK hP hD hS => ?_)
  have d_x_q24 : x ≠ q24 := fun z9 => p_q24 (z9 ▸ m_x)
  have d_q10_q24 : q10 ≠ q24 := fun z9 => p_q24 (z9 ▸ m_q10)
  have o_q24 := hE.new p_q24
  have hz := hz0.ex
  have hI := IV_t0 hz0 hL hI t_q24
  have hL := LO_tp_0 hz0 hL t_q24
  have hN := hN.tp hz0 t_q24 (by decide)
  have hE := hE.tr hz (Or.inr o_q24)
  obtain ⟨m_x, t_x, e_x⟩ := hz.kO m_x d_x_q24 t_x e_x
  have n_q10 := hz.kN m_q10 d_q10_q24 n_q10
  obtain ⟨m_q10, t_q10⟩ := hz.kT m_q10 d_q10_q24 t_q10
  have m_q24 := hz0.2.1
  refine W.widen (k := 2) (n := 5) (by omega) (by omega) ?_
  refine lv_dup hx hb d_NNode_init_44 rfl ?_
  refine gw_call (va_runIN (As := []) (rest := [.ref q24, .ref x]) ⟨hx, hb, hml, hown, tb_nil⟩ (g_LongNumber l g25 H.size f26 q24 k hL hI m_q24 t_q24 e_q24) ⟨(va_cnB 0 (tb_one (wd_184 hB _)) tb_good1 rfl rfl rfl (va_Nw.of (A := #[]) rfl (wd_182 hB _)) (wd_78 hB _) (by decide +kernel) ⟨Nat.le_of_ble_eq_true rfl, Nat.le_of_ble_eq_true rfl⟩), rfl, (wd_183 hB _)⟩ ⟨pe_bl, pe_pre hB hK hP hD⟩ rfl rfl hl.1 rfl (lv_room (Nat.le_of_ble_eq_true rfl)) d_NNode_init_45 ⟨(Nat.le_of_ble_eq_true rfl), (Nat.le_of_ble_eq_true rfl)⟩) hA hD hS (fun g27 f28 H locs hq hK hP hD hS => ?_)
  obtain ⟨hz, hL9, hI9, t9_q24, n_q24, hN9⟩ := hq
  have hL := hL9
  have hI := hI9
  have hN := (hN.sub (S1 := [7, 24, 25]) (by decide)).tr hN9 (by decide)
  have hE := hE.tr hz (Or.inr o_q24)
  obtain ⟨m_x, t_x, e_x⟩ := hz.kO m_x d_x_q24 t_x e_x
  have n_q10 := hz.kN m_q10 d_q10_q24 n_q10
  obtain ⟨m_q10, t_q10⟩ := hz.kT m_q10 d_q10_q24 t_q10
  have m_q24 := hz.mem m_q24
  have t_q24 := t9_q24
  refine W.widen (k := 3) (n := 20) (by omega) (by omega) ?_
  refine gw_putF (v := .ref q24) (ty := (.object "BigRunner$LongNumber")) (fs' := [.int (nI 0), .int (nI 0), .int (nI 0), .ref q10, .int (nI 1), .long (nL 0), .ref q24]) (C := "BigRunner$Node") (T := FT5) (N := 7) hx hb (hw5 hB _) (fun _ h9 => h9) TY5 ok5 nm5 hown hK hP hD hS m_x e_x rfl 6 (by decide) (wd_223 hB _) rfl hin rfl (by decide +kernel) rfl rfl (Nat.le_of_ble_eq_true rfl) rfl d_NNode_init_48 (fun f29 H locs e30 k31 hP hD hS => ?_)
  have hz := EX.wr (g := g27) k31
  have hI := IV_w0 hL hI t_x k31
  have hE := hE.tr hz (Or.inl rfl)
  have n_q10 := hz.kN m_q10 (Ne.symm d_x_q10) n_q10
  obtain ⟨m_q10, t_q10⟩ := hz.kT m_q10 (Ne.symm d_x_q10) t_q10
  have n_q24 := hz.kN m_q24 (Ne.symm d_x_q24) n_q24
  obtain ⟨m_q24, t_q24⟩ := hz.kT m_q24 (Ne.symm d_x_q24) t_q24
  have e_x := e30
  obtain ⟨g32, hz0, tT, hlk, htn, hac, hLP, htys, hDD⟩ := ty_mk g27 f29 f29 x 6 k (fun j9 => if j9 = 3 then q10 else if j9 = 6 then q24 else 0) t_x m_x (fun _ _ => rfl)
  have hK : va_K g32.D vcl g32.tys s := by rw [hDD, htys]; exact hK
  have hP : va_P g32.D vcl (va_pl g32.LP f29) H := by rw [hDD, hLP]; exact hP
  have hD : va_D (pc_A g s.heap.size) (va_pl g32.LP f29) := by rw [hLP]; exact hD
  have hz := hz0.ex
  have l_3 : g32.lk x 3 = q10 := by rw [hlk]; rfl
  have l_6 : g32.lk x 6 = q24 := by rw [hlk]; rfl
  have n_q10 := hz.kN m_q10 (Ne.symm d_x_q10) n_q10
  obtain ⟨m_q10, t_q10⟩ := hz.kT m_q10 (Ne.symm d_x_q10) t_q10
  have n_q24 := hz.kN m_q24 (Ne.symm d_x_q24) n_q24
  obtain ⟨m_q24, t_q24⟩ := hz.kT m_q24 (Ne.symm d_x_q24) t_q24
  have m_x := hz0.2.1
  have oc9 : oc g32 x (f29 x) := oc_6.mk tT ⟨0, 0, 0, (nI 1), (nL 0), (by rw [l_3, l_6]; exact e_x), (by first | exact Or.inl rfl | exact Or.inr rfl | decide | exact fun z9 => absurd z9 (by decide)), (by first | exact Or.inl rfl | exact Or.inr rfl | decide | exact fun z9 => absurd z9 (by decide)), (by first | exact Or.inl rfl | exact Or.inr rfl | decide | exact fun z9 => absurd z9 (by decide)), (by first | exact Or.inl rfl | exact Or.inr rfl | decide | exact fun z9 => absurd z9 (by decide)), (by first | exact Or.inl rfl | exact Or.inr rfl | decide | exact fun z9 => absurd z9 (by decide)), (by first | exact Or.inl rfl | exact Or.inr rfl | decide | exact fun z9 => absurd z9 (by decide))⟩
  have hI := IV_tp hz0 hL hI oc9 (fun z9 => absurd (tT.symm.trans z9) (by decide))
  have hL := LO_tp_6 hz0 hL tT (by rw [l_3]; exact t_q10) (by rw [l_6]; exact t_q24) (by rw [l_6, htn]; exact n_q24) (by rw [l_3, htn]; exact n_q10)
  have hN := (hN.sub (S1 := [7, 24, 25]) (by decide)).tp hz0 tT (by decide)
  have hE := hE.tr hz (Or.inl rfl)
  exact gw_ret hx hb hr hlocks hK hP hD hS d_NNode_init_51 (by omega) (by omega) ⟨hE, hL, hI, tT, htn, hN⟩

