def LK5 (g : Lay) (P q : Nat) : Prop := g.lk P 5 = q
theorem LK5.ex {g g1 : Lay} {f f1 : Nat → va_E} {P q z : Nat} (h : LK5 g P q) (hz : EX z g f g1 f1) (hm : P ∈ g.LP) (hn : P ≠ z) : LK5 g1 P q := by
  unfold LK5
  rw [(hz.2.2.2 P hm hn).2.1]
  exact h
def OIN (g : Lay) (f : Nat → va_E) (P : Nat) : Prop := f (g.lk P 5) = .inr (2, [.long (-1000000000), .long (nL 1000000000)])
theorem OIN.un {g : Lay} {f f1 : Nat → va_E} {P : Nat} {W : List Nat} (h : OIN g f P) (hL : LO g) (tP : g.tg P = 7) (hu : un W g f f1) (hW : 3 ∉ W) : OIN g f1 P := hu.at (lo_k7_5 hL P tP) hW h
theorem OIN.mk {g : Lay} {f : Nat → va_E} {P q : Nat} (h : LK5 g P q) (e : f q = .inr (2, [.long (-1000000000), .long (nL 1000000000)])) : OIN g f P := by unfold OIN; rw [h]; exact e
theorem OIN.in {g : Lay} {f : Nat → va_E} {P : Nat} (h : OIN g f P) : f (g.lk P 5) = .inr (2, [.long (cL inI.1), .long (cH inI.2)]) := h.trans (by rw [show cL inI.1 = (-1000000000 : Int64) by decide, show cH inI.2 = nL 1000000000 by decide])
set_option maxHeartbeats 4000000 in
set_option maxRecDepth 100000 in
theorem g2_Program (l : Launch) (g : Lay) (sz : Nat) (f : Nat → va_E) (x k : Nat) (hL : LO g) (hI : IV g f) (m_x : x ∈ g.LP) (t_x : g.tg x = 0) (e_x : f x = .inr (6, [.null, .int (nI 0), .null, .int (nI 0), .null, .null])) : Met l ⟨"BigRunner$Program", "<init>", "()V"⟩ [Cond.code ⟨"BigRunner$Program", "<init>", "()V"⟩ prog_7_method_1_code 2 none] ({ frames := 3, cells := 338, slots := 2264, locals := 52 }) (va_Pc [.ref x] (pc_in g sz f)) (CQ g sz (fun g1 f1 => EX x g f g1 f1 ∧ LO g1 ∧ IV g1 f1 ∧ g1.tg x = 7 ∧ g1.tn x = k ∧ NT [] g g1 ∧ (PG0 g1 f1 x) ∧ (∃ q, LK5 g1 x q ∧ g1.tg q = 3 ∧ q ∉ g.LP ∧ f1 q = .inr (2, [.long (-1000000000), .long (nL 1000000000)])))) 338 2264 (pc_A g sz) := by
  refine gw_ofW (cc := prog_7_method_1_code) (maxL := 2) (ret := none) (lv := [(0, .ref x)]) (by decide) rfl (Nat.le_of_ble_eq_true rfl) rfl ?_
  intro p e s m args below meth c ls hx hb hr hml hlocks hown hin hB hP hK hD hsz hS hl hA
  subst hsz
  have hL0 := hL
  have tx0 := t_x
  have hE : EX x g f g f := EX.rf
  have hN : NT [7, 24, 25] g g := NT.rf
  refine lv_aload_n hx hb d_NProgram_init_0 rfl (lv_at hl 0 rfl) ?_
  refine W.objInit hx hb hown (wd_114 hB _) (wd_101 hB _) (wd_102 hB _) rfl (by rw [hml]; exact hl.1) rfl d_NProgram_init_1 (Nat.le_of_ble_eq_true rfl) (Nat.le_of_ble_eq_true rfl) ?_
  refine W.eq (g2 := F0 m 4 ls []) rfl ?_
  refine lv_aload_n hx hb d_NProgram_init_4 rfl (lv_at hl 0 rfl) ?_
  refine lv_bipush (v := nI 36) hx hb d_NProgram_init_5 (by decide) ?_
  refine gw_arq (C := "BigRunner$Statement") (N' := 36) hx hb hown (wd_115 hB _) (va_AO.of (A := #[]) (wd_116 hB _)) hK hP hD hS hA hL (by decide +kernel) (by decide +kernel) (by decide +kernel) (Nat.le_of_ble_eq_true rfl) (Nat.le_of_ble_eq_true rfl) d_NProgram_init_7 (fun q1 g2 f3 H hz0 t_q1 p_q1 e_q1 y_q1 hK hP hD hS => ?_)
  have d_x_q1 : x ≠ q1 := fun z9 => p_q1 (z9 ▸ m_x)
  have o_q1 := hE.new p_q1
  have hz := hz0.ex
  have hI := IV_t0 hz0 hL hI t_q1
  have hL := LO_tp_0 hz0 hL t_q1
  have hN := hN.tp hz0 t_q1 (by decide)
  have hE := hE.tr hz (Or.inr o_q1)
  obtain ⟨m_x, t_x, e_x⟩ := hz.kO m_x d_x_q1 t_x e_x
  have m_q1 := hz0.2.1
  refine W.widen (k := 1) (n := 36) (by omega) (by omega) ?_
  refine gw_putF (v := .ref q1) (ty := (.array (.object "BigRunner$Statement"))) (fs' := [.ref q1, .int (nI 0), .null, .int (nI 0), .null, .null]) (C := "BigRunner$Program") (T := FT6) (N := 6) hx hb (hw6 hB _) (fun _ h9 => h9) TY6 ok6 nm6 hown hK hP hD hS m_x e_x rfl 0 (by decide) (wd_242 hB _) rfl hin rfl (by decide +kernel) rfl rfl (Nat.le_of_ble_eq_true rfl) rfl d_NProgram_init_10 (fun f4 H locs e5 k6 hP hD hS => ?_)
  have hz := EX.wr (g := g2) k6
  have hI := IV_w0 hL hI t_x k6
  have hE := hE.tr hz (Or.inl rfl)
  obtain ⟨m_q1, t_q1, e_q1, y_q1⟩ := hz.kA m_q1 (Ne.symm d_x_q1) t_q1 e_q1 y_q1
  have e_x := e5
  refine lv_aload_n hx hb d_NProgram_init_13 rfl (lv_at hl 0 rfl) ?_
  refine lv_iconst (v := nI 0) hx hb d_NProgram_init_14 (by decide) ?_
  refine pf_put (v := .int (nI 0)) (ty := .int) (fs' := [.ref q1, .int (nI 0), .null, .int (nI 0), .null, .null]) (C := "BigRunner$Program") (T := FT6) (N := 6) hx hb (hw6 hB _) (fun _ h9 => h9) TY6 ok6 nm6 hown hK hP hD hS m_x e_x rfl 1 (by decide) (wd_245 hB _) rfl (by decide +kernel) rfl rfl (Nat.le_of_ble_eq_true rfl) rfl d_NProgram_init_15 (fun f7 H locs e8 k9 hP hD hS => ?_)
  have hz := EX.wr (g := g2) k9
  have hI := IV_w0 hL hI t_x k9
  have hE := hE.tr hz (Or.inl rfl)
  obtain ⟨m_q1, t_q1, e_q1, y_q1⟩ := hz.kA m_q1 (Ne.symm d_x_q1) t_q1 e_q1 y_q1
  have e_x := e8
  refine lv_aload_n hx hb d_NProgram_init_18 rfl (lv_at hl 0 rfl) ?_
  refine lv_bipush (v := nI 72) hx hb d_NProgram_init_19 (by decide) ?_
  refine gw_arq (C := "BigRunner$Node") (N' := 72) hx hb hown (wd_117 hB _) (va_AO.of (A := #[]) (wd_118 hB _)) hK hP hD hS hA hL (by decide +kernel) (by decide +kernel) (by decide +kernel) (Nat.le_of_ble_eq_true rfl) (Nat.le_of_ble_eq_true rfl) d_NProgram_init_21 (fun q10 g11 f12 H hz0 t_q10 p_q10 e_q10 y_q10 hK hP hD hS => ?_)
  have d_x_q10 : x ≠ q10 := fun z9 => p_q10 (z9 ▸ m_x)
  have d_q1_q10 : q1 ≠ q10 := fun z9 => p_q10 (z9 ▸ m_q1)
  have o_q10 := hE.new p_q10
  have hz := hz0.ex
  have hI := IV_t0 hz0 hL hI t_q10
  have hL := LO_tp_0 hz0 hL t_q10
  have hN := hN.tp hz0 t_q10 (by decide)
  have hE := hE.tr hz (Or.inr o_q10)
  obtain ⟨m_x, t_x, e_x⟩ := hz.kO m_x d_x_q10 t_x e_x
  obtain ⟨m_q1, t_q1, e_q1, y_q1⟩ := hz.kA m_q1 d_q1_q10 t_q1 e_q1 y_q1
  have m_q10 := hz0.2.1
  refine W.widen (k := 2) (n := 108) (by omega) (by omega) ?_
  refine gw_putF (v := .ref q10) (ty := (.array (.object "BigRunner$Node"))) (fs' := [.ref q1, .int (nI 0), .ref q10, .int (nI 0), .null, .null]) (C := "BigRunner$Program") (T := FT6) (N := 6) hx hb (hw6 hB _) (fun _ h9 => h9) TY6 ok6 nm6 hown hK hP hD hS m_x e_x rfl 2 (by decide) (wd_248 hB _) rfl hin rfl (by decide +kernel) rfl rfl (Nat.le_of_ble_eq_true rfl) rfl d_NProgram_init_24 (fun f13 H locs e14 k15 hP hD hS => ?_)
  have hz := EX.wr (g := g11) k15
  have hI := IV_w0 hL hI t_x k15
  have hE := hE.tr hz (Or.inl rfl)
  obtain ⟨m_q1, t_q1, e_q1, y_q1⟩ := hz.kA m_q1 (Ne.symm d_x_q1) t_q1 e_q1 y_q1
  obtain ⟨m_q10, t_q10, e_q10, y_q10⟩ := hz.kA m_q10 (Ne.symm d_x_q10) t_q10 e_q10 y_q10
  have e_x := e14
  refine lv_aload_n hx hb d_NProgram_init_27 rfl (lv_at hl 0 rfl) ?_
  refine lv_iconst (v := nI 0) hx hb d_NProgram_init_28 (by decide) ?_
  refine pf_put (v := .int (nI 0)) (ty := .int) (fs' := [.ref q1, .int (nI 0), .ref q10, .int (nI 0), .null, .null]) (C := "BigRunner$Program") (T := FT6) (N := 6) hx hb (hw6 hB _) (fun _ h9 => h9) TY6 ok6 nm6 hown hK hP hD hS m_x e_x rfl 3 (by decide) (wd_251 hB _) rfl (by decide +kernel) rfl rfl (Nat.le_of_ble_eq_true rfl) rfl d_NProgram_init_29 (fun f16 H locs e17 k18 hP hD hS => ?_)
  have hz := EX.wr (g := g11) k18
  have hI := IV_w0 hL hI t_x k18
  have hE := hE.tr hz (Or.inl rfl)
  obtain ⟨m_q1, t_q1, e_q1, y_q1⟩ := hz.kA m_q1 (Ne.symm d_x_q1) t_q1 e_q1 y_q1
  obtain ⟨m_q10, t_q10, e_q10, y_q10⟩ := hz.kA m_q10 (Ne.symm d_x_q10) t_q10 e_q10 y_q10
  have e_x := e17
  refine lv_aload_n hx hb d_NProgram_init_32 rfl (lv_at hl 0 rfl) ?_
  refine lv_bipush (v := nI 10) hx hb d_NProgram_init_33 (by decide) ?_
  refine gw_arq (C := "BigRunner$Interval") (N' := 10) hx hb hown (wd_119 hB _) (va_AO.of (A := #[]) (wd_120 hB _)) hK hP hD hS hA hL (by decide +kernel) (by decide +kernel) (by decide +kernel) (Nat.le_of_ble_eq_true rfl) (Nat.le_of_ble_eq_true rfl) d_NProgram_init_35 (fun q19 g20 f21 H hz0 t_q19 p_q19 e_q19 y_q19 hK hP hD hS => ?_)
  have d_x_q19 : x ≠ q19 := fun z9 => p_q19 (z9 ▸ m_x)
  have d_q1_q19 : q1 ≠ q19 := fun z9 => p_q19 (z9 ▸ m_q1)
  have d_q10_q19 : q10 ≠ q19 := fun z9 => p_q19 (z9 ▸ m_q10)
  have o_q19 := hE.new p_q19
  have hz := hz0.ex
  have hI := IV_t0 hz0 hL hI t_q19
  have hL := LO_tp_0 hz0 hL t_q19
  have hN := hN.tp hz0 t_q19 (by decide)
  have hE := hE.tr hz (Or.inr o_q19)
  obtain ⟨m_x, t_x, e_x⟩ := hz.kO m_x d_x_q19 t_x e_x
  obtain ⟨m_q1, t_q1, e_q1, y_q1⟩ := hz.kA m_q1 d_q1_q19 t_q1 e_q1 y_q1
  obtain ⟨m_q10, t_q10, e_q10, y_q10⟩ := hz.kA m_q10 d_q10_q19 t_q10 e_q10 y_q10
  have m_q19 := hz0.2.1
  refine W.widen (k := 3) (n := 118) (by omega) (by omega) ?_
  refine gw_putF (v := .ref q19) (ty := (.array (.object "BigRunner$Interval"))) (fs' := [.ref q1, .int (nI 0), .ref q10, .int (nI 0), .ref q19, .null]) (C := "BigRunner$Program") (T := FT6) (N := 6) hx hb (hw6 hB _) (fun _ h9 => h9) TY6 ok6 nm6 hown hK hP hD hS m_x e_x rfl 4 (by decide) (wd_253 hB _) rfl hin rfl (by decide +kernel) rfl rfl (Nat.le_of_ble_eq_true rfl) rfl d_NProgram_init_38 (fun f22 H locs e23 k24 hP hD hS => ?_)
  have hz := EX.wr (g := g20) k24
  have hI := IV_w0 hL hI t_x k24
  have hE := hE.tr hz (Or.inl rfl)
  obtain ⟨m_q1, t_q1, e_q1, y_q1⟩ := hz.kA m_q1 (Ne.symm d_x_q1) t_q1 e_q1 y_q1
  obtain ⟨m_q10, t_q10, e_q10, y_q10⟩ := hz.kA m_q10 (Ne.symm d_x_q10) t_q10 e_q10 y_q10
  obtain ⟨m_q19, t_q19, e_q19, y_q19⟩ := hz.kA m_q19 (Ne.symm d_x_q19) t_q19 e_q19 y_q19
  have e_x := e23
  refine lv_aload_n hx hb d_NProgram_init_41 rfl (lv_at hl 0 rfl) ?_
  refine gw_new (ci := 2) (fs := [.long (nL 0), .long (nL 0)]) (C := "BigRunner$Interval") (T := FT2) (N := 2) hx hb (hw2 hB _) (fun _ h9 => h9) TY2 ok2 hown (wd_119 hB _) (wd_121 hB _) (wd_75 hB _) hK hP hD hS hA hL rfl (fun j hj => by rcases (show j = 0 ∨ j = 1 by omega) with rfl | rfl <;> rfl) (Nat.le_of_ble_eq_true rfl) (Nat.le_of_ble_eq_true rfl) d_NProgram_init_42 (fun q25 g26 f27 H hz0 t_q25 p_q25 e_q25 hK hP hD hS => ?_)
  have d_x_q25 : x ≠ q25 := fun z9 => p_q25 (z9 ▸ m_x)
  have d_q1_q25 : q1 ≠ q25 := fun z9 => p_q25 (z9 ▸ m_q1)
  have d_q10_q25 : q10 ≠ q25 := fun z9 => p_q25 (z9 ▸ m_q10)
  have d_q19_q25 : q19 ≠ q25 := fun z9 => p_q25 (z9 ▸ m_q19)
  have o_q25 := hE.new p_q25
  have hz := hz0.ex
  have hI := IV_t0 hz0 hL hI t_q25
  have hL := LO_tp_0 hz0 hL t_q25
  have hN := hN.tp hz0 t_q25 (by decide)
  have hE := hE.tr hz (Or.inr o_q25)
  obtain ⟨m_x, t_x, e_x⟩ := hz.kO m_x d_x_q25 t_x e_x
  obtain ⟨m_q1, t_q1, e_q1, y_q1⟩ := hz.kA m_q1 d_q1_q25 t_q1 e_q1 y_q1
  obtain ⟨m_q10, t_q10, e_q10, y_q10⟩ := hz.kA m_q10 d_q10_q25 t_q10 e_q10 y_q10
  obtain ⟨m_q19, t_q19, e_q19, y_q19⟩ := hz.kA m_q19 d_q19_q25 t_q19 e_q19 y_q19
  have m_q25 := hz0.2.1
  refine W.widen (k := 4) (n := 120) (by omega) (by omega) ?_
  refine lv_dup hx hb d_NProgram_init_45 rfl ?_
  refine gw_call (va_runIN (As := []) (rest := [.ref q25, .ref x]) ⟨hx, hb, hml, hown, tb_nil⟩ (g_Interval l g26 H.size f27 q25 120 hL hI m_q25 t_q25 e_q25) ⟨(va_cnB 0 (tb_one (wd_124 hB _)) tb_good1 rfl rfl rfl (va_Nw.of (A := #[]) rfl (wd_122 hB _)) (wd_75 hB _) (by decide +kernel) ⟨Nat.le_of_ble_eq_true rfl, Nat.le_of_ble_eq_true rfl⟩), rfl, (wd_123 hB _)⟩ ⟨pe_bl, pe_pre hB hK hP hD⟩ rfl rfl hl.1 rfl (lv_room (Nat.le_of_ble_eq_true rfl)) d_NProgram_init_46 ⟨(Nat.le_of_ble_eq_true rfl), (Nat.le_of_ble_eq_true rfl)⟩) hA hD hS (fun g28 f29 H locs hq hK hP hD hS => ?_)
  obtain ⟨hz, hL9, hI9, t9_q25, n_q25, hN9⟩ := hq
  have hL := hL9
  have hI := hI9
  have hN := (hN.sub (S1 := [7, 24, 25]) (by decide)).tr hN9 (by decide)
  have hE := hE.tr hz (Or.inr o_q25)
  obtain ⟨m_x, t_x, e_x⟩ := hz.kO m_x d_x_q25 t_x e_x
  obtain ⟨m_q1, t_q1, e_q1, y_q1⟩ := hz.kA m_q1 d_q1_q25 t_q1 e_q1 y_q1
  obtain ⟨m_q10, t_q10, e_q10, y_q10⟩ := hz.kA m_q10 d_q10_q25 t_q10 e_q10 y_q10
  obtain ⟨m_q19, t_q19, e_q19, y_q19⟩ := hz.kA m_q19 d_q19_q25 t_q19 e_q19 y_q19
  have m_q25 := hz.mem m_q25
  have t_q25 := t9_q25
  refine W.widen (k := 4) (n := 120) (by omega) (by omega) ?_
  refine gw_putF (v := .ref q25) (ty := (.object "BigRunner$Interval")) (fs' := [.ref q1, .int (nI 0), .ref q10, .int (nI 0), .ref q19, .ref q25]) (C := "BigRunner$Program") (T := FT6) (N := 6) hx hb (hw6 hB _) (fun _ h9 => h9) TY6 ok6 nm6 hown hK hP hD hS m_x e_x rfl 5 (by decide) (wd_256 hB _) rfl hin rfl (by decide +kernel) rfl rfl (Nat.le_of_ble_eq_true rfl) rfl d_NProgram_init_49 (fun f30 H locs e31 k32 hP hD hS => ?_)
  have hz := EX.wr (g := g28) k32
  have hI := IV_w0 hL hI t_x k32
  have hE := hE.tr hz (Or.inl rfl)
  obtain ⟨m_q1, t_q1, e_q1, y_q1⟩ := hz.kA m_q1 (Ne.symm d_x_q1) t_q1 e_q1 y_q1
  obtain ⟨m_q10, t_q10, e_q10, y_q10⟩ := hz.kA m_q10 (Ne.symm d_x_q10) t_q10 e_q10 y_q10
  obtain ⟨m_q19, t_q19, e_q19, y_q19⟩ := hz.kA m_q19 (Ne.symm d_x_q19) t_q19 e_q19 y_q19
  have n_q25 := hz.kN m_q25 (Ne.symm d_x_q25) n_q25
  obtain ⟨m_q25, t_q25⟩ := hz.kT m_q25 (Ne.symm d_x_q25) t_q25
  have e_x := e31
  refine lv_iconst (v := nI 0) hx hb d_NProgram_init_52 (by decide) ?_
  refine lv_istore_n (lv' := [(1, .int (nI 0)), (0, .ref x)]) hx hb d_NProgram_init_53 rfl hl (by decide) rfl (fun ls hl => ?_)
  have lp33 : ∀ (k36 i : Nat) (g34 : Lay) (f35 : Nat → va_E) (hQ : Nat → Option Nat) (H : Heap) (locs : List Loc) (ls : Array Slot), (36 < i + k36) → (i ≤ 36) → (EX x g f g34 f35) → (NT [7, 24, 25] g g34) → (LO g34) → (IV g34 f35) → (EL g g34 10 0 i hQ) → (x ∈ g34.LP) → (g34.tg x = 0) → (f35 x = .inr (6, [.ref q1, .int (nI 0), .ref q10, .int (nI 0), .ref q19, .ref q25])) → (q1 ∈ g34.LP) → (g34.tg q1 = 0) → (f35 q1 = .inl (g34.ac q1, 36, .inr (.inr (.inr (.inr hQ))))) → (g34.tys[g34.tn q1]? = some (g34.ac q1, .object "BigRunner$Statement")) → (q10 ∈ g34.LP) → (g34.tg q10 = 0) → (f35 q10 = .inl (g34.ac q10, 72, .inr (.inr (.inr (.inr (fun _ => none)))))) → (g34.tys[g34.tn q10]? = some (g34.ac q10, .object "BigRunner$Node")) → (q19 ∈ g34.LP) → (g34.tg q19 = 0) → (f35 q19 = .inl (g34.ac q19, 10, .inr (.inr (.inr (.inr (fun _ => none)))))) → (g34.tys[g34.tn q19]? = some (g34.ac q19, .object "BigRunner$Interval")) → (q25 ∈ g34.LP) → (g34.tg q25 = 3) → (g34.tn q25 = 120) → lv_has ls 2 [(1, .int (nI i)), (0, .ref x)] → va_K g34.D vcl g34.tys s → va_P g34.D vcl (va_pl g34.LP f35) H → va_D (pc_A g s.heap.size) (va_pl g34.LP f35) → va_S (pc_A g s.heap.size) s.heap H locs → W p l e ({ frames := 3, cells := 338, slots := 2264, locals := 52 }) s m args below meth c H locs (4 + 1 * i) (120 + 5 * i) (MQ below (CQ g s.heap.size (fun g1 f1 => EX x g f g1 f1 ∧ LO g1 ∧ IV g1 f1 ∧ g1.tg x = 7 ∧ g1.tn x = k ∧ NT [] g g1 ∧ (PG0 g1 f1 x) ∧ (∃ q, LK5 g1 x q ∧ g1.tg q = 3 ∧ q ∉ g.LP ∧ f1 q = .inr (2, [.long (-1000000000), .long (nL 1000000000)])))) args s 338 2264 (pc_A g s.heap.size)) (F0 m 54 ls []) := by
    intro k36
    induction k36 with
    | zero => intros; exfalso; omega
    | succ k36 ih37 =>
      intro i g34 f35 hQ H locs ls hfu hi hE hN hL hI hEL m_x t_x e_x m_q1 t_q1 e_q1 y_q1 m_q10 t_q10 e_q10 y_q10 m_q19 t_q19 e_q19 y_q19 m_q25 t_q25 n_q25 hl hK hP hD hS
      refine lv_iload_n hx hb d_NProgram_init_54 rfl (lv_at hl 0 rfl) ?_
      refine lv_bipush (v := nI 36) hx hb d_NProgram_init_55 (by decide) ?_
      refine lv_icmp_ge (tgt := 79) hx hb d_NProgram_init_57 (by decide) (fun b38 => ?_) (fun b38 => ?_)
      · skip
        replace b38 := (nI_leI (a := 36) (b := i) (by omega) (by omega)).mp b38
        obtain rfl : i = 36 := by omega
        refine W.widen (k := 40) (n := 300) (by omega) (by omega) ?_
        have hP := va_swap hP e_q1 (fun j hj => (elk_at hEL hj).1)
        have hD : va_D (pc_A g s.heap.size) (va_pl g34.LP (va_up f35 q1 (.inl (g34.ac q1, 36, .inr (.inr (.inr (.inr (fun i => some (elk hQ i))))))))) := va_swapD hD
        obtain ⟨g39, hz0, tT, hlk, htn, hac, hLP, htys, hDD⟩ := ty_mk g34 f35 (va_up f35 q1 (.inl (g34.ac q1, 36, .inr (.inr (.inr (.inr (fun i => some (elk hQ i)))))))) q1 24 (g34.tn q1) (elk hQ) t_q1 m_q1 (fun b hb => va_up_ne _ _ hb)
        have hK : va_K g39.D vcl g39.tys s := by rw [hDD, htys]; exact hK
        have hP : va_P g39.D vcl (va_pl g39.LP (va_up f35 q1 (.inl (g34.ac q1, 36, .inr (.inr (.inr (.inr (fun i => some (elk hQ i))))))))) H := by rw [hDD, hLP]; exact hP
        have hD : va_D (pc_A g s.heap.size) (va_pl g39.LP (va_up f35 q1 (.inl (g34.ac q1, 36, .inr (.inr (.inr (.inr (fun i => some (elk hQ i))))))))) := by rw [hLP]; exact hD
        have hz := hz0.ex
        have e9 : (va_up f35 q1 (.inl (g34.ac q1, 36, .inr (.inr (.inr (.inr (fun i => some (elk hQ i)))))))) q1 = .inl (g39.ac q1, 36, .inr (.inr (.inr (.inr (fun i => some (g39.lk q1 i)))))) := by rw [hlk, hac]; exact va_up_self _ _ _
        generalize (va_up f35 q1 (.inl (g34.ac q1, 36, .inr (.inr (.inr (.inr (fun i => some (elk hQ i)))))))) = f40 at hP hD hz0 hz e9
        have y9 : g39.tys[g39.tn q1]? = some (g39.ac q1, .object "BigRunner$Statement") := by rw [htys, htn, hac]; exact y_q1
        have hI := IV_tp hz0 hL hI (oc_24.mk tT e9) (fun z9 => absurd (tT.symm.trans z9) (by decide))
        have hL := LO_tp_24 hz0 hL tT (fun i hi => by rw [hlk]; exact tp_b hz0 (elk_at hEL hi).2.1 (by decide)) y9 (fun b i j hb hi hj z => by rw [hlk] at z; obtain ⟨w1, w2⟩ := hN.old hE hL0 tx0 (by decide) (by decide) hb; rw [w2] at z; exact (elk_at hEL hj).2.2.2 (z ▸ lo_in hL0 (lo_e24 hL0 b w1 i hi) (by decide))) (fun i j hi hj z => by rw [hlk] at z; exact elk_inj hEL hi hj z)
        have hN := (hN.sub (S1 := [7, 25]) (by decide)).tp hz0 tT (by decide)
        have hE := hE.tr hz (Or.inr o_q1)
        obtain ⟨m_x, t_x, e_x⟩ := hz.kO m_x d_x_q1 t_x e_x
        obtain ⟨m_q10, t_q10, e_q10, y_q10⟩ := hz.kA m_q10 (Ne.symm d_q1_q10) t_q10 e_q10 y_q10
        obtain ⟨m_q19, t_q19, e_q19, y_q19⟩ := hz.kA m_q19 (Ne.symm d_q1_q19) t_q19 e_q19 y_q19
        have n_q25 := hz.kN m_q25 (Ne.symm d_q1_q25) n_q25
        obtain ⟨m_q25, t_q25⟩ := hz.kT m_q25 (Ne.symm d_q1_q25) t_q25
        have m_q1 := hz0.2.1
        have t_q1 := tT
        refine lv_iconst (v := nI 0) hx hb d_NProgram_init_79 (by decide) ?_
        refine lv_istore_n (lv' := [(1, .int (nI 0)), (0, .ref x)]) hx hb d_NProgram_init_80 rfl hl (by decide) rfl (fun ls hl => ?_)
        have lp41 : ∀ (k44 i : Nat) (g42 : Lay) (f43 : Nat → va_E) (hQ : Nat → Option Nat) (H : Heap) (locs : List Loc) (ls : Array Slot), (72 < i + k44) → (i ≤ 72) → (EX x g f g42 f43) → (NT [7, 25] g g42) → (LO g42) → (IV g42 f43) → (EL g g42 6 0 i hQ) → (x ∈ g42.LP) → (g42.tg x = 0) → (f43 x = .inr (6, [.ref q1, .int (nI 0), .ref q10, .int (nI 0), .ref q19, .ref q25])) → (q1 ∈ g42.LP) → (g42.tg q1 = 24) → (q10 ∈ g42.LP) → (g42.tg q10 = 0) → (f43 q10 = .inl (g42.ac q10, 72, .inr (.inr (.inr (.inr hQ))))) → (g42.tys[g42.tn q10]? = some (g42.ac q10, .object "BigRunner$Node")) → (q19 ∈ g42.LP) → (g42.tg q19 = 0) → (f43 q19 = .inl (g42.ac q19, 10, .inr (.inr (.inr (.inr (fun _ => none)))))) → (g42.tys[g42.tn q19]? = some (g42.ac q19, .object "BigRunner$Interval")) → (q25 ∈ g42.LP) → (g42.tg q25 = 3) → (g42.tn q25 = 120) → lv_has ls 2 [(1, .int (nI i)), (0, .ref x)] → va_K g42.D vcl g42.tys s → va_P g42.D vcl (va_pl g42.LP f43) H → va_D (pc_A g s.heap.size) (va_pl g42.LP f43) → va_S (pc_A g s.heap.size) s.heap H locs → W p l e ({ frames := 3, cells := 338, slots := 2264, locals := 52 }) s m args below meth c H locs (40 + 4 * i) (300 + 27 * i) (MQ below (CQ g s.heap.size (fun g1 f1 => EX x g f g1 f1 ∧ LO g1 ∧ IV g1 f1 ∧ g1.tg x = 7 ∧ g1.tn x = k ∧ NT [] g g1 ∧ (PG0 g1 f1 x) ∧ (∃ q, LK5 g1 x q ∧ g1.tg q = 3 ∧ q ∉ g.LP ∧ f1 q = .inr (2, [.long (-1000000000), .long (nL 1000000000)])))) args s 338 2264 (pc_A g s.heap.size)) (F0 m 81 ls []) := by
          intro k44
          induction k44 with
          | zero => intros; exfalso; omega
          | succ k44 ih45 =>
            intro i g42 f43 hQ H locs ls hfu hi hE hN hL hI hEL m_x t_x e_x m_q1 t_q1 m_q10 t_q10 e_q10 y_q10 m_q19 t_q19 e_q19 y_q19 m_q25 t_q25 n_q25 hl hK hP hD hS
            refine lv_iload_n hx hb d_NProgram_init_81 rfl (lv_at hl 0 rfl) ?_
            refine lv_bipush (v := nI 72) hx hb d_NProgram_init_82 (by decide) ?_
            refine lv_icmp_ge (tgt := 106) hx hb d_NProgram_init_84 (by decide) (fun b46 => ?_) (fun b46 => ?_)
            · skip
              replace b46 := (nI_leI (a := 72) (b := i) (by omega) (by omega)).mp b46
              obtain rfl : i = 72 := by omega
              refine W.widen (k := 328) (n := 2244) (by omega) (by omega) ?_
              have hP := va_swap hP e_q10 (fun j hj => (elk_at hEL hj).1)
              have hD : va_D (pc_A g s.heap.size) (va_pl g42.LP (va_up f43 q10 (.inl (g42.ac q10, 72, .inr (.inr (.inr (.inr (fun i => some (elk hQ i))))))))) := va_swapD hD
              obtain ⟨g47, hz0, tT, hlk, htn, hac, hLP, htys, hDD⟩ := ty_mk g42 f43 (va_up f43 q10 (.inl (g42.ac q10, 72, .inr (.inr (.inr (.inr (fun i => some (elk hQ i)))))))) q10 25 (g42.tn q10) (elk hQ) t_q10 m_q10 (fun b hb => va_up_ne _ _ hb)
              have hK : va_K g47.D vcl g47.tys s := by rw [hDD, htys]; exact hK
              have hP : va_P g47.D vcl (va_pl g47.LP (va_up f43 q10 (.inl (g42.ac q10, 72, .inr (.inr (.inr (.inr (fun i => some (elk hQ i))))))))) H := by rw [hDD, hLP]; exact hP
              have hD : va_D (pc_A g s.heap.size) (va_pl g47.LP (va_up f43 q10 (.inl (g42.ac q10, 72, .inr (.inr (.inr (.inr (fun i => some (elk hQ i))))))))) := by rw [hLP]; exact hD
              have hz := hz0.ex
              have e9 : (va_up f43 q10 (.inl (g42.ac q10, 72, .inr (.inr (.inr (.inr (fun i => some (elk hQ i)))))))) q10 = .inl (g47.ac q10, 72, .inr (.inr (.inr (.inr (fun i => some (g47.lk q10 i)))))) := by rw [hlk, hac]; exact va_up_self _ _ _
              generalize (va_up f43 q10 (.inl (g42.ac q10, 72, .inr (.inr (.inr (.inr (fun i => some (elk hQ i)))))))) = f48 at hP hD hz0 hz e9
              have y9 : g47.tys[g47.tn q10]? = some (g47.ac q10, .object "BigRunner$Node") := by rw [htys, htn, hac]; exact y_q10
              have hI := IV_tp hz0 hL hI (oc_25.mk tT e9) (fun z9 => absurd (tT.symm.trans z9) (by decide))
              have hL := LO_tp_25 hz0 hL tT (fun i hi => by rw [hlk]; exact tp_b hz0 (elk_at hEL hi).2.1 (by decide)) y9 (fun i hi => by rw [hlk]; exact (tp_tn hz0 (tp_n hz0 (elk_at hEL hi).2.1 (by decide))).trans ((elk_at hEL hi).2.2.1.trans (Nat.zero_add i))) (fun b i j hb hi hj z => by rw [hlk] at z; obtain ⟨w1, w2⟩ := hN.old hE hL0 tx0 (by decide) (by decide) hb; rw [w2] at z; exact (elk_at hEL hj).2.2.2 (z ▸ lo_in hL0 (lo_e25 hL0 b w1 i hi) (by decide))) (fun i j hi hj z => by rw [hlk] at z; exact elk_inj hEL hi hj z)
              have hN := (hN.sub (S1 := [7]) (by decide)).tp hz0 tT (by decide)
              have hE := hE.tr hz (Or.inr o_q10)
              obtain ⟨m_x, t_x, e_x⟩ := hz.kO m_x d_x_q10 t_x e_x
              obtain ⟨m_q1, t_q1⟩ := hz.kT m_q1 d_q1_q10 t_q1
              obtain ⟨m_q19, t_q19, e_q19, y_q19⟩ := hz.kA m_q19 (Ne.symm d_q10_q19) t_q19 e_q19 y_q19
              have n_q25 := hz.kN m_q25 (Ne.symm d_q10_q25) n_q25
              obtain ⟨m_q25, t_q25⟩ := hz.kT m_q25 (Ne.symm d_q10_q25) t_q25
              have m_q10 := hz0.2.1
              have t_q10 := tT
              refine lv_iconst (v := nI 0) hx hb d_NProgram_init_106 (by decide) ?_
              refine lv_istore_n (lv' := [(1, .int (nI 0)), (0, .ref x)]) hx hb d_NProgram_init_107 rfl hl (by decide) rfl (fun ls hl => ?_)
              have lp49 : ∀ (k52 i : Nat) (g50 : Lay) (f51 : Nat → va_E) (hQ : Nat → Option Nat) (H : Heap) (locs : List Loc) (ls : Array Slot), (10 < i + k52) → (i ≤ 10) → (EX x g f g50 f51) → (NT [7] g g50) → (LO g50) → (IV g50 f51) → (EL g g50 3 100 i hQ) → (x ∈ g50.LP) → (g50.tg x = 0) → (f51 x = .inr (6, [.ref q1, .int (nI 0), .ref q10, .int (nI 0), .ref q19, .ref q25])) → (q1 ∈ g50.LP) → (g50.tg q1 = 24) → (q10 ∈ g50.LP) → (g50.tg q10 = 25) → (q19 ∈ g50.LP) → (g50.tg q19 = 0) → (f51 q19 = .inl (g50.ac q19, 10, .inr (.inr (.inr (.inr hQ))))) → (g50.tys[g50.tn q19]? = some (g50.ac q19, .object "BigRunner$Interval")) → (q25 ∈ g50.LP) → (g50.tg q25 = 3) → (g50.tn q25 = 120) → lv_has ls 2 [(1, .int (nI i)), (0, .ref x)] → va_K g50.D vcl g50.tys s → va_P g50.D vcl (va_pl g50.LP f51) H → va_D (pc_A g s.heap.size) (va_pl g50.LP f51) → va_S (pc_A g s.heap.size) s.heap H locs → W p l e ({ frames := 3, cells := 338, slots := 2264, locals := 52 }) s m args below meth c H locs (328 + 1 * i) (2244 + 2 * i) (MQ below (CQ g s.heap.size (fun g1 f1 => EX x g f g1 f1 ∧ LO g1 ∧ IV g1 f1 ∧ g1.tg x = 7 ∧ g1.tn x = k ∧ NT [] g g1 ∧ (PG0 g1 f1 x) ∧ (∃ q, LK5 g1 x q ∧ g1.tg q = 3 ∧ q ∉ g.LP ∧ f1 q = .inr (2, [.long (-1000000000), .long (nL 1000000000)])))) args s 338 2264 (pc_A g s.heap.size)) (F0 m 108 ls []) := by
                intro k52
                induction k52 with
                | zero => intros; exfalso; omega
                | succ k52 ih53 =>
                  intro i g50 f51 hQ H locs ls hfu hi hE hN hL hI hEL m_x t_x e_x m_q1 t_q1 m_q10 t_q10 m_q19 t_q19 e_q19 y_q19 m_q25 t_q25 n_q25 hl hK hP hD hS
                  refine lv_iload_n hx hb d_NProgram_init_108 rfl (lv_at hl 0 rfl) ?_
                  refine lv_bipush (v := nI 10) hx hb d_NProgram_init_109 (by decide) ?_
                  refine lv_icmp_ge (tgt := 133) hx hb d_NProgram_init_111 (by decide) (fun b54 => ?_) (fun b54 => ?_)
                  · skip
                    replace b54 := (nI_leI (a := 10) (b := i) (by omega) (by omega)).mp b54
                    obtain rfl : i = 10 := by omega
                    refine W.widen (k := 338) (n := 2264) (by omega) (by omega) ?_
                    have hP := va_swap hP e_q19 (fun j hj => (elk_at hEL hj).1)
                    have hD : va_D (pc_A g s.heap.size) (va_pl g50.LP (va_up f51 q19 (.inl (g50.ac q19, 10, .inr (.inr (.inr (.inr (fun i => some (elk hQ i))))))))) := va_swapD hD
                    obtain ⟨g55, hz0, tT, hlk, htn, hac, hLP, htys, hDD⟩ := ty_mk g50 f51 (va_up f51 q19 (.inl (g50.ac q19, 10, .inr (.inr (.inr (.inr (fun i => some (elk hQ i)))))))) q19 26 (g50.tn q19) (elk hQ) t_q19 m_q19 (fun b hb => va_up_ne _ _ hb)
                    have hK : va_K g55.D vcl g55.tys s := by rw [hDD, htys]; exact hK
                    have hP : va_P g55.D vcl (va_pl g55.LP (va_up f51 q19 (.inl (g50.ac q19, 10, .inr (.inr (.inr (.inr (fun i => some (elk hQ i))))))))) H := by rw [hDD, hLP]; exact hP
                    have hD : va_D (pc_A g s.heap.size) (va_pl g55.LP (va_up f51 q19 (.inl (g50.ac q19, 10, .inr (.inr (.inr (.inr (fun i => some (elk hQ i))))))))) := by rw [hLP]; exact hD
                    have hz := hz0.ex
                    have e9 : (va_up f51 q19 (.inl (g50.ac q19, 10, .inr (.inr (.inr (.inr (fun i => some (elk hQ i)))))))) q19 = .inl (g55.ac q19, 10, .inr (.inr (.inr (.inr (fun i => some (g55.lk q19 i)))))) := by rw [hlk, hac]; exact va_up_self _ _ _
                    generalize (va_up f51 q19 (.inl (g50.ac q19, 10, .inr (.inr (.inr (.inr (fun i => some (elk hQ i)))))))) = f56 at hP hD hz0 hz e9
                    have y9 : g55.tys[g55.tn q19]? = some (g55.ac q19, .object "BigRunner$Interval") := by rw [htys, htn, hac]; exact y_q19
                    have hI := IV_tp hz0 hL hI (oc_26.mk tT e9) (fun z9 => absurd (tT.symm.trans z9) (by decide))
                    have hL := LO_tp_26 hz0 hL tT (fun i hi => by rw [hlk]; exact tp_b hz0 (elk_at hEL hi).2.1 (by decide)) y9 (fun i hi => by rw [hlk]; exact (tp_tn hz0 (tp_n hz0 (elk_at hEL hi).2.1 (by decide))).trans ((elk_at hEL hi).2.2.1))
                    have hN := (hN.sub (S1 := [7]) (by decide)).tp hz0 tT (by decide)
                    have hE := hE.tr hz (Or.inr o_q19)
                    obtain ⟨m_x, t_x, e_x⟩ := hz.kO m_x d_x_q19 t_x e_x
                    obtain ⟨m_q1, t_q1⟩ := hz.kT m_q1 d_q1_q19 t_q1
                    obtain ⟨m_q10, t_q10⟩ := hz.kT m_q10 d_q10_q19 t_q10
                    have n_q25 := hz.kN m_q25 (Ne.symm d_q19_q25) n_q25
                    obtain ⟨m_q25, t_q25⟩ := hz.kT m_q25 (Ne.symm d_q19_q25) t_q25
                    have m_q19 := hz0.2.1
                    have t_q19 := tT
                    refine lv_aload_n hx hb d_NProgram_init_133 rfl (lv_at hl 1 rfl) ?_
                    refine pf_get (v := .ref q25) (C := "BigRunner$Program") (T := FT6) (N := 6) hx hb (hw6 hB _) (fun _ h9 => h9) hown hK hP m_x e_x rfl 5 (by decide) (wd_256 hB _) rfl d_NProgram_init_134 ?_
                    refine lv_ldc2 (v := (-1000000000)) hx hb hown (wd_240 hB _) d_NProgram_init_137 ?_
                    obtain ⟨v57, v58, e_q25⟩ := oc_3.of t_q25 (hI.1 q25)
                    refine pf_put (v := .long (-1000000000)) (ty := .long) (fs' := [.long (-1000000000), .long v58]) (C := "BigRunner$Interval") (T := FT2) (N := 2) hx hb (hw2 hB _) (fun _ h9 => h9) TY2 ok2 nm2 hown hK hP hD hS m_q25 e_q25 rfl 0 (by decide) (wd_127 hB _) rfl (by decide +kernel) rfl rfl (Nat.le_of_ble_eq_true rfl) rfl d_NProgram_init_140 (fun f59 H locs e60 k61 hP hD hS => ?_)
                    have hz := EX.wr (g := g55) k61
                    have hI := iv_1 hI hL t_q25 (by decide) k61 (oc_3.mk t_q25 ⟨(-1000000000), v58, e60⟩)
                    have hE := hE.tr hz (Or.inr o_q25)
                    obtain ⟨m_x, t_x, e_x⟩ := hz.kO m_x d_x_q25 t_x e_x
                    obtain ⟨m_q1, t_q1⟩ := hz.kT m_q1 d_q1_q25 t_q1
                    obtain ⟨m_q10, t_q10⟩ := hz.kT m_q10 d_q10_q25 t_q10
                    obtain ⟨m_q19, t_q19⟩ := hz.kT m_q19 d_q19_q25 t_q19
                    have e_q25 := e60
                    refine lv_aload_n hx hb d_NProgram_init_143 rfl (lv_at hl 1 rfl) ?_
                    refine pf_get (v := .ref q25) (C := "BigRunner$Program") (T := FT6) (N := 6) hx hb (hw6 hB _) (fun _ h9 => h9) hown hK hP m_x e_x rfl 5 (by decide) (wd_256 hB _) rfl d_NProgram_init_144 ?_
                    refine lv_ldc2 (v := 1000000000) hx hb hown (wd_241 hB _) d_NProgram_init_147 ?_
                    refine lv_topl (fun z_ hz_ => ?_)
                    obtain rfl : z_ = nL 1000000000 := hz_
                    refine pf_put (v := .long (nL 1000000000)) (ty := .long) (fs' := [.long (-1000000000), .long (nL 1000000000)]) (C := "BigRunner$Interval") (T := FT2) (N := 2) hx hb (hw2 hB _) (fun _ h9 => h9) TY2 ok2 nm2 hown hK hP hD hS m_q25 e_q25 rfl 1 (by decide) (wd_130 hB _) rfl (by decide +kernel) rfl rfl (Nat.le_of_ble_eq_true rfl) rfl d_NProgram_init_150 (fun f62 H locs e63 k64 hP hD hS => ?_)
                    have hz := EX.wr (g := g55) k64
                    have hI := iv_1 hI hL t_q25 (by decide) k64 (oc_3.mk t_q25 ⟨(-1000000000), (nL 1000000000), e63⟩)
                    have hE := hE.tr hz (Or.inr o_q25)
                    obtain ⟨m_x, t_x, e_x⟩ := hz.kO m_x d_x_q25 t_x e_x
                    obtain ⟨m_q1, t_q1⟩ := hz.kT m_q1 d_q1_q25 t_q1
                    obtain ⟨m_q10, t_q10⟩ := hz.kT m_q10 d_q10_q25 t_q10
                    obtain ⟨m_q19, t_q19⟩ := hz.kT m_q19 d_q19_q25 t_q19
                    have e_q25 := e63
                    obtain ⟨g65, hz0, tT, hlk, htn, hac, hLP, htys, hDD⟩ := ty_mk g55 f62 f62 x 7 k (fun j9 => if j9 = 0 then q1 else if j9 = 2 then q10 else if j9 = 4 then q19 else if j9 = 5 then q25 else 0) t_x m_x (fun _ _ => rfl)
                    have hK : va_K g65.D vcl g65.tys s := by rw [hDD, htys]; exact hK
                    have hP : va_P g65.D vcl (va_pl g65.LP f62) H := by rw [hDD, hLP]; exact hP
                    have hD : va_D (pc_A g s.heap.size) (va_pl g65.LP f62) := by rw [hLP]; exact hD
                    have hz := hz0.ex
                    have l_0 : g65.lk x 0 = q1 := by rw [hlk]; rfl
                    have l_2 : g65.lk x 2 = q10 := by rw [hlk]; rfl
                    have l_4 : g65.lk x 4 = q19 := by rw [hlk]; rfl
                    have l_5 : g65.lk x 5 = q25 := by rw [hlk]; rfl
                    obtain ⟨m_q1, t_q1⟩ := hz.kT m_q1 (Ne.symm d_x_q1) t_q1
                    obtain ⟨m_q10, t_q10⟩ := hz.kT m_q10 (Ne.symm d_x_q10) t_q10
                    obtain ⟨m_q19, t_q19⟩ := hz.kT m_q19 (Ne.symm d_x_q19) t_q19
                    have n_q25 := hz.kN m_q25 (Ne.symm d_x_q25) n_q25
                    obtain ⟨m_q25, t_q25, e_q25⟩ := hz.kO m_q25 (Ne.symm d_x_q25) t_q25 e_q25
                    have m_x := hz0.2.1
                    have oc9 : oc g65 x (f62 x) := oc_7.mk tT ⟨0, 0, (by rw [l_0, l_2, l_4, l_5]; exact e_x), (by first | exact Or.inl rfl | exact Or.inr rfl | decide | exact fun z9 => absurd z9 (by decide)), (by first | exact Or.inl rfl | exact Or.inr rfl | decide | exact fun z9 => absurd z9 (by decide))⟩
                    have hI := IV_tp hz0 hL hI oc9 (fun z9 => absurd (tT.symm.trans z9) (by decide))
                    have hL := LO_tp_7 hz0 hL tT (by rw [l_0]; exact t_q1) (by rw [l_2]; exact t_q10) (by rw [l_4]; exact t_q19) (by rw [l_5]; exact t_q25) (fun b hb z => by rw [l_0] at z; obtain ⟨w1, w2⟩ := hN.old hE hL0 tx0 (by decide) (by decide) hb; rw [w2] at z; exact o_q1 (z ▸ lo_in hL0 (lo_k7_0 hL0 b w1) (by decide))) (by rw [l_5]; exact n_q25) (fun b hb z => by rw [l_2] at z; obtain ⟨w1, w2⟩ := hN.old hE hL0 tx0 (by decide) (by decide) hb; rw [w2] at z; exact o_q10 (z ▸ lo_in hL0 (lo_k7_2 hL0 b w1) (by decide)))
                    have hN := (hN.sub (S1 := []) (by decide)).tp hz0 tT (by decide)
                    have hE := hE.tr hz (Or.inl rfl)
                    exact gw_ret hx hb hr hlocks hK hP hD hS d_NProgram_init_153 (by omega) (by omega) ⟨hE, hL, hI, tT, htn, hN, (by unfold PG0; rw [l_0, l_2, l_4, l_5]; exact e_x), ⟨q25, l_5, t_q25, o_q25, e_q25⟩⟩
                  · skip
                    replace b54 := mt (nI_leI (a := 10) (b := i) (by omega) (by omega)).mpr b54
                    refine lv_aload_n hx hb d_NProgram_init_114 rfl (lv_at hl 1 rfl) ?_
                    refine pf_get (v := .ref q19) (C := "BigRunner$Program") (T := FT6) (N := 6) hx hb (hw6 hB _) (fun _ h9 => h9) hown hK hP m_x e_x rfl 4 (by decide) (wd_253 hB _) rfl d_NProgram_init_115 ?_
                    refine lv_iload_n hx hb d_NProgram_init_118 rfl (lv_at hl 0 rfl) ?_
                    refine gw_new (ci := 2) (fs := [.long (nL 0), .long (nL 0)]) (C := "BigRunner$Interval") (T := FT2) (N := 2) hx hb (hw2 hB _) (fun _ h9 => h9) TY2 ok2 hown (wd_119 hB _) (wd_121 hB _) (wd_75 hB _) hK hP hD hS hA hL rfl (fun j hj => by rcases (show j = 0 ∨ j = 1 by omega) with rfl | rfl <;> rfl) (show _ ≤ 338 by omega) (show _ ≤ 2264 by omega) d_NProgram_init_119 (fun q66 g67 f68 H hz0 t_q66 p_q66 e_q66 hK hP hD hS => ?_)
                    have d_x_q66 : x ≠ q66 := fun z9 => p_q66 (z9 ▸ m_x)
                    have d_q1_q66 : q1 ≠ q66 := fun z9 => p_q66 (z9 ▸ m_q1)
                    have d_q10_q66 : q10 ≠ q66 := fun z9 => p_q66 (z9 ▸ m_q10)
                    have d_q19_q66 : q19 ≠ q66 := fun z9 => p_q66 (z9 ▸ m_q19)
                    have d_q25_q66 : q25 ≠ q66 := fun z9 => p_q66 (z9 ▸ m_q25)
                    have o_q66 := hE.new p_q66
                    have hz := hz0.ex
                    have hEL := hEL.ex hL (by decide) hz (by rw [hz0.1]; decide)
                    have hI := IV_t0 hz0 hL hI t_q66
                    have hL := LO_tp_0 hz0 hL t_q66
                    have hN := hN.tp hz0 t_q66 (by decide)
                    have hE := hE.tr hz (Or.inr o_q66)
                    obtain ⟨m_x, t_x, e_x⟩ := hz.kO m_x d_x_q66 t_x e_x
                    obtain ⟨m_q1, t_q1⟩ := hz.kT m_q1 d_q1_q66 t_q1
                    obtain ⟨m_q10, t_q10⟩ := hz.kT m_q10 d_q10_q66 t_q10
                    obtain ⟨m_q19, t_q19, e_q19, y_q19⟩ := hz.kA m_q19 d_q19_q66 t_q19 e_q19 y_q19
                    have n_q25 := hz.kN m_q25 d_q25_q66 n_q25
                    obtain ⟨m_q25, t_q25⟩ := hz.kT m_q25 d_q25_q66 t_q25
                    have m_q66 := hz0.2.1
                    refine W.widen (k := 329 + 1 * i) (n := 2246 + 2 * i) (by omega) (by omega) ?_
                    refine lv_dup hx hb d_NProgram_init_122 rfl ?_
                    refine gw_call (va_runIN (As := []) (rest := [.ref q66, .int (nI i), .ref q19]) ⟨hx, hb, hml, hown, tb_nil⟩ (g_Interval l g67 H.size f68 q66 (100 + i) hL hI m_q66 t_q66 e_q66) ⟨(va_cnB 0 (tb_one (wd_124 hB _)) tb_good1 rfl rfl rfl (va_Nw.of (A := #[]) rfl (wd_122 hB _)) (wd_75 hB _) (by decide +kernel) ⟨Nat.le_of_ble_eq_true rfl, Nat.le_of_ble_eq_true rfl⟩), rfl, (wd_123 hB _)⟩ ⟨pe_bl, pe_pre hB hK hP hD⟩ rfl rfl hl.1 rfl (lv_room (Nat.le_of_ble_eq_true rfl)) d_NProgram_init_123 ⟨(show _ ≤ 338 by omega), (show _ ≤ 2264 by omega)⟩) hA hD hS (fun g69 f70 H locs hq hK hP hD hS => ?_)
                    obtain ⟨hz, hL9, hI9, t9_q66, n_q66, hN9⟩ := hq
                    have hEL := hEL.ex hL (by decide) hz (by rw [t_q66]; decide)
                    have hL := hL9
                    have hI := hI9
                    have hN := (hN.sub (S1 := [7]) (by decide)).tr hN9 (by decide)
                    have hE := hE.tr hz (Or.inr o_q66)
                    obtain ⟨m_x, t_x, e_x⟩ := hz.kO m_x d_x_q66 t_x e_x
                    obtain ⟨m_q1, t_q1⟩ := hz.kT m_q1 d_q1_q66 t_q1
                    obtain ⟨m_q10, t_q10⟩ := hz.kT m_q10 d_q10_q66 t_q10
                    obtain ⟨m_q19, t_q19, e_q19, y_q19⟩ := hz.kA m_q19 d_q19_q66 t_q19 e_q19 y_q19
                    have n_q25 := hz.kN m_q25 d_q25_q66 n_q25
                    obtain ⟨m_q25, t_q25⟩ := hz.kT m_q25 d_q25_q66 t_q25
                    have m_q66 := hz.mem m_q66
                    have t_q66 := t9_q66
                    refine W.widen (k := 329 + 1 * i) (n := 2246 + 2 * i) (by omega) (by omega) ?_
                    obtain ⟨v71, v72, ez⟩ := oc_3.of t_q66 (hI.1 q66)
                    refine gw_aast (r := ("BigRunner$Interval", FT2, 2)) hx hb hK hP hD hS m_q19 e_q19 y_q19 m_q66 ez rfl (by omega) (by decide) d_NProgram_init_126 (fun f73 H locs e74 k75 hP hD hS => ?_)
                    have hz := EX.wr (g := g69) k75
                    have hI := IV_w0 hL hI t_q19 k75
                    have hE := hE.tr hz (Or.inr o_q19)
                    obtain ⟨m_x, t_x, e_x⟩ := hz.kO m_x d_x_q19 t_x e_x
                    obtain ⟨m_q1, t_q1⟩ := hz.kT m_q1 d_q1_q19 t_q1
                    obtain ⟨m_q10, t_q10⟩ := hz.kT m_q10 d_q10_q19 t_q10
                    have n_q25 := hz.kN m_q25 (Ne.symm d_q19_q25) n_q25
                    obtain ⟨m_q25, t_q25⟩ := hz.kT m_q25 (Ne.symm d_q19_q25) t_q25
                    have n_q66 := hz.kN m_q66 (Ne.symm d_q19_q66) n_q66
                    obtain ⟨m_q66, t_q66⟩ := hz.kT m_q66 (Ne.symm d_q19_q66) t_q66
                    have e_q19 := e74
                    have hEL := hEL.sn t_q66 n_q66 o_q66
                    refine lv_iinc (k := 0) (v := nI (i + 1)) (lv' := [(1, .int (nI (i + 1))), (0, .ref x)]) hx hb d_NProgram_init_127 hl rfl (by rw [nI_succ]; rfl) (by decide) rfl (fun ls hl => ?_)
                    refine lv_goto (tgt := 108) hx hb d_NProgram_init_130 (by decide) ?_
                    refine W.widen (k := 328 + 1 * (i + 1)) (n := 2244 + 2 * (i + 1)) (by omega) (by omega) ?_
                    exact ih53 (i + 1) g69 f73 _ H locs ls (by omega) (by omega) hE hN hL hI hEL m_x t_x e_x m_q1 t_q1 m_q10 t_q10 m_q19 t_q19 e_q19 y_q19 m_q25 t_q25 n_q25 hl hK hP hD hS
              exact lp49 11 0 g47 f48 _ H _ ls (by omega) (by omega) hE hN hL hI EL.nil m_x t_x e_x m_q1 t_q1 m_q10 t_q10 m_q19 t_q19 e_q19 y_q19 m_q25 t_q25 n_q25 hl hK hP hD hS
            · skip
              replace b46 := mt (nI_leI (a := 72) (b := i) (by omega) (by omega)).mpr b46
              refine lv_aload_n hx hb d_NProgram_init_87 rfl (lv_at hl 1 rfl) ?_
              refine pf_get (v := .ref q10) (C := "BigRunner$Program") (T := FT6) (N := 6) hx hb (hw6 hB _) (fun _ h9 => h9) hown hK hP m_x e_x rfl 2 (by decide) (wd_248 hB _) rfl d_NProgram_init_88 ?_
              refine lv_iload_n hx hb d_NProgram_init_91 rfl (lv_at hl 0 rfl) ?_
              refine gw_new (ci := 5) (fs := [.int (nI 0), .int (nI 0), .int (nI 0), .null, .int (nI 0), .long (nL 0), .null]) (C := "BigRunner$Node") (T := FT5) (N := 7) hx hb (hw5 hB _) (fun _ h9 => h9) TY5 ok5 hown (wd_117 hB _) (wd_173 hB _) (wd_77 hB _) hK hP hD hS hA hL rfl (fun j hj => by rcases (show j = 0 ∨ j = 1 ∨ j = 2 ∨ j = 3 ∨ j = 4 ∨ j = 5 ∨ j = 6 by omega) with rfl | rfl | rfl | rfl | rfl | rfl | rfl <;> rfl) (show _ ≤ 338 by omega) (show _ ≤ 2264 by omega) d_NProgram_init_92 (fun q76 g77 f78 H hz0 t_q76 p_q76 e_q76 hK hP hD hS => ?_)
              have d_x_q76 : x ≠ q76 := fun z9 => p_q76 (z9 ▸ m_x)
              have d_q1_q76 : q1 ≠ q76 := fun z9 => p_q76 (z9 ▸ m_q1)
              have d_q10_q76 : q10 ≠ q76 := fun z9 => p_q76 (z9 ▸ m_q10)
              have d_q19_q76 : q19 ≠ q76 := fun z9 => p_q76 (z9 ▸ m_q19)
              have d_q25_q76 : q25 ≠ q76 := fun z9 => p_q76 (z9 ▸ m_q25)
              have o_q76 := hE.new p_q76
              have hz := hz0.ex
              have hEL := hEL.ex hL (by decide) hz (by rw [hz0.1]; decide)
              have hI := IV_t0 hz0 hL hI t_q76
              have hL := LO_tp_0 hz0 hL t_q76
              have hN := hN.tp hz0 t_q76 (by decide)
              have hE := hE.tr hz (Or.inr o_q76)
              obtain ⟨m_x, t_x, e_x⟩ := hz.kO m_x d_x_q76 t_x e_x
              obtain ⟨m_q1, t_q1⟩ := hz.kT m_q1 d_q1_q76 t_q1
              obtain ⟨m_q10, t_q10, e_q10, y_q10⟩ := hz.kA m_q10 d_q10_q76 t_q10 e_q10 y_q10
              obtain ⟨m_q19, t_q19, e_q19, y_q19⟩ := hz.kA m_q19 d_q19_q76 t_q19 e_q19 y_q19
              have n_q25 := hz.kN m_q25 d_q25_q76 n_q25
              obtain ⟨m_q25, t_q25⟩ := hz.kT m_q25 d_q25_q76 t_q25
              have m_q76 := hz0.2.1
              refine W.widen (k := 41 + 4 * i) (n := 307 + 27 * i) (by omega) (by omega) ?_
              refine lv_dup hx hb d_NProgram_init_95 rfl ?_
              refine gw_call (va_runIN (As := []) (rest := [.ref q76, .int (nI i), .ref q10]) ⟨hx, hb, hml, hown, tb_nil⟩ (g_Node l g77 H.size f78 q76 (0 + i) hL hI m_q76 t_q76 e_q76) ⟨(va_cnB 0 (tb_one (wd_176 hB _)) tb_good1 rfl rfl rfl (va_Nw.of (A := #[]) rfl (wd_174 hB _)) (wd_77 hB _) (by decide +kernel) ⟨Nat.le_of_ble_eq_true rfl, Nat.le_of_ble_eq_true rfl⟩), rfl, (wd_175 hB _)⟩ ⟨pe_bl, pe_pre hB hK hP hD⟩ rfl rfl hl.1 rfl (lv_room (Nat.le_of_ble_eq_true rfl)) d_NProgram_init_96 ⟨(show _ ≤ 338 by omega), (show _ ≤ 2264 by omega)⟩) hA hD hS (fun g79 f80 H locs hq hK hP hD hS => ?_)
              obtain ⟨hz, hL9, hI9, t9_q76, n_q76, hN9⟩ := hq
              have hEL := hEL.ex hL (by decide) hz (by rw [t_q76]; decide)
              have hL := hL9
              have hI := hI9
              have hN := (hN.sub (S1 := [7, 25]) (by decide)).tr hN9 (by decide)
              have hE := hE.tr hz (Or.inr o_q76)
              obtain ⟨m_x, t_x, e_x⟩ := hz.kO m_x d_x_q76 t_x e_x
              obtain ⟨m_q1, t_q1⟩ := hz.kT m_q1 d_q1_q76 t_q1
              obtain ⟨m_q10, t_q10, e_q10, y_q10⟩ := hz.kA m_q10 d_q10_q76 t_q10 e_q10 y_q10
              obtain ⟨m_q19, t_q19, e_q19, y_q19⟩ := hz.kA m_q19 d_q19_q76 t_q19 e_q19 y_q19
              have n_q25 := hz.kN m_q25 d_q25_q76 n_q25
              obtain ⟨m_q25, t_q25⟩ := hz.kT m_q25 d_q25_q76 t_q25
              have m_q76 := hz.mem m_q76
              have t_q76 := t9_q76
              refine W.widen (k := 44 + 4 * i) (n := 327 + 27 * i) (by omega) (by omega) ?_
              obtain ⟨v81, v82, v83, v84, v85, ez, -⟩ := oc_6.of t_q76 (hI.1 q76)
              refine gw_aast (r := ("BigRunner$Node", FT5, 7)) hx hb hK hP hD hS m_q10 e_q10 y_q10 m_q76 ez rfl (by omega) (by decide) d_NProgram_init_99 (fun f86 H locs e87 k88 hP hD hS => ?_)
              have hz := EX.wr (g := g79) k88
              have hI := IV_w0 hL hI t_q10 k88
              have hE := hE.tr hz (Or.inr o_q10)
              obtain ⟨m_x, t_x, e_x⟩ := hz.kO m_x d_x_q10 t_x e_x
              obtain ⟨m_q1, t_q1⟩ := hz.kT m_q1 d_q1_q10 t_q1
              obtain ⟨m_q19, t_q19, e_q19, y_q19⟩ := hz.kA m_q19 (Ne.symm d_q10_q19) t_q19 e_q19 y_q19
              have n_q25 := hz.kN m_q25 (Ne.symm d_q10_q25) n_q25
              obtain ⟨m_q25, t_q25⟩ := hz.kT m_q25 (Ne.symm d_q10_q25) t_q25
              have n_q76 := hz.kN m_q76 (Ne.symm d_q10_q76) n_q76
              obtain ⟨m_q76, t_q76⟩ := hz.kT m_q76 (Ne.symm d_q10_q76) t_q76
              have e_q10 := e87
              have hEL := hEL.sn t_q76 n_q76 o_q76
              refine lv_iinc (k := 0) (v := nI (i + 1)) (lv' := [(1, .int (nI (i + 1))), (0, .ref x)]) hx hb d_NProgram_init_100 hl rfl (by rw [nI_succ]; rfl) (by decide) rfl (fun ls hl => ?_)
              refine lv_goto (tgt := 81) hx hb d_NProgram_init_103 (by decide) ?_
              refine W.widen (k := 40 + 4 * (i + 1)) (n := 300 + 27 * (i + 1)) (by omega) (by omega) ?_
              exact ih45 (i + 1) g79 f86 _ H locs ls (by omega) (by omega) hE hN hL hI hEL m_x t_x e_x m_q1 t_q1 m_q10 t_q10 e_q10 y_q10 m_q19 t_q19 e_q19 y_q19 m_q25 t_q25 n_q25 hl hK hP hD hS
        exact lp41 73 0 g39 f40 _ H _ ls (by omega) (by omega) hE hN hL hI EL.nil m_x t_x e_x m_q1 t_q1 m_q10 t_q10 e_q10 y_q10 m_q19 t_q19 e_q19 y_q19 m_q25 t_q25 n_q25 hl hK hP hD hS
      · skip
        replace b38 := mt (nI_leI (a := 36) (b := i) (by omega) (by omega)).mpr b38
        refine lv_aload_n hx hb d_NProgram_init_60 rfl (lv_at hl 1 rfl) ?_
        refine pf_get (v := .ref q1) (C := "BigRunner$Program") (T := FT6) (N := 6) hx hb (hw6 hB _) (fun _ h9 => h9) hown hK hP m_x e_x rfl 0 (by decide) (wd_242 hB _) rfl d_NProgram_init_61 ?_
        refine lv_iload_n hx hb d_NProgram_init_64 rfl (lv_at hl 0 rfl) ?_
        refine gw_new (ci := 9) (fs := [.int (nI 0), .int (nI 0), .int (nI 0), .int (nI 0), .int (nI 0)]) (C := "BigRunner$Statement") (T := FT9) (N := 5) hx hb (hw9 hB _) (fun _ h9 => h9) TY9 ok9 hown (wd_115 hB _) (wd_138 hB _) (wd_76 hB _) hK hP hD hS hA hL rfl (fun j hj => by rcases (show j = 0 ∨ j = 1 ∨ j = 2 ∨ j = 3 ∨ j = 4 by omega) with rfl | rfl | rfl | rfl | rfl <;> rfl) (show _ ≤ 338 by omega) (show _ ≤ 2264 by omega) d_NProgram_init_65 (fun q89 g90 f91 H hz0 t_q89 p_q89 e_q89 hK hP hD hS => ?_)
        have d_x_q89 : x ≠ q89 := fun z9 => p_q89 (z9 ▸ m_x)
        have d_q1_q89 : q1 ≠ q89 := fun z9 => p_q89 (z9 ▸ m_q1)
        have d_q10_q89 : q10 ≠ q89 := fun z9 => p_q89 (z9 ▸ m_q10)
        have d_q19_q89 : q19 ≠ q89 := fun z9 => p_q89 (z9 ▸ m_q19)
        have d_q25_q89 : q25 ≠ q89 := fun z9 => p_q89 (z9 ▸ m_q25)
        have o_q89 := hE.new p_q89
        have hz := hz0.ex
        have hEL := hEL.ex hL (by decide) hz (by rw [hz0.1]; decide)
        have hI := IV_t0 hz0 hL hI t_q89
        have hL := LO_tp_0 hz0 hL t_q89
        have hN := hN.tp hz0 t_q89 (by decide)
        have hE := hE.tr hz (Or.inr o_q89)
        obtain ⟨m_x, t_x, e_x⟩ := hz.kO m_x d_x_q89 t_x e_x
        obtain ⟨m_q1, t_q1, e_q1, y_q1⟩ := hz.kA m_q1 d_q1_q89 t_q1 e_q1 y_q1
        obtain ⟨m_q10, t_q10, e_q10, y_q10⟩ := hz.kA m_q10 d_q10_q89 t_q10 e_q10 y_q10
        obtain ⟨m_q19, t_q19, e_q19, y_q19⟩ := hz.kA m_q19 d_q19_q89 t_q19 e_q19 y_q19
        have n_q25 := hz.kN m_q25 d_q25_q89 n_q25
        obtain ⟨m_q25, t_q25⟩ := hz.kT m_q25 d_q25_q89 t_q25
        have m_q89 := hz0.2.1
        refine W.widen (k := 5 + 1 * i) (n := 125 + 5 * i) (by omega) (by omega) ?_
        refine lv_dup hx hb d_NProgram_init_68 rfl ?_
        refine gw_call (va_runIN (As := []) (rest := [.ref q89, .int (nI i), .ref q1]) ⟨hx, hb, hml, hown, tb_nil⟩ (g_Statement l g90 H.size f91 q89 (0 + i) hL hI m_q89 t_q89 e_q89) ⟨(va_cnB 0 (tb_one (wd_141 hB _)) tb_good1 rfl rfl rfl (va_Nw.of (A := #[]) rfl (wd_139 hB _)) (wd_76 hB _) (by decide +kernel) ⟨Nat.le_of_ble_eq_true rfl, Nat.le_of_ble_eq_true rfl⟩), rfl, (wd_140 hB _)⟩ ⟨pe_bl, pe_pre hB hK hP hD⟩ rfl rfl hl.1 rfl (lv_room (Nat.le_of_ble_eq_true rfl)) d_NProgram_init_69 ⟨(show _ ≤ 338 by omega), (show _ ≤ 2264 by omega)⟩) hA hD hS (fun g92 f93 H locs hq hK hP hD hS => ?_)
        obtain ⟨hz, hL9, hI9, t9_q89, n_q89, hN9⟩ := hq
        have hEL := hEL.ex hL (by decide) hz (by rw [t_q89]; decide)
        have hL := hL9
        have hI := hI9
        have hN := (hN.sub (S1 := [7, 24, 25]) (by decide)).tr hN9 (by decide)
        have hE := hE.tr hz (Or.inr o_q89)
        obtain ⟨m_x, t_x, e_x⟩ := hz.kO m_x d_x_q89 t_x e_x
        obtain ⟨m_q1, t_q1, e_q1, y_q1⟩ := hz.kA m_q1 d_q1_q89 t_q1 e_q1 y_q1
        obtain ⟨m_q10, t_q10, e_q10, y_q10⟩ := hz.kA m_q10 d_q10_q89 t_q10 e_q10 y_q10
        obtain ⟨m_q19, t_q19, e_q19, y_q19⟩ := hz.kA m_q19 d_q19_q89 t_q19 e_q19 y_q19
        have n_q25 := hz.kN m_q25 d_q25_q89 n_q25
        obtain ⟨m_q25, t_q25⟩ := hz.kT m_q25 d_q25_q89 t_q25
        have m_q89 := hz.mem m_q89
        have t_q89 := t9_q89
        refine W.widen (k := 5 + 1 * i) (n := 125 + 5 * i) (by omega) (by omega) ?_
        obtain ⟨v94, v95, v96, v97, v98, ez, -⟩ := oc_10.of t_q89 (hI.1 q89)
        refine gw_aast (r := ("BigRunner$Statement", FT9, 5)) hx hb hK hP hD hS m_q1 e_q1 y_q1 m_q89 ez rfl (by omega) (by decide) d_NProgram_init_72 (fun f99 H locs e100 k101 hP hD hS => ?_)
        have hz := EX.wr (g := g92) k101
        have hI := IV_w0 hL hI t_q1 k101
        have hE := hE.tr hz (Or.inr o_q1)
        obtain ⟨m_x, t_x, e_x⟩ := hz.kO m_x d_x_q1 t_x e_x
        obtain ⟨m_q10, t_q10, e_q10, y_q10⟩ := hz.kA m_q10 (Ne.symm d_q1_q10) t_q10 e_q10 y_q10
        obtain ⟨m_q19, t_q19, e_q19, y_q19⟩ := hz.kA m_q19 (Ne.symm d_q1_q19) t_q19 e_q19 y_q19
        have n_q25 := hz.kN m_q25 (Ne.symm d_q1_q25) n_q25
        obtain ⟨m_q25, t_q25⟩ := hz.kT m_q25 (Ne.symm d_q1_q25) t_q25
        have n_q89 := hz.kN m_q89 (Ne.symm d_q1_q89) n_q89
        obtain ⟨m_q89, t_q89⟩ := hz.kT m_q89 (Ne.symm d_q1_q89) t_q89
        have e_q1 := e100
        have hEL := hEL.sn t_q89 n_q89 o_q89
        refine lv_iinc (k := 0) (v := nI (i + 1)) (lv' := [(1, .int (nI (i + 1))), (0, .ref x)]) hx hb d_NProgram_init_73 hl rfl (by rw [nI_succ]; rfl) (by decide) rfl (fun ls hl => ?_)
        refine lv_goto (tgt := 54) hx hb d_NProgram_init_76 (by decide) ?_
        refine W.widen (k := 4 + 1 * (i + 1)) (n := 120 + 5 * (i + 1)) (by omega) (by omega) ?_
        exact ih37 (i + 1) g92 f99 _ H locs ls (by omega) (by omega) hE hN hL hI hEL m_x t_x e_x m_q1 t_q1 e_q1 y_q1 m_q10 t_q10 e_q10 y_q10 m_q19 t_q19 e_q19 y_q19 m_q25 t_q25 n_q25 hl hK hP hD hS
  exact lp33 37 0 g28 f30 _ H _ ls (by omega) (by omega) hE hN hL hI EL.nil m_x t_x e_x m_q1 t_q1 e_q1 y_q1 m_q10 t_q10 e_q10 y_q10 m_q19 t_q19 e_q19 y_q19 m_q25 t_q25 n_q25 hl hK hP hD hS

