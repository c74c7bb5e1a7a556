set_option maxHeartbeats 4000000 in
set_option maxRecDepth 100000 in
theorem c_R_next (l : Launch) (dC : Nat → ClassId) (dI : Nat → Nat → Nat) (sz : Nat) (y : Nat) (qt : Nat) (pr : Nat) : Met l ⟨"BigRunner$Reader", "next", "()C"⟩ [Cond.code ⟨"BigRunner$Reader", "next", "()C"⟩ prog_8_method_3_code 1 (some .char)] ({ frames := 0, cells := 0, slots := 0, locals := 0 }) (va_Pc [.ref y] (fun U => U.heap.size = sz ∧ TB U ∧ va_P (dC, dI) vcl [(y, .inr (7, [.ref qt, .int 0, .int 0, .ref pr]))] U.heap ∧ va_K (dC, dI) vcl [] U ∧ va_D (fun _ => True) [(y, .inr (7, [.ref qt, .int 0, .int 0, .ref pr]))])) (va_Qi (fun (r : Int32) (u : Unit) => match u with | _ => r = 32) (fun (u : Unit) (t : State) => match u with | _ => va_P (dC, dI) vcl [(y, .inr (7, [.ref qt, .int 0, .int 0, .ref pr]))] t.heap ∧ va_K (dC, dI) vcl [] t ∧ va_D (va_A [(y, .inr (7, [.ref qt, .int 0, .int 0, .ref pr]))] sz) [(y, .inr (7, [.ref qt, .int 0, .int 0, .ref pr]))]) (va_A [(y, .inr (7, [.ref qt, .int 0, .int 0, .ref pr]))] sz)) 0 0 (va_A [(y, .inr (7, [.ref qt, .int 0, .int 0, .ref pr]))] sz) := by
  refine Met.ofW (cc := prog_8_method_3_code) (maxL := 1) (ret := (some .char)) (by decide) rfl ?_
  intro p e s m args below meth c s₁ B hml hv
  obtain ⟨rfl, hsz, hB, hP, hK, hD0⟩ := hv
  have hx := B.exec
  have hb := B.bytes
  have hr := B.returns
  have hown : s.vm.findClass "BigRunner$Reader" = some m.cls := findClass_of_methodNamed B.named
  have hlocks := B.notSynchronized
  subst hsz
  have hD := hD0.self (sz := s.heap.size)
  generalize hAe : va_A [(y, .inr (7, [.ref qt, .int 0, .int 0, .ref pr]))] s.heap.size = A at hD ⊢
  have hA : ∀ q : Nat, s.heap.size ≤ q → A q := fun q h => by rw [← hAe]; exact Or.inr h
  have hS : va_S A s.heap s.heap [] := va_S.rf
  have hP : va_P (dC, dI) vcl [(y, .inr (7, [.ref qt, .int 0, .int 0, .ref pr]))] s.heap := hP
  have hl := lv_entry ([.ref y]) (n := 1) (Nat.le_of_ble_eq_true rfl)
  rw [lg_entry_eq]
  generalize (lg_sl ([.ref y]) ++ List.replicate (1 - (lg_sl ([.ref y])).length) Slot.unset).toArray = ls at hl ⊢
  have hl : lv_has ls 1 [(0, .ref y)] := hl
  refine lv_aload_n hx hb d_NReader_next_0 rfl (lv_at hl 0 rfl) ?_
  refine va_get (D := (dC, dI)) (ci := 7) (v := .int 0) (C := "BigRunner$Reader") (T := FT7) (N := 4) hx hb (hw7 hB _) (fun _ h9 => h9) hown hK hP 0 rfl rfl 2 (by decide) (wd_272 hB _) (fun _ h9 => h9) rfl d_NReader_next_1 ?_
  refine lv_aload_n hx hb d_NReader_next_4 rfl (lv_at hl 0 rfl) ?_
  refine va_get (D := (dC, dI)) (ci := 7) (v := .int 0) (C := "BigRunner$Reader") (T := FT7) (N := 4) hx hb (hw7 hB _) (fun _ h9 => h9) hown hK hP 0 rfl rfl 1 (by decide) (wd_271 hB _) (fun _ h9 => h9) rfl d_NReader_next_5 ?_
  refine lv_icmp_ge (tgt := 23) hx hb d_NReader_next_8 (by decide) (fun _ => ?_) (fun hq => absurd (by decide) hq)
  refine lv_bipush (v := 32) hx hb d_NReader_next_23 (by decide) ?_
  have hP9 := hP.sub (ws' := [(y, .inr (7, [.ref qt, .int 0, .int 0, .ref pr]))]) [0] rfl
  have hD9 := hD.sub (ws' := [(y, .inr (7, [.ref qt, .int 0, .int 0, .ref pr]))]) [0] (by decide) rfl
  have hK9 := hK.sub (tys' := []) [] rfl
  refine W.widen (k := 0) (n := 0) (by omega) (by omega) ?_
  exact W.zret (v := 32) (ty := .char) hx hb hr rfl (fun t ht hW => ⟨⟨32, (), rfl, rfl, by rw [ht]; exact hP9, va_K.moved hW.alike hK9, hD9⟩, hS.F ht⟩) hS.2.2 d_NReader_next_25
set_option maxHeartbeats 4000000 in
set_option maxRecDepth 100000 in
theorem c_R_accept (l : Launch) (dC : Nat → ClassId) (dI : Nat → Nat → Nat) (sz : Nat) (y : Nat) (qt : Nat) (pr : Nat) (k : Int32) (hk : ¬ (32 : Int32) = k) : Met l ⟨"BigRunner$Reader", "accept", "(C)Z"⟩ [Cond.code ⟨"BigRunner$Reader", "accept", "(C)Z"⟩ prog_8_method_4_code 2 (some .boolean)] ({ frames := 1, cells := 0, slots := 0, locals := 20 }) (va_Pc [.ref y, .int k] (fun U => U.heap.size = sz ∧ TB U ∧ va_P (dC, dI) vcl [(y, .inr (7, [.ref qt, .int 0, .int 0, .ref pr]))] U.heap ∧ va_K (dC, dI) vcl [] U ∧ va_D (fun _ => True) [(y, .inr (7, [.ref qt, .int 0, .int 0, .ref pr]))])) (va_Qi (fun (r : Int32) (u : Unit) => match u with | _ => r = 0) (fun (u : Unit) (t : State) => match u with | _ => va_P (dC, dI) vcl [(y, .inr (7, [.ref qt, .int 0, .int 0, .ref pr]))] t.heap ∧ va_K (dC, dI) vcl [] t ∧ va_D (va_A [(y, .inr (7, [.ref qt, .int 0, .int 0, .ref pr]))] sz) [(y, .inr (7, [.ref qt, .int 0, .int 0, .ref pr]))]) (va_A [(y, .inr (7, [.ref qt, .int 0, .int 0, .ref pr]))] sz)) 0 0 (va_A [(y, .inr (7, [.ref qt, .int 0, .int 0, .ref pr]))] sz) := by
  refine Met.ofW (cc := prog_8_method_4_code) (maxL := 2) (ret := (some .boolean)) (by decide) rfl ?_
  intro p e s m args below meth c s₁ B hml hv
  obtain ⟨rfl, hsz, hB, hP, hK, hD0⟩ := hv
  have hx := B.exec
  have hb := B.bytes
  have hr := B.returns
  have hown : s.vm.findClass "BigRunner$Reader" = some m.cls := findClass_of_methodNamed B.named
  have hlocks := B.notSynchronized
  subst hsz
  have hD := hD0.self (sz := s.heap.size)
  generalize hAe : va_A [(y, .inr (7, [.ref qt, .int 0, .int 0, .ref pr]))] s.heap.size = A at hD ⊢
  have hA : ∀ q : Nat, s.heap.size ≤ q → A q := fun q h => by rw [← hAe]; exact Or.inr h
  have hS : va_S A s.heap s.heap [] := va_S.rf
  have hP : va_P (dC, dI) vcl [(y, .inr (7, [.ref qt, .int 0, .int 0, .ref pr]))] s.heap := hP
  have hl := lv_entry ([.ref y, .int k]) (n := 2) (Nat.le_of_ble_eq_true rfl)
  rw [lg_entry_eq]
  generalize (lg_sl ([.ref y, .int k]) ++ List.replicate (2 - (lg_sl ([.ref y, .int k])).length) Slot.unset).toArray = ls at hl ⊢
  have hl : lv_has ls 2 [(0, .ref y), (1, .int k)] := hl
  refine lv_aload_n hx hb d_NReader_accept_0 rfl (lv_at hl 0 rfl) ?_
  have hPc := hP.sub (ws' := [(y, .inr (7, [.ref qt, .int 0, .int 0, .ref pr]))]) [0] rfl
  have hDc := hD.sub (ws' := [(y, .inr (7, [.ref qt, .int 0, .int 0, .ref pr]))]) [0] (by decide) rfl
  have hKc := hK.sub (tys' := []) [] rfl
  have hFc := va_free (wc := [(y, .inr (7, [.ref qt, .int 0, .int 0, .ref pr]))]) hD hS hA [0] rfl
  refine va_calli (va_runV (C := "BigRunner$Reader") (As := []) (rest := []) ⟨hx, hb, hml, hown, tb_nil⟩ (c_R_next l dC dI s.heap.size y qt pr) ⟨(callB_of 0 (tb_one (wd_476 hB _)) tb_good1 rfl rfl rfl (wd_73 hB _) (wd_473 hB _) (by decide +kernel) ⟨Nat.le_of_ble_eq_true rfl, Nat.le_of_ble_eq_true rfl⟩), (wd_475 hB _), (wd_5 hB _)⟩ ⟨fun a U g mk q => by obtain ⟨q0, q1, qB, qP, qK, qD⟩ := q; exact ⟨q0, q1, TB.same (s := U) (U := U.calling g mk a) rfl qB, qP, va_K.moved (u := U) (U := U.calling g mk a) (Vm.Alike.refl U.vm) qK, qD⟩, va_recv hK hP (q0 := 0) (ci := 7) rfl rfl, fun U hU hW => ⟨rfl, by rw [hU], hB.moved hW, by rw [hU]; exact hPc, va_K.moved hW.alike hKc, hDc.weaken (fun _ _ _ _ => trivial)⟩⟩ rfl rfl hl.1 rfl (lv_room (Nat.le_of_ble_eq_true rfl)) d_NReader_accept_1 ⟨(Nat.le_of_ble_eq_true rfl), (Nat.le_of_ble_eq_true rfl)⟩) hS (fun q _ h => hFc q h) hFc (fun r_ u_ t H1 locs ht hvm hw_ hB1 hz1 hk1 hS => ?_)
  obtain ⟨hP1, hK1, hD1⟩ := hB1
  rw [ht] at hP1
  have hK1 := va_K.moved hvm.symm hK1
  try dsimp only at hw_
  obtain ⟨hP, hD⟩ := va_join (wr := []) (w1 := [(y, .inr (7, [.ref qt, .int 0, .int 0, .ref pr]))]) hP hD [0] [] rfl rfl (by decide) (by decide) hk1 hFc hP1 hD1
  have hK := (hK.sub (tys' := []) [] rfl).app hK1
  clear hk1 hFc hPc hDc hKc hP1 hD1 hK1 hz1 ht hvm
  generalize H1 = H at hP hS ⊢
  have hP : va_P (dC, dI) vcl [(y, .inr (7, [.ref qt, .int 0, .int 0, .ref pr]))] H := hP
  have hD : va_D A [(y, .inr (7, [.ref qt, .int 0, .int 0, .ref pr]))] := hD
  have hK : va_K (dC, dI) vcl [] s := hK
  refine W.widen (k := 0) (n := 0) (by omega) (by omega) ?_
  refine lv_iload_n hx hb d_NReader_accept_4 rfl (lv_at hl 1 rfl) ?_
  subst hw_
  refine lv_icmp_eq (tgt := 10) hx hb d_NReader_accept_5 (by decide) (fun hq => absurd hq hk) (fun _ => ?_)
  refine lv_iconst (v := 0) hx hb d_NReader_accept_8 (by decide) ?_
  have hP9 := hP.sub (ws' := [(y, .inr (7, [.ref qt, .int 0, .int 0, .ref pr]))]) [0] rfl
  have hD9 := hD.sub (ws' := [(y, .inr (7, [.ref qt, .int 0, .int 0, .ref pr]))]) [0] (by decide) rfl
  have hK9 := hK.sub (tys' := []) [] rfl
  refine W.widen (k := 0) (n := 0) (by omega) (by omega) ?_
  exact W.zret (v := 0) (ty := .boolean) hx hb hr rfl (fun t ht hW => ⟨⟨0, (), rfl, rfl, by rw [ht]; exact hP9, va_K.moved hW.alike hK9, hD9⟩, hS.F ht⟩) hS.2.2 d_NReader_accept_9
set_option maxHeartbeats 4000000 in
set_option maxRecDepth 100000 in
theorem c_R_addStatement (l : Launch) (dC : Nat → ClassId) (dI : Nat → Nat → Nat) (sz : Nat) (y : Nat) (qt : Nat) (pr : Nat) (qs : Nat) (cs : ClassId) (fs : Nat → Option Nat) (q0 : Nat) (qn : Nat) (qv : Nat) (qi : Nat) (k : Int32) (hf : fs 0 = some q0) : Met l ⟨"BigRunner$Reader", "addStatement", "(I)I"⟩ [Cond.code ⟨"BigRunner$Reader", "addStatement", "(I)I"⟩ prog_8_method_16_code 2 (some .int)] ({ frames := 0, cells := 0, slots := 0, locals := 0 }) (va_Pc [.ref y, .int k] (fun U => U.heap.size = sz ∧ TB U ∧ va_P (dC, dI) vcl [(y, .inr (7, [.ref qt, .int 0, .int 0, .ref pr])), (pr, .inr (6, [.ref qs, .int 0, .ref qn, .int 0, .ref qv, .ref qi])), (qs, .inl (cs, 36, .inr (.inr (.inr (.inr (fs)))))), (q0, .inr (9, [.int 5, .int 0, .int 0, .int (-1), .int 0]))] U.heap ∧ va_K (dC, dI) vcl [(cs, (.object "BigRunner$Statement"))] U ∧ va_D (fun _ => True) [(y, .inr (7, [.ref qt, .int 0, .int 0, .ref pr])), (pr, .inr (6, [.ref qs, .int 0, .ref qn, .int 0, .ref qv, .ref qi])), (qs, .inl (cs, 36, .inr (.inr (.inr (.inr (fs)))))), (q0, .inr (9, [.int 5, .int 0, .int 0, .int (-1), .int 0]))])) (va_Qi (fun (r : Int32) (u : Unit) => match u with | _ => r = 0) (fun (u : Unit) (t : State) => match u with | _ => va_P (dC, dI) vcl [(y, .inr (7, [.ref qt, .int 0, .int 0, .ref pr]))] t.heap ∧ va_K (dC, dI) vcl [] t ∧ va_D (va_A [(y, .inr (7, [.ref qt, .int 0, .int 0, .ref pr])), (pr, .inr (6, [.ref qs, .int 0, .ref qn, .int 0, .ref qv, .ref qi])), (qs, .inl (cs, 36, .inr (.inr (.inr (.inr (fs)))))), (q0, .inr (9, [.int 5, .int 0, .int 0, .int (-1), .int 0]))] sz) [(y, .inr (7, [.ref qt, .int 0, .int 0, .ref pr]))]) (va_A [(y, .inr (7, [.ref qt, .int 0, .int 0, .ref pr])), (pr, .inr (6, [.ref qs, .int 0, .ref qn, .int 0, .ref qv, .ref qi])), (qs, .inl (cs, 36, .inr (.inr (.inr (.inr (fs)))))), (q0, .inr (9, [.int 5, .int 0, .int 0, .int (-1), .int 0]))] sz)) 0 0 (va_A [(y, .inr (7, [.ref qt, .int 0, .int 0, .ref pr])), (pr, .inr (6, [.ref qs, .int 0, .ref qn, .int 0, .ref qv, .ref qi])), (qs, .inl (cs, 36, .inr (.inr (.inr (.inr (fs)))))), (q0, .inr (9, [.int 5, .int 0, .int 0, .int (-1), .int 0]))] sz) := by
  refine Met.ofW (cc := prog_8_method_16_code) (maxL := 2) (ret := (some .int)) (by decide) rfl ?_
  intro p e s m args below meth c s₁ B hml hv
  obtain ⟨rfl, hsz, hB, hP, hK, hD0⟩ := hv
  have hx := B.exec
  have hb := B.bytes
  have hr := B.returns
  have hown : s.vm.findClass "BigRunner$Reader" = some m.cls := findClass_of_methodNamed B.named
  have hlocks := B.notSynchronized
  subst hsz
  have hD := hD0.self (sz := s.heap.size)
  generalize hAe : va_A [(y, .inr (7, [.ref qt, .int 0, .int 0, .ref pr])), (pr, .inr (6, [.ref qs, .int 0, .ref qn, .int 0, .ref qv, .ref qi])), (qs, .inl (cs, 36, .inr (.inr (.inr (.inr (fs)))))), (q0, .inr (9, [.int 5, .int 0, .int 0, .int (-1), .int 0]))] s.heap.size = A at hD ⊢
  have hA : ∀ q : Nat, s.heap.size ≤ q → A q := fun q h => by rw [← hAe]; exact Or.inr h
  have hS : va_S A s.heap s.heap [] := va_S.rf
  have hP : va_P (dC, dI) vcl [(y, .inr (7, [.ref qt, .int 0, .int 0, .ref pr])), (pr, .inr (6, [.ref qs, .int 0, .ref qn, .int 0, .ref qv, .ref qi])), (qs, .inl (cs, 36, .inr (.inr (.inr (.inr (fs)))))), (q0, .inr (9, [.int 5, .int 0, .int 0, .int (-1), .int 0]))] s.heap := hP
  have hl := lv_entry ([.ref y, .int k]) (n := 2) (Nat.le_of_ble_eq_true rfl)
  rw [lg_entry_eq]
  generalize (lg_sl ([.ref y, .int k]) ++ List.replicate (2 - (lg_sl ([.ref y, .int k])).length) Slot.unset).toArray = ls at hl ⊢
  have hl : lv_has ls 2 [(0, .ref y), (1, .int k)] := hl
  refine lv_aload_n hx hb d_NReader_addStatement_0 rfl (lv_at hl 0 rfl) ?_
  refine va_get (D := (dC, dI)) (ci := 7) (v := .ref pr) (C := "BigRunner$Reader") (T := FT7) (N := 4) hx hb (hw7 hB _) (fun _ h9 => h9) hown hK hP 0 rfl rfl 3 (by decide) (wd_273 hB _) (fun _ h9 => h9) rfl d_NReader_addStatement_1 ?_
  refine va_get (D := (dC, dI)) (ci := 6) (v := .int 0) (C := "BigRunner$Program") (T := FT6) (N := 6) hx hb (hw6 hB _) (fun _ h9 => h9) hown hK hP 1 rfl rfl 1 (by decide) (wd_246 hB _) (fun _ h9 => h9) rfl d_NReader_addStatement_4 ?_
  refine lv_aload_n hx hb d_NReader_addStatement_7 rfl (lv_at hl 0 rfl) ?_
  refine va_get (D := (dC, dI)) (ci := 7) (v := .ref pr) (C := "BigRunner$Reader") (T := FT7) (N := 4) hx hb (hw7 hB _) (fun _ h9 => h9) hown hK hP 0 rfl rfl 3 (by decide) (wd_273 hB _) (fun _ h9 => h9) rfl d_NReader_addStatement_8 ?_
  refine va_get (D := (dC, dI)) (ci := 6) (v := .ref qs) (C := "BigRunner$Program") (T := FT6) (N := 6) hx hb (hw6 hB _) (fun _ h9 => h9) hown hK hP 1 rfl rfl 0 (by decide) (wd_244 hB _) (fun _ h9 => h9) rfl d_NReader_addStatement_11 ?_
  refine va_alen (D := (dC, dI)) (v := 36) hx hb hK hP 2 0 rfl rfl rfl d_NReader_addStatement_14 ?_
  refine lv_icmp_lt (tgt := 20) hx hb d_NReader_addStatement_15 (by decide) (fun _ => ?_) (fun hq => absurd (by decide) hq)
  refine lv_aload_n hx hb d_NReader_addStatement_20 rfl (lv_at hl 0 rfl) ?_
  refine va_get (D := (dC, dI)) (ci := 7) (v := .ref pr) (C := "BigRunner$Reader") (T := FT7) (N := 4) hx hb (hw7 hB _) (fun _ h9 => h9) hown hK hP 0 rfl rfl 3 (by decide) (wd_273 hB _) (fun _ h9 => h9) rfl d_NReader_addStatement_21 ?_
  refine va_get (D := (dC, dI)) (ci := 6) (v := .ref qs) (C := "BigRunner$Program") (T := FT6) (N := 6) hx hb (hw6 hB _) (fun _ h9 => h9) hown hK hP 1 rfl rfl 0 (by decide) (wd_244 hB _) (fun _ h9 => h9) rfl d_NReader_addStatement_24 ?_
  refine lv_aload_n hx hb d_NReader_addStatement_27 rfl (lv_at hl 0 rfl) ?_
  refine va_get (D := (dC, dI)) (ci := 7) (v := .ref pr) (C := "BigRunner$Reader") (T := FT7) (N := 4) hx hb (hw7 hB _) (fun _ h9 => h9) hown hK hP 0 rfl rfl 3 (by decide) (wd_273 hB _) (fun _ h9 => h9) rfl d_NReader_addStatement_28 ?_
  refine va_get (D := (dC, dI)) (ci := 6) (v := .int 0) (C := "BigRunner$Program") (T := FT6) (N := 6) hx hb (hw6 hB _) (fun _ h9 => h9) hown hK hP 1 rfl rfl 1 (by decide) (wd_246 hB _) (fun _ h9 => h9) rfl d_NReader_addStatement_31 ?_
  refine va_aldq (D := (dC, dI)) hx hb hK hP 2 0 rfl rfl (vp_in_nI (n := 0) (by decide) (by decide)) d_NReader_addStatement_34 ?_
  rw [show fs (0 : Int32).toNatClampNeg = some q0 from hf]
  refine W.eq (g2 := F0 m 35 ls [.ref q0]) rfl ?_
  refine lv_iload_n hx hb d_NReader_addStatement_35 rfl (lv_at hl 1 rfl) ?_
  refine va_put (D := (dC, dI)) (ci := 9) (v := .int k) (ty := .int) (C := "BigRunner$Statement") (T := FT9) (N := 5) hx hb (hw9 hB _) (fun _ h9 => h9) TY9 ok9 nm9 hown hK hP hD hS 3 rfl rfl 0 (by decide) (wd_146 hB _) (fun _ h9 => h9) rfl (by decide +kernel) rfl rfl (Nat.le_of_ble_eq_true rfl) d_NReader_addStatement_36 (fun H locs hP hD hS => ?_)
  have hP : va_P (dC, dI) vcl [(y, .inr (7, [.ref qt, .int 0, .int 0, .ref pr])), (pr, .inr (6, [.ref qs, .int 0, .ref qn, .int 0, .ref qv, .ref qi])), (qs, .inl (cs, 36, .inr (.inr (.inr (.inr (fs)))))), (q0, .inr (9, [.int k, .int 0, .int 0, .int (-1), .int 0]))] H := hP
  have hD : va_D A [(y, .inr (7, [.ref qt, .int 0, .int 0, .ref pr])), (pr, .inr (6, [.ref qs, .int 0, .ref qn, .int 0, .ref qv, .ref qi])), (qs, .inl (cs, 36, .inr (.inr (.inr (.inr (fs)))))), (q0, .inr (9, [.int k, .int 0, .int 0, .int (-1), .int 0]))] := hD
  refine lv_aload_n hx hb d_NReader_addStatement_39 rfl (lv_at hl 0 rfl) ?_
  refine va_get (D := (dC, dI)) (ci := 7) (v := .ref pr) (C := "BigRunner$Reader") (T := FT7) (N := 4) hx hb (hw7 hB _) (fun _ h9 => h9) hown hK hP 0 rfl rfl 3 (by decide) (wd_273 hB _) (fun _ h9 => h9) rfl d_NReader_addStatement_40 ?_
  refine lv_dup hx hb d_NReader_addStatement_43 rfl ?_
  refine va_get (D := (dC, dI)) (ci := 6) (v := .int 0) (C := "BigRunner$Program") (T := FT6) (N := 6) hx hb (hw6 hB _) (fun _ h9 => h9) hown hK hP 1 rfl rfl 1 (by decide) (wd_246 hB _) (fun _ h9 => h9) rfl d_NReader_addStatement_44 ?_
  refine lv_iconst (v := 1) hx hb d_NReader_addStatement_47 (by decide) ?_
  refine lv_iadd hx hb d_NReader_addStatement_48 ?_
  refine lv_topi (fun z_ hz_ => ?_)
  have hz_ : z_ = 1 := hz_.trans (by decide)
  subst hz_
  refine va_put (D := (dC, dI)) (ci := 6) (v := .int 1) (ty := .int) (C := "BigRunner$Program") (T := FT6) (N := 6) hx hb (hw6 hB _) (fun _ h9 => h9) TY6 ok6 nm6 hown hK hP hD hS 1 rfl rfl 1 (by decide) (wd_246 hB _) (fun _ h9 => h9) rfl (by decide +kernel) rfl rfl (Nat.le_of_ble_eq_true rfl) d_NReader_addStatement_49 (fun H locs hP hD hS => ?_)
  have hP : va_P (dC, dI) vcl [(y, .inr (7, [.ref qt, .int 0, .int 0, .ref pr])), (pr, .inr (6, [.ref qs, .int 1, .ref qn, .int 0, .ref qv, .ref qi])), (qs, .inl (cs, 36, .inr (.inr (.inr (.inr (fs)))))), (q0, .inr (9, [.int k, .int 0, .int 0, .int (-1), .int 0]))] H := hP
  have hD : va_D A [(y, .inr (7, [.ref qt, .int 0, .int 0, .ref pr])), (pr, .inr (6, [.ref qs, .int 1, .ref qn, .int 0, .ref qv, .ref qi])), (qs, .inl (cs, 36, .inr (.inr (.inr (.inr (fs)))))), (q0, .inr (9, [.int k, .int 0, .int 0, .int (-1), .int 0]))] := hD
  refine lv_aload_n hx hb d_NReader_addStatement_52 rfl (lv_at hl 0 rfl) ?_
  refine va_get (D := (dC, dI)) (ci := 7) (v := .ref pr) (C := "BigRunner$Reader") (T := FT7) (N := 4) hx hb (hw7 hB _) (fun _ h9 => h9) hown hK hP 0 rfl rfl 3 (by decide) (wd_273 hB _) (fun _ h9 => h9) rfl d_NReader_addStatement_53 ?_
  refine va_get (D := (dC, dI)) (ci := 6) (v := .int 1) (C := "BigRunner$Program") (T := FT6) (N := 6) hx hb (hw6 hB _) (fun _ h9 => h9) hown hK hP 1 rfl rfl 1 (by decide) (wd_246 hB _) (fun _ h9 => h9) rfl d_NReader_addStatement_56 ?_
  refine lv_iconst (v := 1) hx hb d_NReader_addStatement_59 (by decide) ?_
  refine lv_isub hx hb d_NReader_addStatement_60 ?_
  refine lv_topi (fun z_ hz_ => ?_)
  have hz_ : z_ = 0 := hz_.trans (by decide)
  subst hz_
  have hP9 := hP.sub (ws' := [(y, .inr (7, [.ref qt, .int 0, .int 0, .ref pr]))]) [0] rfl
  have hD9 := hD.sub (ws' := [(y, .inr (7, [.ref qt, .int 0, .int 0, .ref pr]))]) [0] (by decide) rfl
  have hK9 := hK.sub (tys' := []) [] rfl
  refine W.widen (k := 0) (n := 0) (by omega) (by omega) ?_
  exact W.iret (v := 0) hx hb hr (fun t ht hW => ⟨⟨0, (), rfl, rfl, by rw [ht]; exact hP9, va_K.moved hW.alike hK9, hD9⟩, hS.F ht⟩) hS.2.2 d_NReader_addStatement_61
set_option maxHeartbeats 4000000 in
set_option maxRecDepth 100000 in
theorem c_R_readName (l : Launch) (dC : Nat → ClassId) (dI : Nat → Nat → Nat) (sz : Nat) (y : Nat) (qt : Nat) (pr : Nat) : Met l ⟨"BigRunner$Reader", "readName", "(I)Z"⟩ [Cond.code ⟨"BigRunner$Reader", "readName", "(I)Z"⟩ prog_8_method_9_code 3 (some .boolean)] ({ frames := 1, cells := 0, slots := 0, locals := 20 }) (va_Pc [.ref y, .int 0] (fun U => U.heap.size = sz ∧ TB U ∧ va_P (dC, dI) vcl [(y, .inr (7, [.ref qt, .int 0, .int 0, .ref pr]))] U.heap ∧ va_K (dC, dI) vcl [] U ∧ va_D (fun _ => True) [(y, .inr (7, [.ref qt, .int 0, .int 0, .ref pr]))])) (va_Qi (fun (r : Int32) (u : Unit) => match u with | _ => r = 0) (fun (u : Unit) (t : State) => match u with | _ => va_P (dC, dI) vcl [(y, .inr (7, [.ref qt, .int 0, .int 0, .ref pr]))] t.heap ∧ va_K (dC, dI) vcl [] t ∧ va_D (va_A [(y, .inr (7, [.ref qt, .int 0, .int 0, .ref pr]))] sz) [(y, .inr (7, [.ref qt, .int 0, .int 0, .ref pr]))]) (va_A [(y, .inr (7, [.ref qt, .int 0, .int 0, .ref pr]))] sz)) 0 0 (va_A [(y, .inr (7, [.ref qt, .int 0, .int 0, .ref pr]))] sz) := by
  refine Met.ofW (cc := prog_8_method_9_code) (maxL := 3) (ret := (some .boolean)) (by decide) rfl ?_
  intro p e s m args below meth c s₁ B hml hv
  obtain ⟨rfl, hsz, hB, hP, hK, hD0⟩ := hv
  have hx := B.exec
  have hb := B.bytes
  have hr := B.returns
  have hown : s.vm.findClass "BigRunner$Reader" = some m.cls := findClass_of_methodNamed B.named
  have hlocks := B.notSynchronized
  subst hsz
  have hD := hD0.self (sz := s.heap.size)
  generalize hAe : va_A [(y, .inr (7, [.ref qt, .int 0, .int 0, .ref pr]))] s.heap.size = A at hD ⊢
  have hA : ∀ q : Nat, s.heap.size ≤ q → A q := fun q h => by rw [← hAe]; exact Or.inr h
  have hS : va_S A s.heap s.heap [] := va_S.rf
  have hP : va_P (dC, dI) vcl [(y, .inr (7, [.ref qt, .int 0, .int 0, .ref pr]))] s.heap := hP
  have hl := lv_entry ([.ref y, .int 0]) (n := 3) (Nat.le_of_ble_eq_true rfl)
  rw [lg_entry_eq]
  generalize (lg_sl ([.ref y, .int 0]) ++ List.replicate (3 - (lg_sl ([.ref y, .int 0])).length) Slot.unset).toArray = ls at hl ⊢
  have hl : lv_has ls 3 [(0, .ref y), (1, .int 0)] := hl
  refine lv_aload_n hx hb d_NReader_readName_0 rfl (lv_at hl 0 rfl) ?_
  have hPc := hP.sub (ws' := [(y, .inr (7, [.ref qt, .int 0, .int 0, .ref pr]))]) [0] rfl
  have hDc := hD.sub (ws' := [(y, .inr (7, [.ref qt, .int 0, .int 0, .ref pr]))]) [0] (by decide) rfl
  have hKc := hK.sub (tys' := []) [] rfl
  have hFc := va_free (wc := [(y, .inr (7, [.ref qt, .int 0, .int 0, .ref pr]))]) hD hS hA [0] rfl
  refine va_calli (va_runV (C := "BigRunner$Reader") (As := []) (rest := []) ⟨hx, hb, hml, hown, tb_nil⟩ (c_R_next l dC dI s.heap.size y qt pr) ⟨(callB_of 0 (tb_one (wd_476 hB _)) tb_good1 rfl rfl rfl (wd_73 hB _) (wd_473 hB _) (by decide +kernel) ⟨Nat.le_of_ble_eq_true rfl, Nat.le_of_ble_eq_true rfl⟩), (wd_475 hB _), (wd_5 hB _)⟩ ⟨fun a U g mk q => by obtain ⟨q0, q1, qB, qP, qK, qD⟩ := q; exact ⟨q0, q1, TB.same (s := U) (U := U.calling g mk a) rfl qB, qP, va_K.moved (u := U) (U := U.calling g mk a) (Vm.Alike.refl U.vm) qK, qD⟩, va_recv hK hP (q0 := 0) (ci := 7) rfl rfl, fun U hU hW => ⟨rfl, by rw [hU], hB.moved hW, by rw [hU]; exact hPc, va_K.moved hW.alike hKc, hDc.weaken (fun _ _ _ _ => trivial)⟩⟩ rfl rfl hl.1 rfl (lv_room (Nat.le_of_ble_eq_true rfl)) d_NReader_readName_1 ⟨(Nat.le_of_ble_eq_true rfl), (Nat.le_of_ble_eq_true rfl)⟩) hS (fun q _ h => hFc q h) hFc (fun r_ u_ t H1 locs ht hvm hw_ hB1 hz1 hk1 hS => ?_)
  obtain ⟨hP1, hK1, hD1⟩ := hB1
  rw [ht] at hP1
  have hK1 := va_K.moved hvm.symm hK1
  try dsimp only at hw_
  obtain ⟨hP, hD⟩ := va_join (wr := []) (w1 := [(y, .inr (7, [.ref qt, .int 0, .int 0, .ref pr]))]) hP hD [0] [] rfl rfl (by decide) (by decide) hk1 hFc hP1 hD1
  have hK := (hK.sub (tys' := []) [] rfl).app hK1
  clear hk1 hFc hPc hDc hKc hP1 hD1 hK1 hz1 ht hvm
  generalize H1 = H at hP hS ⊢
  have hP : va_P (dC, dI) vcl [(y, .inr (7, [.ref qt, .int 0, .int 0, .ref pr]))] H := hP
  have hD : va_D A [(y, .inr (7, [.ref qt, .int 0, .int 0, .ref pr]))] := hD
  have hK : va_K (dC, dI) vcl [] s := hK
  refine W.widen (k := 0) (n := 0) (by omega) (by omega) ?_
  subst hw_
  refine lv_istore_n (lv' := [(2, .int 32), (0, .ref y), (1, .int 0)]) hx hb d_NReader_readName_4 rfl hl (by decide) rfl (fun ls hl => ?_)
  refine lv_iload_n hx hb d_NReader_readName_5 rfl (lv_at hl 2 rfl) ?_
  refine lv_iconst (v := (-1)) hx hb d_NReader_readName_6 (by decide) ?_
  refine lv_icmp_eq (tgt := 22) hx hb d_NReader_readName_7 (by decide) (fun hq => absurd hq (by decide)) (fun _ => ?_)
  refine lv_iload_n hx hb d_NReader_readName_10 rfl (lv_at hl 0 rfl) ?_
  refine lv_bipush (v := 97) hx hb d_NReader_readName_11 (by decide) ?_
  refine lv_icmp_lt (tgt := 22) hx hb d_NReader_readName_13 (by decide) (fun _ => ?_) (fun hq => absurd (by decide) hq)
  refine lv_iconst (v := 0) hx hb d_NReader_readName_22 (by decide) ?_
  have hP9 := hP.sub (ws' := [(y, .inr (7, [.ref qt, .int 0, .int 0, .ref pr]))]) [0] rfl
  have hD9 := hD.sub (ws' := [(y, .inr (7, [.ref qt, .int 0, .int 0, .ref pr]))]) [0] (by decide) rfl
  have hK9 := hK.sub (tys' := []) [] rfl
  refine W.widen (k := 0) (n := 0) (by omega) (by omega) ?_
  exact W.zret (v := 0) (ty := .boolean) hx hb hr rfl (fun t ht hW => ⟨⟨0, (), rfl, rfl, by rw [ht]; exact hP9, va_K.moved hW.alike hK9, hD9⟩, hS.F ht⟩) hS.2.2 d_NReader_readName_23
set_option maxHeartbeats 4000000 in
set_option maxRecDepth 100000 in
theorem c_R_readStatement (l : Launch) (dC : Nat → ClassId) (dI : Nat → Nat → Nat) (sz : Nat) (y : Nat) (qt : Nat) (pr : Nat) (qs : Nat) (cs : ClassId) (fs : Nat → Option Nat) (q0 : Nat) (qn : Nat) (qv : Nat) (qi : Nat) (hf : fs 0 = some q0) : Met l ⟨"BigRunner$Reader", "readStatement", "(I)Z"⟩ [Cond.code ⟨"BigRunner$Reader", "readStatement", "(I)Z"⟩ prog_8_method_6_code 3 (some .boolean)] ({ frames := 2, cells := 0, slots := 0, locals := 42 }) (va_Pc [.ref y, .int 1] (fun U => U.heap.size = sz ∧ TB U ∧ va_P (dC, dI) vcl [(y, .inr (7, [.ref qt, .int 0, .int 0, .ref pr])), (pr, .inr (6, [.ref qs, .int 0, .ref qn, .int 0, .ref qv, .ref qi])), (qs, .inl (cs, 36, .inr (.inr (.inr (.inr (fs)))))), (q0, .inr (9, [.int 5, .int 0, .int 0, .int (-1), .int 0]))] U.heap ∧ va_K (dC, dI) vcl [(cs, (.object "BigRunner$Statement"))] U ∧ va_D (fun _ => True) [(y, .inr (7, [.ref qt, .int 0, .int 0, .ref pr])), (pr, .inr (6, [.ref qs, .int 0, .ref qn, .int 0, .ref qv, .ref qi])), (qs, .inl (cs, 36, .inr (.inr (.inr (.inr (fs)))))), (q0, .inr (9, [.int 5, .int 0, .int 0, .int (-1), .int 0]))])) (va_Qi (fun (r : Int32) (u : Unit) => match u with | _ => r = 0) (fun (u : Unit) (t : State) => match u with | _ => va_P (dC, dI) vcl [] t.heap ∧ va_K (dC, dI) vcl [] t ∧ va_D (va_A [(y, .inr (7, [.ref qt, .int 0, .int 0, .ref pr])), (pr, .inr (6, [.ref qs, .int 0, .ref qn, .int 0, .ref qv, .ref qi])), (qs, .inl (cs, 36, .inr (.inr (.inr (.inr (fs)))))), (q0, .inr (9, [.int 5, .int 0, .int 0, .int (-1), .int 0]))] sz) []) (va_A [(y, .inr (7, [.ref qt, .int 0, .int 0, .ref pr])), (pr, .inr (6, [.ref qs, .int 0, .ref qn, .int 0, .ref qv, .ref qi])), (qs, .inl (cs, 36, .inr (.inr (.inr (.inr (fs)))))), (q0, .inr (9, [.int 5, .int 0, .int 0, .int (-1), .int 0]))] sz)) 0 0 (va_A [(y, .inr (7, [.ref qt, .int 0, .int 0, .ref pr])), (pr, .inr (6, [.ref qs, .int 0, .ref qn, .int 0, .ref qv, .ref qi])), (qs, .inl (cs, 36, .inr (.inr (.inr (.inr (fs)))))), (q0, .inr (9, [.int 5, .int 0, .int 0, .int (-1), .int 0]))] sz) := by
  refine Met.ofW (cc := prog_8_method_6_code) (maxL := 3) (ret := (some .boolean)) (by decide) rfl ?_
  intro p e s m args below meth c s₁ B hml hv
  obtain ⟨rfl, hsz, hB, hP, hK, hD0⟩ := hv
  have hx := B.exec
  have hb := B.bytes
  have hr := B.returns
  have hown : s.vm.findClass "BigRunner$Reader" = some m.cls := findClass_of_methodNamed B.named
  have hlocks := B.notSynchronized
  subst hsz
  have hD := hD0.self (sz := s.heap.size)
  generalize hAe : va_A [(y, .inr (7, [.ref qt, .int 0, .int 0, .ref pr])), (pr, .inr (6, [.ref qs, .int 0, .ref qn, .int 0, .ref qv, .ref qi])), (qs, .inl (cs, 36, .inr (.inr (.inr (.inr (fs)))))), (q0, .inr (9, [.int 5, .int 0, .int 0, .int (-1), .int 0]))] s.heap.size = A at hD ⊢
  have hA : ∀ q : Nat, s.heap.size ≤ q → A q := fun q h => by rw [← hAe]; exact Or.inr h
  have hS : va_S A s.heap s.heap [] := va_S.rf
  have hP : va_P (dC, dI) vcl [(y, .inr (7, [.ref qt, .int 0, .int 0, .ref pr])), (pr, .inr (6, [.ref qs, .int 0, .ref qn, .int 0, .ref qv, .ref qi])), (qs, .inl (cs, 36, .inr (.inr (.inr (.inr (fs)))))), (q0, .inr (9, [.int 5, .int 0, .int 0, .int (-1), .int 0]))] s.heap := hP
  have hl := lv_entry ([.ref y, .int 1]) (n := 3) (Nat.le_of_ble_eq_true rfl)
  rw [lg_entry_eq]
  generalize (lg_sl ([.ref y, .int 1]) ++ List.replicate (3 - (lg_sl ([.ref y, .int 1])).length) Slot.unset).toArray = ls at hl ⊢
  have hl : lv_has ls 3 [(0, .ref y), (1, .int 1)] := hl
  refine lv_aload_n hx hb d_NReader_readStatement_0 rfl (lv_at hl 0 rfl) ?_
  refine lv_bipush (v := 63) hx hb d_NReader_readStatement_1 (by decide) ?_
  have hPc := hP.sub (ws' := [(y, .inr (7, [.ref qt, .int 0, .int 0, .ref pr]))]) [0] rfl
  have hDc := hD.sub (ws' := [(y, .inr (7, [.ref qt, .int 0, .int 0, .ref pr]))]) [0] (by decide) rfl
  have hKc := hK.sub (tys' := []) [] rfl
  have hFc := va_free (wc := [(y, .inr (7, [.ref qt, .int 0, .int 0, .ref pr]))]) hD hS hA [0] rfl
  refine va_calli (va_runV (C := "BigRunner$Reader") (As := [.int 63]) (rest := []) ⟨hx, hb, hml, hown, tb_nil⟩ (c_R_accept l dC dI s.heap.size y qt pr 63 (by decide)) ⟨(callB_of 1 (tb_one (wd_472 hB _)) tb_good1 rfl rfl rfl (wd_73 hB _) (wd_469 hB _) (by decide +kernel) ⟨Nat.le_of_ble_eq_true rfl, Nat.le_of_ble_eq_true rfl⟩), (wd_471 hB _), (wd_4 hB _)⟩ ⟨fun a U g mk q => by obtain ⟨q0, q1, qB, qP, qK, qD⟩ := q; exact ⟨q0, q1, TB.same (s := U) (U := U.calling g mk a) rfl qB, qP, va_K.moved (u := U) (U := U.calling g mk a) (Vm.Alike.refl U.vm) qK, qD⟩, va_recv hK hP (q0 := 0) (ci := 7) rfl rfl, fun U hU hW => ⟨rfl, by rw [hU], hB.moved hW, by rw [hU]; exact hPc, va_K.moved hW.alike hKc, hDc.weaken (fun _ _ _ _ => trivial)⟩⟩ rfl rfl hl.1 rfl (lv_room (Nat.le_of_ble_eq_true rfl)) d_NReader_readStatement_3 ⟨(Nat.le_of_ble_eq_true rfl), (Nat.le_of_ble_eq_true rfl)⟩) hS (fun q _ h => hFc q h) hFc (fun r_ u_ t H1 locs ht hvm hw_ hB1 hz1 hk1 hS => ?_)
  obtain ⟨hP1, hK1, hD1⟩ := hB1
  rw [ht] at hP1
  have hK1 := va_K.moved hvm.symm hK1
  try dsimp only at hw_
  obtain ⟨hP, hD⟩ := va_join (wr := [(pr, .inr (6, [.ref qs, .int 0, .ref qn, .int 0, .ref qv, .ref qi])), (qs, .inl (cs, 36, .inr (.inr (.inr (.inr (fs)))))), (q0, .inr (9, [.int 5, .int 0, .int 0, .int (-1), .int 0]))]) (w1 := [(y, .inr (7, [.ref qt, .int 0, .int 0, .ref pr]))]) hP hD [0] [1, 2, 3] rfl rfl (by decide) (by decide) hk1 hFc hP1 hD1
  have hK := (hK.sub (tys' := [(cs, (.object "BigRunner$Statement"))]) [0] rfl).app hK1
  clear hk1 hFc hPc hDc hKc hP1 hD1 hK1 hz1 ht hvm
  generalize H1 = H at hP hS ⊢
  have hP : va_P (dC, dI) vcl [(pr, .inr (6, [.ref qs, .int 0, .ref qn, .int 0, .ref qv, .ref qi])), (qs, .inl (cs, 36, .inr (.inr (.inr (.inr (fs)))))), (q0, .inr (9, [.int 5, .int 0, .int 0, .int (-1), .int 0])), (y, .inr (7, [.ref qt, .int 0, .int 0, .ref pr]))] H := hP
  have hD : va_D A [(pr, .inr (6, [.ref qs, .int 0, .ref qn, .int 0, .ref qv, .ref qi])), (qs, .inl (cs, 36, .inr (.inr (.inr (.inr (fs)))))), (q0, .inr (9, [.int 5, .int 0, .int 0, .int (-1), .int 0])), (y, .inr (7, [.ref qt, .int 0, .int 0, .ref pr]))] := hD
  have hK : va_K (dC, dI) vcl [(cs, (.object "BigRunner$Statement"))] s := hK
  refine W.widen (k := 0) (n := 0) (by omega) (by omega) ?_
  subst hw_
  refine lv_if_eq (tgt := 19) hx hb d_NReader_readStatement_6 (by decide) (fun _ => ?_) (fun hq => absurd rfl hq)
  refine lv_aload_n hx hb d_NReader_readStatement_19 rfl (lv_at hl 0 rfl) ?_
  refine lv_bipush (v := 33) hx hb d_NReader_readStatement_20 (by decide) ?_
  have hPc := hP.sub (ws' := [(y, .inr (7, [.ref qt, .int 0, .int 0, .ref pr]))]) [3] rfl
  have hDc := hD.sub (ws' := [(y, .inr (7, [.ref qt, .int 0, .int 0, .ref pr]))]) [3] (by decide) rfl
  have hKc := hK.sub (tys' := []) [] rfl
  have hFc := va_free (wc := [(y, .inr (7, [.ref qt, .int 0, .int 0, .ref pr]))]) hD hS hA [3] rfl
  refine va_calli (va_runV (C := "BigRunner$Reader") (As := [.int 33]) (rest := []) ⟨hx, hb, hml, hown, tb_nil⟩ (c_R_accept l dC dI H.size y qt pr 33 (by decide)) ⟨(callB_of 1 (tb_one (wd_472 hB _)) tb_good1 rfl rfl rfl (wd_73 hB _) (wd_469 hB _) (by decide +kernel) ⟨Nat.le_of_ble_eq_true rfl, Nat.le_of_ble_eq_true rfl⟩), (wd_471 hB _), (wd_4 hB _)⟩ ⟨fun a U g mk q => by obtain ⟨q0, q1, qB, qP, qK, qD⟩ := q; exact ⟨q0, q1, TB.same (s := U) (U := U.calling g mk a) rfl qB, qP, va_K.moved (u := U) (U := U.calling g mk a) (Vm.Alike.refl U.vm) qK, qD⟩, va_recv hK hP (q0 := 3) (ci := 7) rfl rfl, fun U hU hW => ⟨rfl, by rw [hU], hB.moved hW, by rw [hU]; exact hPc, va_K.moved hW.alike hKc, hDc.weaken (fun _ _ _ _ => trivial)⟩⟩ rfl rfl hl.1 rfl (lv_room (Nat.le_of_ble_eq_true rfl)) d_NReader_readStatement_22 ⟨(Nat.le_of_ble_eq_true rfl), (Nat.le_of_ble_eq_true rfl)⟩) hS (fun q _ h => hFc q h) hFc (fun r_ u_ t H1 locs ht hvm hw_ hB1 hz1 hk1 hS => ?_)
  obtain ⟨hP1, hK1, hD1⟩ := hB1
  rw [ht] at hP1
  have hK1 := va_K.moved hvm.symm hK1
  try dsimp only at hw_
  obtain ⟨hP, hD⟩ := va_join (wr := [(pr, .inr (6, [.ref qs, .int 0, .ref qn, .int 0, .ref qv, .ref qi])), (qs, .inl (cs, 36, .inr (.inr (.inr (.inr (fs)))))), (q0, .inr (9, [.int 5, .int 0, .int 0, .int (-1), .int 0]))]) (w1 := [(y, .inr (7, [.ref qt, .int 0, .int 0, .ref pr]))]) hP hD [3] [0, 1, 2] rfl rfl (by decide) (by decide) hk1 hFc hP1 hD1
  have hK := (hK.sub (tys' := [(cs, (.object "BigRunner$Statement"))]) [0] rfl).app hK1
  clear hk1 hFc hPc hDc hKc hP1 hD1 hK1 hz1 ht hvm
  generalize H1 = H at hP hS ⊢
  have hP : va_P (dC, dI) vcl [(pr, .inr (6, [.ref qs, .int 0, .ref qn, .int 0, .ref qv, .ref qi])), (qs, .inl (cs, 36, .inr (.inr (.inr (.inr (fs)))))), (q0, .inr (9, [.int 5, .int 0, .int 0, .int (-1), .int 0])), (y, .inr (7, [.ref qt, .int 0, .int 0, .ref pr]))] H := hP
  have hD : va_D A [(pr, .inr (6, [.ref qs, .int 0, .ref qn, .int 0, .ref qv, .ref qi])), (qs, .inl (cs, 36, .inr (.inr (.inr (.inr (fs)))))), (q0, .inr (9, [.int 5, .int 0, .int 0, .int (-1), .int 0])), (y, .inr (7, [.ref qt, .int 0, .int 0, .ref pr]))] := hD
  have hK : va_K (dC, dI) vcl [(cs, (.object "BigRunner$Statement"))] s := hK
  refine W.widen (k := 0) (n := 0) (by omega) (by omega) ?_
  subst hw_
  refine lv_if_eq (tgt := 39) hx hb d_NReader_readStatement_25 (by decide) (fun _ => ?_) (fun hq => absurd rfl hq)
  refine lv_aload_n hx hb d_NReader_readStatement_39 rfl (lv_at hl 0 rfl) ?_
  refine lv_bipush (v := 91) hx hb d_NReader_readStatement_40 (by decide) ?_
  have hPc := hP.sub (ws' := [(y, .inr (7, [.ref qt, .int 0, .int 0, .ref pr]))]) [3] rfl
  have hDc := hD.sub (ws' := [(y, .inr (7, [.ref qt, .int 0, .int 0, .ref pr]))]) [3] (by decide) rfl
  have hKc := hK.sub (tys' := []) [] rfl
  have hFc := va_free (wc := [(y, .inr (7, [.ref qt, .int 0, .int 0, .ref pr]))]) hD hS hA [3] rfl
  refine va_calli (va_runV (C := "BigRunner$Reader") (As := [.int 91]) (rest := []) ⟨hx, hb, hml, hown, tb_nil⟩ (c_R_accept l dC dI H.size y qt pr 91 (by decide)) ⟨(callB_of 1 (tb_one (wd_472 hB _)) tb_good1 rfl rfl rfl (wd_73 hB _) (wd_469 hB _) (by decide +kernel) ⟨Nat.le_of_ble_eq_true rfl, Nat.le_of_ble_eq_true rfl⟩), (wd_471 hB _), (wd_4 hB _)⟩ ⟨fun a U g mk q => by obtain ⟨q0, q1, qB, qP, qK, qD⟩ := q; exact ⟨q0, q1, TB.same (s := U) (U := U.calling g mk a) rfl qB, qP, va_K.moved (u := U) (U := U.calling g mk a) (Vm.Alike.refl U.vm) qK, qD⟩, va_recv hK hP (q0 := 3) (ci := 7) rfl rfl, fun U hU hW => ⟨rfl, by rw [hU], hB.moved hW, by rw [hU]; exact hPc, va_K.moved hW.alike hKc, hDc.weaken (fun _ _ _ _ => trivial)⟩⟩ rfl rfl hl.1 rfl (lv_room (Nat.le_of_ble_eq_true rfl)) d_NReader_readStatement_42 ⟨(Nat.le_of_ble_eq_true rfl), (Nat.le_of_ble_eq_true rfl)⟩) hS (fun q _ h => hFc q h) hFc (fun r_ u_ t H1 locs ht hvm hw_ hB1 hz1 hk1 hS => ?_)
  obtain ⟨hP1, hK1, hD1⟩ := hB1
  rw [ht] at hP1
  have hK1 := va_K.moved hvm.symm hK1
  try dsimp only at hw_
  obtain ⟨hP, hD⟩ := va_join (wr := [(pr, .inr (6, [.ref qs, .int 0, .ref qn, .int 0, .ref qv, .ref qi])), (qs, .inl (cs, 36, .inr (.inr (.inr (.inr (fs)))))), (q0, .inr (9, [.int 5, .int 0, .int 0, .int (-1), .int 0]))]) (w1 := [(y, .inr (7, [.ref qt, .int 0, .int 0, .ref pr]))]) hP hD [3] [0, 1, 2] rfl rfl (by decide) (by decide) hk1 hFc hP1 hD1
  have hK := (hK.sub (tys' := [(cs, (.object "BigRunner$Statement"))]) [0] rfl).app hK1
  clear hk1 hFc hPc hDc hKc hP1 hD1 hK1 hz1 ht hvm
  generalize H1 = H at hP hS ⊢
  have hP : va_P (dC, dI) vcl [(pr, .inr (6, [.ref qs, .int 0, .ref qn, .int 0, .ref qv, .ref qi])), (qs, .inl (cs, 36, .inr (.inr (.inr (.inr (fs)))))), (q0, .inr (9, [.int 5, .int 0, .int 0, .int (-1), .int 0])), (y, .inr (7, [.ref qt, .int 0, .int 0, .ref pr]))] H := hP
  have hD : va_D A [(pr, .inr (6, [.ref qs, .int 0, .ref qn, .int 0, .ref qv, .ref qi])), (qs, .inl (cs, 36, .inr (.inr (.inr (.inr (fs)))))), (q0, .inr (9, [.int 5, .int 0, .int 0, .int (-1), .int 0])), (y, .inr (7, [.ref qt, .int 0, .int 0, .ref pr]))] := hD
  have hK : va_K (dC, dI) vcl [(cs, (.object "BigRunner$Statement"))] s := hK
  refine W.widen (k := 0) (n := 0) (by omega) (by omega) ?_
  subst hw_
  refine lv_if_eq (tgt := 54) hx hb d_NReader_readStatement_45 (by decide) (fun _ => ?_) (fun hq => absurd rfl hq)
  refine lv_aload_n hx hb d_NReader_readStatement_54 rfl (lv_at hl 0 rfl) ?_
  refine lv_bipush (v := 123) hx hb d_NReader_readStatement_55 (by decide) ?_
  have hPc := hP.sub (ws' := [(y, .inr (7, [.ref qt, .int 0, .int 0, .ref pr]))]) [3] rfl
  have hDc := hD.sub (ws' := [(y, .inr (7, [.ref qt, .int 0, .int 0, .ref pr]))]) [3] (by decide) rfl
  have hKc := hK.sub (tys' := []) [] rfl
  have hFc := va_free (wc := [(y, .inr (7, [.ref qt, .int 0, .int 0, .ref pr]))]) hD hS hA [3] rfl
  refine va_calli (va_runV (C := "BigRunner$Reader") (As := [.int 123]) (rest := []) ⟨hx, hb, hml, hown, tb_nil⟩ (c_R_accept l dC dI H.size y qt pr 123 (by decide)) ⟨(callB_of 1 (tb_one (wd_472 hB _)) tb_good1 rfl rfl rfl (wd_73 hB _) (wd_469 hB _) (by decide +kernel) ⟨Nat.le_of_ble_eq_true rfl, Nat.le_of_ble_eq_true rfl⟩), (wd_471 hB _), (wd_4 hB _)⟩ ⟨fun a U g mk q => by obtain ⟨q0, q1, qB, qP, qK, qD⟩ := q; exact ⟨q0, q1, TB.same (s := U) (U := U.calling g mk a) rfl qB, qP, va_K.moved (u := U) (U := U.calling g mk a) (Vm.Alike.refl U.vm) qK, qD⟩, va_recv hK hP (q0 := 3) (ci := 7) rfl rfl, fun U hU hW => ⟨rfl, by rw [hU], hB.moved hW, by rw [hU]; exact hPc, va_K.moved hW.alike hKc, hDc.weaken (fun _ _ _ _ => trivial)⟩⟩ rfl rfl hl.1 rfl (lv_room (Nat.le_of_ble_eq_true rfl)) d_NReader_readStatement_57 ⟨(Nat.le_of_ble_eq_true rfl), (Nat.le_of_ble_eq_true rfl)⟩) hS (fun q _ h => hFc q h) hFc (fun r_ u_ t H1 locs ht hvm hw_ hB1 hz1 hk1 hS => ?_)
  obtain ⟨hP1, hK1, hD1⟩ := hB1
  rw [ht] at hP1
  have hK1 := va_K.moved hvm.symm hK1
  try dsimp only at hw_
  obtain ⟨hP, hD⟩ := va_join (wr := [(pr, .inr (6, [.ref qs, .int 0, .ref qn, .int 0, .ref qv, .ref qi])), (qs, .inl (cs, 36, .inr (.inr (.inr (.inr (fs)))))), (q0, .inr (9, [.int 5, .int 0, .int 0, .int (-1), .int 0]))]) (w1 := [(y, .inr (7, [.ref qt, .int 0, .int 0, .ref pr]))]) hP hD [3] [0, 1, 2] rfl rfl (by decide) (by decide) hk1 hFc hP1 hD1
  have hK := (hK.sub (tys' := [(cs, (.object "BigRunner$Statement"))]) [0] rfl).app hK1
  clear hk1 hFc hPc hDc hKc hP1 hD1 hK1 hz1 ht hvm
  generalize H1 = H at hP hS ⊢
  have hP : va_P (dC, dI) vcl [(pr, .inr (6, [.ref qs, .int 0, .ref qn, .int 0, .ref qv, .ref qi])), (qs, .inl (cs, 36, .inr (.inr (.inr (.inr (fs)))))), (q0, .inr (9, [.int 5, .int 0, .int 0, .int (-1), .int 0])), (y, .inr (7, [.ref qt, .int 0, .int 0, .ref pr]))] H := hP
  have hD : va_D A [(pr, .inr (6, [.ref qs, .int 0, .ref qn, .int 0, .ref qv, .ref qi])), (qs, .inl (cs, 36, .inr (.inr (.inr (.inr (fs)))))), (q0, .inr (9, [.int 5, .int 0, .int 0, .int (-1), .int 0])), (y, .inr (7, [.ref qt, .int 0, .int 0, .ref pr]))] := hD
  have hK : va_K (dC, dI) vcl [(cs, (.object "BigRunner$Statement"))] s := hK
  refine W.widen (k := 0) (n := 0) (by omega) (by omega) ?_
  subst hw_
  refine lv_if_eq (tgt := 69) hx hb d_NReader_readStatement_60 (by decide) (fun _ => ?_) (fun hq => absurd rfl hq)
  refine lv_aload_n hx hb d_NReader_readStatement_69 rfl (lv_at hl 0 rfl) ?_
  refine lv_iconst (v := 0) hx hb d_NReader_readStatement_70 (by decide) ?_
  have hPc := hP.sub (ws' := [(y, .inr (7, [.ref qt, .int 0, .int 0, .ref pr])), (pr, .inr (6, [.ref qs, .int 0, .ref qn, .int 0, .ref qv, .ref qi])), (qs, .inl (cs, 36, .inr (.inr (.inr (.inr (fs)))))), (q0, .inr (9, [.int 5, .int 0, .int 0, .int (-1), .int 0]))]) [3, 0, 1, 2] rfl
  have hDc := hD.sub (ws' := [(y, .inr (7, [.ref qt, .int 0, .int 0, .ref pr])), (pr, .inr (6, [.ref qs, .int 0, .ref qn, .int 0, .ref qv, .ref qi])), (qs, .inl (cs, 36, .inr (.inr (.inr (.inr (fs)))))), (q0, .inr (9, [.int 5, .int 0, .int 0, .int (-1), .int 0]))]) [3, 0, 1, 2] (by decide) rfl
  have hKc := hK.sub (tys' := [(cs, (.object "BigRunner$Statement"))]) [0] rfl
  have hFc := va_free (wc := [(y, .inr (7, [.ref qt, .int 0, .int 0, .ref pr])), (pr, .inr (6, [.ref qs, .int 0, .ref qn, .int 0, .ref qv, .ref qi])), (qs, .inl (cs, 36, .inr (.inr (.inr (.inr (fs)))))), (q0, .inr (9, [.int 5, .int 0, .int 0, .int (-1), .int 0]))]) hD hS hA [3, 0, 1, 2] rfl
  refine va_calli (va_runV (C := "BigRunner$Reader") (As := [.int 0]) (rest := []) ⟨hx, hb, hml, hown, tb_nil⟩ (c_R_addStatement l dC dI H.size y qt pr qs cs fs q0 qn qv qi 0 hf) ⟨(callB_of 1 (tb_one (wd_480 hB _)) tb_good1 rfl rfl rfl (wd_73 hB _) (wd_477 hB _) (by decide +kernel) ⟨Nat.le_of_ble_eq_true rfl, Nat.le_of_ble_eq_true rfl⟩), (wd_479 hB _), (wd_6 hB _)⟩ ⟨fun a U g mk q => by obtain ⟨q0, q1, qB, qP, qK, qD⟩ := q; exact ⟨q0, q1, TB.same (s := U) (U := U.calling g mk a) rfl qB, qP, va_K.moved (u := U) (U := U.calling g mk a) (Vm.Alike.refl U.vm) qK, qD⟩, va_recv hK hP (q0 := 3) (ci := 7) rfl rfl, fun U hU hW => ⟨rfl, by rw [hU], hB.moved hW, by rw [hU]; exact hPc, va_K.moved hW.alike hKc, hDc.weaken (fun _ _ _ _ => trivial)⟩⟩ rfl rfl hl.1 rfl (lv_room (Nat.le_of_ble_eq_true rfl)) d_NReader_readStatement_71 ⟨(Nat.le_of_ble_eq_true rfl), (Nat.le_of_ble_eq_true rfl)⟩) hS (fun q _ h => hFc q h) hFc (fun r_ u_ t H1 locs ht hvm hw_ hB1 hz1 hk1 hS => ?_)
  obtain ⟨hP1, hK1, hD1⟩ := hB1
  rw [ht] at hP1
  have hK1 := va_K.moved hvm.symm hK1
  try dsimp only at hw_
  obtain ⟨hP, hD⟩ := va_join (wr := []) (w1 := [(y, .inr (7, [.ref qt, .int 0, .int 0, .ref pr]))]) hP hD [3, 0, 1, 2] [] rfl rfl (by decide) (by decide) hk1 hFc hP1 hD1
  have hK := (hK.sub (tys' := []) [] rfl).app hK1
  clear hk1 hFc hPc hDc hKc hP1 hD1 hK1 hz1 ht hvm
  generalize H1 = H at hP hS ⊢
  have hP : va_P (dC, dI) vcl [(y, .inr (7, [.ref qt, .int 0, .int 0, .ref pr]))] H := hP
  have hD : va_D A [(y, .inr (7, [.ref qt, .int 0, .int 0, .ref pr]))] := hD
  have hK : va_K (dC, dI) vcl [] s := hK
  refine W.widen (k := 0) (n := 0) (by omega) (by omega) ?_
  subst hw_
  refine lv_istore_n (lv' := [(2, .int 0), (0, .ref y), (1, .int 1)]) hx hb d_NReader_readStatement_74 rfl hl (by decide) rfl (fun ls hl => ?_)
  refine lv_aload_n hx hb d_NReader_readStatement_75 rfl (lv_at hl 1 rfl) ?_
  refine lv_iload_n hx hb d_NReader_readStatement_76 rfl (lv_at hl 0 rfl) ?_
  have hPc := hP.sub (ws' := [(y, .inr (7, [.ref qt, .int 0, .int 0, .ref pr]))]) [0] rfl
  have hDc := hD.sub (ws' := [(y, .inr (7, [.ref qt, .int 0, .int 0, .ref pr]))]) [0] (by decide) rfl
  have hKc := hK.sub (tys' := []) [] rfl
  have hFc := va_free (wc := [(y, .inr (7, [.ref qt, .int 0, .int 0, .ref pr]))]) hD hS hA [0] rfl
  refine va_calli (va_runV (C := "BigRunner$Reader") (As := [.int 0]) (rest := []) ⟨hx, hb, hml, hown, tb_nil⟩ (c_R_readName l dC dI H.size y qt pr) ⟨(callB_of 1 (tb_one (wd_484 hB _)) tb_good1 rfl rfl rfl (wd_73 hB _) (wd_481 hB _) (by decide +kernel) ⟨Nat.le_of_ble_eq_true rfl, Nat.le_of_ble_eq_true rfl⟩), (wd_483 hB _), (wd_7 hB _)⟩ ⟨fun a U g mk q => by obtain ⟨q0, q1, qB, qP, qK, qD⟩ := q; exact ⟨q0, q1, TB.same (s := U) (U := U.calling g mk a) rfl qB, qP, va_K.moved (u := U) (U := U.calling g mk a) (Vm.Alike.refl U.vm) qK, qD⟩, va_recv hK hP (q0 := 0) (ci := 7) rfl rfl, fun U hU hW => ⟨rfl, by rw [hU], hB.moved hW, by rw [hU]; exact hPc, va_K.moved hW.alike hKc, hDc.weaken (fun _ _ _ _ => trivial)⟩⟩ rfl rfl hl.1 rfl (lv_room (Nat.le_of_ble_eq_true rfl)) d_NReader_readStatement_77 ⟨(Nat.le_of_ble_eq_true rfl), (Nat.le_of_ble_eq_true rfl)⟩) hS (fun q _ h => hFc q h) hFc (fun r_ u_ t H1 locs ht hvm hw_ hB1 hz1 hk1 hS => ?_)
  obtain ⟨hP1, hK1, hD1⟩ := hB1
  rw [ht] at hP1
  have hK1 := va_K.moved hvm.symm hK1
  try dsimp only at hw_
  obtain ⟨hP, hD⟩ := va_join (wr := []) (w1 := [(y, .inr (7, [.ref qt, .int 0, .int 0, .ref pr]))]) hP hD [0] [] rfl rfl (by decide) (by decide) hk1 hFc hP1 hD1
  have hK := (hK.sub (tys' := []) [] rfl).app hK1
  clear hk1 hFc hPc hDc hKc hP1 hD1 hK1 hz1 ht hvm
  generalize H1 = H at hP hS ⊢
  have hP : va_P (dC, dI) vcl [(y, .inr (7, [.ref qt, .int 0, .int 0, .ref pr]))] H := hP
  have hD : va_D A [(y, .inr (7, [.ref qt, .int 0, .int 0, .ref pr]))] := hD
  have hK : va_K (dC, dI) vcl [] s := hK
  refine W.widen (k := 0) (n := 0) (by omega) (by omega) ?_
  subst hw_
  refine lv_if_eq (tgt := 105) hx hb d_NReader_readStatement_80 (by decide) (fun _ => ?_) (fun hq => absurd rfl hq)
  refine lv_iconst (v := 0) hx hb d_NReader_readStatement_105 (by decide) ?_
  have hP9 := hP.sub (ws' := []) [] rfl
  have hD9 := hD.sub (ws' := []) [] (by decide) rfl
  have hK9 := hK.sub (tys' := []) [] rfl
  refine W.widen (k := 0) (n := 0) (by omega) (by omega) ?_
  exact W.zret (v := 0) (ty := .boolean) hx hb hr rfl (fun t ht hW => ⟨⟨0, (), rfl, rfl, by rw [ht]; exact hP9, va_K.moved hW.alike hK9, hD9⟩, hS.F ht⟩) hS.2.2 d_NReader_readStatement_106
set_option maxHeartbeats 4000000 in
set_option maxRecDepth 100000 in
theorem c_R_readProgram (l : Launch) (dC : Nat → ClassId) (dI : Nat → Nat → Nat) (sz : Nat) (y : Nat) (qt : Nat) (pr : Nat) (qs : Nat) (cs : ClassId) (fs : Nat → Option Nat) (q0 : Nat) (qn : Nat) (qv : Nat) (qi : Nat) (hf : fs 0 = some q0) : Met l ⟨"BigRunner$Reader", "readProgram", "(I)Z"⟩ [Cond.code ⟨"BigRunner$Reader", "readProgram", "(I)Z"⟩ prog_8_method_5_code 3 (some .boolean)] ({ frames := 3, cells := 0, slots := 0, locals := 64 }) (va_Pc [.ref y, .int 1] (fun U => U.heap.size = sz ∧ TB U ∧ va_P (dC, dI) vcl [(y, .inr (7, [.ref qt, .int 0, .int 0, .ref pr])), (pr, .inr (6, [.ref qs, .int 0, .ref qn, .int 0, .ref qv, .ref qi])), (qs, .inl (cs, 36, .inr (.inr (.inr (.inr (fs)))))), (q0, .inr (9, [.int 5, .int 0, .int 0, .int (-1), .int 0]))] U.heap ∧ va_K (dC, dI) vcl [(cs, (.object "BigRunner$Statement"))] U ∧ va_D (fun _ => True) [(y, .inr (7, [.ref qt, .int 0, .int 0, .ref pr])), (pr, .inr (6, [.ref qs, .int 0, .ref qn, .int 0, .ref qv, .ref qi])), (qs, .inl (cs, 36, .inr (.inr (.inr (.inr (fs)))))), (q0, .inr (9, [.int 5, .int 0, .int 0, .int (-1), .int 0]))])) (va_Qi (fun (r : Int32) (u : Unit) => match u with | _ => r = 0) (fun (u : Unit) (t : State) => match u with | _ => va_P (dC, dI) vcl [] t.heap ∧ va_K (dC, dI) vcl [] t ∧ va_D (va_A [(y, .inr (7, [.ref qt, .int 0, .int 0, .ref pr])), (pr, .inr (6, [.ref qs, .int 0, .ref qn, .int 0, .ref qv, .ref qi])), (qs, .inl (cs, 36, .inr (.inr (.inr (.inr (fs)))))), (q0, .inr (9, [.int 5, .int 0, .int 0, .int (-1), .int 0]))] sz) []) (va_A [(y, .inr (7, [.ref qt, .int 0, .int 0, .ref pr])), (pr, .inr (6, [.ref qs, .int 0, .ref qn, .int 0, .ref qv, .ref qi])), (qs, .inl (cs, 36, .inr (.inr (.inr (.inr (fs)))))), (q0, .inr (9, [.int 5, .int 0, .int 0, .int (-1), .int 0]))] sz)) 0 0 (va_A [(y, .inr (7, [.ref qt, .int 0, .int 0, .ref pr])), (pr, .inr (6, [.ref qs, .int 0, .ref qn, .int 0, .ref qv, .ref qi])), (qs, .inl (cs, 36, .inr (.inr (.inr (.inr (fs)))))), (q0, .inr (9, [.int 5, .int 0, .int 0, .int (-1), .int 0]))] sz) := by
  refine Met.ofW (cc := prog_8_method_5_code) (maxL := 3) (ret := (some .boolean)) (by decide) rfl ?_
  intro p e s m args below meth c s₁ B hml hv
  obtain ⟨rfl, hsz, hB, hP, hK, hD0⟩ := hv
  have hx := B.exec
  have hb := B.bytes
  have hr := B.returns
  have hown : s.vm.findClass "BigRunner$Reader" = some m.cls := findClass_of_methodNamed B.named
  have hlocks := B.notSynchronized
  subst hsz
  have hD := hD0.self (sz := s.heap.size)
  generalize hAe : va_A [(y, .inr (7, [.ref qt, .int 0, .int 0, .ref pr])), (pr, .inr (6, [.ref qs, .int 0, .ref qn, .int 0, .ref qv, .ref qi])), (qs, .inl (cs, 36, .inr (.inr (.inr (.inr (fs)))))), (q0, .inr (9, [.int 5, .int 0, .int 0, .int (-1), .int 0]))] s.heap.size = A at hD ⊢
  have hA : ∀ q : Nat, s.heap.size ≤ q → A q := fun q h => by rw [← hAe]; exact Or.inr h
  have hS : va_S A s.heap s.heap [] := va_S.rf
  have hP : va_P (dC, dI) vcl [(y, .inr (7, [.ref qt, .int 0, .int 0, .ref pr])), (pr, .inr (6, [.ref qs, .int 0, .ref qn, .int 0, .ref qv, .ref qi])), (qs, .inl (cs, 36, .inr (.inr (.inr (.inr (fs)))))), (q0, .inr (9, [.int 5, .int 0, .int 0, .int (-1), .int 0]))] s.heap := hP
  have hl := lv_entry ([.ref y, .int 1]) (n := 3) (Nat.le_of_ble_eq_true rfl)
  rw [lg_entry_eq]
  generalize (lg_sl ([.ref y, .int 1]) ++ List.replicate (3 - (lg_sl ([.ref y, .int 1])).length) Slot.unset).toArray = ls at hl ⊢
  have hl : lv_has ls 3 [(0, .ref y), (1, .int 1)] := hl
  refine lv_iload_n hx hb d_NReader_readProgram_0 rfl (lv_at hl 1 rfl) ?_
  refine lv_bipush (v := 10) hx hb d_NReader_readProgram_1 (by decide) ?_
  refine lv_icmp_le (tgt := 8) hx hb d_NReader_readProgram_3 (by decide) (fun _ => ?_) (fun hq => absurd (by decide) hq)
  refine lv_iconst (v := 0) hx hb d_NReader_readProgram_8 (by decide) ?_
  refine lv_istore_n (lv' := [(2, .int 0), (0, .ref y), (1, .int 1)]) hx hb d_NReader_readProgram_9 rfl hl (by decide) rfl (fun ls hl => ?_)
  refine lv_iload_n hx hb d_NReader_readProgram_10 rfl (lv_at hl 0 rfl) ?_
  refine lv_bipush (v := 72) hx hb d_NReader_readProgram_11 (by decide) ?_
  refine lv_icmp_ge (tgt := 43) hx hb d_NReader_readProgram_13 (by decide) (fun hq => absurd hq (by decide)) (fun _ => ?_)
  refine lv_aload_n hx hb d_NReader_readProgram_16 rfl (lv_at hl 1 rfl) ?_
  refine lv_iload_n hx hb d_NReader_readProgram_17 rfl (lv_at hl 2 rfl) ?_
  have hPc := hP.sub (ws' := [(y, .inr (7, [.ref qt, .int 0, .int 0, .ref pr])), (pr, .inr (6, [.ref qs, .int 0, .ref qn, .int 0, .ref qv, .ref qi])), (qs, .inl (cs, 36, .inr (.inr (.inr (.inr (fs)))))), (q0, .inr (9, [.int 5, .int 0, .int 0, .int (-1), .int 0]))]) [0, 1, 2, 3] rfl
  have hDc := hD.sub (ws' := [(y, .inr (7, [.ref qt, .int 0, .int 0, .ref pr])), (pr, .inr (6, [.ref qs, .int 0, .ref qn, .int 0, .ref qv, .ref qi])), (qs, .inl (cs, 36, .inr (.inr (.inr (.inr (fs)))))), (q0, .inr (9, [.int 5, .int 0, .int 0, .int (-1), .int 0]))]) [0, 1, 2, 3] (by decide) rfl
  have hKc := hK.sub (tys' := [(cs, (.object "BigRunner$Statement"))]) [0] rfl
  have hFc := va_free (wc := [(y, .inr (7, [.ref qt, .int 0, .int 0, .ref pr])), (pr, .inr (6, [.ref qs, .int 0, .ref qn, .int 0, .ref qv, .ref qi])), (qs, .inl (cs, 36, .inr (.inr (.inr (.inr (fs)))))), (q0, .inr (9, [.int 5, .int 0, .int 0, .int (-1), .int 0]))]) hD hS hA [0, 1, 2, 3] rfl
  refine va_calli (va_runV (C := "BigRunner$Reader") (As := [.int 1]) (rest := []) ⟨hx, hb, hml, hown, tb_nil⟩ (c_R_readStatement l dC dI s.heap.size y qt pr qs cs fs q0 qn qv qi hf) ⟨(callB_of 1 (tb_one (wd_468 hB _)) tb_good1 rfl rfl rfl (wd_73 hB _) (wd_465 hB _) (by decide +kernel) ⟨Nat.le_of_ble_eq_true rfl, Nat.le_of_ble_eq_true rfl⟩), (wd_467 hB _), (wd_3 hB _)⟩ ⟨fun a U g mk q => by obtain ⟨q0, q1, qB, qP, qK, qD⟩ := q; exact ⟨q0, q1, TB.same (s := U) (U := U.calling g mk a) rfl qB, qP, va_K.moved (u := U) (U := U.calling g mk a) (Vm.Alike.refl U.vm) qK, qD⟩, va_recv hK hP (q0 := 0) (ci := 7) rfl rfl, fun U hU hW => ⟨rfl, by rw [hU], hB.moved hW, by rw [hU]; exact hPc, va_K.moved hW.alike hKc, hDc.weaken (fun _ _ _ _ => trivial)⟩⟩ rfl rfl hl.1 rfl (lv_room (Nat.le_of_ble_eq_true rfl)) d_NReader_readProgram_18 ⟨(Nat.le_of_ble_eq_true rfl), (Nat.le_of_ble_eq_true rfl)⟩) hS (fun q _ h => hFc q h) hFc (fun r_ u_ t H1 locs ht hvm hw_ hB1 hz1 hk1 hS => ?_)
  obtain ⟨hP1, hK1, hD1⟩ := hB1
  rw [ht] at hP1
  have hK1 := va_K.moved hvm.symm hK1
  try dsimp only at hw_
  obtain ⟨hP, hD⟩ := va_join (wr := []) (w1 := []) hP hD [0, 1, 2, 3] [] rfl rfl (by decide) (by decide) hk1 hFc hP1 hD1
  have hK := (hK.sub (tys' := []) [] rfl).app hK1
  clear hk1 hFc hPc hDc hKc hP1 hD1 hK1 hz1 ht hvm
  generalize H1 = H at hP hS ⊢
  have hP : va_P (dC, dI) vcl [] H := hP
  have hD : va_D A [] := hD
  have hK : va_K (dC, dI) vcl [] s := hK
  refine W.widen (k := 0) (n := 0) (by omega) (by omega) ?_
  subst hw_
  refine lv_if_ne (tgt := 26) hx hb d_NReader_readProgram_21 (by decide) (fun hq => absurd hq (fun h => h rfl)) (fun _ => ?_)
  refine lv_iconst (v := 0) hx hb d_NReader_readProgram_24 (by decide) ?_
  have hP9 := hP.sub (ws' := []) [] rfl
  have hD9 := hD.sub (ws' := []) [] (by decide) rfl
  have hK9 := hK.sub (tys' := []) [] rfl
  refine W.widen (k := 0) (n := 0) (by omega) (by omega) ?_
  exact W.zret (v := 0) (ty := .boolean) hx hb hr rfl (fun t ht hW => ⟨⟨0, (), rfl, rfl, by rw [ht]; exact hP9, va_K.moved hW.alike hK9, hD9⟩, hS.F ht⟩) hS.2.2 d_NReader_readProgram_25
set_option maxHeartbeats 4000000 in
set_option maxRecDepth 100000 in
/-- reads over an empty line: no PROGRAM -/
theorem c_R_reads (l : Launch) (dC : Nat → ClassId) (dI : Nat → Nat → Nat) (sz : Nat) (y : Nat) (qt : Nat) (pr : Nat) (qs : Nat) (cs : ClassId) (fs : Nat → Option Nat) (q0 : Nat) (qn : Nat) (qv : Nat) (qi : Nat) (ql : Nat) (cl : ClassId) (hf : fs 0 = some q0) : Met l ⟨"BigRunner$Reader", "reads", "([CI)Z"⟩ [Cond.code ⟨"BigRunner$Reader", "reads", "([CI)Z"⟩ prog_8_method_2_code 3 (some .boolean)] ({ frames := 4, cells := 0, slots := 0, locals := 86 }) (va_Pc [.ref y, .ref ql, .int 0] (fun U => U.heap.size = sz ∧ TB U ∧ va_P (dC, dI) vcl [(y, .inr (7, [.ref qt, .int 0, .int 0, .ref pr])), (pr, .inr (6, [.ref qs, .int 0, .ref qn, .int 0, .ref qv, .ref qi])), (qs, .inl (cs, 36, .inr (.inr (.inr (.inr (fs)))))), (q0, .inr (9, [.int 5, .int 0, .int 0, .int (-1), .int 0])), (ql, .inl (cl, 72, .inl (fun _ => 0)))] U.heap ∧ va_K (dC, dI) vcl [(cs, (.object "BigRunner$Statement")), (cl, .char)] U ∧ va_D (fun _ => True) [(y, .inr (7, [.ref qt, .int 0, .int 0, .ref pr])), (pr, .inr (6, [.ref qs, .int 0, .ref qn, .int 0, .ref qv, .ref qi])), (qs, .inl (cs, 36, .inr (.inr (.inr (.inr (fs)))))), (q0, .inr (9, [.int 5, .int 0, .int 0, .int (-1), .int 0])), (ql, .inl (cl, 72, .inl (fun _ => 0)))])) (va_Qi (fun (r : Int32) (u : Unit) => match u with | _ => r = 0) (fun (u : Unit) (t : State) => match u with | _ => va_P (dC, dI) vcl [] t.heap ∧ va_K (dC, dI) vcl [] t ∧ va_D (va_A [(y, .inr (7, [.ref qt, .int 0, .int 0, .ref pr])), (pr, .inr (6, [.ref qs, .int 0, .ref qn, .int 0, .ref qv, .ref qi])), (qs, .inl (cs, 36, .inr (.inr (.inr (.inr (fs)))))), (q0, .inr (9, [.int 5, .int 0, .int 0, .int (-1), .int 0])), (ql, .inl (cl, 72, .inl (fun _ => 0)))] sz) []) (va_A [(y, .inr (7, [.ref qt, .int 0, .int 0, .ref pr])), (pr, .inr (6, [.ref qs, .int 0, .ref qn, .int 0, .ref qv, .ref qi])), (qs, .inl (cs, 36, .inr (.inr (.inr (.inr (fs)))))), (q0, .inr (9, [.int 5, .int 0, .int 0, .int (-1), .int 0])), (ql, .inl (cl, 72, .inl (fun _ => 0)))] sz)) 0 0 (va_A [(y, .inr (7, [.ref qt, .int 0, .int 0, .ref pr])), (pr, .inr (6, [.ref qs, .int 0, .ref qn, .int 0, .ref qv, .ref qi])), (qs, .inl (cs, 36, .inr (.inr (.inr (.inr (fs)))))), (q0, .inr (9, [.int 5, .int 0, .int 0, .int (-1), .int 0])), (ql, .inl (cl, 72, .inl (fun _ => 0)))] sz) := by
  refine Met.ofW (cc := prog_8_method_2_code) (maxL := 3) (ret := (some .boolean)) (by decide) rfl ?_
  intro p e s m args below meth c s₁ B hml hv
  obtain ⟨rfl, hsz, hB, hP, hK, hD0⟩ := hv
  have hx := B.exec
  have hb := B.bytes
  have hr := B.returns
  have hown : s.vm.findClass "BigRunner$Reader" = some m.cls := findClass_of_methodNamed B.named
  have hlocks := B.notSynchronized
  subst hsz
  have hD := hD0.self (sz := s.heap.size)
  generalize hAe : va_A [(y, .inr (7, [.ref qt, .int 0, .int 0, .ref pr])), (pr, .inr (6, [.ref qs, .int 0, .ref qn, .int 0, .ref qv, .ref qi])), (qs, .inl (cs, 36, .inr (.inr (.inr (.inr (fs)))))), (q0, .inr (9, [.int 5, .int 0, .int 0, .int (-1), .int 0])), (ql, .inl (cl, 72, .inl (fun _ => 0)))] s.heap.size = A at hD ⊢
  have hA : ∀ q : Nat, s.heap.size ≤ q → A q := fun q h => by rw [← hAe]; exact Or.inr h
  have hS : va_S A s.heap s.heap [] := va_S.rf
  have hP : va_P (dC, dI) vcl [(y, .inr (7, [.ref qt, .int 0, .int 0, .ref pr])), (pr, .inr (6, [.ref qs, .int 0, .ref qn, .int 0, .ref qv, .ref qi])), (qs, .inl (cs, 36, .inr (.inr (.inr (.inr (fs)))))), (q0, .inr (9, [.int 5, .int 0, .int 0, .int (-1), .int 0])), (ql, .inl (cl, 72, .inl (fun _ => 0)))] s.heap := hP
  have hl := lv_entry ([.ref y, .ref ql, .int 0]) (n := 3) (Nat.le_of_ble_eq_true rfl)
  rw [lg_entry_eq]
  generalize (lg_sl ([.ref y, .ref ql, .int 0]) ++ List.replicate (3 - (lg_sl ([.ref y, .ref ql, .int 0])).length) Slot.unset).toArray = ls at hl ⊢
  have hl : lv_has ls 3 [(0, .ref y), (1, .ref ql), (2, .int 0)] := hl
  refine lv_aload_n hx hb d_NReader_reads_0 rfl (lv_at hl 0 rfl) ?_
  refine lv_aload_n hx hb d_NReader_reads_1 rfl (lv_at hl 1 rfl) ?_
  refine va_put (D := (dC, dI)) (ci := 7) (v := .ref ql) (ty := (.array .char)) (C := "BigRunner$Reader") (T := FT7) (N := 4) hx hb (hw7 hB _) (fun _ h9 => h9) TY7 ok7 nm7 hown hK hP hD hS 0 rfl rfl 0 (by decide) (wd_270 hB _) (fun _ h9 => h9) rfl (by decide +kernel) rfl rfl (Nat.le_of_ble_eq_true rfl) d_NReader_reads_2 (fun H locs hP hD hS => ?_)
  have hP : va_P (dC, dI) vcl [(y, .inr (7, [.ref ql, .int 0, .int 0, .ref pr])), (pr, .inr (6, [.ref qs, .int 0, .ref qn, .int 0, .ref qv, .ref qi])), (qs, .inl (cs, 36, .inr (.inr (.inr (.inr (fs)))))), (q0, .inr (9, [.int 5, .int 0, .int 0, .int (-1), .int 0])), (ql, .inl (cl, 72, .inl (fun _ => 0)))] H := hP
  have hD : va_D A [(y, .inr (7, [.ref ql, .int 0, .int 0, .ref pr])), (pr, .inr (6, [.ref qs, .int 0, .ref qn, .int 0, .ref qv, .ref qi])), (qs, .inl (cs, 36, .inr (.inr (.inr (.inr (fs)))))), (q0, .inr (9, [.int 5, .int 0, .int 0, .int (-1), .int 0])), (ql, .inl (cl, 72, .inl (fun _ => 0)))] := hD
  refine lv_aload_n hx hb d_NReader_reads_5 rfl (lv_at hl 0 rfl) ?_
  refine lv_iload_n hx hb d_NReader_reads_6 rfl (lv_at hl 2 rfl) ?_
  refine lv_aload_n hx hb d_NReader_reads_7 rfl (lv_at hl 1 rfl) ?_
  refine va_alen (D := (dC, dI)) (v := 72) hx hb hK hP 4 1 rfl rfl rfl d_NReader_reads_8 ?_
  refine va_mmin hx hb (hml.trans hl.1.symm) hown (wd_458 hB _) (wd_459 hB _) (wd_83 hB _) (wd_460 hB _) (Nat.le_of_ble_eq_true rfl) (Nat.le_of_ble_eq_true rfl) (Nat.le_of_ble_eq_true rfl) (Nat.le_of_ble_eq_true rfl) d_NReader_reads_9 ?_
  refine lv_topi (fun z_ hz_ => ?_)
  have hz_ : z_ = 0 := hz_.trans (by decide)
  subst hz_
  refine va_put (D := (dC, dI)) (ci := 7) (v := .int 0) (ty := .int) (C := "BigRunner$Reader") (T := FT7) (N := 4) hx hb (hw7 hB _) (fun _ h9 => h9) TY7 ok7 nm7 hown hK hP hD hS 0 rfl rfl 1 (by decide) (wd_271 hB _) (fun _ h9 => h9) rfl (by decide +kernel) rfl rfl (Nat.le_of_ble_eq_true rfl) d_NReader_reads_12 (fun H locs hP hD hS => ?_)
  have hP : va_P (dC, dI) vcl [(y, .inr (7, [.ref ql, .int 0, .int 0, .ref pr])), (pr, .inr (6, [.ref qs, .int 0, .ref qn, .int 0, .ref qv, .ref qi])), (qs, .inl (cs, 36, .inr (.inr (.inr (.inr (fs)))))), (q0, .inr (9, [.int 5, .int 0, .int 0, .int (-1), .int 0])), (ql, .inl (cl, 72, .inl (fun _ => 0)))] H := hP
  have hD : va_D A [(y, .inr (7, [.ref ql, .int 0, .int 0, .ref pr])), (pr, .inr (6, [.ref qs, .int 0, .ref qn, .int 0, .ref qv, .ref qi])), (qs, .inl (cs, 36, .inr (.inr (.inr (.inr (fs)))))), (q0, .inr (9, [.int 5, .int 0, .int 0, .int (-1), .int 0])), (ql, .inl (cl, 72, .inl (fun _ => 0)))] := hD
  refine lv_aload_n hx hb d_NReader_reads_15 rfl (lv_at hl 0 rfl) ?_
  refine lv_iconst (v := 0) hx hb d_NReader_reads_16 (by decide) ?_
  refine va_put (D := (dC, dI)) (ci := 7) (v := .int 0) (ty := .int) (C := "BigRunner$Reader") (T := FT7) (N := 4) hx hb (hw7 hB _) (fun _ h9 => h9) TY7 ok7 nm7 hown hK hP hD hS 0 rfl rfl 2 (by decide) (wd_272 hB _) (fun _ h9 => h9) rfl (by decide +kernel) rfl rfl (Nat.le_of_ble_eq_true rfl) d_NReader_reads_17 (fun H locs hP hD hS => ?_)
  have hP : va_P (dC, dI) vcl [(y, .inr (7, [.ref ql, .int 0, .int 0, .ref pr])), (pr, .inr (6, [.ref qs, .int 0, .ref qn, .int 0, .ref qv, .ref qi])), (qs, .inl (cs, 36, .inr (.inr (.inr (.inr (fs)))))), (q0, .inr (9, [.int 5, .int 0, .int 0, .int (-1), .int 0])), (ql, .inl (cl, 72, .inl (fun _ => 0)))] H := hP
  have hD : va_D A [(y, .inr (7, [.ref ql, .int 0, .int 0, .ref pr])), (pr, .inr (6, [.ref qs, .int 0, .ref qn, .int 0, .ref qv, .ref qi])), (qs, .inl (cs, 36, .inr (.inr (.inr (.inr (fs)))))), (q0, .inr (9, [.int 5, .int 0, .int 0, .int (-1), .int 0])), (ql, .inl (cl, 72, .inl (fun _ => 0)))] := hD
  refine lv_aload_n hx hb d_NReader_reads_20 rfl (lv_at hl 0 rfl) ?_
  refine va_get (D := (dC, dI)) (ci := 7) (v := .ref pr) (C := "BigRunner$Reader") (T := FT7) (N := 4) hx hb (hw7 hB _) (fun _ h9 => h9) hown hK hP 0 rfl rfl 3 (by decide) (wd_273 hB _) (fun _ h9 => h9) rfl d_NReader_reads_21 ?_
  refine lv_iconst (v := 0) hx hb d_NReader_reads_24 (by decide) ?_
  refine va_put (D := (dC, dI)) (ci := 6) (v := .int 0) (ty := .int) (C := "BigRunner$Program") (T := FT6) (N := 6) hx hb (hw6 hB _) (fun _ h9 => h9) TY6 ok6 nm6 hown hK hP hD hS 1 rfl rfl 1 (by decide) (wd_246 hB _) (fun _ h9 => h9) rfl (by decide +kernel) rfl rfl (Nat.le_of_ble_eq_true rfl) d_NReader_reads_25 (fun H locs hP hD hS => ?_)
  have hP : va_P (dC, dI) vcl [(y, .inr (7, [.ref ql, .int 0, .int 0, .ref pr])), (pr, .inr (6, [.ref qs, .int 0, .ref qn, .int 0, .ref qv, .ref qi])), (qs, .inl (cs, 36, .inr (.inr (.inr (.inr (fs)))))), (q0, .inr (9, [.int 5, .int 0, .int 0, .int (-1), .int 0])), (ql, .inl (cl, 72, .inl (fun _ => 0)))] H := hP
  have hD : va_D A [(y, .inr (7, [.ref ql, .int 0, .int 0, .ref pr])), (pr, .inr (6, [.ref qs, .int 0, .ref qn, .int 0, .ref qv, .ref qi])), (qs, .inl (cs, 36, .inr (.inr (.inr (.inr (fs)))))), (q0, .inr (9, [.int 5, .int 0, .int 0, .int (-1), .int 0])), (ql, .inl (cl, 72, .inl (fun _ => 0)))] := hD
  refine lv_aload_n hx hb d_NReader_reads_28 rfl (lv_at hl 0 rfl) ?_
  refine va_get (D := (dC, dI)) (ci := 7) (v := .ref pr) (C := "BigRunner$Reader") (T := FT7) (N := 4) hx hb (hw7 hB _) (fun _ h9 => h9) hown hK hP 0 rfl rfl 3 (by decide) (wd_273 hB _) (fun _ h9 => h9) rfl d_NReader_reads_29 ?_
  refine lv_iconst (v := 0) hx hb d_NReader_reads_32 (by decide) ?_
  refine va_put (D := (dC, dI)) (ci := 6) (v := .int 0) (ty := .int) (C := "BigRunner$Program") (T := FT6) (N := 6) hx hb (hw6 hB _) (fun _ h9 => h9) TY6 ok6 nm6 hown hK hP hD hS 1 rfl rfl 3 (by decide) (wd_252 hB _) (fun _ h9 => h9) rfl (by decide +kernel) rfl rfl (Nat.le_of_ble_eq_true rfl) d_NReader_reads_33 (fun H locs hP hD hS => ?_)
  have hP : va_P (dC, dI) vcl [(y, .inr (7, [.ref ql, .int 0, .int 0, .ref pr])), (pr, .inr (6, [.ref qs, .int 0, .ref qn, .int 0, .ref qv, .ref qi])), (qs, .inl (cs, 36, .inr (.inr (.inr (.inr (fs)))))), (q0, .inr (9, [.int 5, .int 0, .int 0, .int (-1), .int 0])), (ql, .inl (cl, 72, .inl (fun _ => 0)))] H := hP
  have hD : va_D A [(y, .inr (7, [.ref ql, .int 0, .int 0, .ref pr])), (pr, .inr (6, [.ref qs, .int 0, .ref qn, .int 0, .ref qv, .ref qi])), (qs, .inl (cs, 36, .inr (.inr (.inr (.inr (fs)))))), (q0, .inr (9, [.int 5, .int 0, .int 0, .int (-1), .int 0])), (ql, .inl (cl, 72, .inl (fun _ => 0)))] := hD
  refine lv_aload_n hx hb d_NReader_reads_36 rfl (lv_at hl 0 rfl) ?_
  refine lv_iconst (v := 1) hx hb d_NReader_reads_37 (by decide) ?_
  have hPc := hP.sub (ws' := [(y, .inr (7, [.ref ql, .int 0, .int 0, .ref pr])), (pr, .inr (6, [.ref qs, .int 0, .ref qn, .int 0, .ref qv, .ref qi])), (qs, .inl (cs, 36, .inr (.inr (.inr (.inr (fs)))))), (q0, .inr (9, [.int 5, .int 0, .int 0, .int (-1), .int 0]))]) [0, 1, 2, 3] rfl
  have hDc := hD.sub (ws' := [(y, .inr (7, [.ref ql, .int 0, .int 0, .ref pr])), (pr, .inr (6, [.ref qs, .int 0, .ref qn, .int 0, .ref qv, .ref qi])), (qs, .inl (cs, 36, .inr (.inr (.inr (.inr (fs)))))), (q0, .inr (9, [.int 5, .int 0, .int 0, .int (-1), .int 0]))]) [0, 1, 2, 3] (by decide) rfl
  have hKc := hK.sub (tys' := [(cs, (.object "BigRunner$Statement"))]) [0] rfl
  have hFc := va_free (wc := [(y, .inr (7, [.ref ql, .int 0, .int 0, .ref pr])), (pr, .inr (6, [.ref qs, .int 0, .ref qn, .int 0, .ref qv, .ref qi])), (qs, .inl (cs, 36, .inr (.inr (.inr (.inr (fs)))))), (q0, .inr (9, [.int 5, .int 0, .int 0, .int (-1), .int 0]))]) hD hS hA [0, 1, 2, 3] rfl
  refine va_calli (va_runV (C := "BigRunner$Reader") (As := [.int 1]) (rest := []) ⟨hx, hb, hml, hown, tb_nil⟩ (c_R_readProgram l dC dI H.size y ql pr qs cs fs q0 qn qv qi hf) ⟨(callB_of 1 (tb_one (wd_464 hB _)) tb_good1 rfl rfl rfl (wd_73 hB _) (wd_461 hB _) (by decide +kernel) ⟨Nat.le_of_ble_eq_true rfl, Nat.le_of_ble_eq_true rfl⟩), (wd_463 hB _), (wd_2 hB _)⟩ ⟨fun a U g mk q => by obtain ⟨q0, q1, qB, qP, qK, qD⟩ := q; exact ⟨q0, q1, TB.same (s := U) (U := U.calling g mk a) rfl qB, qP, va_K.moved (u := U) (U := U.calling g mk a) (Vm.Alike.refl U.vm) qK, qD⟩, va_recv hK hP (q0 := 0) (ci := 7) rfl rfl, fun U hU hW => ⟨rfl, by rw [hU], hB.moved hW, by rw [hU]; exact hPc, va_K.moved hW.alike hKc, hDc.weaken (fun _ _ _ _ => trivial)⟩⟩ rfl rfl hl.1 rfl (lv_room (Nat.le_of_ble_eq_true rfl)) d_NReader_reads_38 ⟨(Nat.le_of_ble_eq_true rfl), (Nat.le_of_ble_eq_true rfl)⟩) hS (fun q _ h => hFc q h) hFc (fun r_ u_ t H1 locs ht hvm hw_ hB1 hz1 hk1 hS => ?_)
  obtain ⟨hP1, hK1, hD1⟩ := hB1
  rw [ht] at hP1
  have hK1 := va_K.moved hvm.symm hK1
  try dsimp only at hw_
  obtain ⟨hP, hD⟩ := va_join (wr := [(ql, .inl (cl, 72, .inl (fun _ => 0)))]) (w1 := []) hP hD [0, 1, 2, 3] [4] rfl rfl (by decide) (by decide) hk1 hFc hP1 hD1
  have hK := (hK.sub (tys' := [(cl, .char)]) [1] rfl).app hK1
  clear hk1 hFc hPc hDc hKc hP1 hD1 hK1 hz1 ht hvm
  generalize H1 = H at hP hS ⊢
  have hP : va_P (dC, dI) vcl [(ql, .inl (cl, 72, .inl (fun _ => 0)))] H := hP
  have hD : va_D A [(ql, .inl (cl, 72, .inl (fun _ => 0)))] := hD
  have hK : va_K (dC, dI) vcl [(cl, .char)] s := hK
  refine W.widen (k := 0) (n := 0) (by omega) (by omega) ?_
  subst hw_
  refine lv_if_eq (tgt := 59) hx hb d_NReader_reads_41 (by decide) (fun _ => ?_) (fun hq => absurd rfl hq)
  refine lv_iconst (v := 0) hx hb d_NReader_reads_59 (by decide) ?_
  have hP9 := hP.sub (ws' := []) [] rfl
  have hD9 := hD.sub (ws' := []) [] (by decide) rfl
  have hK9 := hK.sub (tys' := []) [] rfl
  refine W.widen (k := 0) (n := 0) (by omega) (by omega) ?_
  exact W.zret (v := 0) (ty := .boolean) hx hb hr rfl (fun t ht hW => ⟨⟨0, (), rfl, rfl, by rw [ht]; exact hP9, va_K.moved hW.alike hK9, hD9⟩, hS.F ht⟩) hS.2.2 d_NReader_reads_60
set_option maxHeartbeats 4000000 in
set_option maxRecDepth 100000 in
theorem c_Rn_keptOutputs (l : Launch) (dC : Nat → ClassId) (dI : Nat → Nat → Nat) (sz : Nat) (y : Nat) (pn : Nat) (qi2 : Nat) (qm : Nat) (qw : Nat) (qh : Nat) (qd : Nat) (qk : Nat) : Met l ⟨"BigRunner$Runner", "keptOutputs", "()I"⟩ [Cond.code ⟨"BigRunner$Runner", "keptOutputs", "()I"⟩ prog_9_method_5_code 1 (some .int)] ({ frames := 1, cells := 0, slots := 0, locals := 30 }) (va_Pc [.ref y] (fun U => U.heap.size = sz ∧ TB U ∧ va_P (dC, dI) vcl [(y, .inr (8, [.ref pn, .ref qi2, .int 0, .ref qm, .ref qw, .ref qh, .ref qd, .ref qk, .int 0, .int 0, .int 0, .int 0, .int 0]))] U.heap ∧ va_K (dC, dI) vcl [] U ∧ va_D (fun _ => True) [(y, .inr (8, [.ref pn, .ref qi2, .int 0, .ref qm, .ref qw, .ref qh, .ref qd, .ref qk, .int 0, .int 0, .int 0, .int 0, .int 0]))])) (va_Qi (fun (r : Int32) (u : Unit) => match u with | _ => r = 0) (fun (u : Unit) (t : State) => match u with | _ => va_P (dC, dI) vcl [] t.heap ∧ va_K (dC, dI) vcl [] t ∧ va_D (va_A [(y, .inr (8, [.ref pn, .ref qi2, .int 0, .ref qm, .ref qw, .ref qh, .ref qd, .ref qk, .int 0, .int 0, .int 0, .int 0, .int 0]))] sz) []) (va_A [(y, .inr (8, [.ref pn, .ref qi2, .int 0, .ref qm, .ref qw, .ref qh, .ref qd, .ref qk, .int 0, .int 0, .int 0, .int 0, .int 0]))] sz)) 0 0 (va_A [(y, .inr (8, [.ref pn, .ref qi2, .int 0, .ref qm, .ref qw, .ref qh, .ref qd, .ref qk, .int 0, .int 0, .int 0, .int 0, .int 0]))] sz) := by
  refine Met.ofW (cc := prog_9_method_5_code) (maxL := 1) (ret := (some .int)) (by decide) rfl ?_
  intro p e s m args below meth c s₁ B hml hv
  obtain ⟨rfl, hsz, hB, hP, hK, hD0⟩ := hv
  have hx := B.exec
  have hb := B.bytes
  have hr := B.returns
  have hown : s.vm.findClass "BigRunner$Runner" = some m.cls := findClass_of_methodNamed B.named
  have hlocks := B.notSynchronized
  subst hsz
  have hD := hD0.self (sz := s.heap.size)
  generalize hAe : va_A [(y, .inr (8, [.ref pn, .ref qi2, .int 0, .ref qm, .ref qw, .ref qh, .ref qd, .ref qk, .int 0, .int 0, .int 0, .int 0, .int 0]))] s.heap.size = A at hD ⊢
  have hA : ∀ q : Nat, s.heap.size ≤ q → A q := fun q h => by rw [← hAe]; exact Or.inr h
  have hS : va_S A s.heap s.heap [] := va_S.rf
  have hP : va_P (dC, dI) vcl [(y, .inr (8, [.ref pn, .ref qi2, .int 0, .ref qm, .ref qw, .ref qh, .ref qd, .ref qk, .int 0, .int 0, .int 0, .int 0, .int 0]))] s.heap := hP
  have hl := lv_entry ([.ref y]) (n := 1) (Nat.le_of_ble_eq_true rfl)
  rw [lg_entry_eq]
  generalize (lg_sl ([.ref y]) ++ List.replicate (1 - (lg_sl ([.ref y])).length) Slot.unset).toArray = ls at hl ⊢
  have hl : lv_has ls 1 [(0, .ref y)] := hl
  refine lv_aload_n hx hb d_NRunner_keptOutputs_0 rfl (lv_at hl 0 rfl) ?_
  refine va_get (D := (dC, dI)) (ci := 8) (v := .int 0) (C := "BigRunner$Runner") (T := FT8) (N := 13) hx hb (hw8 hB _) (fun _ h9 => h9) hown hK hP 0 rfl rfl 8 (by decide) (wd_341 hB _) (fun _ h9 => h9) rfl d_NRunner_keptOutputs_1 ?_
  refine lv_bipush (v := 12) hx hb d_NRunner_keptOutputs_4 (by decide) ?_
  refine va_mmin hx hb (hml.trans hl.1.symm) hown (wd_939 hB _) (wd_459 hB _) (wd_83 hB _) (wd_460 hB _) (Nat.le_of_ble_eq_true rfl) (Nat.le_of_ble_eq_true rfl) (Nat.le_of_ble_eq_true rfl) (Nat.le_of_ble_eq_true rfl) d_NRunner_keptOutputs_6 ?_
  refine lv_topi (fun z_ hz_ => ?_)
  have hz_ : z_ = 0 := hz_.trans (by decide)
  subst hz_
  have hP9 := hP.sub (ws' := []) [] rfl
  have hD9 := hD.sub (ws' := []) [] (by decide) rfl
  have hK9 := hK.sub (tys' := []) [] rfl
  refine W.widen (k := 0) (n := 0) (by omega) (by omega) ?_
  exact W.iret (v := 0) hx hb hr (fun t ht hW => ⟨⟨0, (), rfl, rfl, by rw [ht]; exact hP9, va_K.moved hW.alike hK9, hD9⟩, hS.F ht⟩) hS.2.2 d_NRunner_keptOutputs_9
