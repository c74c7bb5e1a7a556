def vt_type (k : Int32) : Int32 := if k < 33 then 0 else if 126 < k then 0 else 1
def vt_give (k : Int32) : Int32 := if k < (-1000000000) then 0 else if 1000000000 < k then 0 else 1
def vt_look (k : Int32) : Int32 := if k = 0 then 0 else if k = 1 then 0 else if k = 2 then 0 else if k = 3 then 0 else if k = 4 then 0 else if k = 5 then 0 else if k = 6 then 0 else -1
theorem vt_give_b (k : Int32) : narrow .boolean (.int (vt_give k)) = .int (vt_give k) := by
  unfold vt_give
  split
  · rfl
  · split <;> rfl
set_option maxHeartbeats 4000000 in
set_option maxRecDepth 100000 in
/-- type on a fresh object: its answer -/
theorem c_B_type (l : Launch) (dC : Nat → ClassId) (dI : Nat → Nat → Nat) (sz : Nat) (x : Nat) (ql : Nat) (cl : ClassId) (rd : Nat) (rn : Nat) (qt : Nat) (pr : Nat) (qs : Nat) (cs : ClassId) (fs : Nat → Option Nat) (q0 : Nat) (qn : Nat) (qv : Nat) (qi : Nat) (pn : Nat) (qi2 : Nat) (qm : Nat) (qw : Nat) (qh : Nat) (qd : Nat) (qk : Nat) (qr : Nat) (cr : ClassId) (k : Int32) : Met l ⟨"BigRunner", "type", "(C)Z"⟩ [Cond.code ⟨"BigRunner", "type", "(C)Z"⟩ prog_1_method_2_code 2 (some .boolean)] ({ frames := 0, cells := 0, slots := 0, locals := 0 }) (va_Pc [.ref x, .int k] (fun U => U.heap.size = sz ∧ TB U ∧ va_P (dC, dI) vcl [(x, .inr (0, [.ref ql, .int 0, .ref rd, .ref rn, .int 0])), (ql, .inl (cl, 72, .inl (fun _ => 0))), (rd, .inr (7, [.ref qt, .int 0, .int 0, .ref pr])), (pr, .inr (6, [.ref qs, .int 0, .ref qn, .int 0, .ref qv, .ref qi])), (qs, .inl (cs, 36, .inr (.inr (.inr (.inr (fs)))))), (q0, .inr (9, [.int 5, .int 0, .int 0, .int (-1), .int 0])), (rn, .inr (8, [.ref pn, .ref qi2, .int 0, .ref qm, .ref qw, .ref qh, .ref qd, .ref qk, .int 0, .int 0, .int 0, .int 0, .int 0])), (qi2, .inr (1, [.ref qr, .int 0, .int 0])), (qr, .inl (cr, 20, .inl (fun _ => 0)))] U.heap ∧ va_K (dC, dI) vcl [(cl, .char), (cs, (.object "BigRunner$Statement")), (cr, .int)] U ∧ va_D (fun _ => True) [(x, .inr (0, [.ref ql, .int 0, .ref rd, .ref rn, .int 0])), (ql, .inl (cl, 72, .inl (fun _ => 0))), (rd, .inr (7, [.ref qt, .int 0, .int 0, .ref pr])), (pr, .inr (6, [.ref qs, .int 0, .ref qn, .int 0, .ref qv, .ref qi])), (qs, .inl (cs, 36, .inr (.inr (.inr (.inr (fs)))))), (q0, .inr (9, [.int 5, .int 0, .int 0, .int (-1), .int 0])), (rn, .inr (8, [.ref pn, .ref qi2, .int 0, .ref qm, .ref qw, .ref qh, .ref qd, .ref qk, .int 0, .int 0, .int 0, .int 0, .int 0])), (qi2, .inr (1, [.ref qr, .int 0, .int 0])), (qr, .inl (cr, 20, .inl (fun _ => 0)))])) (va_Qi (fun (r : Int32) (u : Unit) => match u with | _ => r = vt_type k) (fun (u : Unit) (t : State) => match u with | _ => va_P (dC, dI) vcl [] t.heap ∧ va_K (dC, dI) vcl [] t ∧ va_D (va_A [(x, .inr (0, [.ref ql, .int 0, .ref rd, .ref rn, .int 0])), (ql, .inl (cl, 72, .inl (fun _ => 0))), (rd, .inr (7, [.ref qt, .int 0, .int 0, .ref pr])), (pr, .inr (6, [.ref qs, .int 0, .ref qn, .int 0, .ref qv, .ref qi])), (qs, .inl (cs, 36, .inr (.inr (.inr (.inr (fs)))))), (q0, .inr (9, [.int 5, .int 0, .int 0, .int (-1), .int 0])), (rn, .inr (8, [.ref pn, .ref qi2, .int 0, .ref qm, .ref qw, .ref qh, .ref qd, .ref qk, .int 0, .int 0, .int 0, .int 0, .int 0])), (qi2, .inr (1, [.ref qr, .int 0, .int 0])), (qr, .inl (cr, 20, .inl (fun _ => 0)))] sz) []) (va_A [(x, .inr (0, [.ref ql, .int 0, .ref rd, .ref rn, .int 0])), (ql, .inl (cl, 72, .inl (fun _ => 0))), (rd, .inr (7, [.ref qt, .int 0, .int 0, .ref pr])), (pr, .inr (6, [.ref qs, .int 0, .ref qn, .int 0, .ref qv, .ref qi])), (qs, .inl (cs, 36, .inr (.inr (.inr (.inr (fs)))))), (q0, .inr (9, [.int 5, .int 0, .int 0, .int (-1), .int 0])), (rn, .inr (8, [.ref pn, .ref qi2, .int 0, .ref qm, .ref qw, .ref qh, .ref qd, .ref qk, .int 0, .int 0, .int 0, .int 0, .int 0])), (qi2, .inr (1, [.ref qr, .int 0, .int 0])), (qr, .inl (cr, 20, .inl (fun _ => 0)))] sz)) 0 0 (va_A [(x, .inr (0, [.ref ql, .int 0, .ref rd, .ref rn, .int 0])), (ql, .inl (cl, 72, .inl (fun _ => 0))), (rd, .inr (7, [.ref qt, .int 0, .int 0, .ref pr])), (pr, .inr (6, [.ref qs, .int 0, .ref qn, .int 0, .ref qv, .ref qi])), (qs, .inl (cs, 36, .inr (.inr (.inr (.inr (fs)))))), (q0, .inr (9, [.int 5, .int 0, .int 0, .int (-1), .int 0])), (rn, .inr (8, [.ref pn, .ref qi2, .int 0, .ref qm, .ref qw, .ref qh, .ref qd, .ref qk, .int 0, .int 0, .int 0, .int 0, .int 0])), (qi2, .inr (1, [.ref qr, .int 0, .int 0])), (qr, .inl (cr, 20, .inl (fun _ => 0)))] sz) := by
  refine Met.ofW (cc := prog_1_method_2_code) (maxL := 2) (ret := (some .boolean)) (by decide) rfl ?_
  intro p e s m args below meth c s₁ B hml hv
  obtain ⟨rfl, hsz, hB, hP, hK, hD0⟩ := hv
  have hx := B.exec
  have hb := B.bytes
  have hr := B.returns
  have hown : s.vm.findClass "BigRunner" = some m.cls := findClass_of_methodNamed B.named
  have hlocks := B.notSynchronized
  subst hsz
  have hD := hD0.self (sz := s.heap.size)
  generalize hAe : va_A [(x, .inr (0, [.ref ql, .int 0, .ref rd, .ref rn, .int 0])), (ql, .inl (cl, 72, .inl (fun _ => 0))), (rd, .inr (7, [.ref qt, .int 0, .int 0, .ref pr])), (pr, .inr (6, [.ref qs, .int 0, .ref qn, .int 0, .ref qv, .ref qi])), (qs, .inl (cs, 36, .inr (.inr (.inr (.inr (fs)))))), (q0, .inr (9, [.int 5, .int 0, .int 0, .int (-1), .int 0])), (rn, .inr (8, [.ref pn, .ref qi2, .int 0, .ref qm, .ref qw, .ref qh, .ref qd, .ref qk, .int 0, .int 0, .int 0, .int 0, .int 0])), (qi2, .inr (1, [.ref qr, .int 0, .int 0])), (qr, .inl (cr, 20, .inl (fun _ => 0)))] s.heap.size = A at hD ⊢
  have hA : ∀ q : Nat, s.heap.size ≤ q → A q := fun q h => by rw [← hAe]; exact Or.inr h
  have hS : va_S A s.heap s.heap [] := va_S.rf
  have hP : va_P (dC, dI) vcl [(x, .inr (0, [.ref ql, .int 0, .ref rd, .ref rn, .int 0])), (ql, .inl (cl, 72, .inl (fun _ => 0))), (rd, .inr (7, [.ref qt, .int 0, .int 0, .ref pr])), (pr, .inr (6, [.ref qs, .int 0, .ref qn, .int 0, .ref qv, .ref qi])), (qs, .inl (cs, 36, .inr (.inr (.inr (.inr (fs)))))), (q0, .inr (9, [.int 5, .int 0, .int 0, .int (-1), .int 0])), (rn, .inr (8, [.ref pn, .ref qi2, .int 0, .ref qm, .ref qw, .ref qh, .ref qd, .ref qk, .int 0, .int 0, .int 0, .int 0, .int 0])), (qi2, .inr (1, [.ref qr, .int 0, .int 0])), (qr, .inl (cr, 20, .inl (fun _ => 0)))] s.heap := hP
  have hl := lv_entry ([.ref x, .int k]) (n := 2) (Nat.le_of_ble_eq_true rfl)
  rw [lg_entry_eq]
  generalize (lg_sl ([.ref x, .int k]) ++ List.replicate (2 - (lg_sl ([.ref x, .int k])).length) Slot.unset).toArray = ls at hl ⊢
  have hl : lv_has ls 2 [(0, .ref x), (1, .int k)] := hl
  refine lv_iload_n hx hb d_B_type_0 rfl (lv_at hl 1 rfl) ?_
  refine lv_bipush (v := 33) hx hb d_B_type_1 (by decide) ?_
  refine lv_icmp_lt (tgt := 21) hx hb d_B_type_3 (by decide) (fun h1 => ?_) (fun h1 => ?_)
  · skip
    refine lv_iconst (v := 0) hx hb d_B_type_21 (by decide) ?_
    have hP9 := hP.sub (ws' := []) [] rfl
    have hD9 := hD.sub (ws' := []) [] (by decide) rfl
    have hK9 := hK.sub (tys' := []) [] rfl
    refine W.widen (k := 0) (n := 0) (by omega) (by omega) ?_
    exact W.zret (v := 0) (ty := .boolean) hx hb hr rfl (fun t ht hW => ⟨⟨0, (), rfl, (by simp [vt_type, h1]), by rw [ht]; exact hP9, va_K.moved hW.alike hK9, hD9⟩, hS.F ht⟩) hS.2.2 d_B_type_22
  · skip
    refine lv_iload_n hx hb d_B_type_6 rfl (lv_at hl 1 rfl) ?_
    refine lv_bipush (v := 126) hx hb d_B_type_7 (by decide) ?_
    refine lv_icmp_gt (tgt := 21) hx hb d_B_type_9 (by decide) (fun h2 => ?_) (fun h2 => ?_)
    · skip
      refine lv_iconst (v := 0) hx hb d_B_type_21 (by decide) ?_
      have hP9 := hP.sub (ws' := []) [] rfl
      have hD9 := hD.sub (ws' := []) [] (by decide) rfl
      have hK9 := hK.sub (tys' := []) [] rfl
      refine W.widen (k := 0) (n := 0) (by omega) (by omega) ?_
      exact W.zret (v := 0) (ty := .boolean) hx hb hr rfl (fun t ht hW => ⟨⟨0, (), rfl, (by simp [vt_type, h1, h2]), by rw [ht]; exact hP9, va_K.moved hW.alike hK9, hD9⟩, hS.F ht⟩) hS.2.2 d_B_type_22
    · skip
      refine lv_aload_n hx hb d_B_type_12 rfl (lv_at hl 0 rfl) ?_
      refine va_get (D := (dC, dI)) (ci := 0) (v := .int 0) (C := "BigRunner") (T := FT0) (N := 5) hx hb (hw0 hB _) (fun _ h9 => h9) hown hK hP 0 rfl rfl 1 (by decide) (wd_379 hB _) (fun _ h9 => h9) rfl d_B_type_13 ?_
      refine lv_bipush (v := 72) hx hb d_B_type_16 (by decide) ?_
      refine lv_icmp_lt (tgt := 23) hx hb d_B_type_18 (by decide) (fun _ => ?_) (fun hq => absurd (by decide) hq)
      refine lv_aload_n hx hb d_B_type_23 rfl (lv_at hl 0 rfl) ?_
      refine va_get (D := (dC, dI)) (ci := 0) (v := .ref ql) (C := "BigRunner") (T := FT0) (N := 5) hx hb (hw0 hB _) (fun _ h9 => h9) hown hK hP 0 rfl rfl 0 (by decide) (wd_378 hB _) (fun _ h9 => h9) rfl d_B_type_24 ?_
      refine lv_aload_n hx hb d_B_type_27 rfl (lv_at hl 0 rfl) ?_
      refine va_get (D := (dC, dI)) (ci := 0) (v := .int 0) (C := "BigRunner") (T := FT0) (N := 5) hx hb (hw0 hB _) (fun _ h9 => h9) hown hK hP 0 rfl rfl 1 (by decide) (wd_379 hB _) (fun _ h9 => h9) rfl d_B_type_28 ?_
      refine lv_iload_n hx hb d_B_type_31 rfl (lv_at hl 1 rfl) ?_
      refine va_cast (D := (dC, dI)) hx hb hK hP hD hS 1 0 rfl rfl (vp_in_nI (n := 0) (by decide) (by decide)) d_B_type_32 (fun H locs hP hD hS => ?_)
      have hP : va_P (dC, dI) vcl [(x, .inr (0, [.ref ql, .int 0, .ref rd, .ref rn, .int 0])), (ql, .inl (cl, 72, .inl (upd (fun _ => 0) (0 : Int32).toNatClampNeg (vp_nar .char k)))), (rd, .inr (7, [.ref qt, .int 0, .int 0, .ref pr])), (pr, .inr (6, [.ref qs, .int 0, .ref qn, .int 0, .ref qv, .ref qi])), (qs, .inl (cs, 36, .inr (.inr (.inr (.inr (fs)))))), (q0, .inr (9, [.int 5, .int 0, .int 0, .int (-1), .int 0])), (rn, .inr (8, [.ref pn, .ref qi2, .int 0, .ref qm, .ref qw, .ref qh, .ref qd, .ref qk, .int 0, .int 0, .int 0, .int 0, .int 0])), (qi2, .inr (1, [.ref qr, .int 0, .int 0])), (qr, .inl (cr, 20, .inl (fun _ => 0)))] H := hP
      have hD : va_D A [(x, .inr (0, [.ref ql, .int 0, .ref rd, .ref rn, .int 0])), (ql, .inl (cl, 72, .inl (upd (fun _ => 0) (0 : Int32).toNatClampNeg (vp_nar .char k)))), (rd, .inr (7, [.ref qt, .int 0, .int 0, .ref pr])), (pr, .inr (6, [.ref qs, .int 0, .ref qn, .int 0, .ref qv, .ref qi])), (qs, .inl (cs, 36, .inr (.inr (.inr (.inr (fs)))))), (q0, .inr (9, [.int 5, .int 0, .int 0, .int (-1), .int 0])), (rn, .inr (8, [.ref pn, .ref qi2, .int 0, .ref qm, .ref qw, .ref qh, .ref qd, .ref qk, .int 0, .int 0, .int 0, .int 0, .int 0])), (qi2, .inr (1, [.ref qr, .int 0, .int 0])), (qr, .inl (cr, 20, .inl (fun _ => 0)))] := hD
      refine lv_aload_n hx hb d_B_type_33 rfl (lv_at hl 0 rfl) ?_
      refine lv_dup hx hb d_B_type_34 rfl ?_
      refine va_get (D := (dC, dI)) (ci := 0) (v := .int 0) (C := "BigRunner") (T := FT0) (N := 5) hx hb (hw0 hB _) (fun _ h9 => h9) hown hK hP 0 rfl rfl 1 (by decide) (wd_379 hB _) (fun _ h9 => h9) rfl d_B_type_35 ?_
      refine lv_iconst (v := 1) hx hb d_B_type_38 (by decide) ?_
      refine lv_iadd hx hb d_B_type_39 ?_
      refine lv_topi (fun z_ hz_ => ?_)
      have hz_ : z_ = 1 := hz_.trans (by decide)
      subst hz_
      refine va_put (D := (dC, dI)) (ci := 0) (v := .int 1) (ty := .int) (C := "BigRunner") (T := FT0) (N := 5) hx hb (hw0 hB _) (fun _ h9 => h9) TY0 ok0 nm0 hown hK hP hD hS 0 rfl rfl 1 (by decide) (wd_379 hB _) (fun _ h9 => h9) rfl (by decide +kernel) rfl rfl (Nat.le_of_ble_eq_true rfl) d_B_type_40 (fun H locs hP hD hS => ?_)
      have hP : va_P (dC, dI) vcl [(x, .inr (0, [.ref ql, .int 1, .ref rd, .ref rn, .int 0])), (ql, .inl (cl, 72, .inl (upd (fun _ => 0) (0 : Int32).toNatClampNeg (vp_nar .char k)))), (rd, .inr (7, [.ref qt, .int 0, .int 0, .ref pr])), (pr, .inr (6, [.ref qs, .int 0, .ref qn, .int 0, .ref qv, .ref qi])), (qs, .inl (cs, 36, .inr (.inr (.inr (.inr (fs)))))), (q0, .inr (9, [.int 5, .int 0, .int 0, .int (-1), .int 0])), (rn, .inr (8, [.ref pn, .ref qi2, .int 0, .ref qm, .ref qw, .ref qh, .ref qd, .ref qk, .int 0, .int 0, .int 0, .int 0, .int 0])), (qi2, .inr (1, [.ref qr, .int 0, .int 0])), (qr, .inl (cr, 20, .inl (fun _ => 0)))] H := hP
      have hD : va_D A [(x, .inr (0, [.ref ql, .int 1, .ref rd, .ref rn, .int 0])), (ql, .inl (cl, 72, .inl (upd (fun _ => 0) (0 : Int32).toNatClampNeg (vp_nar .char k)))), (rd, .inr (7, [.ref qt, .int 0, .int 0, .ref pr])), (pr, .inr (6, [.ref qs, .int 0, .ref qn, .int 0, .ref qv, .ref qi])), (qs, .inl (cs, 36, .inr (.inr (.inr (.inr (fs)))))), (q0, .inr (9, [.int 5, .int 0, .int 0, .int (-1), .int 0])), (rn, .inr (8, [.ref pn, .ref qi2, .int 0, .ref qm, .ref qw, .ref qh, .ref qd, .ref qk, .int 0, .int 0, .int 0, .int 0, .int 0])), (qi2, .inr (1, [.ref qr, .int 0, .int 0])), (qr, .inl (cr, 20, .inl (fun _ => 0)))] := hD
      refine lv_iconst (v := 1) hx hb d_B_type_43 (by decide) ?_
      have hP9 := hP.sub (ws' := []) [] rfl
      have hD9 := hD.sub (ws' := []) [] (by decide) rfl
      have hK9 := hK.sub (tys' := []) [] rfl
      refine W.widen (k := 0) (n := 0) (by omega) (by omega) ?_
      exact W.zret (v := 1) (ty := .boolean) hx hb hr rfl (fun t ht hW => ⟨⟨1, (), rfl, (by simp [vt_type, h1, h2]), by rw [ht]; exact hP9, va_K.moved hW.alike hK9, hD9⟩, hS.F ht⟩) hS.2.2 d_B_type_44
set_option maxHeartbeats 4000000 in
set_option maxRecDepth 100000 in
/-- wipe on a fresh object -/
theorem c_B_wipe (l : Launch) (dC : Nat → ClassId) (dI : Nat → Nat → Nat) (sz : Nat) (x : Nat) (ql : Nat) (cl : ClassId) (rd : Nat) (rn : Nat) (qt : Nat) (pr : Nat) (qs : Nat) (cs : ClassId) (fs : Nat → Option Nat) (q0 : Nat) (qn : Nat) (qv : Nat) (qi : Nat) (pn : Nat) (qi2 : Nat) (qm : Nat) (qw : Nat) (qh : Nat) (qd : Nat) (qk : Nat) (qr : Nat) (cr : ClassId) : Met l ⟨"BigRunner", "wipe", "()V"⟩ [Cond.code ⟨"BigRunner", "wipe", "()V"⟩ prog_1_method_3_code 1 none] ({ frames := 0, cells := 0, slots := 0, locals := 0 }) (va_Pc [.ref x] (fun U => U.heap.size = sz ∧ TB U ∧ va_P (dC, dI) vcl [(x, .inr (0, [.ref ql, .int 0, .ref rd, .ref rn, .int 0])), (ql, .inl (cl, 72, .inl (fun _ => 0))), (rd, .inr (7, [.ref qt, .int 0, .int 0, .ref pr])), (pr, .inr (6, [.ref qs, .int 0, .ref qn, .int 0, .ref qv, .ref qi])), (qs, .inl (cs, 36, .inr (.inr (.inr (.inr (fs)))))), (q0, .inr (9, [.int 5, .int 0, .int 0, .int (-1), .int 0])), (rn, .inr (8, [.ref pn, .ref qi2, .int 0, .ref qm, .ref qw, .ref qh, .ref qd, .ref qk, .int 0, .int 0, .int 0, .int 0, .int 0])), (qi2, .inr (1, [.ref qr, .int 0, .int 0])), (qr, .inl (cr, 20, .inl (fun _ => 0)))] U.heap ∧ va_K (dC, dI) vcl [(cl, .char), (cs, (.object "BigRunner$Statement")), (cr, .int)] U ∧ va_D (fun _ => True) [(x, .inr (0, [.ref ql, .int 0, .ref rd, .ref rn, .int 0])), (ql, .inl (cl, 72, .inl (fun _ => 0))), (rd, .inr (7, [.ref qt, .int 0, .int 0, .ref pr])), (pr, .inr (6, [.ref qs, .int 0, .ref qn, .int 0, .ref qv, .ref qi])), (qs, .inl (cs, 36, .inr (.inr (.inr (.inr (fs)))))), (q0, .inr (9, [.int 5, .int 0, .int 0, .int (-1), .int 0])), (rn, .inr (8, [.ref pn, .ref qi2, .int 0, .ref qm, .ref qw, .ref qh, .ref qd, .ref qk, .int 0, .int 0, .int 0, .int 0, .int 0])), (qi2, .inr (1, [.ref qr, .int 0, .int 0])), (qr, .inl (cr, 20, .inl (fun _ => 0)))])) (va_Qv (fun (u : Unit) => match u with | _ => True) (fun (u : Unit) (t : State) => match u with | _ => va_P (dC, dI) vcl [] t.heap ∧ va_K (dC, dI) vcl [] t ∧ va_D (va_A [(x, .inr (0, [.ref ql, .int 0, .ref rd, .ref rn, .int 0])), (ql, .inl (cl, 72, .inl (fun _ => 0))), (rd, .inr (7, [.ref qt, .int 0, .int 0, .ref pr])), (pr, .inr (6, [.ref qs, .int 0, .ref qn, .int 0, .ref qv, .ref qi])), (qs, .inl (cs, 36, .inr (.inr (.inr (.inr (fs)))))), (q0, .inr (9, [.int 5, .int 0, .int 0, .int (-1), .int 0])), (rn, .inr (8, [.ref pn, .ref qi2, .int 0, .ref qm, .ref qw, .ref qh, .ref qd, .ref qk, .int 0, .int 0, .int 0, .int 0, .int 0])), (qi2, .inr (1, [.ref qr, .int 0, .int 0])), (qr, .inl (cr, 20, .inl (fun _ => 0)))] sz) []) (va_A [(x, .inr (0, [.ref ql, .int 0, .ref rd, .ref rn, .int 0])), (ql, .inl (cl, 72, .inl (fun _ => 0))), (rd, .inr (7, [.ref qt, .int 0, .int 0, .ref pr])), (pr, .inr (6, [.ref qs, .int 0, .ref qn, .int 0, .ref qv, .ref qi])), (qs, .inl (cs, 36, .inr (.inr (.inr (.inr (fs)))))), (q0, .inr (9, [.int 5, .int 0, .int 0, .int (-1), .int 0])), (rn, .inr (8, [.ref pn, .ref qi2, .int 0, .ref qm, .ref qw, .ref qh, .ref qd, .ref qk, .int 0, .int 0, .int 0, .int 0, .int 0])), (qi2, .inr (1, [.ref qr, .int 0, .int 0])), (qr, .inl (cr, 20, .inl (fun _ => 0)))] sz)) 0 0 (va_A [(x, .inr (0, [.ref ql, .int 0, .ref rd, .ref rn, .int 0])), (ql, .inl (cl, 72, .inl (fun _ => 0))), (rd, .inr (7, [.ref qt, .int 0, .int 0, .ref pr])), (pr, .inr (6, [.ref qs, .int 0, .ref qn, .int 0, .ref qv, .ref qi])), (qs, .inl (cs, 36, .inr (.inr (.inr (.inr (fs)))))), (q0, .inr (9, [.int 5, .int 0, .int 0, .int (-1), .int 0])), (rn, .inr (8, [.ref pn, .ref qi2, .int 0, .ref qm, .ref qw, .ref qh, .ref qd, .ref qk, .int 0, .int 0, .int 0, .int 0, .int 0])), (qi2, .inr (1, [.ref qr, .int 0, .int 0])), (qr, .inl (cr, 20, .inl (fun _ => 0)))] sz) := by
  refine Met.ofW (cc := prog_1_method_3_code) (maxL := 1) (ret := none) (by decide) rfl ?_
  intro p e s m args below meth c s₁ B hml hv
  obtain ⟨rfl, hsz, hB, hP, hK, hD0⟩ := hv
  have hx := B.exec
  have hb := B.bytes
  have hr := B.returns
  have hown : s.vm.findClass "BigRunner" = some m.cls := findClass_of_methodNamed B.named
  have hlocks := B.notSynchronized
  subst hsz
  have hD := hD0.self (sz := s.heap.size)
  generalize hAe : va_A [(x, .inr (0, [.ref ql, .int 0, .ref rd, .ref rn, .int 0])), (ql, .inl (cl, 72, .inl (fun _ => 0))), (rd, .inr (7, [.ref qt, .int 0, .int 0, .ref pr])), (pr, .inr (6, [.ref qs, .int 0, .ref qn, .int 0, .ref qv, .ref qi])), (qs, .inl (cs, 36, .inr (.inr (.inr (.inr (fs)))))), (q0, .inr (9, [.int 5, .int 0, .int 0, .int (-1), .int 0])), (rn, .inr (8, [.ref pn, .ref qi2, .int 0, .ref qm, .ref qw, .ref qh, .ref qd, .ref qk, .int 0, .int 0, .int 0, .int 0, .int 0])), (qi2, .inr (1, [.ref qr, .int 0, .int 0])), (qr, .inl (cr, 20, .inl (fun _ => 0)))] s.heap.size = A at hD ⊢
  have hA : ∀ q : Nat, s.heap.size ≤ q → A q := fun q h => by rw [← hAe]; exact Or.inr h
  have hS : va_S A s.heap s.heap [] := va_S.rf
  have hP : va_P (dC, dI) vcl [(x, .inr (0, [.ref ql, .int 0, .ref rd, .ref rn, .int 0])), (ql, .inl (cl, 72, .inl (fun _ => 0))), (rd, .inr (7, [.ref qt, .int 0, .int 0, .ref pr])), (pr, .inr (6, [.ref qs, .int 0, .ref qn, .int 0, .ref qv, .ref qi])), (qs, .inl (cs, 36, .inr (.inr (.inr (.inr (fs)))))), (q0, .inr (9, [.int 5, .int 0, .int 0, .int (-1), .int 0])), (rn, .inr (8, [.ref pn, .ref qi2, .int 0, .ref qm, .ref qw, .ref qh, .ref qd, .ref qk, .int 0, .int 0, .int 0, .int 0, .int 0])), (qi2, .inr (1, [.ref qr, .int 0, .int 0])), (qr, .inl (cr, 20, .inl (fun _ => 0)))] s.heap := hP
  have hl := lv_entry ([.ref x]) (n := 1) (Nat.le_of_ble_eq_true rfl)
  rw [lg_entry_eq]
  generalize (lg_sl ([.ref x]) ++ List.replicate (1 - (lg_sl ([.ref x])).length) Slot.unset).toArray = ls at hl ⊢
  have hl : lv_has ls 1 [(0, .ref x)] := hl
  refine lv_aload_n hx hb d_B_wipe_0 rfl (lv_at hl 0 rfl) ?_
  refine lv_iconst (v := 0) hx hb d_B_wipe_1 (by decide) ?_
  refine va_put (D := (dC, dI)) (ci := 0) (v := .int 0) (ty := .int) (C := "BigRunner") (T := FT0) (N := 5) hx hb (hw0 hB _) (fun _ h9 => h9) TY0 ok0 nm0 hown hK hP hD hS 0 rfl rfl 1 (by decide) (wd_379 hB _) (fun _ h9 => h9) rfl (by decide +kernel) rfl rfl (Nat.le_of_ble_eq_true rfl) d_B_wipe_2 (fun H locs hP hD hS => ?_)
  have hP : va_P (dC, dI) vcl [(x, .inr (0, [.ref ql, .int 0, .ref rd, .ref rn, .int 0])), (ql, .inl (cl, 72, .inl (fun _ => 0))), (rd, .inr (7, [.ref qt, .int 0, .int 0, .ref pr])), (pr, .inr (6, [.ref qs, .int 0, .ref qn, .int 0, .ref qv, .ref qi])), (qs, .inl (cs, 36, .inr (.inr (.inr (.inr (fs)))))), (q0, .inr (9, [.int 5, .int 0, .int 0, .int (-1), .int 0])), (rn, .inr (8, [.ref pn, .ref qi2, .int 0, .ref qm, .ref qw, .ref qh, .ref qd, .ref qk, .int 0, .int 0, .int 0, .int 0, .int 0])), (qi2, .inr (1, [.ref qr, .int 0, .int 0])), (qr, .inl (cr, 20, .inl (fun _ => 0)))] H := hP
  have hD : va_D A [(x, .inr (0, [.ref ql, .int 0, .ref rd, .ref rn, .int 0])), (ql, .inl (cl, 72, .inl (fun _ => 0))), (rd, .inr (7, [.ref qt, .int 0, .int 0, .ref pr])), (pr, .inr (6, [.ref qs, .int 0, .ref qn, .int 0, .ref qv, .ref qi])), (qs, .inl (cs, 36, .inr (.inr (.inr (.inr (fs)))))), (q0, .inr (9, [.int 5, .int 0, .int 0, .int (-1), .int 0])), (rn, .inr (8, [.ref pn, .ref qi2, .int 0, .ref qm, .ref qw, .ref qh, .ref qd, .ref qk, .int 0, .int 0, .int 0, .int 0, .int 0])), (qi2, .inr (1, [.ref qr, .int 0, .int 0])), (qr, .inl (cr, 20, .inl (fun _ => 0)))] := hD
  have hP9 := hP.sub (ws' := []) [] rfl
  have hD9 := hD.sub (ws' := []) [] (by decide) rfl
  have hK9 := hK.sub (tys' := []) [] rfl
  refine W.widen (k := 0) (n := 0) (by omega) (by omega) ?_
  exact W.vret hx hb hr (fun t ht hW => ⟨⟨(), rfl, trivial, by rw [ht]; exact hP9, va_K.moved hW.alike hK9, hD9⟩, hS.F ht⟩) hS.2.2 d_B_wipe_5
set_option maxHeartbeats 4000000 in
set_option maxRecDepth 100000 in
theorem c_Inputs_append (l : Launch) (dC : Nat → ClassId) (dI : Nat → Nat → Nat) (sz : Nat) (y : Nat) (qr : Nat) (cr : ClassId) (k : Int32) : Met l ⟨"BigRunner$Inputs", "append", "(I)Z"⟩ [Cond.code ⟨"BigRunner$Inputs", "append", "(I)Z"⟩ prog_2_method_2_code 2 (some .boolean)] ({ frames := 0, cells := 0, slots := 0, locals := 0 }) (va_Pc [.ref y, .int k] (fun U => U.heap.size = sz ∧ TB U ∧ va_P (dC, dI) vcl [(y, .inr (1, [.ref qr, .int 0, .int 0])), (qr, .inl (cr, 20, .inl (fun _ => 0)))] U.heap ∧ va_K (dC, dI) vcl [(cr, .int)] U ∧ va_D (fun _ => True) [(y, .inr (1, [.ref qr, .int 0, .int 0])), (qr, .inl (cr, 20, .inl (fun _ => 0)))])) (va_Qi (fun (r : Int32) (u : Unit) => match u with | _ => r = vt_give k) (fun (u : Unit) (t : State) => match u with | _ => va_P (dC, dI) vcl [] t.heap ∧ va_K (dC, dI) vcl [] t ∧ va_D (va_A [(y, .inr (1, [.ref qr, .int 0, .int 0])), (qr, .inl (cr, 20, .inl (fun _ => 0)))] sz) []) (va_A [(y, .inr (1, [.ref qr, .int 0, .int 0])), (qr, .inl (cr, 20, .inl (fun _ => 0)))] sz)) 0 0 (va_A [(y, .inr (1, [.ref qr, .int 0, .int 0])), (qr, .inl (cr, 20, .inl (fun _ => 0)))] sz) := by
  refine Met.ofW (cc := prog_2_method_2_code) (maxL := 2) (ret := (some .boolean)) (by decide) rfl ?_
  intro p e s m args below meth c s₁ B hml hv
  obtain ⟨rfl, hsz, hB, hP, hK, hD0⟩ := hv
  have hx := B.exec
  have hb := B.bytes
  have hr := B.returns
  have hown : s.vm.findClass "BigRunner$Inputs" = some m.cls := findClass_of_methodNamed B.named
  have hlocks := B.notSynchronized
  subst hsz
  have hD := hD0.self (sz := s.heap.size)
  generalize hAe : va_A [(y, .inr (1, [.ref qr, .int 0, .int 0])), (qr, .inl (cr, 20, .inl (fun _ => 0)))] s.heap.size = A at hD ⊢
  have hA : ∀ q : Nat, s.heap.size ≤ q → A q := fun q h => by rw [← hAe]; exact Or.inr h
  have hS : va_S A s.heap s.heap [] := va_S.rf
  have hP : va_P (dC, dI) vcl [(y, .inr (1, [.ref qr, .int 0, .int 0])), (qr, .inl (cr, 20, .inl (fun _ => 0)))] s.heap := hP
  have hl := lv_entry ([.ref y, .int k]) (n := 2) (Nat.le_of_ble_eq_true rfl)
  rw [lg_entry_eq]
  generalize (lg_sl ([.ref y, .int k]) ++ List.replicate (2 - (lg_sl ([.ref y, .int k])).length) Slot.unset).toArray = ls at hl ⊢
  have hl : lv_has ls 2 [(0, .ref y), (1, .int k)] := hl
  refine lv_iload_n hx hb d_NInputs_append_0 rfl (lv_at hl 1 rfl) ?_
  refine lv_ldc hx hb hown (wd_410 hB _) d_NInputs_append_1 ?_
  refine lv_icmp_lt (tgt := 21) hx hb d_NInputs_append_3 (by decide) (fun h1 => ?_) (fun h1 => ?_)
  · skip
    refine lv_iconst (v := 0) hx hb d_NInputs_append_21 (by decide) ?_
    have hP9 := hP.sub (ws' := []) [] rfl
    have hD9 := hD.sub (ws' := []) [] (by decide) rfl
    have hK9 := hK.sub (tys' := []) [] rfl
    refine W.widen (k := 0) (n := 0) (by omega) (by omega) ?_
    exact W.zret (v := 0) (ty := .boolean) hx hb hr rfl (fun t ht hW => ⟨⟨0, (), rfl, (by simp [vt_give, h1]), by rw [ht]; exact hP9, va_K.moved hW.alike hK9, hD9⟩, hS.F ht⟩) hS.2.2 d_NInputs_append_22
  · skip
    refine lv_iload_n hx hb d_NInputs_append_6 rfl (lv_at hl 1 rfl) ?_
    refine lv_ldc hx hb hown (wd_411 hB _) d_NInputs_append_7 ?_
    refine lv_icmp_gt (tgt := 21) hx hb d_NInputs_append_9 (by decide) (fun h2 => ?_) (fun h2 => ?_)
    · skip
      refine lv_iconst (v := 0) hx hb d_NInputs_append_21 (by decide) ?_
      have hP9 := hP.sub (ws' := []) [] rfl
      have hD9 := hD.sub (ws' := []) [] (by decide) rfl
      have hK9 := hK.sub (tys' := []) [] rfl
      refine W.widen (k := 0) (n := 0) (by omega) (by omega) ?_
      exact W.zret (v := 0) (ty := .boolean) hx hb hr rfl (fun t ht hW => ⟨⟨0, (), rfl, (by simp [vt_give, h1, h2]), by rw [ht]; exact hP9, va_K.moved hW.alike hK9, hD9⟩, hS.F ht⟩) hS.2.2 d_NInputs_append_22
    · skip
      refine lv_aload_n hx hb d_NInputs_append_12 rfl (lv_at hl 0 rfl) ?_
      refine va_get (D := (dC, dI)) (ci := 1) (v := .int 0) (C := "BigRunner$Inputs") (T := FT1) (N := 3) hx hb (hw1 hB _) (fun _ h9 => h9) hown hK hP 0 rfl rfl 2 (by decide) (wd_300 hB _) (fun _ h9 => h9) rfl d_NInputs_append_13 ?_
      refine lv_bipush (v := 20) hx hb d_NInputs_append_16 (by decide) ?_
      refine lv_icmp_lt (tgt := 23) hx hb d_NInputs_append_18 (by decide) (fun _ => ?_) (fun hq => absurd (by decide) hq)
      refine lv_aload_n hx hb d_NInputs_append_23 rfl (lv_at hl 0 rfl) ?_
      refine va_get (D := (dC, dI)) (ci := 1) (v := .ref qr) (C := "BigRunner$Inputs") (T := FT1) (N := 3) hx hb (hw1 hB _) (fun _ h9 => h9) hown hK hP 0 rfl rfl 0 (by decide) (wd_298 hB _) (fun _ h9 => h9) rfl d_NInputs_append_24 ?_
      refine lv_aload_n hx hb d_NInputs_append_27 rfl (lv_at hl 0 rfl) ?_
      refine va_get (D := (dC, dI)) (ci := 1) (v := .int 0) (C := "BigRunner$Inputs") (T := FT1) (N := 3) hx hb (hw1 hB _) (fun _ h9 => h9) hown hK hP 0 rfl rfl 1 (by decide) (wd_299 hB _) (fun _ h9 => h9) rfl d_NInputs_append_28 ?_
      refine lv_aload_n hx hb d_NInputs_append_31 rfl (lv_at hl 0 rfl) ?_
      refine va_get (D := (dC, dI)) (ci := 1) (v := .int 0) (C := "BigRunner$Inputs") (T := FT1) (N := 3) hx hb (hw1 hB _) (fun _ h9 => h9) hown hK hP 0 rfl rfl 2 (by decide) (wd_300 hB _) (fun _ h9 => h9) rfl d_NInputs_append_32 ?_
      refine lv_iadd hx hb d_NInputs_append_35 ?_
      refine lv_bipush (v := 20) hx hb d_NInputs_append_36 (by decide) ?_
      refine lv_irem hx hb d_NInputs_append_38 (by decide) ?_
      refine lv_topi (fun z_ hz_ => ?_)
      have hz_ : z_ = 0 := hz_.trans (by decide)
      subst hz_
      refine lv_iload_n hx hb d_NInputs_append_39 rfl (lv_at hl 1 rfl) ?_
      refine va_iast (D := (dC, dI)) hx hb hK hP hD hS 1 0 rfl rfl (vp_in_nI (n := 0) (by decide) (by decide)) d_NInputs_append_40 (fun H locs hP hD hS => ?_)
      have hP : va_P (dC, dI) vcl [(y, .inr (1, [.ref qr, .int 0, .int 0])), (qr, .inl (cr, 20, .inl (upd (fun _ => 0) (0 : Int32).toNatClampNeg k)))] H := hP
      have hD : va_D A [(y, .inr (1, [.ref qr, .int 0, .int 0])), (qr, .inl (cr, 20, .inl (upd (fun _ => 0) (0 : Int32).toNatClampNeg k)))] := hD
      refine lv_aload_n hx hb d_NInputs_append_41 rfl (lv_at hl 0 rfl) ?_
      refine lv_dup hx hb d_NInputs_append_42 rfl ?_
      refine va_get (D := (dC, dI)) (ci := 1) (v := .int 0) (C := "BigRunner$Inputs") (T := FT1) (N := 3) hx hb (hw1 hB _) (fun _ h9 => h9) hown hK hP 0 rfl rfl 2 (by decide) (wd_300 hB _) (fun _ h9 => h9) rfl d_NInputs_append_43 ?_
      refine lv_iconst (v := 1) hx hb d_NInputs_append_46 (by decide) ?_
      refine lv_iadd hx hb d_NInputs_append_47 ?_
      refine lv_topi (fun z_ hz_ => ?_)
      have hz_ : z_ = 1 := hz_.trans (by decide)
      subst hz_
      refine va_put (D := (dC, dI)) (ci := 1) (v := .int 1) (ty := .int) (C := "BigRunner$Inputs") (T := FT1) (N := 3) hx hb (hw1 hB _) (fun _ h9 => h9) TY1 ok1 nm1 hown hK hP hD hS 0 rfl rfl 2 (by decide) (wd_300 hB _) (fun _ h9 => h9) rfl (by decide +kernel) rfl rfl (Nat.le_of_ble_eq_true rfl) d_NInputs_append_48 (fun H locs hP hD hS => ?_)
      have hP : va_P (dC, dI) vcl [(y, .inr (1, [.ref qr, .int 0, .int 1])), (qr, .inl (cr, 20, .inl (upd (fun _ => 0) (0 : Int32).toNatClampNeg k)))] H := hP
      have hD : va_D A [(y, .inr (1, [.ref qr, .int 0, .int 1])), (qr, .inl (cr, 20, .inl (upd (fun _ => 0) (0 : Int32).toNatClampNeg k)))] := hD
      refine lv_iconst (v := 1) hx hb d_NInputs_append_51 (by decide) ?_
      have hP9 := hP.sub (ws' := []) [] rfl
      have hD9 := hD.sub (ws' := []) [] (by decide) rfl
      have hK9 := hK.sub (tys' := []) [] rfl
      refine W.widen (k := 0) (n := 0) (by omega) (by omega) ?_
      exact W.zret (v := 1) (ty := .boolean) hx hb hr rfl (fun t ht hW => ⟨⟨1, (), rfl, (by simp [vt_give, h1, h2]), by rw [ht]; exact hP9, va_K.moved hW.alike hK9, hD9⟩, hS.F ht⟩) hS.2.2 d_NInputs_append_52
set_option maxHeartbeats 4000000 in
set_option maxRecDepth 100000 in
/-- give on a fresh object -/
theorem c_B_give (l : Launch) (dC : Nat → ClassId) (dI : Nat → Nat → Nat) (sz : Nat) (x : Nat) (ql : Nat) (cl : ClassId) (rd : Nat) (rn : Nat) (qt : Nat) (pr : Nat) (qs : Nat) (cs : ClassId) (fs : Nat → Option Nat) (q0 : Nat) (qn : Nat) (qv : Nat) (qi : Nat) (pn : Nat) (qi2 : Nat) (qm : Nat) (qw : Nat) (qh : Nat) (qd : Nat) (qk : Nat) (qr : Nat) (cr : ClassId) (k : Int32) : Met l ⟨"BigRunner", "give", "(I)Z"⟩ [Cond.code ⟨"BigRunner", "give", "(I)Z"⟩ prog_1_method_5_code 2 (some .boolean)] ({ frames := 1, cells := 0, slots := 0, locals := 21 }) (va_Pc [.ref x, .int k] (fun U => U.heap.size = sz ∧ TB U ∧ va_P (dC, dI) vcl [(x, .inr (0, [.ref ql, .int 0, .ref rd, .ref rn, .int 0])), (ql, .inl (cl, 72, .inl (fun _ => 0))), (rd, .inr (7, [.ref qt, .int 0, .int 0, .ref pr])), (pr, .inr (6, [.ref qs, .int 0, .ref qn, .int 0, .ref qv, .ref qi])), (qs, .inl (cs, 36, .inr (.inr (.inr (.inr (fs)))))), (q0, .inr (9, [.int 5, .int 0, .int 0, .int (-1), .int 0])), (rn, .inr (8, [.ref pn, .ref qi2, .int 0, .ref qm, .ref qw, .ref qh, .ref qd, .ref qk, .int 0, .int 0, .int 0, .int 0, .int 0])), (qi2, .inr (1, [.ref qr, .int 0, .int 0])), (qr, .inl (cr, 20, .inl (fun _ => 0)))] U.heap ∧ va_K (dC, dI) vcl [(cl, .char), (cs, (.object "BigRunner$Statement")), (cr, .int)] U ∧ va_D (fun _ => True) [(x, .inr (0, [.ref ql, .int 0, .ref rd, .ref rn, .int 0])), (ql, .inl (cl, 72, .inl (fun _ => 0))), (rd, .inr (7, [.ref qt, .int 0, .int 0, .ref pr])), (pr, .inr (6, [.ref qs, .int 0, .ref qn, .int 0, .ref qv, .ref qi])), (qs, .inl (cs, 36, .inr (.inr (.inr (.inr (fs)))))), (q0, .inr (9, [.int 5, .int 0, .int 0, .int (-1), .int 0])), (rn, .inr (8, [.ref pn, .ref qi2, .int 0, .ref qm, .ref qw, .ref qh, .ref qd, .ref qk, .int 0, .int 0, .int 0, .int 0, .int 0])), (qi2, .inr (1, [.ref qr, .int 0, .int 0])), (qr, .inl (cr, 20, .inl (fun _ => 0)))])) (va_Qi (fun (r : Int32) (u : Unit) => match u with | _ => r = vt_give k) (fun (u : Unit) (t : State) => match u with | _ => va_P (dC, dI) vcl [] t.heap ∧ va_K (dC, dI) vcl [] t ∧ va_D (va_A [(x, .inr (0, [.ref ql, .int 0, .ref rd, .ref rn, .int 0])), (ql, .inl (cl, 72, .inl (fun _ => 0))), (rd, .inr (7, [.ref qt, .int 0, .int 0, .ref pr])), (pr, .inr (6, [.ref qs, .int 0, .ref qn, .int 0, .ref qv, .ref qi])), (qs, .inl (cs, 36, .inr (.inr (.inr (.inr (fs)))))), (q0, .inr (9, [.int 5, .int 0, .int 0, .int (-1), .int 0])), (rn, .inr (8, [.ref pn, .ref qi2, .int 0, .ref qm, .ref qw, .ref qh, .ref qd, .ref qk, .int 0, .int 0, .int 0, .int 0, .int 0])), (qi2, .inr (1, [.ref qr, .int 0, .int 0])), (qr, .inl (cr, 20, .inl (fun _ => 0)))] sz) []) (va_A [(x, .inr (0, [.ref ql, .int 0, .ref rd, .ref rn, .int 0])), (ql, .inl (cl, 72, .inl (fun _ => 0))), (rd, .inr (7, [.ref qt, .int 0, .int 0, .ref pr])), (pr, .inr (6, [.ref qs, .int 0, .ref qn, .int 0, .ref qv, .ref qi])), (qs, .inl (cs, 36, .inr (.inr (.inr (.inr (fs)))))), (q0, .inr (9, [.int 5, .int 0, .int 0, .int (-1), .int 0])), (rn, .inr (8, [.ref pn, .ref qi2, .int 0, .ref qm, .ref qw, .ref qh, .ref qd, .ref qk, .int 0, .int 0, .int 0, .int 0, .int 0])), (qi2, .inr (1, [.ref qr, .int 0, .int 0])), (qr, .inl (cr, 20, .inl (fun _ => 0)))] sz)) 0 0 (va_A [(x, .inr (0, [.ref ql, .int 0, .ref rd, .ref rn, .int 0])), (ql, .inl (cl, 72, .inl (fun _ => 0))), (rd, .inr (7, [.ref qt, .int 0, .int 0, .ref pr])), (pr, .inr (6, [.ref qs, .int 0, .ref qn, .int 0, .ref qv, .ref qi])), (qs, .inl (cs, 36, .inr (.inr (.inr (.inr (fs)))))), (q0, .inr (9, [.int 5, .int 0, .int 0, .int (-1), .int 0])), (rn, .inr (8, [.ref pn, .ref qi2, .int 0, .ref qm, .ref qw, .ref qh, .ref qd, .ref qk, .int 0, .int 0, .int 0, .int 0, .int 0])), (qi2, .inr (1, [.ref qr, .int 0, .int 0])), (qr, .inl (cr, 20, .inl (fun _ => 0)))] sz) := by
  refine Met.ofW (cc := prog_1_method_5_code) (maxL := 2) (ret := (some .boolean)) (by decide) rfl ?_
  intro p e s m args below meth c s₁ B hml hv
  obtain ⟨rfl, hsz, hB, hP, hK, hD0⟩ := hv
  have hx := B.exec
  have hb := B.bytes
  have hr := B.returns
  have hown : s.vm.findClass "BigRunner" = some m.cls := findClass_of_methodNamed B.named
  have hlocks := B.notSynchronized
  subst hsz
  have hD := hD0.self (sz := s.heap.size)
  generalize hAe : va_A [(x, .inr (0, [.ref ql, .int 0, .ref rd, .ref rn, .int 0])), (ql, .inl (cl, 72, .inl (fun _ => 0))), (rd, .inr (7, [.ref qt, .int 0, .int 0, .ref pr])), (pr, .inr (6, [.ref qs, .int 0, .ref qn, .int 0, .ref qv, .ref qi])), (qs, .inl (cs, 36, .inr (.inr (.inr (.inr (fs)))))), (q0, .inr (9, [.int 5, .int 0, .int 0, .int (-1), .int 0])), (rn, .inr (8, [.ref pn, .ref qi2, .int 0, .ref qm, .ref qw, .ref qh, .ref qd, .ref qk, .int 0, .int 0, .int 0, .int 0, .int 0])), (qi2, .inr (1, [.ref qr, .int 0, .int 0])), (qr, .inl (cr, 20, .inl (fun _ => 0)))] s.heap.size = A at hD ⊢
  have hA : ∀ q : Nat, s.heap.size ≤ q → A q := fun q h => by rw [← hAe]; exact Or.inr h
  have hS : va_S A s.heap s.heap [] := va_S.rf
  have hP : va_P (dC, dI) vcl [(x, .inr (0, [.ref ql, .int 0, .ref rd, .ref rn, .int 0])), (ql, .inl (cl, 72, .inl (fun _ => 0))), (rd, .inr (7, [.ref qt, .int 0, .int 0, .ref pr])), (pr, .inr (6, [.ref qs, .int 0, .ref qn, .int 0, .ref qv, .ref qi])), (qs, .inl (cs, 36, .inr (.inr (.inr (.inr (fs)))))), (q0, .inr (9, [.int 5, .int 0, .int 0, .int (-1), .int 0])), (rn, .inr (8, [.ref pn, .ref qi2, .int 0, .ref qm, .ref qw, .ref qh, .ref qd, .ref qk, .int 0, .int 0, .int 0, .int 0, .int 0])), (qi2, .inr (1, [.ref qr, .int 0, .int 0])), (qr, .inl (cr, 20, .inl (fun _ => 0)))] s.heap := hP
  have hl := lv_entry ([.ref x, .int k]) (n := 2) (Nat.le_of_ble_eq_true rfl)
  rw [lg_entry_eq]
  generalize (lg_sl ([.ref x, .int k]) ++ List.replicate (2 - (lg_sl ([.ref x, .int k])).length) Slot.unset).toArray = ls at hl ⊢
  have hl : lv_has ls 2 [(0, .ref x), (1, .int k)] := hl
  refine lv_aload_n hx hb d_B_give_0 rfl (lv_at hl 0 rfl) ?_
  refine va_get (D := (dC, dI)) (ci := 0) (v := .ref rn) (C := "BigRunner") (T := FT0) (N := 5) hx hb (hw0 hB _) (fun _ h9 => h9) hown hK hP 0 rfl rfl 3 (by decide) (wd_381 hB _) (fun _ h9 => h9) rfl d_B_give_1 ?_
  refine va_get (D := (dC, dI)) (ci := 8) (v := .ref qi2) (C := "BigRunner$Runner") (T := FT8) (N := 13) hx hb (hw8 hB _) (fun _ h9 => h9) hown hK hP 6 rfl rfl 1 (by decide) (wd_333 hB _) (fun _ h9 => h9) rfl d_B_give_4 ?_
  refine lv_iload_n hx hb d_B_give_7 rfl (lv_at hl 1 rfl) ?_
  have hPc := hP.sub (ws' := [(qi2, .inr (1, [.ref qr, .int 0, .int 0])), (qr, .inl (cr, 20, .inl (fun _ => 0)))]) [7, 8] rfl
  have hDc := hD.sub (ws' := [(qi2, .inr (1, [.ref qr, .int 0, .int 0])), (qr, .inl (cr, 20, .inl (fun _ => 0)))]) [7, 8] (by decide) rfl
  have hKc := hK.sub (tys' := [(cr, .int)]) [2] rfl
  have hFc := va_free (wc := [(qi2, .inr (1, [.ref qr, .int 0, .int 0])), (qr, .inl (cr, 20, .inl (fun _ => 0)))]) hD hS hA [7, 8] rfl
  refine va_calli (va_runV (C := "BigRunner$Inputs") (As := [.int k]) (rest := []) ⟨hx, hb, hml, hown, tb_nil⟩ (c_Inputs_append l dC dI s.heap.size qi2 qr cr k) ⟨(callB_of 1 (tb_one (wd_409 hB _)) tb_good1 rfl rfl rfl (wd_80 hB _) (wd_406 hB _) (by decide +kernel) ⟨Nat.le_of_ble_eq_true rfl, Nat.le_of_ble_eq_true rfl⟩), (wd_407 hB _), (wd_408 hB _)⟩ ⟨fun a U g mk q => by obtain ⟨q0, q1, qB, qP, qK, qD⟩ := q; exact ⟨q0, q1, TB.same (s := U) (U := U.calling g mk a) rfl qB, qP, va_K.moved (u := U) (U := U.calling g mk a) (Vm.Alike.refl U.vm) qK, qD⟩, va_recv hK hP (q0 := 7) (ci := 1) rfl rfl, fun U hU hW => ⟨rfl, by rw [hU], hB.moved hW, by rw [hU]; exact hPc, va_K.moved hW.alike hKc, hDc.weaken (fun _ _ _ _ => trivial)⟩⟩ rfl rfl hl.1 rfl (lv_room (Nat.le_of_ble_eq_true rfl)) d_B_give_8 ⟨(Nat.le_of_ble_eq_true rfl), (Nat.le_of_ble_eq_true rfl)⟩) hS (fun q _ h => hFc q h) hFc (fun r_ u_ t H1 locs ht hvm hw_ hB1 hz1 hk1 hS => ?_)
  obtain ⟨hP1, hK1, hD1⟩ := hB1
  rw [ht] at hP1
  have hK1 := va_K.moved hvm.symm hK1
  try dsimp only at hw_
  obtain ⟨hP, hD⟩ := va_join (wr := [(x, .inr (0, [.ref ql, .int 0, .ref rd, .ref rn, .int 0])), (ql, .inl (cl, 72, .inl (fun _ => 0))), (rd, .inr (7, [.ref qt, .int 0, .int 0, .ref pr])), (pr, .inr (6, [.ref qs, .int 0, .ref qn, .int 0, .ref qv, .ref qi])), (qs, .inl (cs, 36, .inr (.inr (.inr (.inr (fs)))))), (q0, .inr (9, [.int 5, .int 0, .int 0, .int (-1), .int 0])), (rn, .inr (8, [.ref pn, .ref qi2, .int 0, .ref qm, .ref qw, .ref qh, .ref qd, .ref qk, .int 0, .int 0, .int 0, .int 0, .int 0]))]) (w1 := []) hP hD [7, 8] [0, 1, 2, 3, 4, 5, 6] rfl rfl (by decide) (by decide) hk1 hFc hP1 hD1
  have hK := (hK.sub (tys' := [(cl, .char), (cs, (.object "BigRunner$Statement"))]) [0, 1] rfl).app hK1
  clear hk1 hFc hPc hDc hKc hP1 hD1 hK1 hz1 ht hvm
  generalize H1 = H at hP hS ⊢
  have hP : va_P (dC, dI) vcl [(x, .inr (0, [.ref ql, .int 0, .ref rd, .ref rn, .int 0])), (ql, .inl (cl, 72, .inl (fun _ => 0))), (rd, .inr (7, [.ref qt, .int 0, .int 0, .ref pr])), (pr, .inr (6, [.ref qs, .int 0, .ref qn, .int 0, .ref qv, .ref qi])), (qs, .inl (cs, 36, .inr (.inr (.inr (.inr (fs)))))), (q0, .inr (9, [.int 5, .int 0, .int 0, .int (-1), .int 0])), (rn, .inr (8, [.ref pn, .ref qi2, .int 0, .ref qm, .ref qw, .ref qh, .ref qd, .ref qk, .int 0, .int 0, .int 0, .int 0, .int 0]))] H := hP
  have hD : va_D A [(x, .inr (0, [.ref ql, .int 0, .ref rd, .ref rn, .int 0])), (ql, .inl (cl, 72, .inl (fun _ => 0))), (rd, .inr (7, [.ref qt, .int 0, .int 0, .ref pr])), (pr, .inr (6, [.ref qs, .int 0, .ref qn, .int 0, .ref qv, .ref qi])), (qs, .inl (cs, 36, .inr (.inr (.inr (.inr (fs)))))), (q0, .inr (9, [.int 5, .int 0, .int 0, .int (-1), .int 0])), (rn, .inr (8, [.ref pn, .ref qi2, .int 0, .ref qm, .ref qw, .ref qh, .ref qd, .ref qk, .int 0, .int 0, .int 0, .int 0, .int 0]))] := hD
  have hK : va_K (dC, dI) vcl [(cl, .char), (cs, (.object "BigRunner$Statement"))] s := hK
  refine W.widen (k := 0) (n := 0) (by omega) (by omega) ?_
  subst hw_
  have hP9 := hP.sub (ws' := []) [] rfl
  have hD9 := hD.sub (ws' := []) [] (by decide) rfl
  have hK9 := hK.sub (tys' := []) [] rfl
  refine W.widen (k := 0) (n := 0) (by omega) (by omega) ?_
  exact W.zret (v := (vt_give k)) (ty := .boolean) hx hb hr (vt_give_b k) (fun t ht hW => ⟨⟨(vt_give k), (), rfl, rfl, by rw [ht]; exact hP9, va_K.moved hW.alike hK9, hD9⟩, hS.F ht⟩) hS.2.2 d_B_give_11
set_option maxHeartbeats 4000000 in
set_option maxRecDepth 100000 in
theorem c_B_state (l : Launch) (dC : Nat → ClassId) (dI : Nat → Nat → Nat) (sz : Nat) (x : Nat) (ql : Nat) (cl : ClassId) (rd : Nat) (rn : Nat) (qt : Nat) (pr : Nat) (qs : Nat) (cs : ClassId) (fs : Nat → Option Nat) (q0 : Nat) (qn : Nat) (qv : Nat) (qi : Nat) (pn : Nat) (qi2 : Nat) (qm : Nat) (qw : Nat) (qh : Nat) (qd : Nat) (qk : Nat) (qr : Nat) (cr : ClassId) : Met l ⟨"BigRunner", "state", "()I"⟩ [Cond.code ⟨"BigRunner", "state", "()I"⟩ prog_1_method_13_code 1 (some .int)] ({ frames := 0, cells := 0, slots := 0, locals := 0 }) (va_Pc [.ref x] (fun U => U.heap.size = sz ∧ TB U ∧ va_P (dC, dI) vcl [(x, .inr (0, [.ref ql, .int 0, .ref rd, .ref rn, .int 0])), (ql, .inl (cl, 72, .inl (fun _ => 0))), (rd, .inr (7, [.ref qt, .int 0, .int 0, .ref pr])), (pr, .inr (6, [.ref qs, .int 0, .ref qn, .int 0, .ref qv, .ref qi])), (qs, .inl (cs, 36, .inr (.inr (.inr (.inr (fs)))))), (q0, .inr (9, [.int 5, .int 0, .int 0, .int (-1), .int 0])), (rn, .inr (8, [.ref pn, .ref qi2, .int 0, .ref qm, .ref qw, .ref qh, .ref qd, .ref qk, .int 0, .int 0, .int 0, .int 0, .int 0])), (qi2, .inr (1, [.ref qr, .int 0, .int 0])), (qr, .inl (cr, 20, .inl (fun _ => 0)))] U.heap ∧ va_K (dC, dI) vcl [(cl, .char), (cs, (.object "BigRunner$Statement")), (cr, .int)] U ∧ va_D (fun _ => True) [(x, .inr (0, [.ref ql, .int 0, .ref rd, .ref rn, .int 0])), (ql, .inl (cl, 72, .inl (fun _ => 0))), (rd, .inr (7, [.ref qt, .int 0, .int 0, .ref pr])), (pr, .inr (6, [.ref qs, .int 0, .ref qn, .int 0, .ref qv, .ref qi])), (qs, .inl (cs, 36, .inr (.inr (.inr (.inr (fs)))))), (q0, .inr (9, [.int 5, .int 0, .int 0, .int (-1), .int 0])), (rn, .inr (8, [.ref pn, .ref qi2, .int 0, .ref qm, .ref qw, .ref qh, .ref qd, .ref qk, .int 0, .int 0, .int 0, .int 0, .int 0])), (qi2, .inr (1, [.ref qr, .int 0, .int 0])), (qr, .inl (cr, 20, .inl (fun _ => 0)))])) (va_Qi (fun (r : Int32) (u : Unit) => match u with | _ => r = 0) (fun (u : Unit) (t : State) => match u with | _ => va_P (dC, dI) vcl [] t.heap ∧ va_K (dC, dI) vcl [] t ∧ va_D (va_A [(x, .inr (0, [.ref ql, .int 0, .ref rd, .ref rn, .int 0])), (ql, .inl (cl, 72, .inl (fun _ => 0))), (rd, .inr (7, [.ref qt, .int 0, .int 0, .ref pr])), (pr, .inr (6, [.ref qs, .int 0, .ref qn, .int 0, .ref qv, .ref qi])), (qs, .inl (cs, 36, .inr (.inr (.inr (.inr (fs)))))), (q0, .inr (9, [.int 5, .int 0, .int 0, .int (-1), .int 0])), (rn, .inr (8, [.ref pn, .ref qi2, .int 0, .ref qm, .ref qw, .ref qh, .ref qd, .ref qk, .int 0, .int 0, .int 0, .int 0, .int 0])), (qi2, .inr (1, [.ref qr, .int 0, .int 0])), (qr, .inl (cr, 20, .inl (fun _ => 0)))] sz) []) (va_A [(x, .inr (0, [.ref ql, .int 0, .ref rd, .ref rn, .int 0])), (ql, .inl (cl, 72, .inl (fun _ => 0))), (rd, .inr (7, [.ref qt, .int 0, .int 0, .ref pr])), (pr, .inr (6, [.ref qs, .int 0, .ref qn, .int 0, .ref qv, .ref qi])), (qs, .inl (cs, 36, .inr (.inr (.inr (.inr (fs)))))), (q0, .inr (9, [.int 5, .int 0, .int 0, .int (-1), .int 0])), (rn, .inr (8, [.ref pn, .ref qi2, .int 0, .ref qm, .ref qw, .ref qh, .ref qd, .ref qk, .int 0, .int 0, .int 0, .int 0, .int 0])), (qi2, .inr (1, [.ref qr, .int 0, .int 0])), (qr, .inl (cr, 20, .inl (fun _ => 0)))] sz)) 0 0 (va_A [(x, .inr (0, [.ref ql, .int 0, .ref rd, .ref rn, .int 0])), (ql, .inl (cl, 72, .inl (fun _ => 0))), (rd, .inr (7, [.ref qt, .int 0, .int 0, .ref pr])), (pr, .inr (6, [.ref qs, .int 0, .ref qn, .int 0, .ref qv, .ref qi])), (qs, .inl (cs, 36, .inr (.inr (.inr (.inr (fs)))))), (q0, .inr (9, [.int 5, .int 0, .int 0, .int (-1), .int 0])), (rn, .inr (8, [.ref pn, .ref qi2, .int 0, .ref qm, .ref qw, .ref qh, .ref qd, .ref qk, .int 0, .int 0, .int 0, .int 0, .int 0])), (qi2, .inr (1, [.ref qr, .int 0, .int 0])), (qr, .inl (cr, 20, .inl (fun _ => 0)))] sz) := by
  refine Met.ofW (cc := prog_1_method_13_code) (maxL := 1) (ret := (some .int)) (by decide) rfl ?_
  intro p e s m args below meth c s₁ B hml hv
  obtain ⟨rfl, hsz, hB, hP, hK, hD0⟩ := hv
  have hx := B.exec
  have hb := B.bytes
  have hr := B.returns
  have hown : s.vm.findClass "BigRunner" = some m.cls := findClass_of_methodNamed B.named
  have hlocks := B.notSynchronized
  subst hsz
  have hD := hD0.self (sz := s.heap.size)
  generalize hAe : va_A [(x, .inr (0, [.ref ql, .int 0, .ref rd, .ref rn, .int 0])), (ql, .inl (cl, 72, .inl (fun _ => 0))), (rd, .inr (7, [.ref qt, .int 0, .int 0, .ref pr])), (pr, .inr (6, [.ref qs, .int 0, .ref qn, .int 0, .ref qv, .ref qi])), (qs, .inl (cs, 36, .inr (.inr (.inr (.inr (fs)))))), (q0, .inr (9, [.int 5, .int 0, .int 0, .int (-1), .int 0])), (rn, .inr (8, [.ref pn, .ref qi2, .int 0, .ref qm, .ref qw, .ref qh, .ref qd, .ref qk, .int 0, .int 0, .int 0, .int 0, .int 0])), (qi2, .inr (1, [.ref qr, .int 0, .int 0])), (qr, .inl (cr, 20, .inl (fun _ => 0)))] s.heap.size = A at hD ⊢
  have hA : ∀ q : Nat, s.heap.size ≤ q → A q := fun q h => by rw [← hAe]; exact Or.inr h
  have hS : va_S A s.heap s.heap [] := va_S.rf
  have hP : va_P (dC, dI) vcl [(x, .inr (0, [.ref ql, .int 0, .ref rd, .ref rn, .int 0])), (ql, .inl (cl, 72, .inl (fun _ => 0))), (rd, .inr (7, [.ref qt, .int 0, .int 0, .ref pr])), (pr, .inr (6, [.ref qs, .int 0, .ref qn, .int 0, .ref qv, .ref qi])), (qs, .inl (cs, 36, .inr (.inr (.inr (.inr (fs)))))), (q0, .inr (9, [.int 5, .int 0, .int 0, .int (-1), .int 0])), (rn, .inr (8, [.ref pn, .ref qi2, .int 0, .ref qm, .ref qw, .ref qh, .ref qd, .ref qk, .int 0, .int 0, .int 0, .int 0, .int 0])), (qi2, .inr (1, [.ref qr, .int 0, .int 0])), (qr, .inl (cr, 20, .inl (fun _ => 0)))] s.heap := hP
  have hl := lv_entry ([.ref x]) (n := 1) (Nat.le_of_ble_eq_true rfl)
  rw [lg_entry_eq]
  generalize (lg_sl ([.ref x]) ++ List.replicate (1 - (lg_sl ([.ref x])).length) Slot.unset).toArray = ls at hl ⊢
  have hl : lv_has ls 1 [(0, .ref x)] := hl
  refine lv_aload_n hx hb d_B_state_0 rfl (lv_at hl 0 rfl) ?_
  refine va_get (D := (dC, dI)) (ci := 0) (v := .int 0) (C := "BigRunner") (T := FT0) (N := 5) hx hb (hw0 hB _) (fun _ h9 => h9) hown hK hP 0 rfl rfl 4 (by decide) (wd_382 hB _) (fun _ h9 => h9) rfl d_B_state_1 ?_
  refine lv_if_ne (tgt := 9) hx hb d_B_state_4 (by decide) (fun hq => absurd hq (fun h => h rfl)) (fun _ => ?_)
  refine lv_iconst (v := 0) hx hb d_B_state_7 (by decide) ?_
  have hP9 := hP.sub (ws' := []) [] rfl
  have hD9 := hD.sub (ws' := []) [] (by decide) rfl
  have hK9 := hK.sub (tys' := []) [] rfl
  refine W.widen (k := 0) (n := 0) (by omega) (by omega) ?_
  exact W.iret (v := 0) hx hb hr (fun t ht hW => ⟨⟨0, (), rfl, rfl, by rw [ht]; exact hP9, va_K.moved hW.alike hK9, hD9⟩, hS.F ht⟩) hS.2.2 d_B_state_8
set_option maxHeartbeats 4000000 in
set_option maxRecDepth 100000 in
/-- look on a fresh object -/
theorem c_B_look (l : Launch) (dC : Nat → ClassId) (dI : Nat → Nat → Nat) (sz : Nat) (x : Nat) (ql : Nat) (cl : ClassId) (rd : Nat) (rn : Nat) (qt : Nat) (pr : Nat) (qs : Nat) (cs : ClassId) (fs : Nat → Option Nat) (q0 : Nat) (qn : Nat) (qv : Nat) (qi : Nat) (pn : Nat) (qi2 : Nat) (qm : Nat) (qw : Nat) (qh : Nat) (qd : Nat) (qk : Nat) (qr : Nat) (cr : ClassId) (k : Int32) : Met l ⟨"BigRunner", "look", "(I)I"⟩ [Cond.code ⟨"BigRunner", "look", "(I)I"⟩ prog_1_method_7_code 2 (some .int)] ({ frames := 1, cells := 0, slots := 0, locals := 20 }) (va_Pc [.ref x, .int k] (fun U => U.heap.size = sz ∧ TB U ∧ va_P (dC, dI) vcl [(x, .inr (0, [.ref ql, .int 0, .ref rd, .ref rn, .int 0])), (ql, .inl (cl, 72, .inl (fun _ => 0))), (rd, .inr (7, [.ref qt, .int 0, .int 0, .ref pr])), (pr, .inr (6, [.ref qs, .int 0, .ref qn, .int 0, .ref qv, .ref qi])), (qs, .inl (cs, 36, .inr (.inr (.inr (.inr (fs)))))), (q0, .inr (9, [.int 5, .int 0, .int 0, .int (-1), .int 0])), (rn, .inr (8, [.ref pn, .ref qi2, .int 0, .ref qm, .ref qw, .ref qh, .ref qd, .ref qk, .int 0, .int 0, .int 0, .int 0, .int 0])), (qi2, .inr (1, [.ref qr, .int 0, .int 0])), (qr, .inl (cr, 20, .inl (fun _ => 0)))] U.heap ∧ va_K (dC, dI) vcl [(cl, .char), (cs, (.object "BigRunner$Statement")), (cr, .int)] U ∧ va_D (fun _ => True) [(x, .inr (0, [.ref ql, .int 0, .ref rd, .ref rn, .int 0])), (ql, .inl (cl, 72, .inl (fun _ => 0))), (rd, .inr (7, [.ref qt, .int 0, .int 0, .ref pr])), (pr, .inr (6, [.ref qs, .int 0, .ref qn, .int 0, .ref qv, .ref qi])), (qs, .inl (cs, 36, .inr (.inr (.inr (.inr (fs)))))), (q0, .inr (9, [.int 5, .int 0, .int 0, .int (-1), .int 0])), (rn, .inr (8, [.ref pn, .ref qi2, .int 0, .ref qm, .ref qw, .ref qh, .ref qd, .ref qk, .int 0, .int 0, .int 0, .int 0, .int 0])), (qi2, .inr (1, [.ref qr, .int 0, .int 0])), (qr, .inl (cr, 20, .inl (fun _ => 0)))])) (va_Qi (fun (r : Int32) (u : Unit) => match u with | _ => r = vt_look k) (fun (u : Unit) (t : State) => match u with | _ => va_P (dC, dI) vcl [] t.heap ∧ va_K (dC, dI) vcl [] t ∧ va_D (va_A [(x, .inr (0, [.ref ql, .int 0, .ref rd, .ref rn, .int 0])), (ql, .inl (cl, 72, .inl (fun _ => 0))), (rd, .inr (7, [.ref qt, .int 0, .int 0, .ref pr])), (pr, .inr (6, [.ref qs, .int 0, .ref qn, .int 0, .ref qv, .ref qi])), (qs, .inl (cs, 36, .inr (.inr (.inr (.inr (fs)))))), (q0, .inr (9, [.int 5, .int 0, .int 0, .int (-1), .int 0])), (rn, .inr (8, [.ref pn, .ref qi2, .int 0, .ref qm, .ref qw, .ref qh, .ref qd, .ref qk, .int 0, .int 0, .int 0, .int 0, .int 0])), (qi2, .inr (1, [.ref qr, .int 0, .int 0])), (qr, .inl (cr, 20, .inl (fun _ => 0)))] sz) []) (va_A [(x, .inr (0, [.ref ql, .int 0, .ref rd, .ref rn, .int 0])), (ql, .inl (cl, 72, .inl (fun _ => 0))), (rd, .inr (7, [.ref qt, .int 0, .int 0, .ref pr])), (pr, .inr (6, [.ref qs, .int 0, .ref qn, .int 0, .ref qv, .ref qi])), (qs, .inl (cs, 36, .inr (.inr (.inr (.inr (fs)))))), (q0, .inr (9, [.int 5, .int 0, .int 0, .int (-1), .int 0])), (rn, .inr (8, [.ref pn, .ref qi2, .int 0, .ref qm, .ref qw, .ref qh, .ref qd, .ref qk, .int 0, .int 0, .int 0, .int 0, .int 0])), (qi2, .inr (1, [.ref qr, .int 0, .int 0])), (qr, .inl (cr, 20, .inl (fun _ => 0)))] sz)) 0 0 (va_A [(x, .inr (0, [.ref ql, .int 0, .ref rd, .ref rn, .int 0])), (ql, .inl (cl, 72, .inl (fun _ => 0))), (rd, .inr (7, [.ref qt, .int 0, .int 0, .ref pr])), (pr, .inr (6, [.ref qs, .int 0, .ref qn, .int 0, .ref qv, .ref qi])), (qs, .inl (cs, 36, .inr (.inr (.inr (.inr (fs)))))), (q0, .inr (9, [.int 5, .int 0, .int 0, .int (-1), .int 0])), (rn, .inr (8, [.ref pn, .ref qi2, .int 0, .ref qm, .ref qw, .ref qh, .ref qd, .ref qk, .int 0, .int 0, .int 0, .int 0, .int 0])), (qi2, .inr (1, [.ref qr, .int 0, .int 0])), (qr, .inl (cr, 20, .inl (fun _ => 0)))] sz) := by
  refine Met.ofW (cc := prog_1_method_7_code) (maxL := 2) (ret := (some .int)) (by decide) rfl ?_
  intro p e s m args below meth c s₁ B hml hv
  obtain ⟨rfl, hsz, hB, hP, hK, hD0⟩ := hv
  have hx := B.exec
  have hb := B.bytes
  have hr := B.returns
  have hown : s.vm.findClass "BigRunner" = some m.cls := findClass_of_methodNamed B.named
  have hlocks := B.notSynchronized
  subst hsz
  have hD := hD0.self (sz := s.heap.size)
  generalize hAe : va_A [(x, .inr (0, [.ref ql, .int 0, .ref rd, .ref rn, .int 0])), (ql, .inl (cl, 72, .inl (fun _ => 0))), (rd, .inr (7, [.ref qt, .int 0, .int 0, .ref pr])), (pr, .inr (6, [.ref qs, .int 0, .ref qn, .int 0, .ref qv, .ref qi])), (qs, .inl (cs, 36, .inr (.inr (.inr (.inr (fs)))))), (q0, .inr (9, [.int 5, .int 0, .int 0, .int (-1), .int 0])), (rn, .inr (8, [.ref pn, .ref qi2, .int 0, .ref qm, .ref qw, .ref qh, .ref qd, .ref qk, .int 0, .int 0, .int 0, .int 0, .int 0])), (qi2, .inr (1, [.ref qr, .int 0, .int 0])), (qr, .inl (cr, 20, .inl (fun _ => 0)))] s.heap.size = A at hD ⊢
  have hA : ∀ q : Nat, s.heap.size ≤ q → A q := fun q h => by rw [← hAe]; exact Or.inr h
  have hS : va_S A s.heap s.heap [] := va_S.rf
  have hP : va_P (dC, dI) vcl [(x, .inr (0, [.ref ql, .int 0, .ref rd, .ref rn, .int 0])), (ql, .inl (cl, 72, .inl (fun _ => 0))), (rd, .inr (7, [.ref qt, .int 0, .int 0, .ref pr])), (pr, .inr (6, [.ref qs, .int 0, .ref qn, .int 0, .ref qv, .ref qi])), (qs, .inl (cs, 36, .inr (.inr (.inr (.inr (fs)))))), (q0, .inr (9, [.int 5, .int 0, .int 0, .int (-1), .int 0])), (rn, .inr (8, [.ref pn, .ref qi2, .int 0, .ref qm, .ref qw, .ref qh, .ref qd, .ref qk, .int 0, .int 0, .int 0, .int 0, .int 0])), (qi2, .inr (1, [.ref qr, .int 0, .int 0])), (qr, .inl (cr, 20, .inl (fun _ => 0)))] s.heap := hP
  have hl := lv_entry ([.ref x, .int k]) (n := 2) (Nat.le_of_ble_eq_true rfl)
  rw [lg_entry_eq]
  generalize (lg_sl ([.ref x, .int k]) ++ List.replicate (2 - (lg_sl ([.ref x, .int k])).length) Slot.unset).toArray = ls at hl ⊢
  have hl : lv_has ls 2 [(0, .ref x), (1, .int k)] := hl
  refine lv_iload_n hx hb d_B_look_0 rfl (lv_at hl 1 rfl) ?_
  by_cases hk0 : k = 0
  · skip
    subst hk0
    refine lv_tableIn (off := 43) (tgt := 44) hx hb d_B_look_1 (by decide) (by decide) (by decide) (by decide) ?_
    refine lv_aload_n hx hb d_B_look_44 rfl (lv_at hl 0 rfl) ?_
    have hPc := hP.sub (ws' := [(x, .inr (0, [.ref ql, .int 0, .ref rd, .ref rn, .int 0])), (ql, .inl (cl, 72, .inl (fun _ => 0))), (rd, .inr (7, [.ref qt, .int 0, .int 0, .ref pr])), (pr, .inr (6, [.ref qs, .int 0, .ref qn, .int 0, .ref qv, .ref qi])), (qs, .inl (cs, 36, .inr (.inr (.inr (.inr (fs)))))), (q0, .inr (9, [.int 5, .int 0, .int 0, .int (-1), .int 0])), (rn, .inr (8, [.ref pn, .ref qi2, .int 0, .ref qm, .ref qw, .ref qh, .ref qd, .ref qk, .int 0, .int 0, .int 0, .int 0, .int 0])), (qi2, .inr (1, [.ref qr, .int 0, .int 0])), (qr, .inl (cr, 20, .inl (fun _ => 0)))]) [0, 1, 2, 3, 4, 5, 6, 7, 8] rfl
    have hDc := hD.sub (ws' := [(x, .inr (0, [.ref ql, .int 0, .ref rd, .ref rn, .int 0])), (ql, .inl (cl, 72, .inl (fun _ => 0))), (rd, .inr (7, [.ref qt, .int 0, .int 0, .ref pr])), (pr, .inr (6, [.ref qs, .int 0, .ref qn, .int 0, .ref qv, .ref qi])), (qs, .inl (cs, 36, .inr (.inr (.inr (.inr (fs)))))), (q0, .inr (9, [.int 5, .int 0, .int 0, .int (-1), .int 0])), (rn, .inr (8, [.ref pn, .ref qi2, .int 0, .ref qm, .ref qw, .ref qh, .ref qd, .ref qk, .int 0, .int 0, .int 0, .int 0, .int 0])), (qi2, .inr (1, [.ref qr, .int 0, .int 0])), (qr, .inl (cr, 20, .inl (fun _ => 0)))]) [0, 1, 2, 3, 4, 5, 6, 7, 8] (by decide) rfl
    have hKc := hK.sub (tys' := [(cl, .char), (cs, (.object "BigRunner$Statement")), (cr, .int)]) [0, 1, 2] rfl
    have hFc := va_free (wc := [(x, .inr (0, [.ref ql, .int 0, .ref rd, .ref rn, .int 0])), (ql, .inl (cl, 72, .inl (fun _ => 0))), (rd, .inr (7, [.ref qt, .int 0, .int 0, .ref pr])), (pr, .inr (6, [.ref qs, .int 0, .ref qn, .int 0, .ref qv, .ref qi])), (qs, .inl (cs, 36, .inr (.inr (.inr (.inr (fs)))))), (q0, .inr (9, [.int 5, .int 0, .int 0, .int (-1), .int 0])), (rn, .inr (8, [.ref pn, .ref qi2, .int 0, .ref qm, .ref qw, .ref qh, .ref qd, .ref qk, .int 0, .int 0, .int 0, .int 0, .int 0])), (qi2, .inr (1, [.ref qr, .int 0, .int 0])), (qr, .inl (cr, 20, .inl (fun _ => 0)))]) hD hS hA [0, 1, 2, 3, 4, 5, 6, 7, 8] rfl
    refine va_calli (va_runV (C := "BigRunner") (As := []) (rest := []) ⟨hx, hb, hml, hown, tb_nil⟩ (c_B_state l dC dI s.heap.size x ql cl rd rn qt pr qs cs fs q0 qn qv qi pn qi2 qm qw qh qd qk qr cr) ⟨(callB_of 0 (tb_one (wd_419 hB _)) tb_good1 rfl rfl rfl (wd_72 hB _) (wd_416 hB _) (by decide +kernel) ⟨Nat.le_of_ble_eq_true rfl, Nat.le_of_ble_eq_true rfl⟩), (wd_418 hB _), (wd_0 hB _)⟩ ⟨fun a U g mk q => by obtain ⟨q0, q1, qB, qP, qK, qD⟩ := q; exact ⟨q0, q1, TB.same (s := U) (U := U.calling g mk a) rfl qB, qP, va_K.moved (u := U) (U := U.calling g mk a) (Vm.Alike.refl U.vm) qK, qD⟩, va_recv hK hP (q0 := 0) (ci := 0) rfl rfl, fun U hU hW => ⟨rfl, by rw [hU], hB.moved hW, by rw [hU]; exact hPc, va_K.moved hW.alike hKc, hDc.weaken (fun _ _ _ _ => trivial)⟩⟩ rfl rfl hl.1 rfl (lv_room (Nat.le_of_ble_eq_true rfl)) d_B_look_45 ⟨(Nat.le_of_ble_eq_true rfl), (Nat.le_of_ble_eq_true rfl)⟩) hS (fun q _ h => hFc q h) hFc (fun r_ u_ t H1 locs ht hvm hw_ hB1 hz1 hk1 hS => ?_)
    obtain ⟨hP1, hK1, hD1⟩ := hB1
    rw [ht] at hP1
    have hK1 := va_K.moved hvm.symm hK1
    try dsimp only at hw_
    obtain ⟨hP, hD⟩ := va_join (wr := []) (w1 := []) hP hD [0, 1, 2, 3, 4, 5, 6, 7, 8] [] rfl rfl (by decide) (by decide) hk1 hFc hP1 hD1
    have hK := (hK.sub (tys' := []) [] rfl).app hK1
    clear hk1 hFc hPc hDc hKc hP1 hD1 hK1 hz1 ht hvm
    generalize H1 = H at hP hS ⊢
    have hP : va_P (dC, dI) vcl [] H := hP
    have hD : va_D A [] := hD
    have hK : va_K (dC, dI) vcl [] s := hK
    refine W.widen (k := 0) (n := 0) (by omega) (by omega) ?_
    subst hw_
    have hP9 := hP.sub (ws' := []) [] rfl
    have hD9 := hD.sub (ws' := []) [] (by decide) rfl
    have hK9 := hK.sub (tys' := []) [] rfl
    refine W.widen (k := 0) (n := 0) (by omega) (by omega) ?_
    exact W.iret (v := 0) hx hb hr (fun t ht hW => ⟨⟨0, (), rfl, (by decide), by rw [ht]; exact hP9, va_K.moved hW.alike hK9, hD9⟩, hS.F ht⟩) hS.2.2 d_B_look_48
  by_cases hk1 : k = 1
  · skip
    subst hk1
    refine lv_tableIn (off := 48) (tgt := 49) hx hb d_B_look_1 (by decide) (by decide) (by decide) (by decide) ?_
    refine lv_aload_n hx hb d_B_look_49 rfl (lv_at hl 0 rfl) ?_
    refine va_get (D := (dC, dI)) (ci := 0) (v := .ref rn) (C := "BigRunner") (T := FT0) (N := 5) hx hb (hw0 hB _) (fun _ h9 => h9) hown hK hP 0 rfl rfl 3 (by decide) (wd_381 hB _) (fun _ h9 => h9) rfl d_B_look_50 ?_
    refine va_get (D := (dC, dI)) (ci := 8) (v := .int 0) (C := "BigRunner$Runner") (T := FT8) (N := 13) hx hb (hw8 hB _) (fun _ h9 => h9) hown hK hP 6 rfl rfl 12 (by decide) (wd_350 hB _) (fun _ h9 => h9) rfl d_B_look_53 ?_
    have hP9 := hP.sub (ws' := []) [] rfl
    have hD9 := hD.sub (ws' := []) [] (by decide) rfl
    have hK9 := hK.sub (tys' := []) [] rfl
    refine W.widen (k := 0) (n := 0) (by omega) (by omega) ?_
    exact W.iret (v := 0) hx hb hr (fun t ht hW => ⟨⟨0, (), rfl, (by decide), by rw [ht]; exact hP9, va_K.moved hW.alike hK9, hD9⟩, hS.F ht⟩) hS.2.2 d_B_look_56
  by_cases hk2 : k = 2
  · skip
    subst hk2
    refine lv_tableIn (off := 56) (tgt := 57) hx hb d_B_look_1 (by decide) (by decide) (by decide) (by decide) ?_
    refine lv_aload_n hx hb d_B_look_57 rfl (lv_at hl 0 rfl) ?_
    refine va_get (D := (dC, dI)) (ci := 0) (v := .ref rn) (C := "BigRunner") (T := FT0) (N := 5) hx hb (hw0 hB _) (fun _ h9 => h9) hown hK hP 0 rfl rfl 3 (by decide) (wd_381 hB _) (fun _ h9 => h9) rfl d_B_look_58 ?_
    refine va_get (D := (dC, dI)) (ci := 8) (v := .int 0) (C := "BigRunner$Runner") (T := FT8) (N := 13) hx hb (hw8 hB _) (fun _ h9 => h9) hown hK hP 6 rfl rfl 9 (by decide) (wd_344 hB _) (fun _ h9 => h9) rfl d_B_look_61 ?_
    have hP9 := hP.sub (ws' := []) [] rfl
    have hD9 := hD.sub (ws' := []) [] (by decide) rfl
    have hK9 := hK.sub (tys' := []) [] rfl
    refine W.widen (k := 0) (n := 0) (by omega) (by omega) ?_
    exact W.iret (v := 0) hx hb hr (fun t ht hW => ⟨⟨0, (), rfl, (by decide), by rw [ht]; exact hP9, va_K.moved hW.alike hK9, hD9⟩, hS.F ht⟩) hS.2.2 d_B_look_64
  by_cases hk3 : k = 3
  · skip
    subst hk3
    refine lv_tableIn (off := 64) (tgt := 65) hx hb d_B_look_1 (by decide) (by decide) (by decide) (by decide) ?_
    refine lv_aload_n hx hb d_B_look_65 rfl (lv_at hl 0 rfl) ?_
    refine va_get (D := (dC, dI)) (ci := 0) (v := .ref rn) (C := "BigRunner") (T := FT0) (N := 5) hx hb (hw0 hB _) (fun _ h9 => h9) hown hK hP 0 rfl rfl 3 (by decide) (wd_381 hB _) (fun _ h9 => h9) rfl d_B_look_66 ?_
    refine va_get (D := (dC, dI)) (ci := 8) (v := .int 0) (C := "BigRunner$Runner") (T := FT8) (N := 13) hx hb (hw8 hB _) (fun _ h9 => h9) hown hK hP 6 rfl rfl 10 (by decide) (wd_346 hB _) (fun _ h9 => h9) rfl d_B_look_69 ?_
    have hP9 := hP.sub (ws' := []) [] rfl
    have hD9 := hD.sub (ws' := []) [] (by decide) rfl
    have hK9 := hK.sub (tys' := []) [] rfl
    refine W.widen (k := 0) (n := 0) (by omega) (by omega) ?_
    exact W.iret (v := 0) hx hb hr (fun t ht hW => ⟨⟨0, (), rfl, (by decide), by rw [ht]; exact hP9, va_K.moved hW.alike hK9, hD9⟩, hS.F ht⟩) hS.2.2 d_B_look_72
  by_cases hk4 : k = 4
  · skip
    subst hk4
    refine lv_tableIn (off := 72) (tgt := 73) hx hb d_B_look_1 (by decide) (by decide) (by decide) (by decide) ?_
    refine lv_aload_n hx hb d_B_look_73 rfl (lv_at hl 0 rfl) ?_
    refine va_get (D := (dC, dI)) (ci := 0) (v := .ref rn) (C := "BigRunner") (T := FT0) (N := 5) hx hb (hw0 hB _) (fun _ h9 => h9) hown hK hP 0 rfl rfl 3 (by decide) (wd_381 hB _) (fun _ h9 => h9) rfl d_B_look_74 ?_
    refine va_get (D := (dC, dI)) (ci := 8) (v := .int 0) (C := "BigRunner$Runner") (T := FT8) (N := 13) hx hb (hw8 hB _) (fun _ h9 => h9) hown hK hP 6 rfl rfl 11 (by decide) (wd_348 hB _) (fun _ h9 => h9) rfl d_B_look_77 ?_
    have hP9 := hP.sub (ws' := []) [] rfl
    have hD9 := hD.sub (ws' := []) [] (by decide) rfl
    have hK9 := hK.sub (tys' := []) [] rfl
    refine W.widen (k := 0) (n := 0) (by omega) (by omega) ?_
    exact W.iret (v := 0) hx hb hr (fun t ht hW => ⟨⟨0, (), rfl, (by decide), by rw [ht]; exact hP9, va_K.moved hW.alike hK9, hD9⟩, hS.F ht⟩) hS.2.2 d_B_look_80
  by_cases hk5 : k = 5
  · skip
    subst hk5
    refine lv_tableIn (off := 80) (tgt := 81) hx hb d_B_look_1 (by decide) (by decide) (by decide) (by decide) ?_
    refine lv_aload_n hx hb d_B_look_81 rfl (lv_at hl 0 rfl) ?_
    refine va_get (D := (dC, dI)) (ci := 0) (v := .ref rn) (C := "BigRunner") (T := FT0) (N := 5) hx hb (hw0 hB _) (fun _ h9 => h9) hown hK hP 0 rfl rfl 3 (by decide) (wd_381 hB _) (fun _ h9 => h9) rfl d_B_look_82 ?_
    refine va_get (D := (dC, dI)) (ci := 8) (v := .int 0) (C := "BigRunner$Runner") (T := FT8) (N := 13) hx hb (hw8 hB _) (fun _ h9 => h9) hown hK hP 6 rfl rfl 8 (by decide) (wd_342 hB _) (fun _ h9 => h9) rfl d_B_look_85 ?_
    have hP9 := hP.sub (ws' := []) [] rfl
    have hD9 := hD.sub (ws' := []) [] (by decide) rfl
    have hK9 := hK.sub (tys' := []) [] rfl
    refine W.widen (k := 0) (n := 0) (by omega) (by omega) ?_
    exact W.iret (v := 0) hx hb hr (fun t ht hW => ⟨⟨0, (), rfl, (by decide), by rw [ht]; exact hP9, va_K.moved hW.alike hK9, hD9⟩, hS.F ht⟩) hS.2.2 d_B_look_88
  by_cases hk6 : k = 6
  · skip
    subst hk6
    refine lv_tableIn (off := 88) (tgt := 89) hx hb d_B_look_1 (by decide) (by decide) (by decide) (by decide) ?_
    refine lv_aload_n hx hb d_B_look_89 rfl (lv_at hl 0 rfl) ?_
    refine va_get (D := (dC, dI)) (ci := 0) (v := .ref rn) (C := "BigRunner") (T := FT0) (N := 5) hx hb (hw0 hB _) (fun _ h9 => h9) hown hK hP 0 rfl rfl 3 (by decide) (wd_381 hB _) (fun _ h9 => h9) rfl d_B_look_90 ?_
    refine va_get (D := (dC, dI)) (ci := 8) (v := .ref qi2) (C := "BigRunner$Runner") (T := FT8) (N := 13) hx hb (hw8 hB _) (fun _ h9 => h9) hown hK hP 6 rfl rfl 1 (by decide) (wd_333 hB _) (fun _ h9 => h9) rfl d_B_look_93 ?_
    refine va_get (D := (dC, dI)) (ci := 1) (v := .int 0) (C := "BigRunner$Inputs") (T := FT1) (N := 3) hx hb (hw1 hB _) (fun _ h9 => h9) hown hK hP 7 rfl rfl 2 (by decide) (wd_302 hB _) (fun _ h9 => h9) rfl d_B_look_96 ?_
    have hP9 := hP.sub (ws' := []) [] rfl
    have hD9 := hD.sub (ws' := []) [] (by decide) rfl
    have hK9 := hK.sub (tys' := []) [] rfl
    refine W.widen (k := 0) (n := 0) (by omega) (by omega) ?_
    exact W.iret (v := 0) hx hb hr (fun t ht hW => ⟨⟨0, (), rfl, (by decide), by rw [ht]; exact hP9, va_K.moved hW.alike hK9, hD9⟩, hS.F ht⟩) hS.2.2 d_B_look_99
  refine lv_tableOut (tgt := 100) hx hb d_B_look_1 (by have := lv_neT hk0 (a := 0) (by decide); have := lv_neT hk1 (a := 1) (by decide); have := lv_neT hk2 (a := 2) (by decide); have := lv_neT hk3 (a := 3) (by decide); have := lv_neT hk4 (a := 4) (by decide); have := lv_neT hk5 (a := 5) (by decide); have := lv_neT hk6 (a := 6) (by decide); omega) (by decide) ?_
  refine lv_iconst (v := (-1)) hx hb d_B_look_100 (by decide) ?_
  have hP9 := hP.sub (ws' := []) [] rfl
  have hD9 := hD.sub (ws' := []) [] (by decide) rfl
  have hK9 := hK.sub (tys' := []) [] rfl
  refine W.widen (k := 0) (n := 0) (by omega) (by omega) ?_
  exact W.iret (v := (-1)) hx hb hr (fun t ht hW => ⟨⟨(-1), (), rfl, (by simp [vt_look, hk0, hk1, hk2, hk3, hk4, hk5, hk6]), by rw [ht]; exact hP9, va_K.moved hW.alike hK9, hD9⟩, hS.F ht⟩) hS.2.2 d_B_look_101
set_option maxHeartbeats 4000000 in
set_option maxRecDepth 100000 in
theorem c_B_hasVariable (l : Launch) (dC : Nat → ClassId) (dI : Nat → Nat → Nat) (sz : Nat) (x : Nat) (ql : Nat) (cl : ClassId) (rd : Nat) (rn : Nat) (qt : Nat) (pr : Nat) (qs : Nat) (cs : ClassId) (fs : Nat → Option Nat) (q0 : Nat) (qn : Nat) (qv : Nat) (qi : Nat) (pn : Nat) (qi2 : Nat) (qm : Nat) (qw : Nat) (qh : Nat) (qd : Nat) (qk : Nat) (qr : Nat) (cr : ClassId) (k : Int32) : Met l ⟨"BigRunner", "hasVariable", "(I)Z"⟩ [Cond.code ⟨"BigRunner", "hasVariable", "(I)Z"⟩ prog_1_method_12_code 2 (some .boolean)] ({ frames := 0, cells := 0, slots := 0, locals := 0 }) (va_Pc [.ref x, .int k] (fun U => U.heap.size = sz ∧ TB U ∧ va_P (dC, dI) vcl [(x, .inr (0, [.ref ql, .int 0, .ref rd, .ref rn, .int 0])), (ql, .inl (cl, 72, .inl (fun _ => 0))), (rd, .inr (7, [.ref qt, .int 0, .int 0, .ref pr])), (pr, .inr (6, [.ref qs, .int 0, .ref qn, .int 0, .ref qv, .ref qi])), (qs, .inl (cs, 36, .inr (.inr (.inr (.inr (fs)))))), (q0, .inr (9, [.int 5, .int 0, .int 0, .int (-1), .int 0])), (rn, .inr (8, [.ref pn, .ref qi2, .int 0, .ref qm, .ref qw, .ref qh, .ref qd, .ref qk, .int 0, .int 0, .int 0, .int 0, .int 0])), (qi2, .inr (1, [.ref qr, .int 0, .int 0])), (qr, .inl (cr, 20, .inl (fun _ => 0)))] U.heap ∧ va_K (dC, dI) vcl [(cl, .char), (cs, (.object "BigRunner$Statement")), (cr, .int)] U ∧ va_D (fun _ => True) [(x, .inr (0, [.ref ql, .int 0, .ref rd, .ref rn, .int 0])), (ql, .inl (cl, 72, .inl (fun _ => 0))), (rd, .inr (7, [.ref qt, .int 0, .int 0, .ref pr])), (pr, .inr (6, [.ref qs, .int 0, .ref qn, .int 0, .ref qv, .ref qi])), (qs, .inl (cs, 36, .inr (.inr (.inr (.inr (fs)))))), (q0, .inr (9, [.int 5, .int 0, .int 0, .int (-1), .int 0])), (rn, .inr (8, [.ref pn, .ref qi2, .int 0, .ref qm, .ref qw, .ref qh, .ref qd, .ref qk, .int 0, .int 0, .int 0, .int 0, .int 0])), (qi2, .inr (1, [.ref qr, .int 0, .int 0])), (qr, .inl (cr, 20, .inl (fun _ => 0)))])) (va_Qi (fun (r : Int32) (u : Unit) => match u with | _ => r = 0) (fun (u : Unit) (t : State) => match u with | _ => va_P (dC, dI) vcl [] t.heap ∧ va_K (dC, dI) vcl [] t ∧ va_D (va_A [(x, .inr (0, [.ref ql, .int 0, .ref rd, .ref rn, .int 0])), (ql, .inl (cl, 72, .inl (fun _ => 0))), (rd, .inr (7, [.ref qt, .int 0, .int 0, .ref pr])), (pr, .inr (6, [.ref qs, .int 0, .ref qn, .int 0, .ref qv, .ref qi])), (qs, .inl (cs, 36, .inr (.inr (.inr (.inr (fs)))))), (q0, .inr (9, [.int 5, .int 0, .int 0, .int (-1), .int 0])), (rn, .inr (8, [.ref pn, .ref qi2, .int 0, .ref qm, .ref qw, .ref qh, .ref qd, .ref qk, .int 0, .int 0, .int 0, .int 0, .int 0])), (qi2, .inr (1, [.ref qr, .int 0, .int 0])), (qr, .inl (cr, 20, .inl (fun _ => 0)))] sz) []) (va_A [(x, .inr (0, [.ref ql, .int 0, .ref rd, .ref rn, .int 0])), (ql, .inl (cl, 72, .inl (fun _ => 0))), (rd, .inr (7, [.ref qt, .int 0, .int 0, .ref pr])), (pr, .inr (6, [.ref qs, .int 0, .ref qn, .int 0, .ref qv, .ref qi])), (qs, .inl (cs, 36, .inr (.inr (.inr (.inr (fs)))))), (q0, .inr (9, [.int 5, .int 0, .int 0, .int (-1), .int 0])), (rn, .inr (8, [.ref pn, .ref qi2, .int 0, .ref qm, .ref qw, .ref qh, .ref qd, .ref qk, .int 0, .int 0, .int 0, .int 0, .int 0])), (qi2, .inr (1, [.ref qr, .int 0, .int 0])), (qr, .inl (cr, 20, .inl (fun _ => 0)))] sz)) 0 0 (va_A [(x, .inr (0, [.ref ql, .int 0, .ref rd, .ref rn, .int 0])), (ql, .inl (cl, 72, .inl (fun _ => 0))), (rd, .inr (7, [.ref qt, .int 0, .int 0, .ref pr])), (pr, .inr (6, [.ref qs, .int 0, .ref qn, .int 0, .ref qv, .ref qi])), (qs, .inl (cs, 36, .inr (.inr (.inr (.inr (fs)))))), (q0, .inr (9, [.int 5, .int 0, .int 0, .int (-1), .int 0])), (rn, .inr (8, [.ref pn, .ref qi2, .int 0, .ref qm, .ref qw, .ref qh, .ref qd, .ref qk, .int 0, .int 0, .int 0, .int 0, .int 0])), (qi2, .inr (1, [.ref qr, .int 0, .int 0])), (qr, .inl (cr, 20, .inl (fun _ => 0)))] sz) := by
  refine Met.ofW (cc := prog_1_method_12_code) (maxL := 2) (ret := (some .boolean)) (by decide) rfl ?_
  intro p e s m args below meth c s₁ B hml hv
  obtain ⟨rfl, hsz, hB, hP, hK, hD0⟩ := hv
  have hx := B.exec
  have hb := B.bytes
  have hr := B.returns
  have hown : s.vm.findClass "BigRunner" = some m.cls := findClass_of_methodNamed B.named
  have hlocks := B.notSynchronized
  subst hsz
  have hD := hD0.self (sz := s.heap.size)
  generalize hAe : va_A [(x, .inr (0, [.ref ql, .int 0, .ref rd, .ref rn, .int 0])), (ql, .inl (cl, 72, .inl (fun _ => 0))), (rd, .inr (7, [.ref qt, .int 0, .int 0, .ref pr])), (pr, .inr (6, [.ref qs, .int 0, .ref qn, .int 0, .ref qv, .ref qi])), (qs, .inl (cs, 36, .inr (.inr (.inr (.inr (fs)))))), (q0, .inr (9, [.int 5, .int 0, .int 0, .int (-1), .int 0])), (rn, .inr (8, [.ref pn, .ref qi2, .int 0, .ref qm, .ref qw, .ref qh, .ref qd, .ref qk, .int 0, .int 0, .int 0, .int 0, .int 0])), (qi2, .inr (1, [.ref qr, .int 0, .int 0])), (qr, .inl (cr, 20, .inl (fun _ => 0)))] s.heap.size = A at hD ⊢
  have hA : ∀ q : Nat, s.heap.size ≤ q → A q := fun q h => by rw [← hAe]; exact Or.inr h
  have hS : va_S A s.heap s.heap [] := va_S.rf
  have hP : va_P (dC, dI) vcl [(x, .inr (0, [.ref ql, .int 0, .ref rd, .ref rn, .int 0])), (ql, .inl (cl, 72, .inl (fun _ => 0))), (rd, .inr (7, [.ref qt, .int 0, .int 0, .ref pr])), (pr, .inr (6, [.ref qs, .int 0, .ref qn, .int 0, .ref qv, .ref qi])), (qs, .inl (cs, 36, .inr (.inr (.inr (.inr (fs)))))), (q0, .inr (9, [.int 5, .int 0, .int 0, .int (-1), .int 0])), (rn, .inr (8, [.ref pn, .ref qi2, .int 0, .ref qm, .ref qw, .ref qh, .ref qd, .ref qk, .int 0, .int 0, .int 0, .int 0, .int 0])), (qi2, .inr (1, [.ref qr, .int 0, .int 0])), (qr, .inl (cr, 20, .inl (fun _ => 0)))] s.heap := hP
  have hl := lv_entry ([.ref x, .int k]) (n := 2) (Nat.le_of_ble_eq_true rfl)
  rw [lg_entry_eq]
  generalize (lg_sl ([.ref x, .int k]) ++ List.replicate (2 - (lg_sl ([.ref x, .int k])).length) Slot.unset).toArray = ls at hl ⊢
  have hl : lv_has ls 2 [(0, .ref x), (1, .int k)] := hl
  refine lv_aload_n hx hb d_B_hasVariable_0 rfl (lv_at hl 0 rfl) ?_
  refine va_get (D := (dC, dI)) (ci := 0) (v := .int 0) (C := "BigRunner") (T := FT0) (N := 5) hx hb (hw0 hB _) (fun _ h9 => h9) hown hK hP 0 rfl rfl 4 (by decide) (wd_382 hB _) (fun _ h9 => h9) rfl d_B_hasVariable_1 ?_
  refine lv_if_eq (tgt := 21) hx hb d_B_hasVariable_4 (by decide) (fun _ => ?_) (fun hq => absurd rfl hq)
  refine lv_iconst (v := 0) hx hb d_B_hasVariable_21 (by decide) ?_
  have hP9 := hP.sub (ws' := []) [] rfl
  have hD9 := hD.sub (ws' := []) [] (by decide) rfl
  have hK9 := hK.sub (tys' := []) [] rfl
  refine W.widen (k := 0) (n := 0) (by omega) (by omega) ?_
  exact W.zret (v := 0) (ty := .boolean) hx hb hr rfl (fun t ht hW => ⟨⟨0, (), rfl, rfl, by rw [ht]; exact hP9, va_K.moved hW.alike hK9, hD9⟩, hS.F ht⟩) hS.2.2 d_B_hasVariable_22
set_option maxHeartbeats 4000000 in
set_option maxRecDepth 100000 in
/-- small on a fresh object -/
theorem c_B_small (l : Launch) (dC : Nat → ClassId) (dI : Nat → Nat → Nat) (sz : Nat) (x : Nat) (ql : Nat) (cl : ClassId) (rd : Nat) (rn : Nat) (qt : Nat) (pr : Nat) (qs : Nat) (cs : ClassId) (fs : Nat → Option Nat) (q0 : Nat) (qn : Nat) (qv : Nat) (qi : Nat) (pn : Nat) (qi2 : Nat) (qm : Nat) (qw : Nat) (qh : Nat) (qd : Nat) (qk : Nat) (qr : Nat) (cr : ClassId) (k : Int32) : Met l ⟨"BigRunner", "small", "(I)Z"⟩ [Cond.code ⟨"BigRunner", "small", "(I)Z"⟩ prog_1_method_9_code 2 (some .boolean)] ({ frames := 1, cells := 0, slots := 0, locals := 21 }) (va_Pc [.ref x, .int k] (fun U => U.heap.size = sz ∧ TB U ∧ va_P (dC, dI) vcl [(x, .inr (0, [.ref ql, .int 0, .ref rd, .ref rn, .int 0])), (ql, .inl (cl, 72, .inl (fun _ => 0))), (rd, .inr (7, [.ref qt, .int 0, .int 0, .ref pr])), (pr, .inr (6, [.ref qs, .int 0, .ref qn, .int 0, .ref qv, .ref qi])), (qs, .inl (cs, 36, .inr (.inr (.inr (.inr (fs)))))), (q0, .inr (9, [.int 5, .int 0, .int 0, .int (-1), .int 0])), (rn, .inr (8, [.ref pn, .ref qi2, .int 0, .ref qm, .ref qw, .ref qh, .ref qd, .ref qk, .int 0, .int 0, .int 0, .int 0, .int 0])), (qi2, .inr (1, [.ref qr, .int 0, .int 0])), (qr, .inl (cr, 20, .inl (fun _ => 0)))] U.heap ∧ va_K (dC, dI) vcl [(cl, .char), (cs, (.object "BigRunner$Statement")), (cr, .int)] U ∧ va_D (fun _ => True) [(x, .inr (0, [.ref ql, .int 0, .ref rd, .ref rn, .int 0])), (ql, .inl (cl, 72, .inl (fun _ => 0))), (rd, .inr (7, [.ref qt, .int 0, .int 0, .ref pr])), (pr, .inr (6, [.ref qs, .int 0, .ref qn, .int 0, .ref qv, .ref qi])), (qs, .inl (cs, 36, .inr (.inr (.inr (.inr (fs)))))), (q0, .inr (9, [.int 5, .int 0, .int 0, .int (-1), .int 0])), (rn, .inr (8, [.ref pn, .ref qi2, .int 0, .ref qm, .ref qw, .ref qh, .ref qd, .ref qk, .int 0, .int 0, .int 0, .int 0, .int 0])), (qi2, .inr (1, [.ref qr, .int 0, .int 0])), (qr, .inl (cr, 20, .inl (fun _ => 0)))])) (va_Qi (fun (r : Int32) (u : Unit) => match u with | _ => r = 0) (fun (u : Unit) (t : State) => match u with | _ => va_P (dC, dI) vcl [] t.heap ∧ va_K (dC, dI) vcl [] t ∧ va_D (va_A [(x, .inr (0, [.ref ql, .int 0, .ref rd, .ref rn, .int 0])), (ql, .inl (cl, 72, .inl (fun _ => 0))), (rd, .inr (7, [.ref qt, .int 0, .int 0, .ref pr])), (pr, .inr (6, [.ref qs, .int 0, .ref qn, .int 0, .ref qv, .ref qi])), (qs, .inl (cs, 36, .inr (.inr (.inr (.inr (fs)))))), (q0, .inr (9, [.int 5, .int 0, .int 0, .int (-1), .int 0])), (rn, .inr (8, [.ref pn, .ref qi2, .int 0, .ref qm, .ref qw, .ref qh, .ref qd, .ref qk, .int 0, .int 0, .int 0, .int 0, .int 0])), (qi2, .inr (1, [.ref qr, .int 0, .int 0])), (qr, .inl (cr, 20, .inl (fun _ => 0)))] sz) []) (va_A [(x, .inr (0, [.ref ql, .int 0, .ref rd, .ref rn, .int 0])), (ql, .inl (cl, 72, .inl (fun _ => 0))), (rd, .inr (7, [.ref qt, .int 0, .int 0, .ref pr])), (pr, .inr (6, [.ref qs, .int 0, .ref qn, .int 0, .ref qv, .ref qi])), (qs, .inl (cs, 36, .inr (.inr (.inr (.inr (fs)))))), (q0, .inr (9, [.int 5, .int 0, .int 0, .int (-1), .int 0])), (rn, .inr (8, [.ref pn, .ref qi2, .int 0, .ref qm, .ref qw, .ref qh, .ref qd, .ref qk, .int 0, .int 0, .int 0, .int 0, .int 0])), (qi2, .inr (1, [.ref qr, .int 0, .int 0])), (qr, .inl (cr, 20, .inl (fun _ => 0)))] sz)) 0 0 (va_A [(x, .inr (0, [.ref ql, .int 0, .ref rd, .ref rn, .int 0])), (ql, .inl (cl, 72, .inl (fun _ => 0))), (rd, .inr (7, [.ref qt, .int 0, .int 0, .ref pr])), (pr, .inr (6, [.ref qs, .int 0, .ref qn, .int 0, .ref qv, .ref qi])), (qs, .inl (cs, 36, .inr (.inr (.inr (.inr (fs)))))), (q0, .inr (9, [.int 5, .int 0, .int 0, .int (-1), .int 0])), (rn, .inr (8, [.ref pn, .ref qi2, .int 0, .ref qm, .ref qw, .ref qh, .ref qd, .ref qk, .int 0, .int 0, .int 0, .int 0, .int 0])), (qi2, .inr (1, [.ref qr, .int 0, .int 0])), (qr, .inl (cr, 20, .inl (fun _ => 0)))] sz) := by
  refine Met.ofW (cc := prog_1_method_9_code) (maxL := 2) (ret := (some .boolean)) (by decide) rfl ?_
  intro p e s m args below meth c s₁ B hml hv
  obtain ⟨rfl, hsz, hB, hP, hK, hD0⟩ := hv
  have hx := B.exec
  have hb := B.bytes
  have hr := B.returns
  have hown : s.vm.findClass "BigRunner" = some m.cls := findClass_of_methodNamed B.named
  have hlocks := B.notSynchronized
  subst hsz
  have hD := hD0.self (sz := s.heap.size)
  generalize hAe : va_A [(x, .inr (0, [.ref ql, .int 0, .ref rd, .ref rn, .int 0])), (ql, .inl (cl, 72, .inl (fun _ => 0))), (rd, .inr (7, [.ref qt, .int 0, .int 0, .ref pr])), (pr, .inr (6, [.ref qs, .int 0, .ref qn, .int 0, .ref qv, .ref qi])), (qs, .inl (cs, 36, .inr (.inr (.inr (.inr (fs)))))), (q0, .inr (9, [.int 5, .int 0, .int 0, .int (-1), .int 0])), (rn, .inr (8, [.ref pn, .ref qi2, .int 0, .ref qm, .ref qw, .ref qh, .ref qd, .ref qk, .int 0, .int 0, .int 0, .int 0, .int 0])), (qi2, .inr (1, [.ref qr, .int 0, .int 0])), (qr, .inl (cr, 20, .inl (fun _ => 0)))] s.heap.size = A at hD ⊢
  have hA : ∀ q : Nat, s.heap.size ≤ q → A q := fun q h => by rw [← hAe]; exact Or.inr h
  have hS : va_S A s.heap s.heap [] := va_S.rf
  have hP : va_P (dC, dI) vcl [(x, .inr (0, [.ref ql, .int 0, .ref rd, .ref rn, .int 0])), (ql, .inl (cl, 72, .inl (fun _ => 0))), (rd, .inr (7, [.ref qt, .int 0, .int 0, .ref pr])), (pr, .inr (6, [.ref qs, .int 0, .ref qn, .int 0, .ref qv, .ref qi])), (qs, .inl (cs, 36, .inr (.inr (.inr (.inr (fs)))))), (q0, .inr (9, [.int 5, .int 0, .int 0, .int (-1), .int 0])), (rn, .inr (8, [.ref pn, .ref qi2, .int 0, .ref qm, .ref qw, .ref qh, .ref qd, .ref qk, .int 0, .int 0, .int 0, .int 0, .int 0])), (qi2, .inr (1, [.ref qr, .int 0, .int 0])), (qr, .inl (cr, 20, .inl (fun _ => 0)))] s.heap := hP
  have hl := lv_entry ([.ref x, .int k]) (n := 2) (Nat.le_of_ble_eq_true rfl)
  rw [lg_entry_eq]
  generalize (lg_sl ([.ref x, .int k]) ++ List.replicate (2 - (lg_sl ([.ref x, .int k])).length) Slot.unset).toArray = ls at hl ⊢
  have hl : lv_has ls 2 [(0, .ref x), (1, .int k)] := hl
  refine lv_aload_n hx hb d_B_small_0 rfl (lv_at hl 0 rfl) ?_
  refine lv_iload_n hx hb d_B_small_1 rfl (lv_at hl 1 rfl) ?_
  have hPc := hP.sub (ws' := [(x, .inr (0, [.ref ql, .int 0, .ref rd, .ref rn, .int 0])), (ql, .inl (cl, 72, .inl (fun _ => 0))), (rd, .inr (7, [.ref qt, .int 0, .int 0, .ref pr])), (pr, .inr (6, [.ref qs, .int 0, .ref qn, .int 0, .ref qv, .ref qi])), (qs, .inl (cs, 36, .inr (.inr (.inr (.inr (fs)))))), (q0, .inr (9, [.int 5, .int 0, .int 0, .int (-1), .int 0])), (rn, .inr (8, [.ref pn, .ref qi2, .int 0, .ref qm, .ref qw, .ref qh, .ref qd, .ref qk, .int 0, .int 0, .int 0, .int 0, .int 0])), (qi2, .inr (1, [.ref qr, .int 0, .int 0])), (qr, .inl (cr, 20, .inl (fun _ => 0)))]) [0, 1, 2, 3, 4, 5, 6, 7, 8] rfl
  have hDc := hD.sub (ws' := [(x, .inr (0, [.ref ql, .int 0, .ref rd, .ref rn, .int 0])), (ql, .inl (cl, 72, .inl (fun _ => 0))), (rd, .inr (7, [.ref qt, .int 0, .int 0, .ref pr])), (pr, .inr (6, [.ref qs, .int 0, .ref qn, .int 0, .ref qv, .ref qi])), (qs, .inl (cs, 36, .inr (.inr (.inr (.inr (fs)))))), (q0, .inr (9, [.int 5, .int 0, .int 0, .int (-1), .int 0])), (rn, .inr (8, [.ref pn, .ref qi2, .int 0, .ref qm, .ref qw, .ref qh, .ref qd, .ref qk, .int 0, .int 0, .int 0, .int 0, .int 0])), (qi2, .inr (1, [.ref qr, .int 0, .int 0])), (qr, .inl (cr, 20, .inl (fun _ => 0)))]) [0, 1, 2, 3, 4, 5, 6, 7, 8] (by decide) rfl
  have hKc := hK.sub (tys' := [(cl, .char), (cs, (.object "BigRunner$Statement")), (cr, .int)]) [0, 1, 2] rfl
  have hFc := va_free (wc := [(x, .inr (0, [.ref ql, .int 0, .ref rd, .ref rn, .int 0])), (ql, .inl (cl, 72, .inl (fun _ => 0))), (rd, .inr (7, [.ref qt, .int 0, .int 0, .ref pr])), (pr, .inr (6, [.ref qs, .int 0, .ref qn, .int 0, .ref qv, .ref qi])), (qs, .inl (cs, 36, .inr (.inr (.inr (.inr (fs)))))), (q0, .inr (9, [.int 5, .int 0, .int 0, .int (-1), .int 0])), (rn, .inr (8, [.ref pn, .ref qi2, .int 0, .ref qm, .ref qw, .ref qh, .ref qd, .ref qk, .int 0, .int 0, .int 0, .int 0, .int 0])), (qi2, .inr (1, [.ref qr, .int 0, .int 0])), (qr, .inl (cr, 20, .inl (fun _ => 0)))]) hD hS hA [0, 1, 2, 3, 4, 5, 6, 7, 8] rfl
  refine va_calli (va_runV (C := "BigRunner") (As := [.int k]) (rest := []) ⟨hx, hb, hml, hown, tb_nil⟩ (c_B_hasVariable l dC dI s.heap.size x ql cl rd rn qt pr qs cs fs q0 qn qv qi pn qi2 qm qw qh qd qk qr cr k) ⟨(callB_of 1 (tb_one (wd_436 hB _)) tb_good1 rfl rfl rfl (wd_72 hB _) (wd_433 hB _) (by decide +kernel) ⟨Nat.le_of_ble_eq_true rfl, Nat.le_of_ble_eq_true rfl⟩), (wd_435 hB _), (wd_1 hB _)⟩ ⟨fun a U g mk q => by obtain ⟨q0, q1, qB, qP, qK, qD⟩ := q; exact ⟨q0, q1, TB.same (s := U) (U := U.calling g mk a) rfl qB, qP, va_K.moved (u := U) (U := U.calling g mk a) (Vm.Alike.refl U.vm) qK, qD⟩, va_recv hK hP (q0 := 0) (ci := 0) rfl rfl, fun U hU hW => ⟨rfl, by rw [hU], hB.moved hW, by rw [hU]; exact hPc, va_K.moved hW.alike hKc, hDc.weaken (fun _ _ _ _ => trivial)⟩⟩ rfl rfl hl.1 rfl (lv_room (Nat.le_of_ble_eq_true rfl)) d_B_small_2 ⟨(Nat.le_of_ble_eq_true rfl), (Nat.le_of_ble_eq_true rfl)⟩) hS (fun q _ h => hFc q h) hFc (fun r_ u_ t H1 locs ht hvm hw_ hB1 hz1 hk1 hS => ?_)
  obtain ⟨hP1, hK1, hD1⟩ := hB1
  rw [ht] at hP1
  have hK1 := va_K.moved hvm.symm hK1
  try dsimp only at hw_
  obtain ⟨hP, hD⟩ := va_join (wr := []) (w1 := []) hP hD [0, 1, 2, 3, 4, 5, 6, 7, 8] [] rfl rfl (by decide) (by decide) hk1 hFc hP1 hD1
  have hK := (hK.sub (tys' := []) [] rfl).app hK1
  clear hk1 hFc hPc hDc hKc hP1 hD1 hK1 hz1 ht hvm
  generalize H1 = H at hP hS ⊢
  have hP : va_P (dC, dI) vcl [] H := hP
  have hD : va_D A [] := hD
  have hK : va_K (dC, dI) vcl [] s := hK
  refine W.widen (k := 0) (n := 0) (by omega) (by omega) ?_
  subst hw_
  refine lv_if_eq (tgt := 30) hx hb d_B_small_5 (by decide) (fun _ => ?_) (fun hq => absurd rfl hq)
  refine lv_iconst (v := 0) hx hb d_B_small_30 (by decide) ?_
  have hP9 := hP.sub (ws' := []) [] rfl
  have hD9 := hD.sub (ws' := []) [] (by decide) rfl
  have hK9 := hK.sub (tys' := []) [] rfl
  refine W.widen (k := 0) (n := 0) (by omega) (by omega) ?_
  exact W.zret (v := 0) (ty := .boolean) hx hb hr rfl (fun t ht hW => ⟨⟨0, (), rfl, rfl, by rw [ht]; exact hP9, va_K.moved hW.alike hK9, hD9⟩, hS.F ht⟩) hS.2.2 d_B_small_31
