/-- a fresh object of the class, and what its two programs know of inputs -/
def CK0 (g : Lay) (x : Nat) (f : Nat → va_E) : Prop := ∃ (tx : Value) (PR pr : Nat), g.tg x = 1 ∧ g.tg PR = 7 ∧ g.tg pr = 7 ∧ PR ≠ pr ∧ f x = .inr (0, [.ref (g.lk x 0), .int (nI 0), .ref (g.lk x 2), .ref (g.lk x 3), .int (nI 0)]) ∧ f (g.lk x 0) = .inl (g.ac (g.lk x 0), 72, .inl (fun _ => nI 0)) ∧ f (g.lk x 2) = .inr (7, [tx, .int (nI 0), .int (nI 0), .ref PR]) ∧ RN0 g f (g.lk x 3) pr ∧ PG0 g f pr ∧ OIN g f PR ∧ OIN g f pr
theorem OIN.ex {g g1 : Lay} {f f1 : Nat → va_E} {P z : Nat} (h : OIN g f P) (hL : LO g) (hz : EX z g f g1 f1) (h0 : g.tg z = 0) (t : g.tg P = 7) : OIN g1 f1 P := by
  obtain ⟨-, -, a2, -⟩ := hz.tg_ hL h0 t (by decide)
  obtain ⟨-, -, -, -, -, b5⟩ := hz.tg_ hL h0 (lo_k7_5 hL P t) (by decide)
  unfold OIN
  rw [a2, b5]
  exact h
theorem CK0.ex {g g1 : Lay} {x z : Nat} {f f1 : Nat → va_E} (h : CK0 g x f) (hL : LO g) (hz : EX z g f g1 f1) (h0 : g.tg z = 0) : CK0 g1 x f1 := by
  obtain ⟨tx, PR, pr, t1, t2, t3, hne, e1, e2, e3, e4, e5, e6, e7⟩ := h
  obtain ⟨-, a1, a2, a3, a4, a5⟩ := hz.tg_ hL h0 t1 (by decide)
  obtain ⟨-, b1, -⟩ := hz.tg_ hL h0 t2 (by decide)
  obtain ⟨c0, c1, -⟩ := hz.tg_ hL h0 t3 (by decide)
  obtain ⟨-, d1, d2, d3, d4, d5⟩ := hz.tg_ hL h0 (lo_k1_0 hL _ t1) (by decide)
  obtain ⟨-, k1, k2, k3, k4, k5⟩ := hz.tg_ hL h0 (lo_k1_2 hL _ t1) (by decide)
  obtain ⟨r0, -⟩ := hz.tg_ hL h0 (lo_k1_3 hL _ t1) (by decide)
  refine ⟨tx, PR, pr, a1, b1, c1, hne, ?_, ?_, ?_, ?_, e5.ex hz c0.1 c0.2, e6.ex hL hz h0 t2, e7.ex hL hz h0 t3⟩
  · rw [a5, a2]; exact e1
  · rw [a2, d5, d3]; exact e2
  · rw [a2, k5]; exact e3
  · rw [a2]; exact e4.ex hz r0.1 r0.2
