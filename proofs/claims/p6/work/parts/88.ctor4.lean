/-- a fresh object of the class -/
def CJ0 (g : Lay) (x : Nat) (f : Nat → va_E) : Prop := ∃ (tx : Value) (PR pr : Nat), g.tg x = 1 ∧ g.tg PR = 7 ∧ g.tg pr = 7 ∧ PR ≠ pr ∧ f x = .inr (0, [.ref (g.lk x 0), .int (nI 0), .ref (g.lk x 2), .ref (g.lk x 3), .int (nI 0)]) ∧ f (g.lk x 0) = .inl (g.ac (g.lk x 0), 72, .inl (fun _ => nI 0)) ∧ f (g.lk x 2) = .inr (7, [tx, .int (nI 0), .int (nI 0), .ref PR]) ∧ RN0 g f (g.lk x 3) pr ∧ PG0 g f pr
theorem EX.tg_ {z y T : Nat} {g g1 : Lay} {f f1 : Nat → va_E} (hL : LO g) (hz : EX z g f g1 f1) (h0 : g.tg z = 0) (ht : g.tg y = T) (hT : T ≠ 0) : (y ∈ g.LP ∧ y ≠ z) ∧ g1.tg y = T ∧ g1.lk y = g.lk y ∧ g1.ac y = g.ac y ∧ g1.tn y = g.tn y ∧ f1 y = f y := by
  have hm := lo_in hL ht hT
  have hn : y ≠ z := fun q => hT (by rw [← ht, q, h0])
  obtain ⟨a1, a2⟩ := hz.2.2.2 y hm hn
  exact ⟨⟨hm, hn⟩, a1.trans ht, a2⟩
theorem CJ0.ex {g g1 : Lay} {x z : Nat} {f f1 : Nat → va_E} (h : CJ0 g x f) (hL : LO g) (hz : EX z g f g1 f1) (h0 : g.tg z = 0) : CJ0 g1 x f1 := by
  obtain ⟨tx, PR, pr, t1, t2, t3, hne, e1, e2, e3, e4, e5⟩ := h
  obtain ⟨-, a1, a2, a3, a4, a5⟩ := hz.tg_ hL h0 t1 (by decide)
  obtain ⟨-, b1, -⟩ := hz.tg_ hL h0 t2 (by decide)
  obtain ⟨c0, c1, -⟩ := hz.tg_ hL h0 t3 (by decide)
  obtain ⟨-, d1, d2, d3, d4, d5⟩ := hz.tg_ hL h0 (lo_k1_0 hL _ t1) (by decide)
  obtain ⟨-, k1, k2, k3, k4, k5⟩ := hz.tg_ hL h0 (lo_k1_2 hL _ t1) (by decide)
  obtain ⟨r0, -⟩ := hz.tg_ hL h0 (lo_k1_3 hL _ t1) (by decide)
  refine ⟨tx, PR, pr, a1, b1, c1, hne, ?_, ?_, ?_, ?_, e5.ex hz c0.1 c0.2⟩
  · rw [a5, a2]; exact e1
  · rw [a2, d5, d3]; exact e2
  · rw [a2, k5]; exact e3
  · rw [a2]; exact e4.ex hz r0.1 r0.2
