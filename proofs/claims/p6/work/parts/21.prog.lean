/-! ===== the STATEMENTs of a program that was read ===== -/
/-- the STATEMENT at place i isn't a JUMP -/
def nj (g : Lay) (f : Nat → va_E) (P i : Nat) : Prop := ∃ (kd nm fn : Nat) (la : Int32) (ta : Nat), f (g.lk (g.lk P 0) i) = .inr (9, [.int (nI kd), .int (nI nm), .int (nI fn), .int la, .int (nI ta)]) ∧ kd < 5
/-- the STATEMENTs from a up to b are whole -/
def SG (g : Lay) (f : Nat → va_E) (P a b : Nat) : Prop := ∀ i, a ≤ i → i < b → ∃ (kd nm fn : Nat) (la : Int32) (ta : Nat), f (g.lk (g.lk P 0) i) = .inr (9, [.int (nI kd), .int (nI nm), .int (nI fn), .int la, .int (nI ta)]) ∧ kd ≤ 5 ∧ nm < 10 ∧ fn ≤ 72 ∧ ta ≤ 36 ∧ (kd ≠ 1 → kd ≠ 5 → ∃ j, j < 72 ∧ la = nI j) ∧ (kd = 5 → (i < ta ∧ ta ≤ b) ∨ (a ≤ ta ∧ ta < b ∧ nj g f P ta))
theorem nj_un {g : Lay} {f f1 : Nat → va_E} {P i : Nat} {W : List Nat} (h : nj g f P i) (hL : LO g) (hP : g.tg P = 7) (hi : i < 36) (hu : un W g f f1) (h10 : 10 ∉ W) : nj g f1 P i := by
  obtain ⟨kd, nm, fn, la, ta, e, h1⟩ := h
  exact ⟨kd, nm, fn, la, ta, hu.at (lo_e24 hL _ (lo_k7_0 hL P hP) i hi) h10 e, h1⟩
theorem SG_un {g : Lay} {f f1 : Nat → va_E} {P a b : Nat} {W : List Nat} (h : SG g f P a b) (hL : LO g) (hP : g.tg P = 7) (hb : b ≤ 36) (hu : un W g f f1) (h10 : 10 ∉ W) : SG g f1 P a b := by
  intro i h1 h2
  obtain ⟨kd, nm, fn, la, ta, e, q1, q2, q3, q4, q5, q6⟩ := h i h1 h2
  exact ⟨kd, nm, fn, la, ta, hu.at (lo_e24 hL _ (lo_k7_0 hL P hP) i (by omega)) h10 e, q1, q2, q3, q4, q5, fun z => (q6 z).elim Or.inl (fun y => Or.inr ⟨y.1, y.2.1, nj_un y.2.2 hL hP (by omega) hu h10⟩)⟩
