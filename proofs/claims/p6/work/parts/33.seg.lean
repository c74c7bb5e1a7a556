/-! ===== rows of STATEMENTs put together ===== -/
theorem nj_eq {g : Lay} {f f1 : Nat → va_E} {P i : Nat} (h : nj g f P i) (e : f1 (g.lk (g.lk P 0) i) = f (g.lk (g.lk P 0) i)) : nj g f1 P i := by
  obtain ⟨kd, nm, fn, la, ta, h1, h2⟩ := h
  exact ⟨kd, nm, fn, la, ta, e.trans h1, h2⟩
theorem SG_eq {g : Lay} {f f1 : Nat → va_E} {P a b : Nat} (h : SG g f P a b) (e : ∀ i, a ≤ i → i < b → f1 (g.lk (g.lk P 0) i) = f (g.lk (g.lk P 0) i)) : SG g f1 P a b := by
  intro i h1 h2
  obtain ⟨kd, nm, fn, la, ta, q0, q1, q2, q3, q4, q5, q6⟩ := h i h1 h2
  exact ⟨kd, nm, fn, la, ta, (e i h1 h2).trans q0, q1, q2, q3, q4, q5, fun z => (q6 z).elim Or.inl (fun y => Or.inr ⟨y.1, y.2.1, nj_eq y.2.2 (e _ y.1 y.2.1)⟩)⟩
theorem SG_nil {g : Lay} {f : Nat → va_E} {P a : Nat} : SG g f P a a := fun i h1 h2 => absurd h2 (by omega)
theorem SG_app {g : Lay} {f : Nat → va_E} {P a b c : Nat} (hab : a ≤ b) (hbc : b ≤ c) (h1 : SG g f P a b) (h2 : SG g f P b c) : SG g f P a c := by
  intro i hi hj
  rcases Nat.lt_or_ge i b with q | q
  · obtain ⟨kd, nm, fn, la, ta, q0, q1, q2, q3, q4, q5, q6⟩ := h1 i hi q
    exact ⟨kd, nm, fn, la, ta, q0, q1, q2, q3, q4, q5, fun z => (q6 z).elim (fun y => Or.inl ⟨y.1, by omega⟩) (fun y => Or.inr ⟨y.1, by omega, y.2.2⟩)⟩
  · obtain ⟨kd, nm, fn, la, ta, q0, q1, q2, q3, q4, q5, q6⟩ := h2 i q hj
    exact ⟨kd, nm, fn, la, ta, q0, q1, q2, q3, q4, q5, fun z => (q6 z).elim Or.inl (fun y => Or.inr ⟨by omega, y.2.1, y.2.2⟩)⟩
theorem SG_one {g : Lay} {f : Nat → va_E} {P a kd nm fn ta : Nat} {la : Int32} (e : f (g.lk (g.lk P 0) a) = .inr (9, [.int (nI kd), .int (nI nm), .int (nI fn), .int la, .int (nI ta)])) (h1 : kd < 5) (h2 : nm < 10) (h3 : fn ≤ 72) (h4 : ta ≤ 36) (h5 : kd ≠ 1 → ∃ j, j < 72 ∧ la = nI j) : SG g f P a (a + 1) := by
  intro i hi hj
  obtain rfl : i = a := by omega
  exact ⟨kd, nm, fn, la, ta, e, by omega, h2, h3, h4, fun z _ => h5 z, fun z => by omega⟩
/-- a JUMP behind them, back to one of them that is none -/
theorem SG_back {g : Lay} {f : Nat → va_E} {P a b nm fn ta : Nat} {la : Int32} (h : SG g f P a b) (e : f (g.lk (g.lk P 0) b) = .inr (9, [.int (nI 5), .int (nI nm), .int (nI fn), .int la, .int (nI ta)])) (h2 : nm < 10) (h3 : fn ≤ 72) (h4 : ta ≤ 36) (h5 : a ≤ ta) (h6 : ta < b) (h7 : nj g f P ta) : SG g f P a (b + 1) := by
  intro i hi hj
  rcases Nat.lt_or_ge i b with q | q
  · obtain ⟨kd, nm, fn, la, ta, q0, q1, q2, q3, q4, q5, q6⟩ := h i hi q
    exact ⟨kd, nm, fn, la, ta, q0, q1, q2, q3, q4, q5, fun z => (q6 z).elim (fun y => Or.inl ⟨y.1, by omega⟩) (fun y => Or.inr ⟨y.1, by omega, y.2.2⟩)⟩
  · obtain rfl : i = b := by omega
    exact ⟨5, nm, fn, la, ta, e, by omega, h2, h3, h4, fun _ z => absurd rfl z, fun _ => Or.inr ⟨h5, by omega, h7⟩⟩
/-- a JUMP between them, to the end -/
theorem SG_mid {g : Lay} {f : Nat → va_E} {P a b c nm fn ta : Nat} {la : Int32} (h : SG g f P a b) (h' : SG g f P (b + 1) c) (hab : a ≤ b) (e : f (g.lk (g.lk P 0) b) = .inr (9, [.int (nI 5), .int (nI nm), .int (nI fn), .int la, .int (nI ta)])) (h2 : nm < 10) (h3 : fn ≤ 72) (h4 : ta ≤ 36) (h5 : b < ta) (h6 : ta ≤ c) (hbc : b < c) : SG g f P a c := by
  intro i hi hj
  rcases Nat.lt_or_ge i b with q | q
  · obtain ⟨kd, nm, fn, la, ta, q0, q1, q2, q3, q4, q5, q6⟩ := h i hi q
    exact ⟨kd, nm, fn, la, ta, q0, q1, q2, q3, q4, q5, fun z => (q6 z).elim (fun y => Or.inl ⟨y.1, by omega⟩) (fun y => Or.inr ⟨y.1, by omega, y.2.2⟩)⟩
  · rcases Nat.lt_or_ge b i with q2 | q2
    · obtain ⟨kd, nm, fn, la, ta, q0, q1, q2, q3, q4, q5, q6⟩ := h' i q2 hj
      exact ⟨kd, nm, fn, la, ta, q0, q1, q2, q3, q4, q5, fun z => (q6 z).elim Or.inl (fun y => Or.inr ⟨by omega, y.2.1, y.2.2⟩)⟩
    · obtain rfl : i = b := by omega
      exact ⟨5, nm, fn, la, ta, e, by omega, h2, h3, h4, fun _ z => absurd rfl z, fun _ => Or.inl ⟨h5, h6⟩⟩
theorem nj_of {g : Lay} {f : Nat → va_E} {P i kd nm fn ta : Nat} {la : Int32} (e : f (g.lk (g.lk P 0) i) = .inr (9, [.int (nI kd), .int (nI nm), .int (nI fn), .int la, .int (nI ta)])) (h : kd < 5) : nj g f P i := ⟨kd, nm, fn, la, ta, e, h⟩
def px_l (k : Nat → Nat) (F d i : Nat) : Option Nat := (px_e k 400 1 d i).bind (fun a => if k a = 15 then (px_s k F 1 (d + 1) (a + 1)).bind (fun b => if k b = 11 then some (b + 1) else none) else none)
def px_c (k : Nat → Nat) (F d i : Nat) : Option Nat := (px_e k 400 1 d i).bind (fun a => if k a = 15 then (px_s k F 1 (d + 1) (a + 1)).bind (fun b => if k b = 14 then (px_s k F 1 (d + 1) (b + 1)).bind (fun g => if k g = 13 then some (g + 1) else none) else none) else none)
theorem px_s0 (k : Nat → Nat) (f d i : Nat) : px_s k (f + 1) 0 d i = (if k i = 8 then (if k (i + 1) = 6 then some (i + 2) else none) else if k i = 9 then px_e k 400 1 d (i + 1) else if k i = 10 then px_l k f d (i + 1) else if k i = 12 then px_c k f d (i + 1) else if k i = 6 ∧ k (i + 1) = 17 then px_e k 400 1 d (i + 2) else none) := rfl
theorem px_s1 (k : Nat → Nat) (f d i : Nat) : px_s k (f + 1) 1 d i = (if 10 < d then none else (px_s k f 0 d i).bind (fun a => if k a = 16 then px_s k f 1 d (a + 1) else some a)) := rfl

