/-! ===== how many places hold 0 ===== -/
def cz (h : Nat → Int32) : Nat → Nat
  | 0 => 0
  | n + 1 => cz h n + (if h n = 0 then 1 else 0)
theorem cz_le (h : Nat → Int32) : ∀ n, cz h n ≤ n := by
  intro n
  induction n with
  | zero => exact Nat.le_refl _
  | succ n ih => unfold cz; split <;> omega
theorem cz_eq {h k : Nat → Int32} {n : Nat} (e : ∀ i, i < n → h i = k i) : cz h n = cz k n := by
  induction n with
  | zero => rfl
  | succ n ih => unfold cz; rw [ih (fun i hi => e i (by omega)), e n (by omega)]
theorem cz_1 {h : Nat → Int32} {v : Nat} {x : Int32} (h0 : h v = 0) (hx : x ≠ 0) : ∀ n, v < n → cz (upd h v x) n + 1 = cz h n := by
  intro n
  induction n with
  | zero => intro hv; omega
  | succ n ih =>
    intro hv
    unfold cz
    by_cases q : v = n
    · subst q
      rw [cz_eq (h := upd h v x) (k := h) (n := v) (fun i hi => if_neg (by omega)), show upd h v x v = x from if_pos rfl, if_neg hx, if_pos h0]
    · rw [show upd h v x n = h n from if_neg (fun z => q z.symm)]
      have := ih (by omega)
      omega
theorem cz_0 {h : Nat → Int32} {v : Nat} {x : Int32} (h0 : h v = 0) (hx : x = 0) (n : Nat) : cz (upd h v x) n = cz h n := by
  refine cz_eq (fun i _ => ?_)
  show (if i = v then x else h i) = h i
  by_cases q : i = v
  · rw [if_pos q, q, hx, h0]
  · rw [if_neg q]

