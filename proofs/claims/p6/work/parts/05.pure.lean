/-! ===== the two readers of EXPRs, over classes of tokens: 1 '+', 2 '-', 3 '*' '/' '%', 4 '(', 5 ')', 6 a name, 7 a digit, 0 and from 8 on: anything else; k says which class stands at a place ===== -/
/-- how many digits stand from a place on, at most f -/
def px_dg (k : Nat → Nat) : Nat → Nat → Nat
  | 0, _ => 0
  | f + 1, i => if k i = 7 then px_dg k f (i + 1) + 1 else 0
/-- the class's reader: tag 0 a factor, 1 an EXPR, 2 a term, 3 what follows the first term, 4 what follows the first factor; d its depth, i its place; behind it the place where it ended -/
def px_e (k : Nat → Nat) : Nat → Nat → Nat → Nat → Option Nat
  | 0, _, _, _ => none
  | f + 1, 0, d, i =>
    if 10 < d then none
    else if k i = 2 then px_e k f 0 (d + 1) (i + 1)
    else if k i = 4 then (px_e k f 1 (d + 1) (i + 1)).bind (fun a => if k a = 5 then some (a + 1) else none)
    else if k i = 6 then some (i + 1)
    else if px_dg k 9 i = 0 then none else some (i + px_dg k 9 i)
  | f + 1, 1, d, i => (px_e k f 2 d i).bind (fun a => px_e k f 3 d a)
  | f + 1, 2, d, i => (px_e k f 0 d i).bind (fun a => px_e k f 4 d a)
  | f + 1, 3, d, i => if k i = 1 ∨ k i = 2 then (px_e k f 2 d (i + 1)).bind (fun a => px_e k f 3 d a) else some i
  | f + 1, 4, d, i => if k i = 3 then (px_e k f 0 d (i + 1)).bind (fun a => px_e k f 4 d a) else some i
  | _ + 1, _ + 5, _, _ => none
/-- the reference's row of waiting signs: 1 a sign that binds loosely, 3 one that binds fast, 4 an open bracket, 8 a sign before a factor -/
def py_neg : List Nat → Nat → List Nat × Nat
  | 8 :: S, d => py_neg S (d - 1)
  | S, d => (S, d)
def py_rel (b : Nat) : List Nat → List Nat
  | [] => []
  | x :: S => if x ≠ 4 ∧ b ≤ (if x = 3 then 2 else 1) then py_rel b S else x :: S
/-- the reference's reader of an EXPR: place, waiting signs, depth, whether a factor is due; behind it the place and the depth -/
def py_e (k : Nat → Nat) : Nat → Nat → List Nat → Nat → Bool → Option (Nat × Nat)
  | 0, _, _, _, _ => none
  | f + 1, i, S, d, true =>
    if k i = 2 ∨ k i = 4 then (if 10 < d + 1 then none else py_e k f (i + 1) ((if k i = 2 then 8 else 4) :: S) (d + 1) true)
    else if k i = 6 then py_e k f (i + 1) (py_neg S d).1 (py_neg S d).2 false
    else if k i = 7 then (if px_dg k 10 i = 10 then none else py_e k f (i + px_dg k 10 i) (py_neg S d).1 (py_neg S d).2 false)
    else none
  | f + 1, i, S, d, false =>
    if k i = 1 ∨ k i = 2 then py_e k f (i + 1) (1 :: py_rel 1 S) d true
    else if k i = 3 then py_e k f (i + 1) (3 :: py_rel 2 S) d true
    else if k i = 5 ∧ py_rel 1 S ≠ [] then py_e k f (i + 1) (py_neg (py_rel 1 S).tail (d - 1)).1 (py_neg (py_rel 1 S).tail (d - 1)).2 false
    else if py_rel 1 S = [] then some (i, d) else none
theorem px_dg_le (k : Nat → Nat) : ∀ f i, px_dg k f i ≤ f := by
  intro f
  induction f with
  | zero => intro i; exact Nat.le_refl _
  | succ f ih =>
    intro i
    unfold px_dg
    split
    · exact Nat.succ_le_succ (ih _)
    · exact Nat.zero_le _
theorem px_dg_in (k : Nat → Nat) : ∀ f i j, j < px_dg k f i → k (i + j) = 7 := by
  intro f
  induction f with
  | zero => intro i j h; exact absurd h (Nat.not_lt_zero _)
  | succ f ih =>
    intro i j h
    unfold px_dg at h
    by_cases h7 : k i = 7
    · rw [if_pos h7] at h
      cases j with
      | zero => exact h7
      | succ j =>
        have := ih (i + 1) j (by omega)
        rw [show i + (j + 1) = i + 1 + j by omega]
        exact this
    · rw [if_neg h7] at h
      exact absurd h (Nat.not_lt_zero _)
/-- one digit more may be asked for -/
theorem px_dg_succ (k : Nat → Nat) : ∀ f i, px_dg k (f + 1) i = if px_dg k f i = f ∧ k (i + f) = 7 then f + 1 else px_dg k f i := by
  intro f
  induction f with
  | zero =>
    intro i
    by_cases h7 : k i = 7 <;> simp [px_dg, h7]
  | succ f ih =>
    intro i
    by_cases h7 : k i = 7
    · rw [px_dg, if_pos h7, ih (i + 1)]
      rw [show px_dg k (f + 1) i = px_dg k f (i + 1) + 1 by rw [px_dg, if_pos h7]]
      rw [show i + 1 + f = i + (f + 1) by omega]
      by_cases h : px_dg k f (i + 1) = f ∧ k (i + (f + 1)) = 7
      · rw [if_pos h, if_pos ⟨by omega, h.2⟩]
      · rw [if_neg h, if_neg (fun q => h ⟨by omega, q.2⟩)]
    · rw [px_dg, if_neg h7]
      rw [show px_dg k (f + 1) i = 0 by rw [px_dg, if_neg h7]]
      rw [if_neg (fun q => by omega)]

