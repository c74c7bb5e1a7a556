/-! ===== the two readers of PROGRAMs: further classes of tokens: 8 '?', 9 '!', 10 '[', 11 ']', 12 '{', 13 '}', 14 '|', 15 ':', 16 ';', 17 '=' ===== -/
theorem py_eT (k : Nat → Nat) (f i : Nat) (S : List Nat) (d : Nat) : py_e k (f + 1) i S d true = (if k i = 2 ∨ k i = 4 then (if 10 < d + 1 then none else py_e k f (i + 1) ((if k i = 2 then 8 else 4) :: S) (d + 1) true)
    else if k i = 6 then py_e k f (i + 1) (py_neg S d).1 (py_neg S d).2 false
    else if k i = 7 then (if px_dg k 10 i = 10 then none else py_e k f (i + px_dg k 10 i) (py_neg S d).1 (py_neg S d).2 false)
    else none) := by rw [py_e]
theorem py_eF (k : Nat → Nat) (f i : Nat) (S : List Nat) (d : Nat) : py_e k (f + 1) i S d false = (if k i = 1 ∨ k i = 2 then py_e k f (i + 1) (1 :: py_rel 1 S) d true
    else if k i = 3 then py_e k f (i + 1) (3 :: py_rel 2 S) d true
    else if k i = 5 ∧ py_rel 1 S ≠ [] then py_e k f (i + 1) (py_neg (py_rel 1 S).tail (d - 1)).1 (py_neg (py_rel 1 S).tail (d - 1)).2 false
    else if py_rel 1 S = [] then some (i, d) else none) := by rw [py_e]
theorem py_stable (k : Nat → Nat) (N : Nat) (hN : ∀ i, N ≤ i → k i = 0) : ∀ f i S d b, 1 ≤ f → N < i + f → py_e k (f + 1) i S d b = py_e k f i S d b := by
  intro f
  induction f with
  | zero => intro i S d b h; exact absurd h (by omega)
  | succ f ih =>
    intro i S d b _ hf
    by_cases hi : N ≤ i
    · have h0 := hN i hi
      cases b
      · rw [py_eF k (f + 1) i S d, py_eF k f i S d]
        simp only [h0]
        simp
      · rw [py_eT k (f + 1) i S d, py_eT k f i S d]
        simp only [h0]
        simp
    · have e : ∀ i' S' d' b', i < i' → py_e k (f + 1) i' S' d' b' = py_e k f i' S' d' b' := fun i' S' d' b' h => ih i' S' d' b' (by omega) (by omega)
      cases b
      · rw [py_eF k (f + 1) i S d, py_eF k f i S d, e (i + 1) _ _ true (by omega), e (i + 1) (3 :: py_rel 2 S) _ true (by omega), e (i + 1) _ _ false (by omega)]
      · rw [py_eT k (f + 1) i S d, py_eT k f i S d, e (i + 1) _ _ true (by omega), e (i + 1) _ _ false (by omega)]
        by_cases h7 : k i = 7
        · have h1 : 1 ≤ px_dg k 10 i := by rw [show px_dg k 10 i = px_dg k 9 (i + 1) + 1 from if_pos h7]; omega
          rw [e (i + px_dg k 10 i) _ _ _ (by omega)]
        · rw [if_neg h7, if_neg h7]
theorem py_fuel (k : Nat → Nat) (N : Nat) (hN : ∀ i, N ≤ i → k i = 0) {i : Nat} {S : List Nat} {d : Nat} {b : Bool} {r : Option (Nat × Nat)} {F : Nat} (hF : 1 ≤ F ∧ N < i + F) (h : ∃ K, ∀ f, py_e k (f + K) i S d b = r) : py_e k F i S d b = r := by
  obtain ⟨K, hK⟩ := h
  have h1 : ∀ n, py_e k (F + n) i S d b = py_e k F i S d b := by
    intro n
    induction n with
    | zero => rfl
    | succ n ih => rw [← Nat.add_assoc, py_stable k N hN (F + n) i S d b (by omega) (by omega), ih]
  rw [← h1 K]
  exact hK F
/-- an EXPR from its first sign on: the class's reader against the reference's -/
theorem px_expr (k : Nat → Nat) (N : Nat) (hN : ∀ i, N ≤ i → k i = 0) (hN2 : N ≤ 72) {d i : Nat} (hd : d ≤ 10) (hi : i ≤ N) : (px_e k 400 1 d i = none → py_e k 400 i [] d true = none) ∧
    ∀ a, px_e k 400 1 d i = some a → i < a ∧ a ≤ N ∧ (py_e k 400 i [] d true = some (a, d) ∨ (k a = 7 ∧ py_e k 400 i [] d true = none)) := by
  have h := (px_sim k N hN 400).2.1 d i hd hi (by omega) [] (by simp)
  refine ⟨fun q => py_fuel k N hN (by omega) (h.1 q), fun a q => ?_⟩
  obtain ⟨h1, h2, h3⟩ := h.2 a q
  refine ⟨by omega, h2, h3.elim (fun z => Or.inl ?_) (fun z => Or.inr ⟨z.1, py_fuel k N hN (by omega) z.2⟩)⟩
  obtain ⟨y1, y2, y3, S', e1, K, e2⟩ := z
  refine py_fuel k N hN (by omega) ⟨1 + K, fun f => ?_⟩
  rw [← Nat.add_assoc, e2, py_e, if_neg (by omega), if_neg y3, if_neg (fun q => q.2 (by rw [e1]; rfl)), if_pos (by rw [e1]; rfl)]
/-- the class's reader: tag 0 a STATEMENT, 1 a PROGRAM -/
def px_s (k : Nat → Nat) : Nat → Nat → Nat → Nat → Option Nat
  | 0, _, _, _ => none
  | f + 1, 0, d, i =>
    if k i = 8 then (if k (i + 1) = 6 then some (i + 2) else none)
    else if k i = 9 then px_e k 400 1 d (i + 1)
    else if k i = 10 then (px_e k 400 1 d (i + 1)).bind (fun a => if k a = 15 then (px_s k f 1 (d + 1) (a + 1)).bind (fun b => if k b = 11 then some (b + 1) else none) else none)
    else if k i = 12 then (px_e k 400 1 d (i + 1)).bind (fun a => if k a = 15 then (px_s k f 1 (d + 1) (a + 1)).bind (fun b => if k b = 14 then (px_s k f 1 (d + 1) (b + 1)).bind (fun g => if k g = 13 then some (g + 1) else none) else none) else none)
    else if k i = 6 ∧ k (i + 1) = 17 then px_e k 400 1 d (i + 2) else none
  | f + 1, 1, d, i => if 10 < d then none else (px_s k f 0 d i).bind (fun a => if k a = 16 then px_s k f 1 d (a + 1) else some a)
  | _ + 1, _ + 2, _, _ => none
/-- the reference's: place, open signs (10, 12, 14), depth, whether a STATEMENT is due -/
def py_r (k : Nat → Nat) (N : Nat) : Nat → Nat → List Nat → Nat → Bool → Bool
  | 0, _, _, _, _ => false
  | f + 1, i, K, d, true =>
    if k i = 8 then (if k (i + 1) = 6 then py_r k N f (i + 2) K d false else false)
    else if k i = 10 ∨ k i = 12 then (match py_e k 400 (i + 1) [] d true with
      | some (a, d') => if k a = 15 then (if d' + 1 ≤ 10 then py_r k N f (a + 1) (k i :: K) (d' + 1) true else false) else false
      | none => false)
    else if k i = 9 then (match py_e k 400 (i + 1) [] d true with
      | some (a, d') => py_r k N f a K d' false
      | none => false)
    else if k i = 6 ∧ k (i + 1) = 17 then (match py_e k 400 (i + 2) [] d true with
      | some (a, d') => py_r k N f a K d' false
      | none => false)
    else false
  | f + 1, i, K, d, false =>
    if i < N then (if k i = 16 then py_r k N f (i + 1) K d true else (match K with
      | [] => false
      | x :: K' => if k i = 11 ∧ x = 10 then py_r k N f (i + 1) K' (d - 1) false
        else if k i = 14 ∧ x = 12 then py_r k N f (i + 1) (14 :: K') d true
        else if k i = 13 ∧ x = 14 then py_r k N f (i + 1) K' (d - 1) false else false))
    else decide (K = [])

