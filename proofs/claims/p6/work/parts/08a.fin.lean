/-! ===== both readers take the same lines ===== -/
theorem py_e_le (k : Nat → Nat) : ∀ f i S d b a d', py_e k f i S d b = some (a, d') → i ≤ a := by
  intro f
  induction f with
  | zero => intro i S d b a d' h; cases h
  | succ f ih =>
    intro i S d b a d' h
    cases b
    · rw [py_eF] at h
      split at h
      · exact Nat.le_of_succ_le (ih _ _ _ _ _ _ h)
      · split at h
        · exact Nat.le_of_succ_le (ih _ _ _ _ _ _ h)
        · split at h
          · exact Nat.le_of_succ_le (ih _ _ _ _ _ _ h)
          · split at h
            · cases h; exact Nat.le_refl _
            · cases h
    · rw [py_eT] at h
      split at h
      · split at h
        · cases h
        · exact Nat.le_of_succ_le (ih _ _ _ _ _ _ h)
      · split at h
        · exact Nat.le_of_succ_le (ih _ _ _ _ _ _ h)
        · split at h
          · split at h
            · cases h
            · exact Nat.le_trans (Nat.le_add_right _ _) (ih _ _ _ _ _ _ h)
          · cases h
theorem py_rT (k : Nat → Nat) (N f i : Nat) (K : List Nat) (d : Nat) : py_r k N (f + 1) i K d true = (if k i = 8 then (if k (i + 1) = 6 then py_r k N f (i + 2) K d false else false)
    else if k i = 10 ∨ k i = 12 then (match py_e k 400 (i + 1) [] d true with
      | some (a, d') => if k a = 15 then (if d' + 1 ≤ 10 then py_r k N f (a + 1) (k i :: K) (d' + 1) true else false) else false
      | none => false)
    else if k i = 9 then (match py_e k 400 (i + 1) [] d true with
      | some (a, d') => py_r k N f a K d' false
      | none => false)
    else if k i = 6 ∧ k (i + 1) = 17 then (match py_e k 400 (i + 2) [] d true with
      | some (a, d') => py_r k N f a K d' false
      | none => false)
    else false) := rfl
theorem py_rF (k : Nat → Nat) (N f i : Nat) (K : List Nat) (d : Nat) : py_r k N (f + 1) i K d false = (if i < N then (if k i = 16 then py_r k N f (i + 1) K d true else (match K with
      | [] => false
      | x :: K' => if k i = 11 ∧ x = 10 then py_r k N f (i + 1) K' (d - 1) false
        else if k i = 14 ∧ x = 12 then py_r k N f (i + 1) (14 :: K') d true
        else if k i = 13 ∧ x = 14 then py_r k N f (i + 1) K' (d - 1) false else false))
    else decide (K = [])) := by cases K <;> rfl
theorem pr_stable (k : Nat → Nat) (N : Nat) (hN : ∀ i, N ≤ i → k i = 0) : ∀ f i K d b, 1 ≤ f → N < i + f → py_r k N (f + 1) i K d b = py_r k N f i K d b := by
  intro f
  induction f with
  | zero => intro i K d b h; exact absurd h (by omega)
  | succ f ih =>
    intro i K d b _ hf
    by_cases hi : N ≤ i
    · have h0 := hN i hi
      cases b
      · rw [py_rF, py_rF, if_neg (by omega), if_neg (by omega)]
      · rw [py_rT, py_rT]
        simp only [h0]
        simp
    · have e : ∀ i' K' d' b', i < i' → py_r k N (f + 1) i' K' d' b' = py_r k N f i' K' d' b' := fun i' K' d' b' h => ih i' K' d' b' (by omega) (by omega)
      cases b
      · rw [py_rF, py_rF, e (i + 1) _ _ _ (by omega)]
        cases K with
        | nil => rfl
        | cons x K' => simp only [e (i + 1) _ _ _ (Nat.lt_succ_self i)]
      · rw [py_rT, py_rT, e (i + 2) _ _ _ (by omega)]
        have m1 : ∀ a d', py_e k 400 (i + 1) [] d true = some (a, d') → i < a := fun a d' h => py_e_le k _ _ _ _ _ _ _ h
        have m2 : ∀ a d', py_e k 400 (i + 2) [] d true = some (a, d') → i < a := fun a d' h => Nat.lt_of_lt_of_le (by omega) (py_e_le k _ _ _ _ _ _ _ h)
        cases h1 : py_e k 400 (i + 1) [] d true with
        | none =>
          cases h2 : py_e k 400 (i + 2) [] d true with
          | none => rfl
          | some r => obtain ⟨a, d'⟩ := r; simp only [e a _ _ _ (m2 a d' h2)]
        | some r =>
          obtain ⟨a, d'⟩ := r
          cases h2 : py_e k 400 (i + 2) [] d true with
          | none => simp only [e a _ _ _ (m1 a d' h1), e (a + 1) _ _ _ (Nat.lt_succ_of_lt (m1 a d' h1))]
          | some r2 => obtain ⟨a2, d2⟩ := r2; simp only [e a _ _ _ (m1 a d' h1), e (a + 1) _ _ _ (Nat.lt_succ_of_lt (m1 a d' h1)), e a2 _ _ _ (m2 a2 d2 h2)]
/-- the whole line -/
theorem px_fin (k : Nat → Nat) (N : Nat) (hN : ∀ i, N ≤ i → k i = 0) (hN2 : N ≤ 72) {F : Nat} (hF : 73 ≤ F) : py_r k N F 0 [] 1 true = decide (px_s k 400 1 1 0 = some N) := by
  have st : ∀ n, py_r k N (F + n) 0 [] 1 true = py_r k N F 0 [] 1 true := by
    intro n
    induction n with
    | zero => rfl
    | succ n ih => rw [← Nat.add_assoc, pr_stable k N hN (F + n) 0 [] 1 true (by omega) (by omega), ih]
  have h := (px_prog k N hN hN2 400).2 1 0 [] (by omega) (by omega) (by omega)
  have no : pr_no k N 0 [] 1 true → py_r k N F 0 [] 1 true = false := fun ⟨M, hM⟩ => by rw [← st M]; exact hM F
  cases hr : px_s k 400 1 1 0 with
  | none => rw [no (h.1 hr)]; rfl
  | some a =>
    obtain ⟨q1, q2, q3⟩ := h.2 a hr
    by_cases ha : a = N
    · subst ha
      have h0 := hN a (Nat.le_refl _)
      rcases q3 with ⟨-, M, hM⟩ | ⟨q3, -⟩
      · rw [← st M, hM F]
        obtain ⟨F', rfl⟩ : ∃ F', F = F' + 1 := ⟨F - 1, by omega⟩
        rw [py_rF, if_neg (by omega)]
        simp
      · omega
    · have hd : decide (some a = some N) = false := decide_eq_false (fun q => ha (Option.some.inj q))
      rw [hd]
      rcases q3 with ⟨h16, M, hM⟩ | ⟨-, q4⟩
      · rw [← st M, hM F]
        obtain ⟨F', rfl⟩ : ∃ F', F = F' + 1 := ⟨F - 1, by omega⟩
        rw [py_rF, if_pos (by omega), if_neg h16]
      · exact no q4

