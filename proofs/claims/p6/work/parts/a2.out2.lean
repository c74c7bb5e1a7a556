/-! ===== what the two readers put down of a PROGRAM: 8 an assignment, 9 an input, 10 an output, 11 a test, 12 a jump; behind the last two the place they lead to ===== -/
def oxl (E B : List (Nat × Nat)) (p : Nat) : List (Nat × Nat) := E ++ (11, p + E.length + B.length + 2) :: (B ++ [(12, p)])
def oxc (E B C : List (Nat × Nat)) (p : Nat) : List (Nat × Nat) := E ++ (11, p + E.length + B.length + 2) :: (B ++ (12, p + E.length + B.length + 2 + C.length) :: C)
def ox_s (k v : Nat → Nat) : Nat → Nat → Nat → Nat → Nat → List (Nat × Nat)
  | 0, _, _, _, _ => []
  | f + 1, 0, d, i, p =>
    if k i = 8 then [(9, v (i + 1) - 97)]
    else if k i = 9 then ox_e k v 400 1 d (i + 1) ++ [(10, 0)]
    else if k i = 10 then oxl (ox_e k v 400 1 d (i + 1)) (ox_s k v f 1 (d + 1) ((px_e k 400 1 d (i + 1)).getD 0 + 1) (p + (ox_e k v 400 1 d (i + 1)).length + 1)) p
    else if k i = 12 then oxc (ox_e k v 400 1 d (i + 1)) (ox_s k v f 1 (d + 1) ((px_e k 400 1 d (i + 1)).getD 0 + 1) (p + (ox_e k v 400 1 d (i + 1)).length + 1))
      (ox_s k v f 1 (d + 1) ((px_s k f 1 (d + 1) ((px_e k 400 1 d (i + 1)).getD 0 + 1)).getD 0 + 1) (p + (ox_e k v 400 1 d (i + 1)).length + (ox_s k v f 1 (d + 1) ((px_e k 400 1 d (i + 1)).getD 0 + 1) (p + (ox_e k v 400 1 d (i + 1)).length + 1)).length + 2)) p
    else ox_e k v 400 1 d (i + 2) ++ [(8, v i - 97)]
  | f + 1, 1, d, i, p => ox_s k v f 0 d i p ++ (if k ((px_s k f 0 d i).getD 0) = 16 then ox_s k v f 1 d ((px_s k f 0 d i).getD 0 + 1) (p + (ox_s k v f 0 d i p).length) else [])
  | _ + 1, _ + 2, _, _, _ => []
/-- a place that is told later -/
def opt (D : List (Nat × Nat)) (t n : Nat) : List (Nat × Nat) := D.set t ((D.getD t (0, 0)).1, n)
def oy_r (k v : Nat → Nat) (N : Nat) : Nat → Nat → List (Nat × Nat) → List (Nat × Nat) → Nat → Bool → List (Nat × Nat)
  | 0, _, D, _, _, _ => D
  | f + 1, i, D, K, d, true =>
    if k i = 8 then oy_r k v N f (i + 2) (D ++ [(9, v (i + 1) - 97)]) K d false
    else if k i = 10 ∨ k i = 12 then (match py_e k 400 (i + 1) [] d true with
      | some (a, d') => oy_r k v N f (a + 1) (D ++ oy_e k v 400 (i + 1) [] true ++ [(11, D.length)]) ((k i, D.length + (oy_e k v 400 (i + 1) [] true).length) :: K) (d' + 1) true
      | none => D)
    else if k i = 9 then (match py_e k 400 (i + 1) [] d true with
      | some (a, d') => oy_r k v N f a (D ++ oy_e k v 400 (i + 1) [] true ++ [(10, 0)]) K d' false
      | none => D)
    else if k i = 6 ∧ k (i + 1) = 17 then (match py_e k 400 (i + 2) [] d true with
      | some (a, d') => oy_r k v N f a (D ++ oy_e k v 400 (i + 2) [] true ++ [(8, v i - 97)]) K d' false
      | none => D)
    else D
  | f + 1, i, D, K, d, false =>
    if i < N then (if k i = 16 then oy_r k v N f (i + 1) D K d true else (match K with
      | [] => D
      | (x, t) :: K' => if k i = 11 ∧ x = 10 then oy_r k v N f (i + 1) (opt (D ++ [(12, (D.getD t (0, 0)).2)]) t (D.length + 1)) K' (d - 1) false
        else if k i = 14 ∧ x = 12 then oy_r k v N f (i + 1) (opt (D ++ [(12, 0)]) t (D.length + 1)) ((14, D.length) :: K') d true
        else if k i = 13 ∧ x = 14 then oy_r k v N f (i + 1) (opt D t D.length) K' (d - 1) false else D))
    else D
theorem opt_at (A B : List (Nat × Nat)) (w a n : Nat) : opt (A ++ (w, a) :: B) A.length n = A ++ (w, n) :: B := by
  unfold opt
  rw [List.getD_eq_getElem?_getD, List.getElem?_append_right (Nat.le_refl _), Nat.sub_self, List.set_append_right _ _ (Nat.le_refl _), Nat.sub_self]
  rfl
theorem opd_at (A B : List (Nat × Nat)) (w a : Nat) : (A ++ (w, a) :: B).getD A.length (0, 0) = (w, a) := by
  rw [List.getD_eq_getElem?_getD, List.getElem?_append_right (Nat.le_refl _), Nat.sub_self]
  rfl
def or_to (k v : Nat → Nat) (N i : Nat) (D K : List (Nat × Nat)) (d : Nat) (b : Bool) (i' : Nat) (D' K' : List (Nat × Nat)) (d' : Nat) (b' : Bool) : Prop := ∃ M, ∀ f, oy_r k v N (f + M) i D K d b = oy_r k v N f i' D' K' d' b'
theorem or_to.tr {k v : Nat → Nat} {N i i1 i2 d d1 d2 : Nat} {D D1 D2 K K1 K2 : List (Nat × Nat)} {b b1 b2 : Bool} (h : or_to k v N i D K d b i1 D1 K1 d1 b1) (h2 : or_to k v N i1 D1 K1 d1 b1 i2 D2 K2 d2 b2) : or_to k v N i D K d b i2 D2 K2 d2 b2 := by
  obtain ⟨M, hM⟩ := h
  obtain ⟨M2, hM2⟩ := h2
  exact ⟨M2 + M, fun f => by rw [← Nat.add_assoc, hM, hM2]⟩
theorem or_to.rf {k v : Nat → Nat} {N i d : Nat} {D K : List (Nat × Nat)} {b : Bool} : or_to k v N i D K d b i D K d b := ⟨0, fun _ => rfl⟩
section orr
variable {k v : Nat → Nat} {N i a d : Nat} {D K : List (Nat × Nat)}
theorem or_8 (h : k i = 8) : or_to k v N i D K d true (i + 2) (D ++ [(9, v (i + 1) - 97)]) K d false := ⟨1, fun f => by
  show oy_r k v N (f + 1) i D K d true = _
  rw [oy_r, if_pos h]⟩
theorem or_b (h : k i = 10 ∨ k i = 12) (he : py_e k 400 (i + 1) [] d true = some (a, d)) : or_to k v N i D K d true (a + 1) (D ++ oy_e k v 400 (i + 1) [] true ++ [(11, D.length)]) ((k i, D.length + (oy_e k v 400 (i + 1) [] true).length) :: K) (d + 1) true := ⟨1, fun f => by
  show oy_r k v N (f + 1) i D K d true = _
  rw [oy_r, if_neg (by omega), if_pos h, he]⟩
theorem or_9 (h : k i = 9) (he : py_e k 400 (i + 1) [] d true = some (a, d)) : or_to k v N i D K d true a (D ++ oy_e k v 400 (i + 1) [] true ++ [(10, 0)]) K d false := ⟨1, fun f => by
  show oy_r k v N (f + 1) i D K d true = _
  rw [oy_r, if_neg (by omega), if_neg (by omega), if_pos h, he]⟩
theorem or_6 (h : k i = 6 ∧ k (i + 1) = 17) (he : py_e k 400 (i + 2) [] d true = some (a, d)) : or_to k v N i D K d true a (D ++ oy_e k v 400 (i + 2) [] true ++ [(8, v i - 97)]) K d false := ⟨1, fun f => by
  show oy_r k v N (f + 1) i D K d true = _
  rw [oy_r, if_neg (by omega), if_neg (by omega), if_neg (by omega), if_pos h, he]⟩
theorem or_16 (hi : i < N) (h : k i = 16) : or_to k v N i D K d false (i + 1) D K d true := ⟨1, fun f => by
  show oy_r k v N (f + 1) i D K d false = _
  cases K <;> rw [oy_r, if_pos hi, if_pos h]⟩
theorem or_11 {t : Nat} (hi : i < N) (h : k i = 11) : or_to k v N i D ((10, t) :: K) (d + 1) false (i + 1) (opt (D ++ [(12, (D.getD t (0, 0)).2)]) t (D.length + 1)) K d false := ⟨1, fun f => by
  show oy_r k v N (f + 1) i D ((10, t) :: K) (d + 1) false = _
  rw [oy_r, if_pos hi, if_neg (by omega)]
  simp [h]⟩
theorem or_14 {t : Nat} (hi : i < N) (h : k i = 14) : or_to k v N i D ((12, t) :: K) d false (i + 1) (opt (D ++ [(12, 0)]) t (D.length + 1)) ((14, D.length) :: K) d true := ⟨1, fun f => by
  show oy_r k v N (f + 1) i D ((12, t) :: K) d false = _
  rw [oy_r, if_pos hi, if_neg (by omega)]
  simp [h]⟩
theorem or_13 {t : Nat} (hi : i < N) (h : k i = 13) : or_to k v N i D ((14, t) :: K) (d + 1) false (i + 1) (opt D t D.length) K d false := ⟨1, fun f => by
  show oy_r k v N (f + 1) i D ((14, t) :: K) (d + 1) false = _
  rw [oy_r, if_pos hi, if_neg (by omega)]
  simp [h]⟩
end orr
theorem ox_s0 (k v : Nat → Nat) (f d i p : Nat) : ox_s k v (f + 1) 0 d i p = (if k i = 8 then [(9, v (i + 1) - 97)]
    else if k i = 9 then ox_e k v 400 1 d (i + 1) ++ [(10, 0)]
    else if k i = 10 then oxl (ox_e k v 400 1 d (i + 1)) (ox_s k v f 1 (d + 1) ((px_e k 400 1 d (i + 1)).getD 0 + 1) (p + (ox_e k v 400 1 d (i + 1)).length + 1)) p
    else if k i = 12 then oxc (ox_e k v 400 1 d (i + 1)) (ox_s k v f 1 (d + 1) ((px_e k 400 1 d (i + 1)).getD 0 + 1) (p + (ox_e k v 400 1 d (i + 1)).length + 1))
      (ox_s k v f 1 (d + 1) ((px_s k f 1 (d + 1) ((px_e k 400 1 d (i + 1)).getD 0 + 1)).getD 0 + 1) (p + (ox_e k v 400 1 d (i + 1)).length + (ox_s k v f 1 (d + 1) ((px_e k 400 1 d (i + 1)).getD 0 + 1) (p + (ox_e k v 400 1 d (i + 1)).length + 1)).length + 2)) p
    else ox_e k v 400 1 d (i + 2) ++ [(8, v i - 97)]) := rfl
theorem ox_s1 (k v : Nat → Nat) (f d i p : Nat) : ox_s k v (f + 1) 1 d i p = ox_s k v f 0 d i p ++ (if k ((px_s k f 0 d i).getD 0) = 16 then ox_s k v f 1 d ((px_s k f 0 d i).getD 0 + 1) (p + (ox_s k v f 0 d i p).length) else []) := rfl
/-- an EXPR within: where it ended, and what both put down -/
theorem or_expr (k v : Nat → Nat) (hv : vk k v) (N : Nat) (hN : ∀ i, N ≤ i → k i = 0) (hN2 : N ≤ 72) {d i a : Nat} (hd : d ≤ 10) (hi : i ≤ N) (h : px_e k 400 1 d i = some a) (h7 : k a ≠ 7) : py_e k 400 i [] d true = some (a, d) ∧ oy_e k v 400 i [] true = ox_e k v 400 1 d i := by
  refine ⟨?_, ox_expr k v hv N hN hN2 h h7⟩
  obtain ⟨-, -, q⟩ := (px_expr k N hN hN2 hd hi).2 a h
  exact q.elim id (fun z => absurd z.1 h7)
theorem or_prog (k v : Nat → Nat) (hv : vk k v) (N : Nat) (hN : ∀ i, N ≤ i → k i = 0) (hN2 : N ≤ 72) : ∀ f,
    (∀ d i a D K, d ≤ 10 → i ≤ N → px_s k f 0 d i = some a → k a ≠ 7 → or_to k v N i D K d true a (D ++ ox_s k v f 0 d i D.length) K d false) ∧
    (∀ d i a D K, d ≤ 10 → i ≤ N → px_s k f 1 d i = some a → k a ≠ 7 → or_to k v N i D K d true a (D ++ ox_s k v f 1 d i D.length) K d false) := by
  have lt_of : ∀ i, k i ≠ 0 → i < N := fun i h => Nat.lt_of_not_le (fun q => h (hN i q))
  intro f
  induction f with
  | zero => exact ⟨fun _ _ _ _ _ _ _ h => (by cases h), fun _ _ _ _ _ _ _ h => (by cases h)⟩
  | succ f ih =>
    obtain ⟨i0, i1⟩ := ih
    refine ⟨?_, ?_⟩
    · intro d i a D K hd hi h h7
      rw [px_s] at h
      rw [ox_s0]
      by_cases h8 : k i = 8
      · rw [if_pos h8] at h ⊢
        by_cases h6 : k (i + 1) = 6
        · rw [if_pos h6] at h; cases h; exact or_8 h8
        · rw [if_neg h6] at h; cases h
      rw [if_neg h8] at h ⊢
      by_cases h9 : k i = 9
      · rw [if_pos h9] at h ⊢
        have hlt := lt_of i (by omega)
        obtain ⟨e1, e2⟩ := or_expr k v hv N hN hN2 hd (by omega) h h7
        have e := or_9 (v := v) (N := N) (D := D) (K := K) h9 e1
        rw [e2, List.append_assoc] at e
        exact e
      rw [if_neg h9] at h ⊢
      by_cases h10 : k i = 10
      · rw [if_pos h10] at h ⊢
        have hlt := lt_of i (by omega)
        obtain ⟨b, hb, h⟩ := ob_some h
        by_cases h15 : k b = 15
        · rw [if_pos h15] at h
          obtain ⟨b2, hb2, h⟩ := ob_some h
          by_cases h11 : k b2 = 11
          · rw [if_pos h11] at h; cases h
            have hdd : d + 1 ≤ 10 := Nat.le_of_not_lt (fun q => by rw [px_sdeep k q] at hb2; cases hb2)
            have hltb := lt_of b (by omega)
            have hltc := lt_of b2 (by omega)
            obtain ⟨e1, e2⟩ := or_expr k v hv N hN hN2 hd (by omega) hb (by omega)
            have e := or_b (v := v) (N := N) (D := D) (K := K) (Or.inl h10) e1
            rw [e2, h10] at e
            rw [hb, Option.getD_some]
            generalize ox_e k v 400 1 d (i + 1) = E at e ⊢
            have e3 := i1 (d + 1) (b + 1) b2 (D ++ E ++ [(11, D.length)]) ((10, D.length + E.length) :: K) hdd (by omega) hb2 (by omega)
            have q0 : (D ++ E ++ [((11 : Nat), D.length)]).length = D.length + E.length + 1 := by rw [List.length_append, List.length_append]; rfl
            rw [q0] at e3
            generalize ox_s k v f 1 (d + 1) (b + 1) (D.length + E.length + 1) = B at e3 ⊢
            have e4 := or_11 (k := k) (v := v) (N := N) (i := b2) (d := d) (D := D ++ E ++ [(11, D.length)] ++ B) (K := K) (t := D.length + E.length) hltc h11
            have e5 := (e.tr e3).tr e4
            have q1 : D ++ E ++ [(11, D.length)] ++ B = (D ++ E) ++ (11, D.length) :: B := by simp
            have q2 : D.length + E.length = (D ++ E).length := by simp
            have q3 : ((D ++ E ++ [(11, D.length)] ++ B).getD (D.length + E.length) (0, 0)).2 = D.length := by rw [q1, q2, opd_at]
            have q4 : opt (D ++ E ++ [(11, D.length)] ++ B ++ [(12, D.length)]) (D.length + E.length) ((D ++ E ++ [(11, D.length)] ++ B).length + 1) = D ++ oxl E B D.length := by
              rw [show D ++ E ++ [((11 : Nat), D.length)] ++ B ++ [((12 : Nat), D.length)] = (D ++ E) ++ ((11 : Nat), D.length) :: (B ++ [((12 : Nat), D.length)]) by simp, q2, opt_at, show (D ++ E ++ [((11 : Nat), D.length)] ++ B).length + 1 = D.length + E.length + B.length + 2 by simp only [List.length_append, List.length_cons, List.length_nil]; omega]
              unfold oxl
              simp
            rw [q3, q4] at e5
            exact e5
          · rw [if_neg h11] at h; cases h
        · rw [if_neg h15] at h; cases h
      rw [if_neg h10] at h ⊢
      by_cases h12 : k i = 12
      · rw [if_pos h12] at h ⊢
        have hlt := lt_of i (by omega)
        obtain ⟨b, hb, h⟩ := ob_some h
        by_cases h15 : k b = 15
        · rw [if_pos h15] at h
          obtain ⟨b2, hb2, h⟩ := ob_some h
          by_cases h14 : k b2 = 14
          · rw [if_pos h14] at h
            obtain ⟨b3, hb3, h⟩ := ob_some h
            by_cases h13 : k b3 = 13
            · rw [if_pos h13] at h; cases h
              have hdd : d + 1 ≤ 10 := Nat.le_of_not_lt (fun q => by rw [px_sdeep k q] at hb2; cases hb2)
              have hltb := lt_of b (by omega)
              have hltc := lt_of b2 (by omega)
              have hltd := lt_of b3 (by omega)
              obtain ⟨e1, e2⟩ := or_expr k v hv N hN hN2 hd (by omega) hb (by omega)
              have e := or_b (v := v) (N := N) (D := D) (K := K) (Or.inr h12) e1
              rw [e2, h12] at e
              rw [hb, Option.getD_some, hb2, Option.getD_some]
              generalize ox_e k v 400 1 d (i + 1) = E at e ⊢
              have e3 := i1 (d + 1) (b + 1) b2 (D ++ E ++ [(11, D.length)]) ((12, D.length + E.length) :: K) hdd (by omega) hb2 (by omega)
              have q0 : (D ++ E ++ [((11 : Nat), D.length)]).length = D.length + E.length + 1 := by rw [List.length_append, List.length_append]; rfl
              rw [q0] at e3
              generalize ox_s k v f 1 (d + 1) (b + 1) (D.length + E.length + 1) = B at e3 ⊢
              have e4 := or_14 (k := k) (v := v) (N := N) (i := b2) (d := d + 1) (D := D ++ E ++ [(11, D.length)] ++ B) (K := K) (t := D.length + E.length) hltc h14
              have q2 : D.length + E.length = (D ++ E).length := by simp
              have q4 : opt (D ++ E ++ [(11, D.length)] ++ B ++ [(12, 0)]) (D.length + E.length) ((D ++ E ++ [(11, D.length)] ++ B).length + 1) = (D ++ E ++ (11, D.length + E.length + B.length + 2) :: B) ++ [(12, 0)] := by
                rw [show D ++ E ++ [((11 : Nat), D.length)] ++ B ++ [((12 : Nat), (0 : Nat))] = (D ++ E) ++ ((11 : Nat), D.length) :: (B ++ [((12 : Nat), (0 : Nat))]) by simp, q2, opt_at, show (D ++ E ++ [((11 : Nat), D.length)] ++ B).length + 1 = D.length + E.length + B.length + 2 by simp only [List.length_append, List.length_cons, List.length_nil]; omega]
                simp
              have q5 : (D ++ E ++ [(11, D.length)] ++ B).length = (D ++ E ++ (11, D.length + E.length + B.length + 2) :: B).length := by simp
              rw [q4, q5] at e4
              have e6 := i1 (d + 1) (b2 + 1) b3 ((D ++ E ++ (11, D.length + E.length + B.length + 2) :: B) ++ [(12, 0)]) ((14, (D ++ E ++ (11, D.length + E.length + B.length + 2) :: B).length) :: K) hdd (by omega) hb3 (by omega)
              rw [show ((D ++ E ++ ((11 : Nat), D.length + E.length + B.length + 2) :: B) ++ [((12 : Nat), (0 : Nat))]).length = D.length + E.length + B.length + 2 by simp only [List.length_append, List.length_cons, List.length_nil]; omega] at e6
              generalize ox_s k v f 1 (d + 1) (b2 + 1) (D.length + E.length + B.length + 2) = C at e6 ⊢
              have e7 := or_13 (k := k) (v := v) (N := N) (i := b3) (d := d) (D := (D ++ E ++ (11, D.length + E.length + B.length + 2) :: B) ++ [(12, 0)] ++ C) (K := K) (t := (D ++ E ++ (11, D.length + E.length + B.length + 2) :: B).length) hltd h13
              have e8 := (((e.tr e3).tr e4).tr e6).tr e7
              have q6 : opt ((D ++ E ++ (11, D.length + E.length + B.length + 2) :: B) ++ [(12, 0)] ++ C) (D ++ E ++ (11, D.length + E.length + B.length + 2) :: B).length ((D ++ E ++ (11, D.length + E.length + B.length + 2) :: B) ++ [(12, 0)] ++ C).length = D ++ oxc E B C D.length := by
                rw [show (D ++ E ++ ((11 : Nat), D.length + E.length + B.length + 2) :: B) ++ [((12 : Nat), (0 : Nat))] ++ C = (D ++ E ++ ((11 : Nat), D.length + E.length + B.length + 2) :: B) ++ ((12 : Nat), (0 : Nat)) :: C by simp, opt_at, show ((D ++ E ++ ((11 : Nat), D.length + E.length + B.length + 2) :: B) ++ ((12 : Nat), (0 : Nat)) :: C).length = D.length + E.length + B.length + 2 + C.length by simp only [List.length_append, List.length_cons, List.length_nil]; omega]
                unfold oxc
                simp
              rw [q6] at e8
              exact e8
            · rw [if_neg h13] at h; cases h
          · rw [if_neg h14] at h; cases h
        · rw [if_neg h15] at h; cases h
      rw [if_neg h12] at h ⊢
      by_cases h6 : k i = 6 ∧ k (i + 1) = 17
      · rw [if_pos h6] at h
        have hlt := lt_of (i + 1) (by omega)
        obtain ⟨e1, e2⟩ := or_expr k v hv N hN hN2 hd (by omega) h h7
        have e := or_6 (v := v) (N := N) (D := D) (K := K) h6 e1
        rw [e2, List.append_assoc] at e
        exact e
      · rw [if_neg h6] at h; cases h
    · intro d i a D K hd hi h h7
      rw [px_s, if_neg (by omega)] at h
      obtain ⟨b, hb, h⟩ := ob_some h
      rw [ox_s1, hb, Option.getD_some]
      by_cases h16 : k b = 16
      · rw [if_pos h16] at h ⊢
        have hltb := lt_of b (by omega)
        have e := i0 d i b D K hd hi hb (by omega)
        have e2 := i1 d (b + 1) a (D ++ ox_s k v f 0 d i D.length) K hd (by omega) h h7
        rw [List.length_append, List.append_assoc] at e2
        exact (e.tr (or_16 hltb h16)).tr e2
      · rw [if_neg h16] at h ⊢
        cases h
        rw [List.append_nil]
        exact i0 d i a D K hd hi hb h7
theorem oy_rT (k v : Nat → Nat) (N f i : Nat) (D K : List (Nat × Nat)) (d : Nat) : oy_r k v N (f + 1) i D K d true = (if k i = 8 then oy_r k v N f (i + 2) (D ++ [(9, v (i + 1) - 97)]) K d false
    else if k i = 10 ∨ k i = 12 then (match py_e k 400 (i + 1) [] d true with
      | some (a, d') => oy_r k v N f (a + 1) (D ++ oy_e k v 400 (i + 1) [] true ++ [(11, D.length)]) ((k i, D.length + (oy_e k v 400 (i + 1) [] true).length) :: K) (d' + 1) true
      | none => D)
    else if k i = 9 then (match py_e k 400 (i + 1) [] d true with
      | some (a, d') => oy_r k v N f a (D ++ oy_e k v 400 (i + 1) [] true ++ [(10, 0)]) K d' false
      | none => D)
    else if k i = 6 ∧ k (i + 1) = 17 then (match py_e k 400 (i + 2) [] d true with
      | some (a, d') => oy_r k v N f a (D ++ oy_e k v 400 (i + 2) [] true ++ [(8, v i - 97)]) K d' false
      | none => D)
    else D) := by rw [oy_r]
theorem oy_rF (k v : Nat → Nat) (N f i : Nat) (D K : List (Nat × Nat)) (d : Nat) : oy_r k v N (f + 1) i D K d false = (if i < N then (if k i = 16 then oy_r k v N f (i + 1) D K d true else (match K with
      | [] => D
      | (x, t) :: K' => if k i = 11 ∧ x = 10 then oy_r k v N f (i + 1) (opt (D ++ [(12, (D.getD t (0, 0)).2)]) t (D.length + 1)) K' (d - 1) false
        else if k i = 14 ∧ x = 12 then oy_r k v N f (i + 1) (opt (D ++ [(12, 0)]) t (D.length + 1)) ((14, D.length) :: K') d true
        else if k i = 13 ∧ x = 14 then oy_r k v N f (i + 1) (opt D t D.length) K' (d - 1) false else D))
    else D) := by
  cases K with
  | nil => rw [oy_r]
  | cons x K => obtain ⟨x, t⟩ := x; rw [oy_r]
theorem or_stable (k v : Nat → Nat) (N : Nat) (hN : ∀ i, N ≤ i → k i = 0) : ∀ f i D K d b, 1 ≤ f → N < i + f → oy_r k v N (f + 1) i D K d b = oy_r k v N f i D K d b := by
  intro f
  induction f with
  | zero => intro i D K d b h; exact absurd h (by omega)
  | succ f ih =>
    intro i D K d b _ hf
    by_cases hi : N ≤ i
    · have h0 := hN i hi
      cases b
      · rw [oy_rF, oy_rF, if_neg (by omega), if_neg (by omega)]
      · rw [oy_rT, oy_rT]
        simp only [h0]
        simp
    · have e : ∀ i' D' K' d' b', i < i' → oy_r k v N (f + 1) i' D' K' d' b' = oy_r k v N f i' D' K' d' b' := fun i' D' K' d' b' h => ih i' D' K' d' b' (by omega) (by omega)
      cases b
      · rw [oy_rF, oy_rF, e (i + 1) D K d true (by omega)]
        cases K with
        | nil => rfl
        | cons x K =>
          obtain ⟨x, t⟩ := x
          simp only [e (i + 1) _ _ _ _ (Nat.lt_succ_self i)]
      · rw [oy_rT, oy_rT, e (i + 2) _ K d false (by omega)]
        cases h1 : py_e k 400 (i + 1) [] d true with
        | none =>
          cases h2 : py_e k 400 (i + 2) [] d true with
          | none => rfl
          | some r =>
            have := py_e_le k 400 _ _ _ _ _ _ h2
            simp only [e r.1 _ _ _ _ (by omega)]
        | some q =>
          have hq := py_e_le k 400 _ _ _ _ _ _ h1
          cases h2 : py_e k 400 (i + 2) [] d true with
          | none => simp only [e (q.1 + 1) _ _ _ _ (by omega), e q.1 _ _ _ _ (by omega)]
          | some r =>
            have := py_e_le k 400 _ _ _ _ _ _ h2
            simp only [e (q.1 + 1) _ _ _ _ (by omega), e q.1 _ _ _ _ (by omega), e r.1 _ _ _ _ (by omega)]
/-- a line that is a PROGRAM: both put down the same -/
theorem ox_fin (k v : Nat → Nat) (hv : vk k v) (N : Nat) (hN : ∀ i, N ≤ i → k i = 0) (hN2 : N ≤ 72) (h : px_s k 400 1 1 0 = some N) : oy_r k v N 400 0 [] [] 1 true = ox_s k v 400 1 1 0 0 := by
  have h7 : k N ≠ 7 := by rw [hN N (Nat.le_refl _)]; decide
  obtain ⟨M, hM⟩ := (or_prog k v hv N hN hN2 400).2 1 0 N [] [] (by decide) (Nat.zero_le _) h h7
  have st : ∀ n, oy_r k v N (400 + n) 0 [] [] 1 true = oy_r k v N 400 0 [] [] 1 true := by
    intro n
    induction n with
    | zero => rfl
    | succ n ih => rw [← Nat.add_assoc, or_stable k v N hN (400 + n) 0 [] [] 1 true (by omega) (by omega), ih]
  rw [← st (M + 1), show 400 + (M + 1) = 401 + M by omega, hM 401, oy_rF, if_neg (by omega), List.nil_append, List.length_nil]

