/-! ===== the reference's reader of PROGRAMs goes along with the class's ===== -/
def pr_to (k : Nat → Nat) (N i : Nat) (K : List Nat) (d : Nat) (b : Bool) (i' : Nat) (K' : List Nat) (d' : Nat) (b' : Bool) : Prop := ∃ M, ∀ f, py_r k N (f + M) i K d b = py_r k N f i' K' d' b'
def pr_no (k : Nat → Nat) (N i : Nat) (K : List Nat) (d : Nat) (b : Bool) : Prop := ∃ M, ∀ f, py_r k N (f + M) i K d b = false
theorem pr_to.tr {k : Nat → Nat} {N i i1 i2 d d1 d2 : Nat} {S S1 S2 : List Nat} {b b1 b2 : Bool} (h : pr_to k N i S d b i1 S1 d1 b1) (h2 : pr_to k N i1 S1 d1 b1 i2 S2 d2 b2) : pr_to k N i S d b i2 S2 d2 b2 := by
  obtain ⟨K, hK⟩ := h
  obtain ⟨K2, hK2⟩ := h2
  exact ⟨K2 + K, fun f => by rw [← Nat.add_assoc, hK, hK2]⟩
theorem pr_to.no {k : Nat → Nat} {N i i1 d d1 : Nat} {S S1 : List Nat} {b b1 : Bool} (h : pr_to k N i S d b i1 S1 d1 b1) (h2 : pr_no k N i1 S1 d1 b1) : pr_no k N i S d b := by
  obtain ⟨K, hK⟩ := h
  obtain ⟨K2, hK2⟩ := h2
  exact ⟨K2 + K, fun f => by rw [← Nat.add_assoc, hK, hK2]⟩
section pr
variable {k : Nat → Nat} {N i a d : Nat} {K : List Nat}
theorem pr_8 (h : k i = 8) (h6 : k (i + 1) = 6) : pr_to k N i K d true (i + 2) K d false := ⟨1, fun f => by
  show py_r k N (f + 1) i K d true = _
  rw [py_r, if_pos h, if_pos h6]⟩
theorem pr_8n (h : k i = 8) (h6 : k (i + 1) ≠ 6) : pr_no k N i K d true := ⟨1, fun f => by
  show py_r k N (f + 1) i K d true = _
  rw [py_r, if_pos h, if_neg h6]⟩
theorem pr_b (h : k i = 10 ∨ k i = 12) (he : py_e k 400 (i + 1) [] d true = some (a, d)) (h15 : k a = 15) (hd : d + 1 ≤ 10) : pr_to k N i K d true (a + 1) (k i :: K) (d + 1) true := ⟨1, fun f => by
  show py_r k N (f + 1) i K d true = _
  rw [py_r, if_neg (by omega), if_pos h, he]
  simp only [h15, hd, if_true]⟩
theorem pr_bn0 (h : k i = 10 ∨ k i = 12) (he : py_e k 400 (i + 1) [] d true = none) : pr_no k N i K d true := ⟨1, fun f => by
  show py_r k N (f + 1) i K d true = _
  rw [py_r, if_neg (by omega), if_pos h, he]⟩
theorem pr_bn1 (h : k i = 10 ∨ k i = 12) (he : py_e k 400 (i + 1) [] d true = some (a, d)) (h15 : k a ≠ 15 ∨ 10 < d + 1) : pr_no k N i K d true := ⟨1, fun f => by
  show py_r k N (f + 1) i K d true = _
  rw [py_r, if_neg (by omega), if_pos h, he]
  rcases h15 with h15 | h15
  · simp only [h15, if_false]
  · simp only [show ¬ d + 1 ≤ 10 by omega, if_false]
    split <;> rfl⟩
theorem pr_9 (h : k i = 9) (he : py_e k 400 (i + 1) [] d true = some (a, d)) : pr_to k N i K d true a K d false := ⟨1, fun f => by
  show py_r k N (f + 1) i K d true = _
  rw [py_r, if_neg (by omega), if_neg (by omega), if_pos h, he]⟩
theorem pr_9n (h : k i = 9) (he : py_e k 400 (i + 1) [] d true = none) : pr_no k N i K d true := ⟨1, fun f => by
  show py_r k N (f + 1) i K d true = _
  rw [py_r, if_neg (by omega), if_neg (by omega), if_pos h, he]⟩
theorem pr_6 (h : k i = 6 ∧ k (i + 1) = 17) (he : py_e k 400 (i + 2) [] d true = some (a, d)) : pr_to k N i K d true a K d false := ⟨1, fun f => by
  show py_r k N (f + 1) i K d true = _
  rw [py_r, if_neg (by omega), if_neg (by omega), if_neg (by omega), if_pos h, he]⟩
theorem pr_6n (h : k i = 6 ∧ k (i + 1) = 17) (he : py_e k 400 (i + 2) [] d true = none) : pr_no k N i K d true := ⟨1, fun f => by
  show py_r k N (f + 1) i K d true = _
  rw [py_r, if_neg (by omega), if_neg (by omega), if_neg (by omega), if_pos h, he]⟩
theorem pr_n (h8 : k i ≠ 8) (h10 : k i ≠ 10) (h12 : k i ≠ 12) (h9 : k i ≠ 9) (h : ¬ (k i = 6 ∧ k (i + 1) = 17)) : pr_no k N i K d true := ⟨1, fun f => by
  show py_r k N (f + 1) i K d true = _
  rw [py_r, if_neg h8, if_neg (by omega), if_neg h9, if_neg h]⟩
theorem pr_16 (hi : i < N) (h : k i = 16) : pr_to k N i K d false (i + 1) K d true := ⟨1, fun f => by
  show py_r k N (f + 1) i K d false = _
  cases K <;> rw [py_r, if_pos hi, if_pos h]⟩
theorem pr_11 (hi : i < N) (h : k i = 11) : pr_to k N i (10 :: K) (d + 1) false (i + 1) K d false := ⟨1, fun f => by
  show py_r k N (f + 1) i (10 :: K) (d + 1) false = _
  rw [py_r, if_pos hi, if_neg (by omega)]
  simp [h]⟩
theorem pr_14 (hi : i < N) (h : k i = 14) : pr_to k N i (12 :: K) d false (i + 1) (14 :: K) d true := ⟨1, fun f => by
  show py_r k N (f + 1) i (12 :: K) d false = _
  rw [py_r, if_pos hi, if_neg (by omega)]
  simp [h]⟩
theorem pr_13 (hi : i < N) (h : k i = 13) : pr_to k N i (14 :: K) (d + 1) false (i + 1) K d false := ⟨1, fun f => by
  show py_r k N (f + 1) i (14 :: K) (d + 1) false = _
  rw [py_r, if_pos hi, if_neg (by omega)]
  simp [h]⟩
theorem pr_xn {x : Nat} (h16 : k i ≠ 16) (h1 : ¬ (k i = 11 ∧ x = 10)) (h2 : ¬ (k i = 14 ∧ x = 12)) (h3 : ¬ (k i = 13 ∧ x = 14)) : pr_no k N i (x :: K) d false := ⟨1, fun f => by
  show py_r k N (f + 1) i (x :: K) d false = _
  rw [py_r]
  by_cases hi : i < N
  · rw [if_pos hi, if_neg h16]
    simp only [h1, h2, h3, if_false]
  · rw [if_neg hi]
    simp⟩
end pr
theorem px_sdeep (k : Nat → Nat) {d : Nat} (h : 10 < d) (f i : Nat) : px_s k f 1 d i = none := by
  cases f with
  | zero => rfl
  | succ f => exact if_pos h
theorem px_prog (k : Nat → Nat) (N : Nat) (hN : ∀ i, N ≤ i → k i = 0) (hN2 : N ≤ 72) : ∀ f,
    (∀ d i K, d ≤ 10 → i ≤ N → 2 * (N - i) + 1 ≤ f → sx_ok k N (i + 1) (px_s k f 0 d i) (pr_no k N i K d true) (fun a => pr_to k N i K d true a K d false)) ∧
    (∀ d i K, d ≤ 10 → i ≤ N → 2 * (N - i) + 2 ≤ f → sx_ok k N (i + 1) (px_s k f 1 d i) (pr_no k N i K d true) (fun a => k a ≠ 16 ∧ pr_to k N i K d true a K d false)) := by
  have lt_of : ∀ i, k i ≠ 0 → i < N := fun i h => Nat.lt_of_not_le (fun q => h (hN i q))
  intro f
  induction f with
  | zero => exact ⟨fun _ _ _ _ _ h => absurd h (by omega), fun _ _ _ _ _ h => absurd h (by omega)⟩
  | succ f ih =>
    obtain ⟨i0, i1⟩ := ih
    refine ⟨?_, ?_⟩
    · intro d i K hd hi hf
      rw [px_s]
      by_cases h8 : k i = 8
      · rw [if_pos h8]
        by_cases h6 : k (i + 1) = 6
        · rw [if_pos h6]
          have := lt_of (i + 1) (by omega)
          exact sx_some ⟨by omega, by omega, Or.inl (pr_8 h8 h6)⟩
        · rw [if_neg h6]; exact sx_none (pr_8n h8 h6)
      · rw [if_neg h8]
        by_cases h9 : k i = 9
        · rw [if_pos h9]
          have hlt := lt_of i (by omega)
          have he := px_expr k N hN hN2 (d := d) (i := i + 1) hd (by omega)
          refine ⟨fun q => pr_9n h9 (he.1 q), fun a q => ?_⟩
          obtain ⟨q1, q2, q3⟩ := he.2 a q
          exact ⟨by omega, q2, q3.elim (fun z => Or.inl (pr_9 h9 z)) (fun z => Or.inr ⟨z.1, pr_9n h9 z.2⟩)⟩
        · rw [if_neg h9]
          by_cases h10 : k i = 10
          · rw [if_pos h10]
            have hlt := lt_of i (by omega)
            have he := px_expr k N hN hN2 (d := d) (i := i + 1) hd (by omega)
            cases hr : px_e k 400 1 d (i + 1) with
            | none => exact sx_none (pr_bn0 (Or.inl h10) (he.1 hr))
            | some a =>
              obtain ⟨q1, q2, q3⟩ := he.2 a hr
              show sx_ok k N (i + 1) (if k a = 15 then (px_s k f 1 (d + 1) (a + 1)).bind (fun b => if k b = 11 then some (b + 1) else none) else none) _ _
              rcases q3 with q3 | ⟨q3, q4⟩
              · by_cases h15 : k a = 15
                · rw [if_pos h15]
                  have hlta := lt_of a (by omega)
                  by_cases hdd : 10 < d + 1
                  · rw [px_sdeep k hdd]; exact sx_none (pr_bn1 (Or.inl h10) q3 (Or.inr hdd))
                  · have h1 := pr_b (N := N) (K := K) (Or.inl h10) q3 h15 (by omega)
                    rw [h10] at h1
                    have h3 := i1 (d + 1) (a + 1) (10 :: K) (by omega) (by omega) (by omega)
                    cases hr2 : px_s k f 1 (d + 1) (a + 1) with
                    | none => exact sx_none (h1.no (h3.1 hr2))
                    | some b =>
                      obtain ⟨w1, w2, w3⟩ := h3.2 b hr2
                      show sx_ok k N (i + 1) (if k b = 11 then some (b + 1) else none) _ _
                      by_cases h11 : k b = 11
                      · rw [if_pos h11]
                        have hltb := lt_of b (by omega)
                        rcases w3 with ⟨-, w3⟩ | ⟨w3, -⟩
                        · exact sx_some ⟨by omega, by omega, Or.inl ((h1.tr w3).tr (pr_11 hltb h11))⟩
                        · omega
                      · rw [if_neg h11]
                        refine sx_none ?_
                        rcases w3 with ⟨w4, w3⟩ | ⟨-, w3⟩
                        · exact (h1.tr w3).no (pr_xn w4 (by omega) (by omega) (by omega))
                        · exact h1.no w3
                · rw [if_neg h15]; exact sx_none (pr_bn1 (Or.inl h10) q3 (Or.inl h15))
              · rw [if_neg (by omega)]; exact sx_none (pr_bn0 (Or.inl h10) q4)
          · rw [if_neg h10]
            by_cases h12 : k i = 12
            · rw [if_pos h12]
              have hlt := lt_of i (by omega)
              have he := px_expr k N hN hN2 (d := d) (i := i + 1) hd (by omega)
              cases hr : px_e k 400 1 d (i + 1) with
              | none => exact sx_none (pr_bn0 (Or.inr h12) (he.1 hr))
              | some a =>
                obtain ⟨q1, q2, q3⟩ := he.2 a hr
                show sx_ok k N (i + 1) (if k a = 15 then (px_s k f 1 (d + 1) (a + 1)).bind (fun b => if k b = 14 then (px_s k f 1 (d + 1) (b + 1)).bind (fun g => if k g = 13 then some (g + 1) else none) else none) else none) _ _
                rcases q3 with q3 | ⟨q3, q4⟩
                · by_cases h15 : k a = 15
                  · rw [if_pos h15]
                    have hlta := lt_of a (by omega)
                    by_cases hdd : 10 < d + 1
                    · rw [px_sdeep k hdd]; exact sx_none (pr_bn1 (Or.inr h12) q3 (Or.inr hdd))
                    · have h1 := pr_b (N := N) (K := K) (Or.inr h12) q3 h15 (by omega)
                      rw [h12] at h1
                      have h3 := i1 (d + 1) (a + 1) (12 :: K) (by omega) (by omega) (by omega)
                      cases hr2 : px_s k f 1 (d + 1) (a + 1) with
                      | none => exact sx_none (h1.no (h3.1 hr2))
                      | some b =>
                        obtain ⟨w1, w2, w3⟩ := h3.2 b hr2
                        show sx_ok k N (i + 1) (if k b = 14 then (px_s k f 1 (d + 1) (b + 1)).bind (fun g => if k g = 13 then some (g + 1) else none) else none) _ _
                        by_cases h14 : k b = 14
                        · rw [if_pos h14]
                          have hltb := lt_of b (by omega)
                          rcases w3 with ⟨-, w3⟩ | ⟨w3, -⟩
                          · have h4 := (h1.tr w3).tr (pr_14 hltb h14)
                            have h5 := i1 (d + 1) (b + 1) (14 :: K) (by omega) (by omega) (by omega)
                            cases hr3 : px_s k f 1 (d + 1) (b + 1) with
                            | none => exact sx_none (h4.no (h5.1 hr3))
                            | some g =>
                              obtain ⟨v1, v2, v3⟩ := h5.2 g hr3
                              show sx_ok k N (i + 1) (if k g = 13 then some (g + 1) else none) _ _
                              by_cases h13 : k g = 13
                              · rw [if_pos h13]
                                have hltg := lt_of g (by omega)
                                rcases v3 with ⟨-, v3⟩ | ⟨v3, -⟩
                                · exact sx_some ⟨by omega, by omega, Or.inl ((h4.tr v3).tr (pr_13 hltg h13))⟩
                                · omega
                              · rw [if_neg h13]
                                refine sx_none ?_
                                rcases v3 with ⟨v4, v3⟩ | ⟨-, v3⟩
                                · exact (h4.tr v3).no (pr_xn v4 (by omega) (by omega) (by omega))
                                · exact h4.no v3
                          · omega
                        · rw [if_neg h14]
                          refine sx_none ?_
                          rcases w3 with ⟨w4, w3⟩ | ⟨-, w3⟩
                          · exact (h1.tr w3).no (pr_xn w4 (by omega) (by omega) (by omega))
                          · exact h1.no w3
                  · rw [if_neg h15]; exact sx_none (pr_bn1 (Or.inr h12) q3 (Or.inl h15))
                · rw [if_neg (by omega)]; exact sx_none (pr_bn0 (Or.inr h12) q4)
            · rw [if_neg h12]
              by_cases h6 : k i = 6 ∧ k (i + 1) = 17
              · rw [if_pos h6]
                have hlt := lt_of (i + 1) (by omega)
                have he := px_expr k N hN hN2 (d := d) (i := i + 2) hd (by omega)
                refine ⟨fun q => pr_6n h6 (he.1 q), fun a q => ?_⟩
                obtain ⟨q1, q2, q3⟩ := he.2 a q
                exact ⟨by omega, q2, q3.elim (fun z => Or.inl (pr_6 h6 z)) (fun z => Or.inr ⟨z.1, pr_6n h6 z.2⟩)⟩
              · rw [if_neg h6]; exact sx_none (pr_n h8 h10 h12 h9 h6)
    · intro d i K hd hi hf
      rw [px_s, if_neg (by omega)]
      have h1 := i0 d i K hd hi (by omega)
      cases hr : px_s k f 0 d i with
      | none => exact sx_none (h1.1 hr)
      | some a =>
        obtain ⟨q1, q2, q3⟩ := h1.2 a hr
        show sx_ok k N (i + 1) (if k a = 16 then px_s k f 1 d (a + 1) else some a) _ _
        rcases q3 with q3 | ⟨q3, q4⟩
        · by_cases h16 : k a = 16
          · rw [if_pos h16]
            have hlt := lt_of a (by omega)
            have h2 := q3.tr (pr_16 hlt h16)
            have h3 := i1 d (a + 1) K hd (by omega) (by omega)
            refine ⟨fun q => h2.no (h3.1 q), fun a2 q => ?_⟩
            obtain ⟨w1, w2, w3⟩ := h3.2 a2 q
            exact ⟨by omega, w2, w3.elim (fun z => Or.inl ⟨z.1, h2.tr z.2⟩) (fun z => Or.inr ⟨z.1, h2.no z.2⟩)⟩
          · rw [if_neg h16]; exact sx_some ⟨q1, q2, Or.inl ⟨h16, q3⟩⟩
        · rw [if_neg (by omega)]; exact sx_some ⟨q1, q2, Or.inr ⟨q3, q4⟩⟩

