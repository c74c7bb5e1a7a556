/-! ===== the reference's reader of EXPRs goes along with the class's ===== -/
def py_to (k : Nat → Nat) (i : Nat) (S : List Nat) (d : Nat) (b : Bool) (i' : Nat) (S' : List Nat) (d' : Nat) (b' : Bool) : Prop := ∃ K, ∀ f, py_e k (f + K) i S d b = py_e k f i' S' d' b'
def py_no (k : Nat → Nat) (i : Nat) (S : List Nat) (d : Nat) (b : Bool) : Prop := ∃ K, ∀ f, py_e k (f + K) i S d b = none
theorem py_to.rf {k : Nat → Nat} {i : Nat} {S : List Nat} {d : Nat} {b : Bool} : py_to k i S d b i S d b := ⟨0, fun _ => rfl⟩
theorem py_to.tr {k : Nat → Nat} {i i1 i2 d d1 d2 : Nat} {S S1 S2 : List Nat} {b b1 b2 : Bool} (h : py_to k i S d b i1 S1 d1 b1) (h2 : py_to k i1 S1 d1 b1 i2 S2 d2 b2) : py_to k i S d b i2 S2 d2 b2 := by
  obtain ⟨K, hK⟩ := h
  obtain ⟨K2, hK2⟩ := h2
  exact ⟨K2 + K, fun f => by rw [← Nat.add_assoc, hK, hK2]⟩
theorem py_to.no {k : Nat → Nat} {i i1 d d1 : Nat} {S S1 : List Nat} {b b1 : Bool} (h : py_to k i S d b i1 S1 d1 b1) (h2 : py_no k i1 S1 d1 b1) : py_no k i S d b := by
  obtain ⟨K, hK⟩ := h
  obtain ⟨K2, hK2⟩ := h2
  exact ⟨K2 + K, fun f => by rw [← Nat.add_assoc, hK, hK2]⟩
theorem py_rel_1 (b : Nat) (hb : b = 1 ∨ b = 2) : ∀ S, py_rel 1 (py_rel b S) = py_rel 1 S := by
  intro S
  induction S with
  | nil => rfl
  | cons x S ih =>
    by_cases h : x ≠ 4 ∧ b ≤ (if x = 3 then 2 else 1)
    · have h1 : x ≠ 4 ∧ 1 ≤ (if x = 3 then 2 else 1) := ⟨h.1, by split <;> omega⟩
      rw [show py_rel b (x :: S) = py_rel b S from if_pos h, show py_rel 1 (x :: S) = py_rel 1 S from if_pos h1, ih]
    · rw [show py_rel b (x :: S) = x :: S from if_neg h]
theorem py_rel_t (x : Nat) (hx : x = 1 ∨ x = 3) (S : List Nat) : py_rel 1 (x :: S) = py_rel 1 S := if_pos ⟨by omega, by split <;> omega⟩
theorem py_rel_b (S : List Nat) : py_rel 1 (4 :: S) = 4 :: S := if_neg (fun h => h.1 rfl)
theorem py_neg_s (S0 : List Nat) (h : S0.head? ≠ some 8) (d : Nat) : py_neg S0 d = (S0, d) := by
  cases S0 with
  | nil => rfl
  | cons x S =>
    have hx : x ≠ 8 := fun q => h (by rw [q]; rfl)
    unfold py_neg
    split <;> first | rfl | (rename_i heq; exact absurd (List.cons.inj heq).1 hx)
theorem py_neg_r (S0 : List Nat) (h : S0.head? ≠ some 8) : ∀ j d0, py_neg (List.replicate j 8 ++ S0) (d0 + j) = (S0, d0) := by
  intro j
  induction j with
  | zero => intro d0; exact py_neg_s S0 h d0
  | succ j ih =>
    intro d0
    show py_neg (8 :: (List.replicate j 8 ++ S0)) (d0 + (j + 1)) = _
    have : py_neg (8 :: (List.replicate j 8 ++ S0)) (d0 + (j + 1)) = py_neg (List.replicate j 8 ++ S0) (d0 + (j + 1) - 1) := rfl
    rw [this]
    exact ih d0
theorem px_deep (k : Nat → Nat) {d : Nat} (h : 10 < d) : ∀ f i, px_e k f 0 d i = none := by
  intro f i
  cases f with
  | zero => rfl
  | succ f => exact if_pos h
theorem px_deep2 (k : Nat → Nat) {d : Nat} (h : 10 < d) (f i : Nat) : px_e k f 2 d i = none := by
  cases f with
  | zero => rfl
  | succ f =>
    show (px_e k f 0 d i).bind _ = none
    rw [px_deep k h]; rfl
theorem px_deep1 (k : Nat → Nat) {d : Nat} (h : 10 < d) (f i : Nat) : px_e k f 1 d i = none := by
  cases f with
  | zero => rfl
  | succ f =>
    show (px_e k f 2 d i).bind _ = none
    rw [px_deep2 k h]; rfl
/-- 'no': the reference fails from the start; 'go a': it comes to the place a too; or a digit too many stands there, and it fails -/
def sx_ok (k : Nat → Nat) (N lo : Nat) (r : Option Nat) (no : Prop) (go : Nat → Prop) : Prop := (r = none → no) ∧ ∀ a, r = some a → lo ≤ a ∧ a ≤ N ∧ (go a ∨ (k a = 7 ∧ no))
theorem sx_none {k : Nat → Nat} {N lo : Nat} {no : Prop} {go : Nat → Prop} (h : no) : sx_ok k N lo none no go := ⟨fun _ => h, fun _ q => by cases q⟩
theorem sx_some {k : Nat → Nat} {N lo a : Nat} {no : Prop} {go : Nat → Prop} (h : lo ≤ a ∧ a ≤ N ∧ (go a ∨ (k a = 7 ∧ no))) : sx_ok k N lo (some a) no go := ⟨fun q => (by cases q), fun _ q => (by cases q; exact h)⟩
theorem px_4at (k : Nat → Nat) {f d i : Nat} (h : k i ≠ 3) : px_e k (f + 1) 4 d i = some i := if_neg h
theorem px_3at (k : Nat → Nat) {f d i : Nat} (h1 : k i ≠ 1) (h2 : k i ≠ 2) : px_e k (f + 1) 3 d i = some i := if_neg (fun q => q.elim h1 h2)
/-- one step of the reference, where a factor is due -/
theorem py_f1 (k : Nat → Nat) {i : Nat} {S : List Nat} {d : Nat} (h : k i = 2 ∨ k i = 4) (hd : ¬ 10 < d + 1) : py_to k i S d true (i + 1) ((if k i = 2 then 8 else 4) :: S) (d + 1) true := ⟨1, fun f => by
  show py_e k (f + 1) i S d true = _
  rw [py_e, if_pos h, if_neg hd]⟩
theorem py_f0 (k : Nat → Nat) {i : Nat} {S : List Nat} {d : Nat} (h : k i = 2 ∨ k i = 4) (hd : 10 < d + 1) : py_no k i S d true := ⟨1, fun f => by
  show py_e k (f + 1) i S d true = _
  rw [py_e, if_pos h, if_pos hd]⟩
theorem py_f6 (k : Nat → Nat) {i : Nat} {S : List Nat} {d : Nat} (h : k i = 6) : py_to k i S d true (i + 1) (py_neg S d).1 (py_neg S d).2 false := ⟨1, fun f => by
  show py_e k (f + 1) i S d true = _
  rw [py_e, if_neg (by omega), if_pos h]⟩
theorem py_f7 (k : Nat → Nat) {i : Nat} {S : List Nat} {d : Nat} (h : k i = 7) (hn : px_dg k 10 i ≠ 10) : py_to k i S d true (i + px_dg k 10 i) (py_neg S d).1 (py_neg S d).2 false := ⟨1, fun f => by
  show py_e k (f + 1) i S d true = _
  rw [py_e, if_neg (by omega), if_neg (by omega), if_pos h, if_neg hn]⟩
theorem py_f7n (k : Nat → Nat) {i : Nat} {S : List Nat} {d : Nat} (h : k i = 7) (hn : px_dg k 10 i = 10) : py_no k i S d true := ⟨1, fun f => by
  show py_e k (f + 1) i S d true = _
  rw [py_e, if_neg (by omega), if_neg (by omega), if_pos h, if_pos hn]⟩
theorem py_fn (k : Nat → Nat) {i : Nat} {S : List Nat} {d : Nat} (h2 : k i ≠ 2) (h4 : k i ≠ 4) (h6 : k i ≠ 6) (h7 : k i ≠ 7) : py_no k i S d true := ⟨1, fun f => by
  show py_e k (f + 1) i S d true = _
  rw [py_e, if_neg (by omega), if_neg h6, if_neg h7]⟩
theorem py_o1 (k : Nat → Nat) {i : Nat} {S : List Nat} {d : Nat} (h : k i = 1 ∨ k i = 2) : py_to k i S d false (i + 1) (1 :: py_rel 1 S) d true := ⟨1, fun f => by
  show py_e k (f + 1) i S d false = _
  rw [py_e, if_pos h]⟩
theorem py_o3 (k : Nat → Nat) {i : Nat} {S : List Nat} {d : Nat} (h : k i = 3) : py_to k i S d false (i + 1) (3 :: py_rel 2 S) d true := ⟨1, fun f => by
  show py_e k (f + 1) i S d false = _
  rw [py_e, if_neg (by omega), if_pos h]⟩
theorem py_o5 (k : Nat → Nat) {i : Nat} {S : List Nat} {d : Nat} (h : k i = 5) (hS : py_rel 1 S ≠ []) : py_to k i S d false (i + 1) (py_neg (py_rel 1 S).tail (d - 1)).1 (py_neg (py_rel 1 S).tail (d - 1)).2 false := ⟨1, fun f => by
  show py_e k (f + 1) i S d false = _
  rw [py_e, if_neg (by omega), if_neg (by omega), if_pos ⟨h, hS⟩]⟩
theorem py_on (k : Nat → Nat) {i : Nat} {S : List Nat} {d : Nat} (h1 : k i ≠ 1) (h2 : k i ≠ 2) (h3 : k i ≠ 3) (h5 : k i ≠ 5) (hS : py_rel 1 S ≠ []) : py_no k i S d false := ⟨1, fun f => by
  show py_e k (f + 1) i S d false = _
  rw [py_e, if_neg (by omega), if_neg h3, if_neg (fun q => h5 q.1), if_neg hS]⟩
/-- what is said of the five tags together -/
theorem px_sim (k : Nat → Nat) (N : Nat) (hN : ∀ i, N ≤ i → k i = 0) : ∀ f,
    (∀ d i, d ≤ 10 → i ≤ N → 5 * (N - i) + 1 ≤ f → ∀ j d0 S0, d = d0 + j → S0.head? ≠ some 8 → sx_ok k N (i + 1) (px_e k f 0 d i) (py_no k i (List.replicate j 8 ++ S0) d true) (fun a => py_to k i (List.replicate j 8 ++ S0) d true a S0 d0 false)) ∧
    (∀ d i, d ≤ 10 → i ≤ N → 5 * (N - i) + 3 ≤ f → ∀ S, S.head? ≠ some 8 → sx_ok k N (i + 1) (px_e k f 1 d i) (py_no k i S d true) (fun a => k a ≠ 1 ∧ k a ≠ 2 ∧ k a ≠ 3 ∧ ∃ S', py_rel 1 S' = py_rel 1 S ∧ py_to k i S d true a S' d false)) ∧
    (∀ d i, d ≤ 10 → i ≤ N → 5 * (N - i) + 2 ≤ f → ∀ S, S.head? ≠ some 8 → sx_ok k N (i + 1) (px_e k f 2 d i) (py_no k i S d true) (fun a => k a ≠ 3 ∧ ∃ S', py_rel 1 S' = py_rel 1 S ∧ py_to k i S d true a S' d false)) ∧
    (∀ d i, d ≤ 10 → i ≤ N → 5 * (N - i) + 1 ≤ f → ∀ S, k i ≠ 3 → sx_ok k N i (px_e k f 3 d i) (py_no k i S d false) (fun a => k a ≠ 1 ∧ k a ≠ 2 ∧ k a ≠ 3 ∧ ∃ S', py_rel 1 S' = py_rel 1 S ∧ py_to k i S d false a S' d false)) ∧
    (∀ d i, d ≤ 10 → i ≤ N → 5 * (N - i) + 1 ≤ f → ∀ S, sx_ok k N i (px_e k f 4 d i) (py_no k i S d false) (fun a => k a ≠ 3 ∧ ∃ S', py_rel 1 S' = py_rel 1 S ∧ py_to k i S d false a S' d false)) := by
  have lt_of : ∀ i, k i ≠ 0 → i < N := fun i h => Nat.lt_of_not_le (fun q => h (hN i q))
  intro f
  induction f with
  | zero => exact ⟨fun _ _ _ _ h => absurd h (by omega), fun _ _ _ _ h => absurd h (by omega), fun _ _ _ _ h => absurd h (by omega), fun _ _ _ _ h => absurd h (by omega), fun _ _ _ _ h => absurd h (by omega)⟩
  | succ f ih =>
    obtain ⟨i0, i1, i2, i3, i4⟩ := ih
    refine ⟨?_, ?_, ?_, ?_, ?_⟩
    · intro d i hd hi hf j d0 S0 hj hS0
      rw [px_e, if_neg (by omega)]
      by_cases h2 : k i = 2
      · rw [if_pos h2]
        have hlt := lt_of i (by omega)
        by_cases hdd : 10 < d + 1
        · rw [px_deep k hdd]; exact sx_none (py_f0 k (Or.inl h2) hdd)
        · have h1 := py_f1 k (S := List.replicate j 8 ++ S0) (Or.inl h2) hdd
          rw [if_pos h2] at h1
          have h3 := i0 (d + 1) (i + 1) (by omega) (by omega) (by omega) (j + 1) d0 S0 (by omega) hS0
          refine ⟨fun q => h1.no (h3.1 q), fun a q => ?_⟩
          obtain ⟨q1, q2, q3⟩ := h3.2 a q
          exact ⟨by omega, q2, q3.elim (fun z => Or.inl (h1.tr z)) (fun z => Or.inr ⟨z.1, h1.no z.2⟩)⟩
      · rw [if_neg h2]
        by_cases h4 : k i = 4
        · rw [if_pos h4]
          have hlt := lt_of i (by omega)
          by_cases hdd : 10 < d + 1
          · rw [px_deep1 k hdd]; exact sx_none (py_f0 k (Or.inr h4) hdd)
          · have h1 := py_f1 k (S := List.replicate j 8 ++ S0) (Or.inr h4) hdd
            rw [if_neg h2] at h1
            have h3 := i1 (d + 1) (i + 1) (by omega) (by omega) (by omega) (4 :: (List.replicate j 8 ++ S0)) (by simp)
            cases hr : px_e k f 1 (d + 1) (i + 1) with
            | none => exact sx_none (h1.no (h3.1 hr))
            | some a =>
              obtain ⟨q1, q2, q3⟩ := h3.2 a hr
              show sx_ok k N (i + 1) (if k a = 5 then some (a + 1) else none) _ _
              by_cases h5 : k a = 5
              · rw [if_pos h5]
                rcases q3 with ⟨-, -, -, S', e1, e2⟩ | ⟨q3, -⟩
                · rw [py_rel_b] at e1
                  have h6 := py_o5 k (i := a) (S := S') (d := d + 1) h5 (by rw [e1]; simp)
                  rw [e1] at h6
                  have e3 : py_neg (4 :: (List.replicate j 8 ++ S0)).tail (d + 1 - 1) = (S0, d0) := by
                    show py_neg (List.replicate j 8 ++ S0) (d + 1 - 1) = _
                    rw [show d + 1 - 1 = d0 + j by omega]; exact py_neg_r S0 hS0 j d0
                  rw [e3] at h6
                  have hlt2 := lt_of a (by omega)
                  exact sx_some ⟨by omega, by omega, Or.inl ((h1.tr e2).tr h6)⟩
                · omega
              · rw [if_neg h5]
                refine sx_none ?_
                rcases q3 with ⟨z1, z2, z3, S', e1, e2⟩ | ⟨-, q3⟩
                · rw [py_rel_b] at e1
                  exact (h1.tr e2).no (py_on k z1 z2 z3 h5 (by rw [e1]; simp))
                · exact h1.no q3
        · rw [if_neg h4]
          by_cases h6 : k i = 6
          · rw [if_pos h6]
            have hlt := lt_of i (by omega)
            have h1 := py_f6 k (S := List.replicate j 8 ++ S0) (d := d) h6
            rw [show py_neg (List.replicate j 8 ++ S0) d = (S0, d0) by rw [hj]; exact py_neg_r S0 hS0 j d0] at h1
            exact sx_some ⟨by omega, by omega, Or.inl h1⟩
          · rw [if_neg h6]
            by_cases h7 : k i = 7
            · have h0 : px_dg k 9 i ≠ 0 := by
                rw [show px_dg k 9 i = px_dg k 8 (i + 1) + 1 from if_pos h7]; omega
              rw [if_neg h0]
              have hle := px_dg_le k 9 i
              have hlt := lt_of (i + (px_dg k 9 i - 1)) (by rw [px_dg_in k 9 i _ (by omega)]; omega)
              have hs : px_dg k 10 i = if px_dg k 9 i = 9 ∧ k (i + 9) = 7 then 9 + 1 else px_dg k 9 i := px_dg_succ k 9 i
              by_cases hb : px_dg k 9 i = 9 ∧ k (i + 9) = 7
              · rw [if_pos hb] at hs
                exact sx_some ⟨by omega, by omega, Or.inr ⟨by rw [hb.1]; exact hb.2, py_f7n k h7 hs⟩⟩
              · rw [if_neg hb] at hs
                have h1 := py_f7 k (S := List.replicate j 8 ++ S0) (d := d) h7 (by omega)
                rw [hs, show py_neg (List.replicate j 8 ++ S0) d = (S0, d0) by rw [hj]; exact py_neg_r S0 hS0 j d0] at h1
                exact sx_some ⟨by omega, by omega, Or.inl h1⟩
            · have h0 : px_dg k 9 i = 0 := if_neg h7
              rw [if_pos h0]
              exact sx_none (py_fn k h2 h4 h6 h7)
    · intro d i hd hi hf S hS
      have h3 := i2 d i hd hi (by omega) S hS
      show sx_ok k N (i + 1) ((px_e k f 2 d i).bind (fun a => px_e k f 3 d a)) _ _
      cases hr : px_e k f 2 d i with
      | none => exact sx_none (h3.1 hr)
      | some a =>
        obtain ⟨q1, q2, q3⟩ := h3.2 a hr
        show sx_ok k N (i + 1) (px_e k f 3 d a) _ _
        rcases q3 with ⟨z3, S', e1, e2⟩ | ⟨q3, q4⟩
        · have h5 := i3 d a hd q2 (by omega) S' z3
          refine ⟨fun q => e2.no (h5.1 q), fun a2 q => ?_⟩
          obtain ⟨w1, w2, w3⟩ := h5.2 a2 q
          refine ⟨by omega, w2, w3.elim (fun z => Or.inl ?_) (fun z => Or.inr ⟨z.1, e2.no z.2⟩)⟩
          obtain ⟨y1, y2, y3, S2, y4, y5⟩ := z
          exact ⟨y1, y2, y3, S2, by rw [y4, e1], e2.tr y5⟩
        · obtain ⟨f', rfl⟩ : ∃ f', f = f' + 1 := ⟨f - 1, by omega⟩
          rw [px_3at k (by omega) (by omega)]
          exact sx_some ⟨q1, q2, Or.inr ⟨q3, q4⟩⟩
    · intro d i hd hi hf S hS
      have h3 := i0 d i hd hi (by omega) 0 d S (by omega) hS
      have h3 : sx_ok k N (i + 1) (px_e k f 0 d i) (py_no k i S d true) (fun a => py_to k i S d true a S d false) := h3
      show sx_ok k N (i + 1) ((px_e k f 0 d i).bind (fun a => px_e k f 4 d a)) _ _
      cases hr : px_e k f 0 d i with
      | none => exact sx_none (h3.1 hr)
      | some a =>
        obtain ⟨q1, q2, q3⟩ := h3.2 a hr
        show sx_ok k N (i + 1) (px_e k f 4 d a) _ _
        rcases q3 with e2 | ⟨q3, q4⟩
        · have h5 := i4 d a hd q2 (by omega) S
          refine ⟨fun q => e2.no (h5.1 q), fun a2 q => ?_⟩
          obtain ⟨w1, w2, w3⟩ := h5.2 a2 q
          refine ⟨by omega, w2, w3.elim (fun z => Or.inl ?_) (fun z => Or.inr ⟨z.1, e2.no z.2⟩)⟩
          obtain ⟨y3, S2, y4, y5⟩ := z
          exact ⟨y3, S2, y4, e2.tr y5⟩
        · obtain ⟨f', rfl⟩ : ∃ f', f = f' + 1 := ⟨f - 1, by omega⟩
          rw [px_4at k (by omega)]
          exact sx_some ⟨q1, q2, Or.inr ⟨q3, q4⟩⟩
    · intro d i hd hi hf S hk3
      by_cases h12 : k i = 1 ∨ k i = 2
      · have hlt := lt_of i (by omega)
        have h1 := py_o1 k (S := S) (d := d) h12
        have h3 := i2 d (i + 1) hd (by omega) (by omega) (1 :: py_rel 1 S) (by simp)
        rw [px_e, if_pos h12]
        cases hr : px_e k f 2 d (i + 1) with
        | none => exact sx_none (h1.no (h3.1 hr))
        | some a =>
          obtain ⟨q1, q2, q3⟩ := h3.2 a hr
          show sx_ok k N i (px_e k f 3 d a) _ _
          rcases q3 with ⟨z3, S', e1, e2⟩ | ⟨q3, q4⟩
          · have h5 := i3 d a hd q2 (by omega) S' z3
            refine ⟨fun q => (h1.tr e2).no (h5.1 q), fun a2 q => ?_⟩
            obtain ⟨w1, w2, w3⟩ := h5.2 a2 q
            refine ⟨by omega, w2, w3.elim (fun z => Or.inl ?_) (fun z => Or.inr ⟨z.1, (h1.tr e2).no z.2⟩)⟩
            obtain ⟨y1, y2, y3, S2, y4, y5⟩ := z
            exact ⟨y1, y2, y3, S2, by rw [y4, e1, py_rel_t 1 (Or.inl rfl), py_rel_1 1 (Or.inl rfl)], (h1.tr e2).tr y5⟩
          · obtain ⟨f', rfl⟩ : ∃ f', f = f' + 1 := ⟨f - 1, by omega⟩
            rw [px_3at k (by omega) (by omega)]
            exact sx_some ⟨by omega, q2, Or.inr ⟨q3, h1.no q4⟩⟩
      · rw [px_e, if_neg h12]
        exact sx_some ⟨Nat.le_refl _, hi, Or.inl ⟨fun q => h12 (Or.inl q), fun q => h12 (Or.inr q), hk3, S, rfl, py_to.rf⟩⟩
    · intro d i hd hi hf S
      by_cases h33 : k i = 3
      · have hlt := lt_of i (by omega)
        have h1 := py_o3 k (S := S) (d := d) h33
        have h3 := i0 d (i + 1) hd (by omega) (by omega) 0 d (3 :: py_rel 2 S) (by omega) (by simp)
        have h3 : sx_ok k N (i + 1 + 1) (px_e k f 0 d (i + 1)) (py_no k (i + 1) (3 :: py_rel 2 S) d true) (fun a => py_to k (i + 1) (3 :: py_rel 2 S) d true a (3 :: py_rel 2 S) d false) := h3
        rw [px_e, if_pos h33]
        cases hr : px_e k f 0 d (i + 1) with
        | none => exact sx_none (h1.no (h3.1 hr))
        | some a =>
          obtain ⟨q1, q2, q3⟩ := h3.2 a hr
          show sx_ok k N i (px_e k f 4 d a) _ _
          rcases q3 with e2 | ⟨q3, q4⟩
          · have h5 := i4 d a hd q2 (by omega) (3 :: py_rel 2 S)
            refine ⟨fun q => (h1.tr e2).no (h5.1 q), fun a2 q => ?_⟩
            obtain ⟨w1, w2, w3⟩ := h5.2 a2 q
            refine ⟨by omega, w2, w3.elim (fun z => Or.inl ?_) (fun z => Or.inr ⟨z.1, (h1.tr e2).no z.2⟩)⟩
            obtain ⟨y3, S2, y4, y5⟩ := z
            exact ⟨y3, S2, by rw [y4, py_rel_t 3 (Or.inr rfl), py_rel_1 2 (Or.inr rfl)], (h1.tr e2).tr y5⟩
          · obtain ⟨f', rfl⟩ : ∃ f', f = f' + 1 := ⟨f - 1, by omega⟩
            rw [px_4at k (by omega)]
            exact sx_some ⟨by omega, q2, Or.inr ⟨q3, h1.no q4⟩⟩
      · rw [px_e, if_neg h33]
        exact sx_some ⟨Nat.le_refl _, hi, Or.inl ⟨h33, S, rfl, py_to.rf⟩⟩

