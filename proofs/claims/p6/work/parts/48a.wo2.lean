def PCO (dpf : Nat → Nat) (sz pc tr : Nat) : Prop := tr = 0 → pc ≤ sz ∧ (pc < sz → dpf pc = 0)
def RI (hC : Nat → Int32) (dpf : Nat → Nat) (sz st pc tr : Nat) : Prop := (st = 1 ∨ st = 2) → pc < sz ∧ dpf pc = 0 ∧ hC pc ≠ nI 12 ∧ tr = 0
def JF (hC : Nat → Int32) (p fl : Nat) : Prop := fl = 1 → hC p ≠ nI 12
theorem wo_pos {hC hA : Nat → Int32} {dpf : Nat → Nat} {sz p w v t t1 : Nat} (h : WO hC hA dpf sz p w v) (hw : w < 8) (ht : t = dpf p) (hr : TR w t t1) : 1 ≤ t1 := by
  obtain ⟨-, -, -, -, -, -, q7, q8, q9, -⟩ := h
  obtain ⟨r1, r2, r3⟩ := hr
  by_cases h2 : w < 2
  · have := r1 h2; omega
  · by_cases h7 : w = 7
    · have := q8 h7; have := r2 h7; omega
    · have := q9 (by omega) (by omega); have := r3 (by omega) (by omega); omega
theorem rn_of {x : Int32} (h1 : ¬ x < nI 1) (h2 : x ≤ nI 200) : ∃ k, k ≤ 200 ∧ x = nI k := by
  have h0 : ¬ x < 0 := fun q => h1 (Int32.lt_of_lt_of_le q (by decide))
  obtain ⟨j, hj, rfl⟩ := nI_of h0
  exact ⟨j, (nI_leI hj (by decide)).mp h2, rfl⟩

