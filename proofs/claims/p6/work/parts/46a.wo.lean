/-! ===== the reference's programs: what each instruction asks of the height of the row ===== -/
def WO (hC hA : Nat → Int32) (dpf : Nat → Nat) (sz p w v : Nat) : Prop := hC p = nI w ∧ hA p = nI v ∧ w ≤ 12 ∧ v < 2147483648 ∧ dpf p ≤ 79 ∧ (w = 1 → v < 10) ∧ (w < 2 → dpf (p + 1) = dpf p + 1) ∧ (w = 7 → 1 ≤ dpf p ∧ dpf (p + 1) = dpf p) ∧ (2 ≤ w → w < 7 → 2 ≤ dpf p ∧ dpf (p + 1) + 1 = dpf p) ∧ (8 ≤ w → dpf (p + 1) = 0) ∧ (8 ≤ w → w < 10 → v < 10) ∧ (w = 9 ∨ w = 12 → dpf p = 0) ∧ (w < 8 → p + 1 < sz) ∧ (w = 11 → 0 < v ∧ v ≤ sz ∧ (v < sz → dpf v = 0)) ∧ (w = 12 → v ≤ sz ∧ (v < sz → dpf v = 0)) ∧ (w = 12 → p < v ∨ ∃ w', hC v = nI w' ∧ w' < 8 ∧ v < sz)
def WF (hC hA : Nat → Int32) (dpf : Nat → Nat) (sz : Nat) : Prop := sz ≤ 100 ∧ dpf 0 = 0 ∧ ∀ p, p < sz → ∃ w v, WO hC hA dpf sz p w v
def TR (w t t1 : Nat) : Prop := (w < 2 → t1 = t + 1) ∧ (w = 7 → t1 = t) ∧ (2 ≤ w → w < 7 → t1 + 1 = t)
def WS (w v t : Nat) : Prop := (w = 1 → v < 10) ∧ (w < 2 → t < 80) ∧ (w = 7 → 1 ≤ t) ∧ (2 ≤ w → w < 7 → 2 ≤ t)
section wo
variable {hC hA : Nat → Int32} {dpf : Nat → Nat} {sz p w v t t1 : Nat}
theorem wo_c (h : WO hC hA dpf sz p w v) : hC p = nI w := h.1
theorem wo_a (h : WO hC hA dpf sz p w v) : hA p = nI v := h.2.1
theorem wo_12 (h : WO hC hA dpf sz p w v) : w ≤ 12 := h.2.2.1
theorem wo_b (h : WO hC hA dpf sz p w v) : v < 2147483648 := h.2.2.2.1
theorem wo_dp (h : WO hC hA dpf sz p w v) : dpf p ≤ 79 := h.2.2.2.2.1
theorem ws_of (h : WO hC hA dpf sz p w v) (ht : t = dpf p) : WS w v t := by
  obtain ⟨-, -, -, -, q5, q6, -, q8, q9, -⟩ := h
  exact ⟨q6, fun _ => by omega, fun z => by have := q8 z; omega, fun z y => by have := q9 z y; omega⟩
theorem wo_next (h : WO hC hA dpf sz p w v) (hw : w < 8) (ht : t = dpf p) (hr : TR w t t1) : t1 = dpf (p + 1) := by
  obtain ⟨-, -, -, -, -, -, q7, q8, q9, -⟩ := h
  obtain ⟨r1, r2, r3⟩ := hr
  by_cases h2 : w < 2
  · have := q7 h2; have := r1 h2; omega
  · by_cases h7 : w = 7
    · have := q8 h7; have := r2 h7; omega
    · have := q9 (by omega) (by omega); have := r3 (by omega) (by omega); omega
theorem wo_end (h : WO hC hA dpf sz p w v) (hw : 8 ≤ w) : dpf (p + 1) = 0 := by
  obtain ⟨-, -, -, -, -, -, -, -, -, q10, -⟩ := h
  exact q10 hw
theorem wo_v (h : WO hC hA dpf sz p w v) (h8 : 8 ≤ w) (h10 : w < 10) : v < 10 := by
  obtain ⟨-, -, -, -, -, -, -, -, -, -, q11, -⟩ := h
  exact q11 h8 h10
theorem wo_0 (h : WO hC hA dpf sz p w v) (hw : w = 9 ∨ w = 12) : dpf p = 0 := by
  obtain ⟨-, -, -, -, -, -, -, -, -, -, -, q12, -⟩ := h
  exact q12 hw
theorem wo_lt (h : WO hC hA dpf sz p w v) (hw : w < 8) : p + 1 < sz := by
  obtain ⟨-, -, -, -, -, -, -, -, -, -, -, -, q13, -⟩ := h
  exact q13 hw
theorem wo_t (h : WO hC hA dpf sz p w v) (hw : w = 11) : 0 < v ∧ v ≤ sz ∧ (v < sz → dpf v = 0) := by
  obtain ⟨-, -, -, -, -, -, -, -, -, -, -, -, -, q14, -⟩ := h
  exact q14 hw
theorem wo_j (h : WO hC hA dpf sz p w v) (hw : w = 12) : v ≤ sz ∧ (v < sz → dpf v = 0) := by
  obtain ⟨-, -, -, -, -, -, -, -, -, -, -, -, -, -, q15, -⟩ := h
  exact q15 hw
theorem wo_jb (h : WO hC hA dpf sz p w v) (hw : w = 12) : p < v ∨ ∃ w', hC v = nI w' ∧ w' < 8 ∧ v < sz := by
  obtain ⟨-, -, -, -, -, -, -, -, -, -, -, -, -, -, -, q16⟩ := h
  exact q16 hw
theorem TR.mk (h1 : w < 2 → t1 = t + 1) (h2 : w = 7 → t1 = t) (h3 : 2 ≤ w → w < 7 → t1 + 1 = t) : TR w t t1 := ⟨h1, h2, h3⟩
end wo

