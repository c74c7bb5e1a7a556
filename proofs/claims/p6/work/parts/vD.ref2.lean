/-! ===== signs of the reference's sums and products ===== -/
theorem sgI_3 (v : Int) : (v < 0 ∧ sgI v = -1) ∨ (v = 0 ∧ sgI v = nI 0) ∨ (0 < v ∧ sgI v = nI 1) := by
  rcases Int.lt_trichotomy v 0 with q | q | q
  · exact Or.inl ⟨q, sgI_n q⟩
  · exact Or.inr (Or.inl ⟨q, sgI_0 q⟩)
  · exact Or.inr (Or.inr ⟨q, sgI_p q⟩)
theorem sgI_z {v : Int} : sgI v = nI 0 ↔ v = 0 := by
  rcases sgI_3 v with ⟨h, e⟩ | ⟨h, e⟩ | ⟨h, e⟩
  · rw [e]; exact ⟨fun q => absurd q (by decide), fun q => by omega⟩
  · rw [e]; exact ⟨fun _ => h, fun _ => rfl⟩
  · rw [e]; exact ⟨fun q => absurd q (by decide), fun q => by omega⟩
theorem sgI_same {v w : Int} (h : (v < 0 ↔ w < 0) ∧ (0 < v ↔ 0 < w)) : sgI v = sgI w := by
  unfold sgI
  by_cases q : v < 0
  · rw [if_pos q, if_pos (h.1.mp q)]
  · rw [if_neg q, if_neg (fun z => q (h.1.mpr z))]
    by_cases z : 0 < v
    · rw [if_pos z, if_pos (h.2.mp z)]
    · rw [if_neg z, if_neg (fun y => z (h.2.mpr y))]
theorem sgI_neg (v : Int) : sgI v * (-1) = sgI (-v) := by
  rcases sgI_3 v with ⟨h, e⟩ | ⟨h, e⟩ | ⟨h, e⟩
  · rw [e, sgI_p (v := -v) (by omega)]; decide
  · rw [e, sgI_0 (v := -v) (by omega)]; decide
  · rw [e, sgI_n (v := -v) (by omega)]; decide
theorem sgI_one (v : Int) : sgI v * nI 1 = sgI v := by
  rcases sgI_3 v with ⟨h, e⟩ | ⟨h, e⟩ | ⟨h, e⟩ <;> rw [e] <;> decide
theorem sgI_mul (v w : Int) : sgI v * sgI w = sgI (v * w) := by
  rcases sgI_3 v with ⟨h, e⟩ | ⟨h, e⟩ | ⟨h, e⟩
  · rcases sgI_3 w with ⟨k, e2⟩ | ⟨k, e2⟩ | ⟨k, e2⟩
    · rw [e, e2, sgI_p (Int.mul_pos_of_neg_of_neg h k)]; decide
    · rw [e, e2, k, Int.mul_zero]; decide
    · rw [e, e2, sgI_n (Int.mul_neg_of_neg_of_pos h k)]; decide
  · rw [e, h, Int.zero_mul]
    rcases sgI_3 w with ⟨k, e2⟩ | ⟨k, e2⟩ | ⟨k, e2⟩ <;> rw [e2] <;> decide
  · rcases sgI_3 w with ⟨k, e2⟩ | ⟨k, e2⟩ | ⟨k, e2⟩
    · rw [e, e2, sgI_n (Int.mul_neg_of_pos_of_neg h k)]; decide
    · rw [e, e2, k, Int.mul_zero]; decide
    · rw [e, e2, sgI_p (Int.mul_pos h k)]; decide
theorem su_eq {v w : Int} (h : sgI v = sgI w) : (v < 0 ↔ w < 0) ∧ (0 < v ↔ 0 < w) := by
  rcases sgI_3 v with ⟨a, e⟩ | ⟨a, e⟩ | ⟨a, e⟩ <;> rcases sgI_3 w with ⟨b, e2⟩ | ⟨b, e2⟩ | ⟨b, e2⟩ <;> rw [e, e2] at h <;> first | (exfalso; revert h; decide) | omega
theorem su_ne {v w : Int} (h : ¬ sgI v = sgI w) (hv : ¬ sgI v = nI 0) (hw : ¬ sgI w = nI 0) : (v < 0 ∧ 0 < w) ∨ (0 < v ∧ w < 0) := by
  rcases sgI_3 v with ⟨a, e⟩ | ⟨a, e⟩ | ⟨a, e⟩
  · rcases sgI_3 w with ⟨b, e2⟩ | ⟨b, e2⟩ | ⟨b, e2⟩
    · exact absurd (e.trans e2.symm) h
    · exact absurd e2 hw
    · exact Or.inl ⟨a, b⟩
  · exact absurd e hv
  · rcases sgI_3 w with ⟨b, e2⟩ | ⟨b, e2⟩ | ⟨b, e2⟩
    · exact Or.inr ⟨a, b⟩
    · exact absurd e2 hw
    · exact absurd (e.trans e2.symm) h
/-- what a sum tells: its limbs are worth N, and its sign is r where it isn't 0 -/
def SR (r : Int32) (N : Nat) (v : Int) : Prop := N = v.natAbs ∧ (v ≠ 0 → r = sgI v)
theorem su_1 {v w : Int} (h : sgI v = nI 0) : SR (sgI w) (v.natAbs + w.natAbs) (v + w) := by
  have h := sgI_z.mp h
  subst h
  exact ⟨by omega, fun _ => by rw [Int.zero_add]⟩
theorem su_2 {v w : Int} (h : sgI w = nI 0) : SR (sgI v) (v.natAbs + w.natAbs) (v + w) := by
  have h := sgI_z.mp h
  subst h
  exact ⟨by omega, fun _ => by rw [Int.add_zero]⟩
theorem su_3 {v w : Int} (h : sgI v = sgI w) : SR (sgI v) (v.natAbs + w.natAbs) (v + w) := by
  have h := su_eq h
  exact ⟨by omega, fun _ => sgI_same (by omega)⟩
theorem su_4 {v w : Int} (h : ¬ sgI v = sgI w) (hv : ¬ sgI v = nI 0) (hw : ¬ sgI w = nI 0) : (v.natAbs = w.natAbs → ∀ r, SR r 0 (v + w)) ∧ (w.natAbs < v.natAbs → SR (sgI v) (v.natAbs - w.natAbs) (v + w)) ∧ (v.natAbs < w.natAbs → SR (sgI w) (w.natAbs - v.natAbs) (v + w)) := by
  have h := su_ne h hv hw
  refine ⟨fun e r => ⟨by omega, fun q => by omega⟩, fun e => ⟨by omega, fun q => sgI_same (by omega)⟩, fun e => ⟨by omega, fun q => sgI_same (by omega)⟩⟩
theorem SR_N {r : Int32} {M N : Nat} {v : Int} (h : SR r N v) (e : M = N) : SR r M v := e ▸ h

