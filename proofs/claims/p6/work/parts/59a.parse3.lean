/-! ===== the reference's reader of EXPRs ===== -/
def EI (fb : Nat) (S : List Nat) (dp : Nat) : Prop := (fb = 1 → n8t S ∧ dp = nbS S) ∧ (fb = 0 → n8 S ∧ dp = nbS S + 1)
theorem EI_1 {S : List Nat} {dp : Nat} (h1 : n8t S) (h2 : dp = nbS S) : EI 1 S dp := ⟨fun _ => ⟨h1, h2⟩, fun z => absurd z (by decide)⟩
theorem EI_0 {S : List Nat} {dp : Nat} (h1 : n8 S) (h2 : dp = nbS S + 1) : EI 0 S dp := ⟨fun z => absurd z (by decide), fun _ => ⟨h1, h2⟩⟩
theorem wcc_12 {c : Int32} (h : kc c = 1 ∨ kc c = 2) : wcc c = 1 := wcc_1 (fun q => by rw [q] at h; revert h; decide) (fun q => by rw [q] at h; revert h; decide) (fun q => by omega)
theorem dg_pos {k : Nat → Nat} {i : Nat} (h : k i = 7) : 1 ≤ px_dg k 10 i := by
  rw [show px_dg k 10 i = px_dg k 9 (i + 1) + 1 from if_pos h]; omega
/-- what is left behind a release by 1 begins with a bracket, or is nothing -/
theorem rel_1 : ∀ (S : List Nat), py_rel 1 S = [] ∨ ∃ S', py_rel 1 S = 4 :: S' := by
  intro S
  induction S with
  | nil => exact Or.inl rfl
  | cons x S ih =>
    by_cases h : x = 4
    · subst h; exact Or.inr ⟨S, py_rel_b S⟩
    · rw [show py_rel 1 (x :: S) = py_rel 1 S from if_pos ⟨h, by split <;> omega⟩]; exact ih
theorem wll_nil {h : Nat → Int32} {n : Nat} (e : wll h n = []) : n = 0 := by
  cases n with
  | zero => rfl
  | succ n => cases e
theorem ko_0 {c : Int32} {k : Nat} (h : KO c k) (hk : k ≤ 0) : kc c ≠ 1 ∧ kc c ≠ 2 ∧ kc c ≠ 3 := by
  rcases h with h | h | h
  · exact h.2
  · omega
  · omega
theorem ko_3 {c : Int32} {k : Nat} (h : KO c k) (hk : 3 < k) : kc c = 3 := by
  rcases h with h | h | h
  · omega
  · omega
  · exact h.2.2
theorem ko_1 {c : Int32} {k k2 : Nat} (h : KO c k) (hk : ¬ k ≤ 0) (h2 : KO c k2) (hk2 : k2 ≤ 3) : kc c = 1 ∨ kc c = 2 := by
  rcases h2 with h2 | h2 | h2
  · rcases h with h | h | h
    · omega
    · exact absurd (h.2.2) (by omega)
    · exact absurd h.2.2 h2.2.2.2
  · exact h2.2.2
  · omega

