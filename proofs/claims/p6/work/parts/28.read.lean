/-! ===== characters by their classes ===== -/
def kc (c : Int32) : Nat := if c = nI 43 then 1 else if c = nI 45 then 2 else if c = nI 42 then 3 else if c = nI 47 then 3 else if c = nI 37 then 3 else if c = nI 40 then 4 else if c = nI 41 then 5 else if nI 97 ≤ c ∧ c < nI 107 then 6 else if nI 48 ≤ c ∧ c ≤ nI 57 then 7 else if c = nI 63 then 8 else if c = nI 33 then 9 else if c = nI 91 then 10 else if c = nI 93 then 11 else if c = nI 123 then 12 else if c = nI 125 then 13 else if c = nI 124 then 14 else if c = nI 58 then 15 else if c = nI 59 then 16 else if c = nI 61 then 17 else 0
theorem kc_ic {p : Prop} [Decidable p] {a b k : Nat} (h : (if p then a else b) = k) (ha : a ≠ k) : b = k := by
  by_cases q : p
  · rw [if_pos q] at h; exact absurd h ha
  · rw [if_neg q] at h; exact h
theorem kc_ip {p : Prop} [Decidable p] {a b k : Nat} (h : (if p then a else b) = k) (hb : b ≠ k) : p := by
  by_cases q : p
  · exact q
  · rw [if_neg q] at h; exact absurd h hb
theorem kc_nn {p : Prop} [Decidable p] {a b k : Nat} (ha : a ≠ k) (hb : b ≠ k) : (if p then a else b) ≠ k := by
  by_cases q : p
  · rw [if_pos q]; exact ha
  · rw [if_neg q]; exact hb
theorem kc_1 {c : Int32} : kc c = 1 ↔ c = nI 43 := ⟨fun h => kc_ip h (kc_nn (by decide) (kc_nn (by decide) (kc_nn (by decide) (kc_nn (by decide) (kc_nn (by decide) (kc_nn (by decide) (kc_nn (by decide) (kc_nn (by decide) (kc_nn (by decide) (kc_nn (by decide) (kc_nn (by decide) (kc_nn (by decide) (kc_nn (by decide) (kc_nn (by decide) (kc_nn (by decide) (kc_nn (by decide) (kc_nn (by decide) (kc_nn (by decide) (by decide))))))))))))))))))), fun h => by subst h; decide⟩
theorem kc_2 {c : Int32} : kc c = 2 ↔ c = nI 45 := ⟨fun h => kc_ip (kc_ic h (by decide)) (kc_nn (by decide) (kc_nn (by decide) (kc_nn (by decide) (kc_nn (by decide) (kc_nn (by decide) (kc_nn (by decide) (kc_nn (by decide) (kc_nn (by decide) (kc_nn (by decide) (kc_nn (by decide) (kc_nn (by decide) (kc_nn (by decide) (kc_nn (by decide) (kc_nn (by decide) (kc_nn (by decide) (kc_nn (by decide) (kc_nn (by decide) (by decide)))))))))))))))))), fun h => by subst h; decide⟩
theorem kc_4 {c : Int32} : kc c = 4 ↔ c = nI 40 := ⟨fun h => kc_ip (kc_ic (kc_ic (kc_ic (kc_ic (kc_ic h (by decide)) (by decide)) (by decide)) (by decide)) (by decide)) (kc_nn (by decide) (kc_nn (by decide) (kc_nn (by decide) (kc_nn (by decide) (kc_nn (by decide) (kc_nn (by decide) (kc_nn (by decide) (kc_nn (by decide) (kc_nn (by decide) (kc_nn (by decide) (kc_nn (by decide) (kc_nn (by decide) (kc_nn (by decide) (by decide)))))))))))))), fun h => by subst h; decide⟩
theorem kc_5 {c : Int32} : kc c = 5 ↔ c = nI 41 := ⟨fun h => kc_ip (kc_ic (kc_ic (kc_ic (kc_ic (kc_ic (kc_ic h (by decide)) (by decide)) (by decide)) (by decide)) (by decide)) (by decide)) (kc_nn (by decide) (kc_nn (by decide) (kc_nn (by decide) (kc_nn (by decide) (kc_nn (by decide) (kc_nn (by decide) (kc_nn (by decide) (kc_nn (by decide) (kc_nn (by decide) (kc_nn (by decide) (kc_nn (by decide) (kc_nn (by decide) (by decide))))))))))))), fun h => by subst h; decide⟩
theorem kc_8 {c : Int32} : kc c = 8 ↔ c = nI 63 := ⟨fun h => kc_ip (kc_ic (kc_ic (kc_ic (kc_ic (kc_ic (kc_ic (kc_ic (kc_ic (kc_ic h (by decide)) (by decide)) (by decide)) (by decide)) (by decide)) (by decide)) (by decide)) (by decide)) (by decide)) (kc_nn (by decide) (kc_nn (by decide) (kc_nn (by decide) (kc_nn (by decide) (kc_nn (by decide) (kc_nn (by decide) (kc_nn (by decide) (kc_nn (by decide) (kc_nn (by decide) (by decide)))))))))), fun h => by subst h; decide⟩
theorem kc_9 {c : Int32} : kc c = 9 ↔ c = nI 33 := ⟨fun h => kc_ip (kc_ic (kc_ic (kc_ic (kc_ic (kc_ic (kc_ic (kc_ic (kc_ic (kc_ic (kc_ic h (by decide)) (by decide)) (by decide)) (by decide)) (by decide)) (by decide)) (by decide)) (by decide)) (by decide)) (by decide)) (kc_nn (by decide) (kc_nn (by decide) (kc_nn (by decide) (kc_nn (by decide) (kc_nn (by decide) (kc_nn (by decide) (kc_nn (by decide) (kc_nn (by decide) (by decide))))))))), fun h => by subst h; decide⟩
theorem kc_10 {c : Int32} : kc c = 10 ↔ c = nI 91 := ⟨fun h => kc_ip (kc_ic (kc_ic (kc_ic (kc_ic (kc_ic (kc_ic (kc_ic (kc_ic (kc_ic (kc_ic (kc_ic h (by decide)) (by decide)) (by decide)) (by decide)) (by decide)) (by decide)) (by decide)) (by decide)) (by decide)) (by decide)) (by decide)) (kc_nn (by decide) (kc_nn (by decide) (kc_nn (by decide) (kc_nn (by decide) (kc_nn (by decide) (kc_nn (by decide) (kc_nn (by decide) (by decide)))))))), fun h => by subst h; decide⟩
theorem kc_11 {c : Int32} : kc c = 11 ↔ c = nI 93 := ⟨fun h => kc_ip (kc_ic (kc_ic (kc_ic (kc_ic (kc_ic (kc_ic (kc_ic (kc_ic (kc_ic (kc_ic (kc_ic (kc_ic h (by decide)) (by decide)) (by decide)) (by decide)) (by decide)) (by decide)) (by decide)) (by decide)) (by decide)) (by decide)) (by decide)) (by decide)) (kc_nn (by decide) (kc_nn (by decide) (kc_nn (by decide) (kc_nn (by decide) (kc_nn (by decide) (kc_nn (by decide) (by decide))))))), fun h => by subst h; decide⟩
theorem kc_12 {c : Int32} : kc c = 12 ↔ c = nI 123 := ⟨fun h => kc_ip (kc_ic (kc_ic (kc_ic (kc_ic (kc_ic (kc_ic (kc_ic (kc_ic (kc_ic (kc_ic (kc_ic (kc_ic (kc_ic h (by decide)) (by decide)) (by decide)) (by decide)) (by decide)) (by decide)) (by decide)) (by decide)) (by decide)) (by decide)) (by decide)) (by decide)) (by decide)) (kc_nn (by decide) (kc_nn (by decide) (kc_nn (by decide) (kc_nn (by decide) (kc_nn (by decide) (by decide)))))), fun h => by subst h; decide⟩
theorem kc_13 {c : Int32} : kc c = 13 ↔ c = nI 125 := ⟨fun h => kc_ip (kc_ic (kc_ic (kc_ic (kc_ic (kc_ic (kc_ic (kc_ic (kc_ic (kc_ic (kc_ic (kc_ic (kc_ic (kc_ic (kc_ic h (by decide)) (by decide)) (by decide)) (by decide)) (by decide)) (by decide)) (by decide)) (by decide)) (by decide)) (by decide)) (by decide)) (by decide)) (by decide)) (by decide)) (kc_nn (by decide) (kc_nn (by decide) (kc_nn (by decide) (kc_nn (by decide) (by decide))))), fun h => by subst h; decide⟩
theorem kc_14 {c : Int32} : kc c = 14 ↔ c = nI 124 := ⟨fun h => kc_ip (kc_ic (kc_ic (kc_ic (kc_ic (kc_ic (kc_ic (kc_ic (kc_ic (kc_ic (kc_ic (kc_ic (kc_ic (kc_ic (kc_ic (kc_ic h (by decide)) (by decide)) (by decide)) (by decide)) (by decide)) (by decide)) (by decide)) (by decide)) (by decide)) (by decide)) (by decide)) (by decide)) (by decide)) (by decide)) (by decide)) (kc_nn (by decide) (kc_nn (by decide) (kc_nn (by decide) (by decide)))), fun h => by subst h; decide⟩
theorem kc_15 {c : Int32} : kc c = 15 ↔ c = nI 58 := ⟨fun h => kc_ip (kc_ic (kc_ic (kc_ic (kc_ic (kc_ic (kc_ic (kc_ic (kc_ic (kc_ic (kc_ic (kc_ic (kc_ic (kc_ic (kc_ic (kc_ic (kc_ic h (by decide)) (by decide)) (by decide)) (by decide)) (by decide)) (by decide)) (by decide)) (by decide)) (by decide)) (by decide)) (by decide)) (by decide)) (by decide)) (by decide)) (by decide)) (by decide)) (kc_nn (by decide) (kc_nn (by decide) (by decide))), fun h => by subst h; decide⟩
theorem kc_16 {c : Int32} : kc c = 16 ↔ c = nI 59 := ⟨fun h => kc_ip (kc_ic (kc_ic (kc_ic (kc_ic (kc_ic (kc_ic (kc_ic (kc_ic (kc_ic (kc_ic (kc_ic (kc_ic (kc_ic (kc_ic (kc_ic (kc_ic (kc_ic h (by decide)) (by decide)) (by decide)) (by decide)) (by decide)) (by decide)) (by decide)) (by decide)) (by decide)) (by decide)) (by decide)) (by decide)) (by decide)) (by decide)) (by decide)) (by decide)) (by decide)) (kc_nn (by decide) (by decide)), fun h => by subst h; decide⟩
theorem kc_17 {c : Int32} : kc c = 17 ↔ c = nI 61 := ⟨fun h => kc_ip (kc_ic (kc_ic (kc_ic (kc_ic (kc_ic (kc_ic (kc_ic (kc_ic (kc_ic (kc_ic (kc_ic (kc_ic (kc_ic (kc_ic (kc_ic (kc_ic (kc_ic (kc_ic h (by decide)) (by decide)) (by decide)) (by decide)) (by decide)) (by decide)) (by decide)) (by decide)) (by decide)) (by decide)) (by decide)) (by decide)) (by decide)) (by decide)) (by decide)) (by decide)) (by decide)) (by decide)) (by decide), fun h => by subst h; decide⟩
theorem kc_3 {c : Int32} : kc c = 3 ↔ c = nI 42 ∨ c = nI 47 ∨ c = nI 37 := ⟨fun h => by
  have h2 := (kc_ic (kc_ic h (by decide)) (by decide))
  by_cases q1 : c = nI 42
  · exact Or.inl q1
  rw [if_neg q1] at h2
  by_cases q2 : c = nI 47
  · exact Or.inr (Or.inl q2)
  rw [if_neg q2] at h2
  exact Or.inr (Or.inr (kc_ip h2 (kc_nn (by decide) (kc_nn (by decide) (kc_nn (by decide) (kc_nn (by decide) (kc_nn (by decide) (kc_nn (by decide) (kc_nn (by decide) (kc_nn (by decide) (kc_nn (by decide) (kc_nn (by decide) (kc_nn (by decide) (kc_nn (by decide) (kc_nn (by decide) (kc_nn (by decide) (by decide))))))))))))))))), fun h => by rcases h with h | h | h <;> subst h <;> decide⟩
theorem kc_6 {c : Int32} : kc c = 6 ↔ nI 97 ≤ c ∧ c < nI 107 := ⟨fun h => kc_ip (kc_ic (kc_ic (kc_ic (kc_ic (kc_ic (kc_ic (kc_ic h (by decide)) (by decide)) (by decide)) (by decide)) (by decide)) (by decide)) (by decide)) (kc_nn (by decide) (kc_nn (by decide) (kc_nn (by decide) (kc_nn (by decide) (kc_nn (by decide) (kc_nn (by decide) (kc_nn (by decide) (kc_nn (by decide) (kc_nn (by decide) (kc_nn (by decide) (kc_nn (by decide) (by decide)))))))))))), fun h => by unfold kc; rw [if_neg (fun q => by subst q; exact absurd h (by decide)), if_neg (fun q => by subst q; exact absurd h (by decide)), if_neg (fun q => by subst q; exact absurd h (by decide)), if_neg (fun q => by subst q; exact absurd h (by decide)), if_neg (fun q => by subst q; exact absurd h (by decide)), if_neg (fun q => by subst q; exact absurd h (by decide)), if_neg (fun q => by subst q; exact absurd h (by decide)), if_pos h]⟩
theorem kc_7 {c : Int32} : kc c = 7 ↔ nI 48 ≤ c ∧ c ≤ nI 57 := ⟨fun h => kc_ip (kc_ic (kc_ic (kc_ic (kc_ic (kc_ic (kc_ic (kc_ic (kc_ic h (by decide)) (by decide)) (by decide)) (by decide)) (by decide)) (by decide)) (by decide)) (by decide)) (kc_nn (by decide) (kc_nn (by decide) (kc_nn (by decide) (kc_nn (by decide) (kc_nn (by decide) (kc_nn (by decide) (kc_nn (by decide) (kc_nn (by decide) (kc_nn (by decide) (kc_nn (by decide) (by decide))))))))))), fun h => by unfold kc; rw [if_neg (fun q => by subst q; exact absurd h (by decide)), if_neg (fun q => by subst q; exact absurd h (by decide)), if_neg (fun q => by subst q; exact absurd h (by decide)), if_neg (fun q => by subst q; exact absurd h (by decide)), if_neg (fun q => by subst q; exact absurd h (by decide)), if_neg (fun q => by subst q; exact absurd h (by decide)), if_neg (fun q => by subst q; exact absurd h (by decide)), if_neg (fun q => absurd (Int32.le_trans q.1 h.2) (by decide)), if_pos h]⟩
/-- the character at a place, a blank behind the end -/
def nx (h : Nat → Int32) (n i : Nat) : Int32 := if i < n then h i else nI 32
/-- .. and its class -/
def tk (h : Nat → Int32) (n i : Nat) : Nat := kc (nx h n i)
theorem tk_end (h : Nat → Int32) (n : Nat) : ∀ i, n ≤ i → tk h n i = 0 := fun i hi => by unfold tk nx; rw [if_neg (by omega)]; decide
theorem tk_in {h : Nat → Int32} {n i : Nat} (q : tk h n i ≠ 0) : i < n := Nat.lt_of_not_le (fun z => q (tk_end h n i z))
theorem nx_in {h : Nat → Int32} {n i : Nat} {c : Int32} (q : nx h n i = c) (hc : c ≠ nI 32) : i < n := by
  unfold nx at q
  by_cases z : i < n
  · exact z
  · rw [if_neg z] at q; exact absurd q.symm hc

theorem dg_stop {k : Nat → Nat} {m i : Nat} (h : k i ≠ 7) : px_dg k m i = 0 := by
  cases m with
  | zero => rfl
  | succ m => exact if_neg h
theorem dg_more {k : Nat → Nat} {a d : Nat} (e : px_dg k 9 a = d + px_dg k (9 - d) (a + d)) (hd : d < 9) (h : k (a + d) = 7) : px_dg k 9 a = d + 1 + px_dg k (9 - (d + 1)) (a + (d + 1)) := by
  obtain ⟨m, hm⟩ : ∃ m, 9 - d = m + 1 := ⟨8 - d, by omega⟩
  rw [e, hm, show 9 - (d + 1) = m by omega, show px_dg k (m + 1) (a + d) = px_dg k m (a + d + 1) + 1 from if_pos h, show a + (d + 1) = a + d + 1 from rfl]
  omega
theorem dg_done {k : Nat → Nat} {a d : Nat} (e : px_dg k 9 a = d + px_dg k (9 - d) (a + d)) (h : d = 9 ∨ k (a + d) ≠ 7) : px_dg k 9 a = d := by
  rcases h with h | h
  · subst h; exact e
  · rw [e, dg_stop h]; rfl
def px_n (k : Nat → Nat) (i : Nat) : Option Nat := if px_dg k 9 i = 0 then none else some (i + px_dg k 9 i)
theorem nx_lt {h : Nat → Int32} {n i : Nat} (q1 : nI 97 ≤ nx h n i) : i < n := by
  unfold nx at q1
  by_cases z : i < n
  · exact z
  · rw [if_neg z] at q1; exact absurd q1 (by decide)
theorem nx_d {h : Nat → Int32} {n i : Nat} (q1 : nI 48 ≤ nx h n i) : i < n := by
  unfold nx at q1
  by_cases z : i < n
  · exact z
  · rw [if_neg z] at q1; exact absurd q1 (by decide)
theorem nm_of {c : Int32} (h1 : nI 97 ≤ c) (h2 : c < nI 107) : ∃ k, k < 10 ∧ c - nI 97 = nI k := by
  have e1 : (nI 97).toInt = 97 := nI_toInt (by decide)
  have e2 : (nI 107).toInt = 107 := nI_toInt (by decide)
  rw [Int32.le_iff_toInt_le, e1] at h1
  rw [Int32.lt_iff_toInt_lt, e2] at h2
  refine ⟨(c.toInt - 97).toNat, by omega, Int32.toInt_inj.mp ?_⟩
  rw [nI_toInt (by omega), Int32.toInt_sub, e1, Int.bmod_eq_of_le] <;> omega

