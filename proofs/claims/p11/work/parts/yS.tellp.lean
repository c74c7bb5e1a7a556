/-! ===== what a number tells ===== -/
def TQ (v : Int) (k r : Int32) : Prop := (k = -1 ∧ r = sgI v) ∨ (k = -2 ∧ ∃ d, d ≤ 2000 ∧ DGT d v.natAbs ∧ r = nI d) ∨ (∃ j : Nat, j < 2 ^ 31 ∧ k = nI j ∧ r = nI (v.natAbs / 10 ^ j % 10))
theorem TQ_u {v : Int} {k r q : Int32} (h1 : TQ v k r) (h2 : TQ v k q) : q = r := by
  have e1 : (-1 : Int32).toInt = -1 := by decide
  have e2 : (-2 : Int32).toInt = -2 := by decide
  rcases h1 with ⟨a1, a2⟩ | ⟨a1, d, -, a3, a4⟩ | ⟨j, hj, a1, a2⟩
  · rcases h2 with ⟨b1, b2⟩ | ⟨b1, -⟩ | ⟨i, hi, b1, b2⟩
    · rw [a2, b2]
    · exact absurd (a1.symm.trans b1) (by decide)
    · have z := congrArg Int32.toInt (a1.symm.trans b1)
      rw [e1, nI_toInt hi] at z
      omega
  · rcases h2 with ⟨b1, b2⟩ | ⟨b1, c, -, b3, b4⟩ | ⟨i, hi, b1, b2⟩
    · exact absurd (a1.symm.trans b1) (by decide)
    · rw [a4, b4, DGT_u a3 b3]
    · have z := congrArg Int32.toInt (a1.symm.trans b1)
      rw [e2, nI_toInt hi] at z
      omega
  · rcases h2 with ⟨b1, b2⟩ | ⟨b1, c, -, b3, b4⟩ | ⟨i, hi, b1, b2⟩
    · have z := congrArg Int32.toInt (a1.symm.trans b1)
      rw [e1, nI_toInt hj] at z
      omega
    · have z := congrArg Int32.toInt (a1.symm.trans b1)
      rw [e2, nI_toInt hj] at z
      omega
    · have z := congrArg Int32.toInt (a1.symm.trans b1)
      rw [nI_toInt hj, nI_toInt hi] at z
      obtain rfl : j = i := by omega
      rw [a2, b2]
theorem k_m2 {k : Int32} (h1 : ¬ 0 ≤ k) (h2 : k ≠ -1) (h3 : -2 ≤ k) : k = -2 := by
  have e0 : (0 : Int32).toInt = 0 := by decide
  have e1 : (-1 : Int32).toInt = -1 := by decide
  have e2 : (-2 : Int32).toInt = -2 := by decide
  rw [Int32.le_iff_toInt_le, e0] at h1
  rw [Int32.le_iff_toInt_le, e2] at h3
  have h4 : k.toInt ≠ -1 := fun z => h2 (Int32.toInt_inj.mp (z.trans e1.symm))
  exact Int32.toInt_inj.mp (by rw [e2]; omega)
theorem k_nn {k : Int32} (h1 : k ≠ -1) (h2 : k ≠ -2) (h3 : -2 ≤ k) : ¬ k < 0 := fun q => by
  have e0 : (0 : Int32).toInt = 0 := by decide
  refine h2 (k_m2 (fun z => ?_) h1 h3)
  rw [Int32.le_iff_toInt_le, e0] at z
  rw [Int32.lt_iff_toInt_lt, e0] at q
  omega
theorem LNV_sI {sg : Int32} {n : Nat} {h : Nat → Int32} {v : Int} (q : LNV sg n h v) : sg = sgI v := Int32.toInt_inj.mp (by rw [LNV_sg q, sgI_t])
theorem dt9 {sg : Int32} {n : Nat} {h : Nat → Int32} {v : Int} (q : LNV sg n h v) {i : Nat} (hn : 0 < n) (hi : 1 ≤ i) (h1 : 10 ^ (i - 1) ≤ dg h (n - 1)) (h2 : dg h (n - 1) < 10 ^ i) : DGT ((n - 1) * 9 + i) v.natAbs := by
  rw [LNV_abs q]
  obtain ⟨m, rfl⟩ : ∃ m, n = m + 1 := ⟨n - 1, by omega⟩
  rw [Nat.add_sub_cancel] at h1 h2 ⊢
  have hN := kv_lt (CB_lt q.2.1 (n := m) (by have := q.1; omega))
  have e9 : 1000000000 ^ m = 10 ^ (9 * m) := by rw [Nat.pow_mul]
  rw [kv_s]
  rw [e9, Nat.mul_comm 9 m] at hN ⊢
  have p0 : 0 < 10 ^ (m * 9) := Nat.pow_pos (by decide)
  refine Or.inr ⟨by omega, ?_, ?_⟩
  · have := Nat.mul_le_mul_right (10 ^ (m * 9)) h1
    rw [← Nat.pow_add, show i - 1 + m * 9 = m * 9 + i - 1 by omega] at this
    omega
  · have := Nat.mul_le_mul_right (10 ^ (m * 9)) (show dg h m + 1 ≤ 10 ^ i from h2)
    rw [← Nat.pow_add, show i + m * 9 = m * 9 + i by omega, Nat.add_mul] at this
    omega
theorem dig_m {y r s : Nat} : y % (10 ^ r * 10 ^ (s + 1)) / 10 ^ r % 10 = y / 10 ^ r % 10 := by
  rw [Nat.mod_mul_right_div_self, Nat.mod_mod_of_dvd _ ⟨10 ^ s, by rw [Nat.pow_succ, Nat.mul_comm]⟩]
theorem dig_y9 {y r : Nat} (hr : r < 9) : y % 1000000000 / 10 ^ r % 10 = y / 10 ^ r % 10 := by
  have e : 10 ^ r * 10 ^ (8 - r + 1) = 1000000000 := by rw [← Nat.pow_add, show r + (8 - r + 1) = 9 by omega]
  rw [← e]
  exact dig_m
theorem dig_y6 {y r : Nat} (hr : r < 6) : y % 1000000 / 10 ^ r % 10 = y / 10 ^ r % 10 := by
  have e : 10 ^ r * 10 ^ (5 - r + 1) = 1000000 := by rw [← Nat.pow_add, show r + (5 - r + 1) = 6 by omega]
  rw [← e]
  exact dig_m
theorem dig_hi {N j : Nat} (h : N < 10 ^ j) : 0 = N / 10 ^ j % 10 := by rw [Nat.div_eq_of_lt h]
theorem kv_dig {h : Nat → Nat} {n j : Nat} (hb : ∀ i, i < n → h i < 1000000000) (hj : j < n) : kv h n / 1000000000 ^ j % 1000000000 = h j := by
  obtain ⟨m, rfl⟩ : ∃ m, n = j + 1 + m := ⟨n - (j + 1), by omega⟩
  have h1 := kv_lt (n := j) (fun i hi => hb i (by omega))
  have h2 := hb j hj
  have p0 := kn_pos j
  rw [kv_sp h (j + 1) m, kv_s]
  generalize kv (fun i => h (j + 1 + i)) m = Z
  have e : kv h j + h j * 1000000000 ^ j + Z * 1000000000 ^ (j + 1) = kv h j + (h j + Z * 1000000000) * 1000000000 ^ j := by
    rw [Nat.add_mul, Nat.mul_assoc Z, Nat.pow_succ, Nat.mul_comm (1000000000 ^ j) 1000000000, Nat.add_assoc]
  rw [e, Nat.add_mul_div_right _ _ p0, Nat.div_eq_of_lt h1, Nat.zero_add, Nat.add_mul_mod_self_right, Nat.mod_eq_of_lt h2]
theorem kw_dig {h : Nat → Nat} {n j : Nat} (hb : ∀ i, i < n → h i < 1000000) (hj : j < n) : kw h n / 1000000 ^ j % 1000000 = h j := by
  obtain ⟨m, rfl⟩ : ∃ m, n = j + 1 + m := ⟨n - (j + 1), by omega⟩
  have h1 := kw_lt (n := j) (fun i hi => hb i (by omega))
  have h2 := hb j hj
  have p0 : 0 < 1000000 ^ j := Nat.pow_pos (by decide)
  rw [kw_sp h (j + 1) m, kw_s]
  generalize kw (fun i => h (j + 1 + i)) m = Z
  have e : kw h j + h j * 1000000 ^ j + Z * 1000000 ^ (j + 1) = kw h j + (h j + Z * 1000000) * 1000000 ^ j := by
    rw [Nat.add_mul, Nat.mul_assoc Z, Nat.pow_succ, Nat.mul_comm (1000000 ^ j) 1000000, Nat.add_assoc]
  rw [e, Nat.add_mul_div_right _ _ p0, Nat.div_eq_of_lt h1, Nat.zero_add, Nat.add_mul_mod_self_right, Nat.mod_eq_of_lt h2]
theorem tl_0 {sg : Int32} {n : Nat} {h : Nat → Int32} {v : Int} (q : LNV sg n h v) {j : Nat} (hj : ¬ j / 9 < n) : 0 = v.natAbs / 10 ^ j % 10 := by
  rw [LNV_abs q]
  refine dig_hi ?_
  have h1 := kv_lt (CB_lt q.2.1 q.1)
  have e9 : 1000000000 ^ n = 10 ^ (9 * n) := by rw [Nat.pow_mul]
  have h2 : 10 ^ (9 * n) ≤ 10 ^ j := Nat.pow_le_pow_right (by decide) (by omega)
  rw [e9] at h1
  omega
theorem tl_k {sg : Int32} {n : Nat} {h : Nat → Int32} {v : Int} (q : LNV sg n h v) {j p : Nat} (hj : j / 9 < n) (hp : p = 10 ^ (j % 9)) : dg h (j / 9) / p % 10 = v.natAbs / 10 ^ j % 10 := by
  have h1 := kv_dig (CB_lt q.2.1 q.1) hj
  have h2 : 1000000000 ^ (j / 9) * 10 ^ (j % 9) = 10 ^ j := by
    have e9 : 1000000000 ^ (j / 9) = 10 ^ (9 * (j / 9)) := by rw [Nat.pow_mul]
    rw [e9, ← Nat.pow_add, Nat.div_add_mod]
  rw [LNV_abs q, hp, ← h1, dig_y9 (Nat.mod_lt _ (by decide)), Nat.div_div_eq_div_mul, h2]
theorem td_0 {NN u : Nat} {h : Nat → Int32} (c : C6 NN h) (hu : 20 * u + 20 ≤ NN) {j : Nat} (hj : 120 ≤ j) : 0 = sl h u / 10 ^ j % 10 := by
  refine dig_hi ?_
  have h1 := sl_lt c hu
  have h2 : 10 ^ 120 ≤ 10 ^ j := Nat.pow_le_pow_right (by decide) hj
  unfold T12 at h1
  omega
theorem td_k {NN u : Nat} {h : Nat → Int32} (c : C6 NN h) (hu : 20 * u + 20 ≤ NN) {j : Nat} (hj : j < 120) : dg h (20 * u + j / 6) / 10 ^ (j % 6) % 10 = sl h u / 10 ^ j % 10 := by
  have h0 : l6 h u (j / 6) = dg h (20 * u + j / 6) := if_pos (by omega)
  have h1 := kw_dig (h := l6 h u) (n := 20) (j := j / 6) (fun i _ => l6_lt c hu i) (by omega)
  have h2 : 1000000 ^ (j / 6) * 10 ^ (j % 6) = 10 ^ j := by rw [pw_6, ← Nat.pow_add, Nat.div_add_mod]
  rw [← h0, ← h1, dig_y6 (Nat.mod_lt _ (by decide)), Nat.div_div_eq_div_mul, h2]
  rfl
theorem td_sl {h : Nat → Int32} {u fr : Nat} (e : fr = 20 * u) : kw (fun i => dg h (fr + i)) 20 = sl h u := by
  subst e
  refine kw_eq (fun i hi => ?_)
  show dg h (20 * u + i) = l6 h u i
  unfold l6
  rw [if_pos hi]
/-- is there an answer? -/
def vaok (sg : GS) (v k : Int32) : Prop := sg.1 ≠ none ∧ vok v = true ∧ -2 ≤ k
def ook (outs : List Int) (v k : Int32) : Prop := ∃ j, j < outs.length ∧ j < 12 ∧ v = nI j ∧ -2 ≤ k
theorem nI_nn {j : Nat} (h : j < 2 ^ 31) : ¬ nI j < 0 := by
  have e0 : (0 : Int32).toInt = 0 := by decide
  rw [Int32.lt_iff_toInt_lt, nI_toInt h, e0]
  omega
theorem ook_n {outs : List Int} {v k : Int32} (h : v < 0) : ¬ ook outs v k := fun ⟨j, h1, h2, h3, h4⟩ => nI_nn (j := j) (by omega) (h3 ▸ h)
theorem ook_l {outs : List Int} {j : Nat} {k : Int32} (hj : j < 2147483648) (h : outs.length ≤ j ∨ 12 ≤ j) : ¬ ook outs (nI j) k := fun ⟨i, h1, h2, h3, h4⟩ => by
  have z := congrArg Int32.toInt h3
  rw [nI_toInt (by omega), nI_toInt (by omega)] at z
  omega
theorem ook_k {outs : List Int} {v k : Int32} (h : ¬ -2 ≤ k) : ¬ ook outs v k := fun ⟨_, _, _, _, h4⟩ => h h4
theorem vok_0 {v : Int32} (h : v < 0) : ¬ vok v = true := fun z => by
  unfold vok at z
  rw [Bool.and_eq_true, decide_eq_true_iff, decide_eq_true_iff] at z
  exact z.1 h
theorem vok_10 {v : Int32} (h : nI 10 ≤ v) : ¬ vok v = true := fun z => by
  unfold vok at z
  rw [Bool.and_eq_true, decide_eq_true_iff, decide_eq_true_iff] at z
  exact z.2 h

