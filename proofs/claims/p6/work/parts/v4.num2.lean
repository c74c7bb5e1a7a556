/-! ===== the sign of a machine number ===== -/
theorem sgm_a (v : Int64) : v >>> ((nI 63).toInt64 &&& 63) = if v.toInt < 0 then (-1 : Int64) else 0 := by
  have e : (nI 63).toInt64 &&& 63 = (63 : Int64) := by decide
  have h1 : (v >>> (63 : Int64)).toInt = v.toInt >>> 63 := by
    show (BitVec.sshiftRight' v.toBitVec ((63 : Int64).toBitVec.smod 64)).toInt = _
    rw [show ((63 : Int64).toBitVec.smod 64) = 63#64 by decide]
    exact BitVec.toInt_sshiftRight
  have h2 := Int64.le_toInt v
  have h3 := Int64.toInt_lt v
  apply Int64.toInt_inj.mp
  rw [e, h1, Int.shiftRight_eq_div_pow]
  by_cases q : v.toInt < 0
  · rw [if_pos q]
    show v.toInt / 9223372036854775808 = -1
    omega
  · rw [if_neg q]
    show v.toInt / 9223372036854775808 = 0
    omega
theorem bv_ti (x : BitVec 64) : x.toInt = if 2 * x.toNat < 18446744073709551616 then (x.toNat : Int) else (x.toNat : Int) - 18446744073709551616 := BitVec.toInt_eq_toNat_cond x
theorem neg_ti {v : Int64} (hm : -9223372036854775808 < v.toInt) : (-v).toInt = - v.toInt := by
  have h3 := Int64.toInt_lt v
  rw [Int64.toInt_neg, Int.bmod_eq_of_le (by omega) (by omega)]
theorem sgm_b {v : Int64} (hm : -9223372036854775808 < v.toInt) : ((-v).toUInt64 >>> ((nI 63).toInt64.toUInt64 &&& Int64.toUInt64 63)).toInt64 = if 0 < v.toInt then (1 : Int64) else 0 := by
  have e : (nI 63).toInt64.toUInt64 &&& Int64.toUInt64 63 = (63 : UInt64) := by decide
  rw [e]
  have h1 : ((-v).toUInt64 >>> (63 : UInt64)).toInt64.toBitVec.toNat = (-v).toBitVec.toNat / 9223372036854775808 := by
    show ((-v).toBitVec >>> ((63 : UInt64).toBitVec % 64)).toNat = _
    rw [show ((63 : UInt64).toBitVec % 64) = 63#64 by decide]
    show ((-v).toBitVec >>> (63 : Nat)).toNat = _
    rw [BitVec.toNat_ushiftRight, Nat.shiftRight_eq_div_pow]
  have h2 := bv_ti (-v).toBitVec
  have h4 : (-v).toBitVec.toInt = - v.toInt := neg_ti hm
  have h5 := (-v).toBitVec.isLt
  rw [h4] at h2
  have h3 := Int64.toInt_lt v
  apply Int64.toBitVec_inj.mp
  apply BitVec.eq_of_toNat_eq
  rw [h1]
  by_cases q : 0 < v.toInt
  · rw [if_pos q]
    show _ = 1
    by_cases z : 2 * (-v).toBitVec.toNat < 18446744073709551616
    · rw [if_pos z] at h2; omega
    · omega
  · rw [if_neg q]
    show _ = 0
    by_cases z : 2 * (-v).toBitVec.toNat < 18446744073709551616
    · omega
    · rw [if_neg z] at h2; omega
def sgI (v : Int) : Int32 := if v < 0 then -1 else if 0 < v then nI 1 else nI 0
theorem sgm {v a b c : Int64} (h1 : a = v >>> ((nI 63).toInt64 &&& 63)) (h2 : b = ((-v).toUInt64 >>> ((nI 63).toInt64.toUInt64 &&& Int64.toUInt64 63)).toInt64) (h3 : c = a ||| b) (hm : -9223372036854775808 < v.toInt) : c.toInt32 = sgI v.toInt := by
  rw [sgm_a] at h1
  rw [sgm_b hm] at h2
  unfold sgI
  subst h3
  by_cases q : v.toInt < 0
  · rw [if_pos q] at h1
    rw [if_neg (by omega)] at h2
    rw [if_pos q, h1, h2]
    decide
  · rw [if_neg q] at h1
    rw [if_neg q, h1, h2]
    by_cases z : 0 < v.toInt
    · rw [if_pos z, if_pos z]; decide
    · rw [if_neg z, if_neg z]; decide
theorem sgI_t (v : Int) : (sgI v).toInt = v.sign := by
  unfold sgI
  by_cases q : v < 0
  · rw [if_pos q, ti_m, Int.sign_eq_neg_one_of_neg q]
  · rw [if_neg q]
    by_cases z : 0 < v
    · rw [if_pos z, ti_1, Int.sign_eq_one_of_pos z]
    · rw [if_neg z, ti_0, show v = 0 by omega]; rfl
theorem kA_t5 {v : Int64} (hm : -9223372036854775808 < v.toInt) : (kA v).toInt = (v.toInt.natAbs : Int) := by
  unfold kA
  by_cases q : 0 < v
  · rw [if_pos q]
    have : 0 < v.toInt := Int64.lt_iff_toInt_lt.mp q
    omega
  · rw [if_neg q, neg_ti hm]
    have : ¬ 0 < v.toInt := fun z => q (Int64.lt_iff_toInt_lt.mpr z)
    omega
theorem kA_n {v : Int64} (hm : -9223372036854775808 < v.toInt) : kA v = nL v.toInt.natAbs ∧ v.toInt.natAbs < 9223372036854775808 := by
  have h3 := Int64.toInt_lt v
  refine ⟨Int64.toInt_inj.mp ?_, by omega⟩
  rw [kA_t5 hm, nL_toInt (by omega)]
/-- a machine number as limbs -/
theorem st_step {h : Nat → Int32} {i q Q : Nat} (e : kv (dg h) i + q * 1000000000 ^ i = Q) : kv (dg (upd h i (nI (q % 1000000000)))) (i + 1) + q / 1000000000 * 1000000000 ^ (i + 1) = Q := by
  rw [kv_upd (by omega), kn_s, ← e]
  have hd := Nat.div_add_mod q 1000000000
  generalize q / 1000000000 = a at *
  generalize q % 1000000000 = b at *
  generalize 1000000000 ^ i = P at *
  subst hd
  rw [Nat.add_mul, ← Nat.mul_assoc a, Nat.mul_comm a]
  omega
theorem st_end {v : Int} {h : Nat → Int32} {i q : Nat} (c : CB h) (hi : i ≤ 15) (hq : q = 0) (e : kv (dg h) i + q * 1000000000 ^ i = v.natAbs) (ht : 0 < i → dg h (i - 1) ≠ 0) : LNV (sgI v) i h v := by
  subst hq
  have e : kv (dg h) i = v.natAbs := by omega
  refine ⟨hi, c, ?_, ht, ?_⟩
  · rcases Nat.eq_zero_or_pos i with z | z
    · subst z
      have : v = 0 := by have : (0 : Nat) = v.natAbs := e; omega
      exact Or.inl ⟨rfl, by rw [this]; rfl⟩
    · have := kv_pos (h := dg h) z (ht z)
      refine Or.inr ⟨z, ?_⟩
      unfold sgI
      by_cases q : v < 0
      · rw [if_pos q]; exact Or.inr rfl
      · rw [if_neg q, if_pos (by omega)]; exact Or.inl rfl
  · rw [sgI_t, e]; exact (Int.sign_mul_natAbs v).symm
/-- limbs as a machine number -/
theorem tm_step {d : Nat → Nat} {j q N : Nat} (e : q * 1000000000 ^ (j + 1) + kv d (j + 1) = N) : (q * 1000000000 + d j) * 1000000000 ^ j + kv d j = N := by
  rw [kv_s, kn_s] at e
  rw [Nat.add_mul, Nat.mul_assoc]
  omega
theorem tm_le {d : Nat → Nat} {j q N : Nat} (e : q * 1000000000 ^ j + kv d j = N) : q ≤ N := by
  have := Nat.mul_le_mul_left q (kn_pos j)
  omega
theorem tm_end {sg : Int32} {n : Nat} {h : Nat → Int32} {v : Int} {q : Nat} (x : LNV sg n h v) (hb : v.natAbs ≤ 1152921504606846976) (e : q * 1000000000 ^ 0 + kv (dg h) 0 = v.natAbs) : (sg < nI 0 → (-nL q).toInt = v) ∧ (¬ sg < nI 0 → (nL q).toInt = v) := by
  have e : q = v.natAbs := by
    have : q * 1 + 0 = v.natAbs := e
    omega
  have hs := LNV_sg x
  have h1 : (nL q).toInt = (v.natAbs : Int) := by rw [e]; exact nL_toInt (by omega)
  have h2 : (-nL q).toInt = -(v.natAbs : Int) := by rw [neg_ti (by omega), h1]
  have h3 : sg < nI 0 ↔ v < 0 := by
    rw [Int32.lt_iff_toInt_lt, hs, ti_0]
    exact Int.sign_neg_iff
  refine ⟨fun z => ?_, fun z => ?_⟩
  · have := h3.mp z; omega
  · have : ¬ v < 0 := fun w => z (h3.mpr w)
    omega
/-! ===== products ===== -/
theorem kv_set {h : Nat → Int32} {i k : Nat} (hk : k < 2 ^ 31) : ∀ {n : Nat}, i < n → kv (dg (upd h i (nI k))) n + dg h i * 1000000000 ^ i = kv (dg h) n + k * 1000000000 ^ i := by
  intro n
  induction n with
  | zero => intro q; omega
  | succ n ih =>
    intro q
    by_cases z : i = n
    · subst z
      rw [kv_upd hk, kv_s]
      omega
    · have := ih (by omega)
      rw [kv_s, kv_s, dg_ne (fun w => z w.symm)]
      omega
theorem sp_step {h h0 hz : Nat → Int32} {i j n cy a : Nat} (hj : j < n) (e : kv (dg h) (i + n) + cy * 1000000000 ^ (i + j) = kv (dg h0) (i + n) + a * kv (dg hz) j * 1000000000 ^ i) : kv (dg (upd h (i + j) (nI ((cy + (dg h (i + j) + a * dg hz j)) % 1000000000)))) (i + n) + (cy + (dg h (i + j) + a * dg hz j)) / 1000000000 * 1000000000 ^ (i + (j + 1)) = kv (dg h0) (i + n) + a * kv (dg hz) (j + 1) * 1000000000 ^ i := by
  have hd := Nat.div_add_mod (cy + (dg h (i + j) + a * dg hz j)) 1000000000
  have hs := kv_set (h := h) (i := i + j) (k := (cy + (dg h (i + j) + a * dg hz j)) % 1000000000) (by omega) (n := i + n) (by omega)
  generalize (cy + (dg h (i + j) + a * dg hz j)) / 1000000000 = q at *
  generalize (cy + (dg h (i + j) + a * dg hz j)) % 1000000000 = r at *
  have e1 : 1000000000 ^ (i + (j + 1)) = 1000000000 * 1000000000 ^ (i + j) := by rw [← Nat.add_assoc, kn_s]
  have e2 : a * kv (dg hz) (j + 1) * 1000000000 ^ i = a * kv (dg hz) j * 1000000000 ^ i + a * dg hz j * 1000000000 ^ (i + j) := by
    rw [kv_s, Nat.mul_add, Nat.add_mul, Nat.pow_add, ← Nat.mul_assoc a, Nat.mul_assoc (a * dg hz j), Nat.mul_comm (1000000000 ^ j)]
  rw [e1, e2]
  have e3 : q * (1000000000 * 1000000000 ^ (i + j)) = 1000000000 * q * 1000000000 ^ (i + j) := by rw [← Nat.mul_assoc, Nat.mul_comm q]
  rw [e3]
  generalize 1000000000 ^ (i + j) = P at *
  have e4 : 1000000000 * q * P + r * P = (cy + (dg h (i + j) + a * dg hz j)) * P := by rw [← Nat.add_mul, hd]
  rw [Nat.add_mul, Nat.add_mul] at e4
  omega
theorem sp_out {h h0 hy hz : Nat → Int32} {i n cy : Nat} (hcy : cy < 2 ^ 31) (e0 : kv (dg h0) (i + n) = kv (dg hy) i * kv (dg hz) n) (e : kv (dg h) (i + n) + cy * 1000000000 ^ (i + n) = kv (dg h0) (i + n) + dg hy i * kv (dg hz) n * 1000000000 ^ i) : kv (dg (upd h (i + n) (nI cy))) (i + 1 + n) = kv (dg hy) (i + 1) * kv (dg hz) n := by
  rw [show i + 1 + n = i + n + 1 by omega, kv_upd hcy, e, e0, kv_s, Nat.add_mul, Nat.mul_assoc (dg hy i), Nat.mul_assoc (dg hy i), Nat.mul_comm (kv (dg hz) n)]
theorem kv_z {h : Nat → Int32} {n : Nat} (hz : ∀ k, k < n → dg h k = 0) : kv (dg h) n = 0 := by
  induction n with
  | zero => rfl
  | succ n ih => rw [kv_s, ih (fun k hk => hz k (by omega)), hz n (by omega)]; simp
theorem LS_mul {a b : Int32} {m n : Nat} (ha : LSg a m) (hb : LSg b n) (d e : Nat → Nat) : FS (a * b) (kv d m * kv e n) ∧ (a * b).toInt = a.toInt * b.toInt := by
  rcases ha with ⟨rfl, rfl⟩ | ⟨-, rfl | rfl⟩
  · rcases hb with ⟨rfl, rfl⟩ | ⟨-, rfl | rfl⟩
    · exact ⟨Or.inr ⟨by decide, by simp [kv]⟩, by decide⟩
    · exact ⟨Or.inr ⟨by decide, by simp [kv]⟩, by decide⟩
    · exact ⟨Or.inr ⟨by decide, by simp [kv]⟩, by decide⟩
  · rcases hb with ⟨rfl, rfl⟩ | ⟨-, rfl | rfl⟩
    · exact ⟨Or.inr ⟨by decide, by simp [kv]⟩, by decide⟩
    · exact ⟨Or.inl (Or.inl (by decide)), by decide⟩
    · exact ⟨Or.inl (Or.inr (by decide)), by decide⟩
  · rcases hb with ⟨rfl, rfl⟩ | ⟨-, rfl | rfl⟩
    · exact ⟨Or.inr ⟨by decide, by simp [kv]⟩, by decide⟩
    · exact ⟨Or.inl (Or.inr (by decide)), by decide⟩
    · exact ⟨Or.inl (Or.inl (by decide)), by decide⟩
theorem sp_big {sy sz : Int32} {ny nz : Nat} {hy hz : Nat → Int32} {vy vz : Int} (qy : LNV sy ny hy vy) (qz : LNV sz nz hz vz) (h : 15 < ny + nz) : T12 ≤ (vy * vz).natAbs := by
  have a1 := qy.1
  have a2 := qz.1
  rw [Int.natAbs_mul, LNV_abs qy, LNV_abs qz]
  obtain ⟨m, rfl⟩ : ∃ m, ny = m + 1 := ⟨ny - 1, by omega⟩
  obtain ⟨n, rfl⟩ : ∃ n, nz = n + 1 := ⟨nz - 1, by omega⟩
  have t1 := qy.2.2.2.1 (by omega)
  have t2 := qz.2.2.2.1 (by omega)
  rw [Nat.add_sub_cancel] at t1 t2
  have p1 : 1 * 1000000000 ^ m ≤ dg hy m * 1000000000 ^ m := Nat.mul_le_mul_right _ (by omega)
  have p2 : 1 * 1000000000 ^ n ≤ dg hz n * 1000000000 ^ n := Nat.mul_le_mul_right _ (by omega)
  have l1 : 1000000000 ^ m ≤ kv (dg hy) (m + 1) := by rw [kv_s]; omega
  have l2 : 1000000000 ^ n ≤ kv (dg hz) (n + 1) := by rw [kv_s]; omega
  have l3 := Nat.mul_le_mul l1 l2
  rw [← Nat.pow_add] at l3
  have l4 : 1000000000 ^ 14 ≤ 1000000000 ^ (m + n) := Nat.pow_le_pow_right (by decide) (by omega)
  have h3 := pw_14
  generalize 1000000000 ^ 14 = P at *
  generalize 1000000000 ^ (m + n) = R at *
  omega
def LVF (g : Lay) (f : Nat → va_E) (x : Nat) (v : Int) : Prop := LV g f x v ∧ v.natAbs < T12

