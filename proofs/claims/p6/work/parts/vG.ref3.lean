/-! ===== the reference's division ===== -/
theorem bm64 {x : Int} (h1 : -9223372036854775808 ≤ x) (h2 : x < 9223372036854775808) : x.bmod (2 ^ 64) = x := Int.bmod_eq_of_le (by omega) (by omega)
theorem nL_m : (nL 1000000).toInt = 1000000 := nL_toInt (by decide)
theorem td_b (D : Int) : D = 1000000 * D.tdiv 1000000 + D.tmod 1000000 ∧ (D.tmod 1000000).natAbs < 1000000 := by
  have h1 := Int.mul_tdiv_add_tmod D 1000000
  have h2 := Int.natAbs_tmod D 1000000
  refine ⟨h1.symm, ?_⟩
  rw [h2]
  exact Nat.mod_lt _ (by decide)
theorem i64_div {a : Int64} {D : Int} (h : a.toInt = D) (hb : D.natAbs ≤ 2305843009213693952) : (a / nL 1000000).toInt = D.tdiv 1000000 := by
  obtain ⟨h1, h2⟩ := td_b D
  rw [Int64.toInt_div, h, nL_m, bm64 (by omega) (by omega)]
theorem i64_rem {a : Int64} {D : Int} (h : a.toInt = D) (hb : D.natAbs ≤ 2305843009213693952) : (a - a / nL 1000000 * nL 1000000).toInt = D.tmod 1000000 := by
  obtain ⟨h1, h2⟩ := td_b D
  rw [Int64.toInt_sub, Int64.toInt_mul, i64_div h hb, h, nL_m, bm64 (x := D.tdiv 1000000 * 1000000) (by omega) (by omega), bm64 (by omega) (by omega)]
  omega
theorem hd_r {d r : Int64} {D : Int} (h : d.toInt = D) (hb : D.natAbs ≤ 1152921504606846976) (hr : r = (d - d / nL 1000000 * nL 1000000 + nL 1000000) - (d - d / nL 1000000 * nL 1000000 + nL 1000000) / nL 1000000 * nL 1000000) : r.toInt = D % 1000000 := by
  obtain ⟨h1, h2⟩ := td_b D
  have e1 := i64_rem h (by omega)
  have e2 : (d - d / nL 1000000 * nL 1000000 + nL 1000000).toInt = D.tmod 1000000 + 1000000 := by rw [Int64.toInt_add, e1, nL_m, bm64 (by omega) (by omega)]
  have e3 := i64_rem e2 (by omega)
  rw [hr, e3, Int.tmod_eq_emod_of_nonneg (by omega)]
  omega
theorem hd_c {d r c : Int64} {D : Int} (h : d.toInt = D) (hb : D.natAbs ≤ 1152921504606846976) (hr : r.toInt = D % 1000000) (hc : c = (d - r) / nL 1000000) : c.toInt = D / 1000000 := by
  have e1 : (d - r).toInt = 1000000 * (D / 1000000) := by
    rw [Int64.toInt_sub, h, hr, bm64 (by omega) (by omega)]
    omega
  rw [hc, i64_div e1 (by omega), Int.mul_tdiv_cancel_left _ (by decide)]
theorem hd_n {r : Int64} {D : Int} (hr : r.toInt = D % 1000000) : r = nL (D % 1000000).toNat ∧ (D % 1000000).toNat < 1000000 := by
  refine ⟨Int64.toInt_inj.mp ?_, by omega⟩
  rw [hr, nL_toInt (by omega)]
  omega
theorem hd_D {a b : Nat} {cy d : Int64} {c : Int} (hcy : cy.toInt = c) (h1 : -1000000 ≤ c) (h2 : c ≤ 0) (ha : a < 1000000) (hb : b ≤ 999998000001) (hd : d = nL a - nL b + cy) : d.toInt = (a : Int) - (b : Int) + c := by
  rw [hd, Int64.toInt_add, Int64.toInt_sub, hcy, nL_toInt (by omega), nL_toInt (by omega), bm64 (x := (a : Int) - (b : Int)) (by omega) (by omega), bm64 (by omega) (by omega)]
theorem ho_step {R Y : Nat → Nat} {N i ff : Nat} {c : Int} (e : (N : Int) + c * (1000000 ^ i : Nat) = (kw R i : Int) - (ff : Int) * (kw Y i : Int)) {D : Int} (hD : D = (R i : Int) - ((Y i * ff : Nat) : Int) + c) : ((N + (D % 1000000).toNat * 1000000 ^ i : Nat) : Int) + D / 1000000 * (1000000 ^ (i + 1) : Nat) = (kw R (i + 1) : Int) - (ff : Int) * (kw Y (i + 1) : Int) := by
  rw [kw_s, kw_s, km_s]
  generalize 1000000 ^ i = P at *
  generalize kw R i = KR at *
  generalize kw Y i = KY at *
  have h0 : (((D % 1000000).toNat : Nat) : Int) = D % 1000000 := by omega
  have h1 : D % 1000000 + 1000000 * (D / 1000000) = D := by omega
  have e1 : (D % 1000000) * (P : Int) + (1000000 * (D / 1000000)) * (P : Int) = D * (P : Int) := by rw [← Int.add_mul, h1]
  have e2 : D * (P : Int) = (R i : Int) * P - (Y i : Int) * ff * P + c * P := by
    rw [hD, Int.add_mul, Int.sub_mul, Int.natCast_mul]
  have e3 : D / 1000000 * (((1000000 * P : Nat)) : Int) = (1000000 * (D / 1000000)) * (P : Int) := by
    rw [Int.natCast_mul, ← Int.mul_assoc, Int.mul_comm (D / 1000000)]
    rfl
  have e4 : (ff : Int) * (((KY + Y i * P : Nat)) : Int) = (ff : Int) * KY + (Y i : Int) * ff * P := by
    rw [Int.natCast_add, Int.natCast_mul, Int.mul_add, ← Int.mul_assoc, Int.mul_comm (ff : Int) (Y i : Int)]
  rw [e3, e4, Int.natCast_add, Int.natCast_mul, Int.natCast_add, Int.natCast_mul, h0]
  omega
theorem ho_end {R Y N ff P : Nat} {c : Int} (h2 : c ≤ 0) (hN : N < P) (e : (N : Int) + c * (P : Nat) = (R : Int) - (ff : Int) * (Y : Int)) : (c < 0 → R < ff * Y) ∧ (c = 0 → ff * Y ≤ R ∧ N = R - ff * Y) := by
  have e1 : ((ff * Y : Nat) : Int) = (ff : Int) * (Y : Int) := Int.natCast_mul _ _
  rw [← e1] at e
  refine ⟨fun h => ?_, fun h => ?_⟩
  · have : c * (P : Int) ≤ (-1) * (P : Int) := Int.mul_le_mul_of_nonneg_right (by omega) (by omega)
    omega
  · subst h
    rw [Int.zero_mul] at e
    omega
theorem ho_nlt {N i r : Nat} (h : N < 1000000 ^ i) (hr : r < 1000000) : N + r * 1000000 ^ i < 1000000 ^ (i + 1) := by
  have : r * 1000000 ^ i ≤ 999999 * 1000000 ^ i := Nat.mul_le_mul_right _ (by omega)
  rw [km_s]
  omega
/-- the rest moved up by a limb -/
theorem sh_val {h h1 : Nat → Int32} {n : Nat} {a : Nat} (hs : ∀ k, k < n → dg h1 (k + 1) = dg h k) (h0 : dg h1 0 = a) : kw (dg h1) (n + 1) = a + 1000000 * kw (dg h) n := by
  rw [kw_sh, h0, kw_eq (h := fun i => dg h1 (i + 1)) (k := dg h) hs]
theorem lt0 {c : Int64} {x : Int} (h : c.toInt = x) : (nL 0 ≤ c → 0 ≤ x) ∧ (¬ nL 0 ≤ c → x < 0) := by
  have e : (nL 0).toInt = 0 := by decide
  refine ⟨fun q => ?_, fun q => ?_⟩
  · rw [Int64.le_iff_toInt_le, e, h] at q; exact q
  · rw [Int64.le_iff_toInt_le, e, h] at q; omega
/-- a number below a power has no limbs there -/
theorem kw_hi0 {h : Nat → Nat} {m n k : Nat} (hl : kw h n < 1000000 ^ m) (hm : m ≤ k) (hk : k < n) : h k = 0 := by
  rcases Nat.eq_zero_or_pos (h k) with q | q
  · exact q
  · have e := kw_sp h k (n - k)
    rw [show k + (n - k) = n by omega] at e
    have e2 := kw_sh (fun i => h (k + i)) (n - k - 1)
    rw [show n - k - 1 + 1 = n - k by omega] at e2
    have e3 : h (k + 0) = h k := by rw [Nat.add_zero]
    have e4 : 1 ≤ kw (fun i => h (k + i)) (n - k) := by rw [e2]; show 1 ≤ h (k + 0) + _; omega
    have e5 := Nat.mul_le_mul_right (1000000 ^ k) e4
    have e6 : 1000000 ^ m ≤ 1000000 ^ k := Nat.pow_le_pow_right (by decide) hm
    omega
/-- one limb of the quotient -/
theorem dv6_step {h hl : Nat → Int32} {x j ff Y R R1 : Nat} (hff : ff < 2147483648) (e : kw (fun i => l6 hl x (j + 1 + i)) (20 - (j + 1)) = kw (fun i => dg h (j + 1 + i)) (20 - (j + 1)) * Y + R) (hj : j < 20) (hR1 : R1 = l6 hl x j + 1000000 * R) (hf : ff * Y ≤ R1) : kw (fun i => l6 hl x (j + i)) (20 - j) = kw (fun i => dg (upd h j (nI ff)) (j + i)) (20 - j) * Y + (R1 - ff * Y) := by
  rw [show 20 - j = 20 - (j + 1) + 1 by omega, kw_sh, kw_sh]
  have e1 : kw (fun i => l6 hl x (j + (i + 1))) (20 - (j + 1)) = kw (fun i => l6 hl x (j + 1 + i)) (20 - (j + 1)) := kw_eq (fun i _ => by rw [Nat.add_assoc, Nat.add_comm 1 i])
  have e2 : kw (fun i => dg (upd h j (nI ff)) (j + (i + 1))) (20 - (j + 1)) = kw (fun i => dg h (j + 1 + i)) (20 - (j + 1)) := kw_eq (fun i _ => by rw [dg_ne (by omega), Nat.add_assoc, Nat.add_comm 1 i])
  rw [e1, e2, e]
  show l6 hl x (j + 0) + _ = (dg (upd h j (nI ff)) (j + 0) + _) * Y + _
  rw [Nat.add_zero j, dg_at hff, Nat.add_mul, Nat.mul_add, hR1, ← Nat.mul_assoc 1000000]
  have e4 : 1000000 * kw (fun i => dg h (j + 1 + i)) (20 - (j + 1)) * Y = 1000000 * (kw (fun i => dg h (j + 1 + i)) (20 - (j + 1)) * Y) := Nat.mul_assoc _ _ _
  rw [Nat.mul_assoc 1000000]
  rw [hR1] at hf
  omega
theorem dv6_end {h hl : Nat → Int32} {x Y R : Nat} (hz : ∀ k, 20 ≤ k → k < 44 → dg h k = 0) (hR : R < Y) (e : kw (fun i => l6 hl x (0 + i)) (20 - 0) = kw (fun i => dg h (0 + i)) (20 - 0) * Y + R) : kw (dg h) 44 = sl hl x / Y ∧ R = sl hl x % Y := by
  have e1 : kw (fun i => l6 hl x (0 + i)) (20 - 0) = sl hl x := kw_eq (fun i _ => by rw [Nat.zero_add])
  have e2 : kw (fun i => dg h (0 + i)) (20 - 0) = kw (dg h) 44 := by
    rw [kw_up (h := dg h) (m := 20) (n := 44) (by omega) hz]
    exact kw_eq (fun i _ => by rw [Nat.zero_add])
  rw [e1, e2] at e
  have := dm_of e hR
  exact ⟨this.1.symm, this.2.symm⟩
theorem bt_in {R Y ff b P : Nat} (h : R < (ff + P) * Y) (hP : P = b + b) : R < (ff + b + b) * Y := by subst hP; rw [Nat.add_assoc]; exact h
theorem bt_2 (e : Nat) (he : 0 < e) : 2 ^ e / 2 = 2 ^ (e - 1) ∧ 2 ^ e / 2 + 2 ^ e / 2 = 2 ^ e := by
  obtain ⟨k, rfl⟩ : ∃ k, e = k + 1 := ⟨e - 1, by omega⟩
  rw [Nat.pow_succ, Nat.mul_div_cancel _ (by decide), Nat.add_sub_cancel]
  omega
theorem bt_0 (e : Nat) : 0 < 2 ^ e / 2 ↔ 0 < e := by
  rcases Nat.eq_zero_or_pos e with q | q
  · subst q; decide
  · rw [(bt_2 e q).1]; exact ⟨fun _ => q, fun _ => Nat.pow_pos (by decide)⟩
/-! ===== how many decimal digits ===== -/
def DGT (d N : Nat) : Prop := (N = 0 ∧ d = 1) ∨ (0 < d ∧ 10 ^ (d - 1) ≤ N ∧ N < 10 ^ d)
theorem pw_6 (i : Nat) : 1000000 ^ i = 10 ^ (6 * i) := by rw [Nat.pow_mul]
theorem dt_step {N X i kk : Nat} (hN : N < 1000000 ^ i) (hk : 0 < kk) (h1 : 10 ^ (kk - 1) ≤ X) (h2 : X < 10 ^ kk) : DGT (6 * i + kk) (N + X * 1000000 ^ i) := by
  rw [pw_6] at hN ⊢
  have p0 : 0 < 10 ^ (6 * i) := Nat.pow_pos (by decide)
  refine Or.inr ⟨by omega, ?_, ?_⟩
  · have := Nat.mul_le_mul_right (10 ^ (6 * i)) h1
    rw [← Nat.pow_add, show kk - 1 + 6 * i = 6 * i + kk - 1 by omega] at this
    omega
  · have := Nat.mul_le_mul_right (10 ^ (6 * i)) (show X + 1 ≤ 10 ^ kk from h2)
    rw [← Nat.pow_add, show kk + 6 * i = 6 * i + kk by omega, Nat.add_mul] at this
    omega
theorem ds_k {X kk q : Nat} (hX : X < 1000000) (hk : 1 ≤ kk ∧ kk ≤ 7) (hq : q = X / 10 ^ (kk - 1)) (h0 : 0 < q) : 1 ≤ kk + 1 ∧ kk + 1 ≤ 7 := by
  rcases Nat.lt_or_ge kk 7 with z | z
  · omega
  · obtain rfl : kk = 7 := by omega
    rw [Nat.div_eq_of_lt (show X < 10 ^ (7 - 1) from hX)] at hq
    omega
theorem ds_q {X kk q : Nat} (hk : 1 ≤ kk ∧ kk ≤ 7) (hq : q = X / 10 ^ (kk - 1)) : q / 10 = X / 10 ^ (kk + 1 - 1) := by
  obtain ⟨m, rfl⟩ : ∃ m, kk = m + 1 := ⟨kk - 1, by omega⟩
  rw [Nat.add_sub_cancel] at hq ⊢
  rw [hq, Nat.div_div_eq_div_mul, ← Nat.pow_succ]
theorem ds_i {X kk q i dd : Nat} (hk : 1 ≤ kk ∧ kk ≤ 7) (hq : q = X / 10 ^ (kk - 1)) (h0 : 0 < q) : (kk + 1 = 1 ∧ 6 * i + kk = dd) ∨ (2 ≤ kk + 1 ∧ 10 ^ (kk + 1 - 2) ≤ X ∧ 6 * i + kk = 6 * i + (kk + 1 - 1)) := by
  refine Or.inr ⟨by omega, ?_, by omega⟩
  rw [show kk + 1 - 2 = kk - 1 by omega]
  rcases Nat.lt_or_ge X (10 ^ (kk - 1)) with z | z
  · rw [Nat.div_eq_of_lt z] at hq; omega
  · exact z
theorem ds_e {X kk q i dd d8 : Nat} (hq : q = X / 10 ^ (kk - 1)) (h0 : q = 0) (h : (kk = 1 ∧ d8 = dd) ∨ (2 ≤ kk ∧ 10 ^ (kk - 2) ≤ X ∧ d8 = 6 * i + (kk - 1))) : (X = 0 ∧ d8 = dd) ∨ (0 < kk - 1 ∧ 10 ^ (kk - 1 - 1) ≤ X ∧ X < 10 ^ (kk - 1) ∧ d8 = 6 * i + (kk - 1)) := by
  have hX : X < 10 ^ (kk - 1) := by
    rcases Nat.lt_or_ge X (10 ^ (kk - 1)) with z | z
    · exact z
    · have := Nat.div_pos z (Nat.pow_pos (by decide) : 0 < 10 ^ (kk - 1))
      omega
  rcases h with ⟨e1, e2⟩ | ⟨e1, e2, e3⟩
  · subst e1
    have : X < 1 := hX
    exact Or.inl ⟨by omega, e2⟩
  · exact Or.inr ⟨by omega, by rw [show kk - 1 - 1 = kk - 2 by omega]; exact e2, hX, e3⟩

