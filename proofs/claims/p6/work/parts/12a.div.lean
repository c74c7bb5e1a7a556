/-! ===== limbs as natural numbers ===== -/
def dg (h : Nat → Int32) (i : Nat) : Nat := (h i).toNatClampNeg
theorem dg_is {h : Nat → Int32} {i k : Nat} (hk : k < 2 ^ 31) (e : h i = nI k) : dg h i = k := by unfold dg; rw [e]; exact nI_clamp hk
theorem dg_lt {n : Nat} {h : Nat → Int32} (c : ∀ j, j < n → ∃ k, k < 1000000000 ∧ h j = nI k) {j : Nat} (hj : j < n) : dg h j < 1000000000 := by
  obtain ⟨k, h1, h2⟩ := c j hj
  rw [dg_is (by omega) h2]; exact h1
theorem dg_eq {n : Nat} {h : Nat → Int32} (c : ∀ j, j < n → ∃ k, k < 1000000000 ∧ h j = nI k) {j : Nat} (hj : j < n) : h j = nI (dg h j) := by
  obtain ⟨k, h1, h2⟩ := c j hj
  rw [dg_is (by omega) h2]; exact h2
theorem dg_at {h : Nat → Int32} {i k : Nat} (hk : k < 2 ^ 31) : dg (upd h i (nI k)) i = k := dg_is hk (upd_at _ _ _)
theorem dg_ne {h : Nat → Int32} {i j : Nat} {x : Int32} (q : j ≠ i) : dg (upd h i x) j = dg h j := by unfold dg; rw [upd_ne _ _ q]
theorem kv_upd {h : Nat → Int32} {i k : Nat} (hk : k < 2 ^ 31) : kv (dg (upd h i (nI k))) (i + 1) = kv (dg h) i + k * 1000000000 ^ i := by
  rw [kv_s, dg_at hk, kv_eq (k := dg h) (fun j hj => dg_ne (by omega))]
theorem kv_updp {h : Nat → Int32} {p i k : Nat} (hk : k < 2 ^ 31) : kv (fun j => dg (upd h (p + i) (nI k)) (p + j)) (i + 1) = kv (fun j => dg h (p + j)) i + k * 1000000000 ^ i := by
  rw [kv_s, dg_at hk, kv_eq (k := fun j => dg h (p + j)) (fun j hj => dg_ne (by omega))]
theorem en_step {h hx : Nat → Int32} {s cy i : Nat} (e : kv (dg h) i + cy * 1000000000 ^ i = s * kv (dg hx) i) : kv (dg (upd h i (nI ((cy + dg hx i * s) % 1000000000)))) (i + 1) + ((cy + dg hx i * s) / 1000000000) * 1000000000 ^ (i + 1) = s * kv (dg hx) (i + 1) := by
  rw [kv_upd (by omega), kn_s, kv_s]
  exact kn_en e
theorem ta_same {h hU : Nat → Int32} {p i : Nat} (hs : ∀ j, ¬ (p ≤ j ∧ j < p + i) → h j = hU j) : dg h (p + i) = dg hU (p + i) := by unfold dg; rw [hs _ (by omega)]
theorem ta_step1 {h hU w : Nat → Int32} {gs cy p i : Nat} (hs : ∀ j, ¬ (p ≤ j ∧ j < p + i) → h j = hU j) (hu : dg h (p + i) < 1000000000) (e : kv (fun j => dg h (p + j)) i + gs * kv (dg w) i = kv (fun j => dg hU (p + j)) i + cy * 1000000000 ^ i) (hm : (cy + gs * dg w i) % 1000000000 ≤ dg h (p + i)) :
    kv (fun j => dg (upd h (p + i) (nI (dg h (p + i) - (cy + gs * dg w i) % 1000000000))) (p + j)) (i + 1) + gs * kv (dg w) (i + 1) = kv (fun j => dg hU (p + j)) (i + 1) + ((cy + gs * dg w i) / 1000000000) * 1000000000 ^ (i + 1) := by
  rw [kv_updp (by omega), kn_s, kv_s (dg w), kv_s (fun j => dg hU (p + j)), ← ta_same hs]
  exact (kn_ta e hu).1 hm
theorem ta_step2 {h hU w : Nat → Int32} {gs cy p i : Nat} (hs : ∀ j, ¬ (p ≤ j ∧ j < p + i) → h j = hU j) (hu : dg h (p + i) < 1000000000) (e : kv (fun j => dg h (p + j)) i + gs * kv (dg w) i = kv (fun j => dg hU (p + j)) i + cy * 1000000000 ^ i) (hm : dg h (p + i) < (cy + gs * dg w i) % 1000000000) :
    kv (fun j => dg (upd h (p + i) (nI (dg h (p + i) + 1000000000 - (cy + gs * dg w i) % 1000000000))) (p + j)) (i + 1) + gs * kv (dg w) (i + 1) = kv (fun j => dg hU (p + j)) (i + 1) + ((cy + gs * dg w i) / 1000000000 + 1) * 1000000000 ^ (i + 1) := by
  rw [kv_updp (by omega), kn_s, kv_s (dg w), kv_s (fun j => dg hU (p + j)), ← ta_same hs]
  exact (kn_ta e hu).2 hm
theorem up_same {h hU : Nat → Int32} {p i : Nat} {x : Int32} (hs : ∀ j, ¬ (p ≤ j ∧ j < p + i) → h j = hU j) : ∀ j, ¬ (p ≤ j ∧ j < p + (i + 1)) → upd h (p + i) x j = hU j := fun j q => by rw [upd_ne _ _ (by omega)]; exact hs j (by omega)
theorem pb_step1 {h hU w : Nat → Int32} {cy p i : Nat} (hs : ∀ j, ¬ (p ≤ j ∧ j < p + i) → h j = hU j) (hb : dg h (p + i) + dg w i + cy < 2147483648) (e : kv (fun j => dg h (p + j)) i + cy * 1000000000 ^ i = kv (fun j => dg hU (p + j)) i + kv (dg w) i) (hm : 1000000000 ≤ dg h (p + i) + dg w i + cy) :
    kv (fun j => dg (upd h (p + i) (nI (dg h (p + i) + dg w i + cy - 1000000000))) (p + j)) (i + 1) + 1 * 1000000000 ^ (i + 1) = kv (fun j => dg hU (p + j)) (i + 1) + kv (dg w) (i + 1) := by
  rw [kv_updp (by omega), kn_s, kv_s (dg w), kv_s (fun j => dg hU (p + j)), ← ta_same hs]
  exact (kn_pb e).1 hm
theorem pb_step2 {h hU w : Nat → Int32} {cy p i : Nat} (hs : ∀ j, ¬ (p ≤ j ∧ j < p + i) → h j = hU j) (e : kv (fun j => dg h (p + j)) i + cy * 1000000000 ^ i = kv (fun j => dg hU (p + j)) i + kv (dg w) i) (hm : dg h (p + i) + dg w i + cy < 1000000000) :
    kv (fun j => dg (upd h (p + i) (nI (dg h (p + i) + dg w i + cy - 0))) (p + j)) (i + 1) + 0 * 1000000000 ^ (i + 1) = kv (fun j => dg hU (p + j)) (i + 1) + kv (dg w) (i + 1) := by
  rw [kv_updp (by omega), kn_s, kv_s (dg w), kv_s (fun j => dg hU (p + j)), ← ta_same hs]
  exact (kn_pb e).2 hm
/-- the limbs of what is divided at a place: its two highest ones, and the third -/
theorem gu_U {u : Nat → Nat} {n : Nat} (hn : 0 < n) (hu : ∀ i, i < n + 1 → u i < 1000000000) : (u n * 1000000000 + u (n - 1)) * 1000000000 ^ (n - 1) ≤ kv u (n + 1) ∧ kv u (n + 1) < (u n * 1000000000 + u (n - 1) + 1) * 1000000000 ^ (n - 1) := by
  obtain ⟨k, rfl⟩ : ∃ k, n = k + 1 := ⟨n - 1, by omega⟩
  have := kv_lt (h := u) (n := k) (fun i hi => hu i (by omega))
  rw [Nat.add_sub_cancel, kv_s, kv_s, kn_s, Nat.add_mul, Nat.add_mul, Nat.add_mul, Nat.mul_assoc]
  omega
theorem gu_V {w : Nat → Nat} {n : Nat} (hn : 0 < n) (hw : ∀ i, i < n → w i < 1000000000) : w (n - 1) * 1000000000 ^ (n - 1) ≤ kv w n ∧ kv w n < (w (n - 1) + 1) * 1000000000 ^ (n - 1) := by
  obtain ⟨k, rfl⟩ : ∃ k, n = k + 1 := ⟨n - 1, by omega⟩
  exact kv_top hw
theorem gu_U2 {u : Nat → Nat} {n : Nat} (hn : 1 < n) (hu : ∀ i, i < n + 1 → u i < 1000000000) : ((u n * 1000000000 + u (n - 1)) * 1000000000 + u (n - 2)) * 1000000000 ^ (n - 2) ≤ kv u (n + 1) ∧ kv u (n + 1) < ((u n * 1000000000 + u (n - 1)) * 1000000000 + u (n - 2) + 1) * 1000000000 ^ (n - 2) := by
  obtain ⟨k, rfl⟩ : ∃ k, n = k + 2 := ⟨n - 2, by omega⟩
  have := kv_lt (h := u) (n := k) (fun i hi => hu i (by omega))
  have e1 : k + 2 - 2 = k := by omega
  have e2 : k + 2 - 1 = k + 1 := by omega
  rw [e1, e2, show k + 2 + 1 = (k + 1) + 1 + 1 from rfl, kv_s, kv_s, kv_s, show k + 1 + 1 = k + 2 from rfl, kn_s (k + 1), kn_s k]
  generalize 1000000000 ^ k = P at *
  generalize u (k + 2) = a at *
  generalize u (k + 1) = b at *
  generalize u k = c at *
  have f1 : a * (1000000000 * (1000000000 * P)) = a * 1000000000 * 1000000000 * P := by rw [← Nat.mul_assoc, ← Nat.mul_assoc]
  have f2 : b * (1000000000 * P) = b * 1000000000 * P := by simp [Nat.mul_assoc]
  simp only [Nat.add_mul]
  omega
theorem gu_V2 {w : Nat → Nat} {n : Nat} (hn : 1 < n) (hw : ∀ i, i < n → w i < 1000000000) : (w (n - 1) * 1000000000 + w (n - 2)) * 1000000000 ^ (n - 2) ≤ kv w n ∧ kv w n < (w (n - 1) * 1000000000 + w (n - 2) + 1) * 1000000000 ^ (n - 2) := by
  obtain ⟨k, rfl⟩ : ∃ k, n = k + 1 := ⟨n - 1, by omega⟩
  exact gu_U (by omega) hw
/-! ===== the guess ===== -/
/-- what holds of a guess on its way: g times the highest limb and what is left make the head, and it isn't too little -/
def gsI (U V h head g left : Nat) : Prop := g * h + left = head ∧ U < (g + 1) * V
theorem gs_0 {U V P h head : Nat} (hU : U < (head + 1) * P) (hV : h * P ≤ V) (h0 : 0 < h) : gsI U V h head (head / h) (head % h) := ⟨by rw [Nat.mul_comm]; exact Nat.div_add_mod head h, kn_g1 hU hV h0⟩
theorem gs_d {U V h head g left : Nat} (hi : gsI U V h head g left) (hg : U < g * V) : 0 < g ∧ gsI U V h head (g - 1) (left + h) := by
  have h0 : 0 < g := by
    rcases Nat.eq_zero_or_pos g with z | z
    · subst z; simp at hg
    · exact z
  exact ⟨h0, kn_dec hi.1 h0, by rw [Nat.sub_add_cancel h0]; exact hg⟩
/-- the digits of the two numbers, as the guess needs them: n = 1 or more -/
def gsD (U V h s third head : Nat) : Prop := (∃ Q, U < (head * 1000000000 + third + 1) * Q ∧ (head * 1000000000 + third) * Q ≤ U ∧ (h * 1000000000 + s) * Q ≤ V ∧ V < (h * 1000000000 + s + 1) * Q) ∨ (s = 0 ∧ third = 0 ∧ V = h ∧ head ≤ U ∧ U < head + 1)
theorem gs_no {U V h s third head g left : Nat} (hd : gsD U V h s third head) (hi : gsI U V h head g left) (hb : left * 1000000000 + third < g * s) : U < g * V := by
  rcases hd with ⟨Q, a1, a2, a3, a4⟩ | ⟨rfl, rfl, rfl, a4, a5⟩
  · exact kn_g3 a1 a3 hi.1 hb
  · omega
theorem gs_yes {U V h s third head g left : Nat} (hd : gsD U V h s third head) (h0 : 0 < h) (hi : gsI U V h head g left) (hg : g < 1000000000) (hb : g * s ≤ left * 1000000000 + third) : g * V < U + V := by
  rcases hd with ⟨Q, a1, a2, a3, a4⟩ | ⟨rfl, rfl, rfl, a4, a5⟩
  · exact kn_g4 a2 a4 a3 h0 hi.1 hg hb
  · exact kn_g4' a4 rfl h0 hi.1
theorem gs_mk {u w : Nat → Nat} {n : Nat} (hn : 0 < n) (hu : ∀ i, i < n + 1 → u i < 1000000000) (hw : ∀ i, i < n → w i < 1000000000) : gsD (kv u (n + 1)) (kv w n) (w (n - 1)) (if 1 < n then w (n - 2) else 0) (if 1 < n then u (n - 2) else 0) (u n * 1000000000 + u (n - 1)) := by
  by_cases h : 1 < n
  · rw [if_pos h, if_pos h]
    have a := gu_U2 h hu
    have b := gu_V2 h hw
    exact Or.inl ⟨_, a.2, a.1, b.1, b.2⟩
  · rw [if_neg h, if_neg h]
    have : n = 1 := by omega
    subst this
    have a := gu_U hn hu
    refine Or.inr ⟨rfl, rfl, ?_, ?_, ?_⟩
    · simp [kv]
    · simpa using a.1
    · simpa using a.2
theorem gs_top {u w : Nat → Nat} {n : Nat} (hn : 0 < n) (hu : ∀ i, i < n + 1 → u i < 1000000000) (hw : ∀ i, i < n → w i < 1000000000) (h : kv u (n + 1) < 1000000000 * kv w n) : u n ≤ w (n - 1) := kn_top (gu_U hn hu).1 (gu_V hn hw).2 h
theorem gs_first {u w : Nat → Nat} {n : Nat} (hn : 0 < n) (hu : ∀ i, i < n + 1 → u i < 1000000000) (hw : ∀ i, i < n → w i < 1000000000) (h0 : 0 < w (n - 1)) : gsI (kv u (n + 1)) (kv w n) (w (n - 1)) (u n * 1000000000 + u (n - 1)) ((u n * 1000000000 + u (n - 1)) / w (n - 1)) ((u n * 1000000000 + u (n - 1)) % w (n - 1)) := gs_0 (gu_U hn hu).2 (gu_V hn hw).1 h0
/-- the end by what is left: BASE or more -/
theorem gs_big {U V h s third a b g left : Nat} (hd : gsD U V h s third (a * 1000000000 + b)) (h0 : 0 < h) (hi : gsI U V h (a * 1000000000 + b) g left) (ha : a ≤ h) (hb : b < 1000000000) (hs : s < 1000000000) (hl : 1000000000 ≤ left) : g < 1000000000 ∧ g * V < U + V := by
  have hg := kn_gB ha hb hi.1 hl
  refine ⟨hg, gs_yes hd h0 hi hg ?_⟩
  have e1 := Nat.mul_le_mul (Nat.le_of_lt hg) (Nat.le_of_lt hs)
  have e2 := Nat.mul_le_mul_right 1000000000 hl
  omega
/-! ===== the start of a division ===== -/
theorem dv_sc {t sc : Nat} (h0 : 0 < t) (ht : t < 1000000000) (hs : sc = 1000000000 / (t + 1)) : 0 < sc ∧ sc ≤ 500000000 ∧ sc * (t + 1) ≤ 1000000000 := by
  subst hs
  refine ⟨Nat.div_pos (by omega) (by omega), ?_, Nat.div_mul_le_self _ _⟩
  have : 1000000000 / (t + 1) ≤ 1000000000 / 2 := Nat.div_le_div_left (by omega) (by decide)
  omega
/-- the enlarged divisor: its limbs below n are all of it -/
theorem dv_V {w y : Nat → Nat} {n t sc : Nat} (hn : 0 < n) (hw : ∀ i, i < 16 → w i < 1000000000) (hy : ∀ i, i < n → y i < 1000000000) (ht : t = y (n - 1)) (h0 : 0 < t) (hs : sc = 1000000000 / (t + 1)) (e : kv w (n + 1) = sc * kv y n) : kv w n = sc * kv y n ∧ 1000000000 ≤ 4 * w (n - 1) ∨ 15 < n := by
  rcases Nat.lt_or_ge 15 n with q | q
  · exact Or.inr q
  left
  have ht2 : t < 1000000000 := by rw [ht]; exact hy _ (by omega)
  obtain ⟨s1, s2, s3⟩ := dv_sc h0 ht2 hs
  have gy := gu_V hn hy
  rw [← ht] at gy
  have hfit : sc * kv y n < 1000000000 * 1000000000 ^ (n - 1) := by
    rcases kn_fit gy.2 s3 with z | z
    · exact z
    · omega
  have hP : 1000000000 * 1000000000 ^ (n - 1) = 1000000000 ^ n := by
    obtain ⟨k, rfl⟩ : ∃ k, n = k + 1 := ⟨n - 1, by omega⟩
    rw [Nat.add_sub_cancel, kn_s]
  rw [hP] at hfit
  have hz : w n = 0 := by
    rcases Nat.eq_zero_or_pos (w n) with z | z
    · exact z
    · have := Nat.mul_le_mul_right (1000000000 ^ n) z
      rw [kv_s] at e
      omega
  have e2 : kv w n = sc * kv y n := by
    rw [kv_s, hz] at e
    omega
  refine ⟨e2, ?_⟩
  have hk : kv w n = kv w (n - 1) + w (n - 1) * 1000000000 ^ (n - 1) := by
    obtain ⟨k, rfl⟩ : ∃ k, n = k + 1 := ⟨n - 1, by omega⟩
    rfl
  have hl := kv_lt (h := w) (n := n - 1) (fun i hi => hw i (by omega))
  have h1 := kn_hi hk hl e2 gy.1
  have h2 := kn_sc h0 ht2
  rw [← hs] at h2
  omega
/-- the highest limbs of what is divided are below the divisor -/
theorem dv_R {u w x y : Nat → Nat} {m n sc : Nat} (hn : 0 < n) (hnm : n ≤ m) (hx : ∀ i, i < m → x i < 1000000000) (hy : ∀ i, i < n → y i < 1000000000) (h0 : 0 < y (n - 1)) (hs : 0 < sc) (eU : kv u (m + 1) = sc * kv x m) (eV : kv w n = sc * kv y n) : kv (fun i => u (m - n + 1 + i)) n < kv w n := by
  have e1 : kv u (m + 1) = kv u (m - n + 1) + kv (fun i => u (m - n + 1 + i)) n * 1000000000 ^ (m - n + 1) := by
    rw [← kv_sp]
    congr 1
    omega
  have hX := kv_lt hx
  have hP : 1000000000 ^ m = 1000000000 ^ (m - n + 1) * 1000000000 ^ (n - 1) := by
    rw [← Nat.pow_add]
    congr 1
    omega
  rw [hP] at hX
  exact kn_st e1 eU hX (gu_V hn hy).1 h0 eV hs
theorem ta_z {gs cy w : Nat} (hz : gs = 0 → cy = 0) (z : gs = 0) : cy + gs * w = 0 := by rw [hz z, z]; simp

