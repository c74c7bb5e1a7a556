/-! ===== the reference's numbers: twenty limbs below a million each ===== -/
def kw (h : Nat → Nat) : Nat → Nat
  | 0 => 0
  | n + 1 => kw h n + h n * 1000000 ^ n
theorem kw_s (h : Nat → Nat) (n : Nat) : kw h (n + 1) = kw h n + h n * 1000000 ^ n := rfl
theorem kw_eq {h k : Nat → Nat} {n : Nat} (e : ∀ i, i < n → h i = k i) : kw h n = kw k n := by
  induction n with
  | zero => rfl
  | succ n ih => rw [kw_s, kw_s, ih (fun i hi => e i (by omega)), e n (by omega)]
theorem km_pos (n : Nat) : 0 < 1000000 ^ n := Nat.pow_pos (by decide)
theorem km_s (n : Nat) : 1000000 ^ (n + 1) = 1000000 * 1000000 ^ n := by rw [Nat.pow_succ, Nat.mul_comm]
theorem kw_lt {h : Nat → Nat} {n : Nat} (e : ∀ i, i < n → h i < 1000000) : kw h n < 1000000 ^ n := by
  induction n with
  | zero => exact Nat.one_pos
  | succ n ih =>
    have h1 := ih (fun i hi => e i (by omega))
    have h2 : h n * 1000000 ^ n ≤ 999999 * 1000000 ^ n := Nat.mul_le_mul_right _ (by have := e n (by omega); omega)
    rw [kw_s, km_s]
    omega
theorem kw_sh (h : Nat → Nat) (n : Nat) : kw h (n + 1) = h 0 + 1000000 * kw (fun i => h (i + 1)) n := by
  induction n with
  | zero => simp [kw]
  | succ n ih =>
    rw [kw_s, ih, kw_s (fun i => h (i + 1)), km_s, Nat.mul_add, ← Nat.mul_assoc, ← Nat.mul_assoc, Nat.mul_comm (h (n + 1))]
    omega
theorem kw_sp (h : Nat → Nat) (m n : Nat) : kw h (m + n) = kw h m + kw (fun i => h (m + i)) n * 1000000 ^ m := by
  induction n with
  | zero => simp [kw]
  | succ n ih => rw [← Nat.add_assoc, kw_s, ih, kw_s, Nat.add_mul, Nat.pow_add, Nat.add_assoc, Nat.mul_assoc, Nat.mul_comm (1000000 ^ m) (1000000 ^ n)]
theorem kw_z {h : Nat → Nat} {n : Nat} (hz : ∀ k, k < n → h k = 0) : kw h n = 0 := by
  induction n with
  | zero => rfl
  | succ n ih => rw [kw_s, ih (fun k hk => hz k (by omega)), hz n (by omega)]; simp
theorem kw_up {h : Nat → Nat} {m n : Nat} (hm : m ≤ n) (hz : ∀ k, m ≤ k → k < n → h k = 0) : kw h n = kw h m := by
  induction n with
  | zero => obtain rfl : m = 0 := by omega
            rfl
  | succ n ih =>
    by_cases q : m ≤ n
    · rw [kw_s, ih q (fun k h1 h2 => hz k h1 (by omega)), hz n q (by omega)]; omega
    · obtain rfl : m = n + 1 := by omega
      rfl
def C6 (N : Nat) (h : Nat → Int32) : Prop := ∀ i, i < N → ∃ k, k < 1000000 ∧ h i = nI k
theorem dg6_lt {n : Nat} {h : Nat → Int32} (c : C6 n h) {j : Nat} (hj : j < n) : dg h j < 1000000 := by
  obtain ⟨k, h1, h2⟩ := c j hj
  rw [dg_is (by omega) h2]; exact h1
theorem dg6_eq {n : Nat} {h : Nat → Int32} (c : C6 n h) {j : Nat} (hj : j < n) : h j = nI (dg h j) := by
  obtain ⟨k, h1, h2⟩ := c j hj
  rw [dg_is (by omega) h2]; exact h2
theorem lb6_upd {n i v : Nat} {h : Nat → Int32} (c : C6 n h) (hk : v < 1000000) : C6 n (upd h i (nI v)) := fun j hj => by
  by_cases q : j = i
  · exact ⟨v, hk, if_pos q⟩
  · obtain ⟨z, h1, h2⟩ := c j hj
    exact ⟨z, h1, (if_neg q).trans h2⟩
theorem kw_upd {h : Nat → Int32} {i k : Nat} (hk : k < 2 ^ 31) : kw (dg (upd h i (nI k))) (i + 1) = kw (dg h) i + k * 1000000 ^ i := by
  rw [kw_s, dg_at hk, kw_eq (k := dg h) (fun j hj => dg_ne (by omega))]
theorem kw_set {h : Nat → Int32} {i k : Nat} (hk : k < 2 ^ 31) : ∀ {n : Nat}, i < n → kw (dg (upd h i (nI k))) n + dg h i * 1000000 ^ i = kw (dg h) n + k * 1000000 ^ i := by
  intro n
  induction n with
  | zero => intro q; omega
  | succ n ih =>
    intro q
    by_cases z : i = n
    · subst z
      rw [kw_upd hk, kw_s]
      omega
    · have := ih (by omega)
      rw [kw_s, kw_s, dg_ne (fun w => z w.symm)]
      omega
/-- limb i of slot k, and what the slot is worth -/
def l6 (h : Nat → Int32) (k i : Nat) : Nat := if i < 20 then dg h (20 * k + i) else 0
def sl (h : Nat → Int32) (k : Nat) : Nat := kw (l6 h k) 20
theorem l6_lt {N : Nat} {h : Nat → Int32} (c : C6 N h) {k : Nat} (hk : 20 * k + 20 ≤ N) (i : Nat) : l6 h k i < 1000000 := by
  unfold l6
  by_cases q : i < 20
  · rw [if_pos q]; exact dg6_lt c (by omega)
  · rw [if_neg q]; decide
theorem kw_l6 {h : Nat → Int32} {k m : Nat} (hm : 20 ≤ m) : kw (l6 h k) m = sl h k := kw_up hm (fun j h1 _ => if_neg (by omega))
theorem pw_20 : 1000000 ^ 20 = T12 := by unfold T12; decide +kernel
theorem sl_lt {N : Nat} {h : Nat → Int32} (c : C6 N h) {k : Nat} (hk : 20 * k + 20 ≤ N) : sl h k < T12 := by
  rw [← pw_20]
  exact kw_lt (fun i _ => l6_lt c hk i)
/-- slot k holds v -/
def SV (hl hs : Nat → Int32) (k : Nat) (v : Int) : Prop := hs k = sgI v ∧ sl hl k = v.natAbs
/-- only slot k is another -/
def SF (k : Nat) (h h1 : Nat → Int32) : Prop := ∀ j, ¬ (20 * k ≤ j ∧ j < 20 * k + 20) → h1 j = h j
theorem l6_eq {h h1 : Nat → Int32} {k : Nat} (e : ∀ i, i < 20 → h1 (20 * k + i) = h (20 * k + i)) : l6 h1 k = l6 h k := by
  funext i
  unfold l6
  by_cases q : i < 20
  · rw [if_pos q, if_pos q]; unfold dg; rw [e i q]
  · rw [if_neg q, if_neg q]
theorem sl_SF {k j : Nat} {h h1 : Nat → Int32} (e : SF k h h1) (hj : j ≠ k) : l6 h1 j = l6 h j := l6_eq (fun i hi => e _ (by omega))
theorem SV_SF {k j : Nat} {h h1 s s1 : Nat → Int32} {v : Int} (q : SV h s j v) (e : SF k h h1) (es : ∀ j, j ≠ k → s1 j = s j) (hj : j ≠ k) : SV h1 s1 j v := ⟨(es j hj).trans q.1, by unfold sl; rw [sl_SF e hj]; exact q.2⟩
theorem SF_u {k i : Nat} {h h1 : Nat → Int32} {x : Int32} (e : SF k h h1) (hi : i < 20) : SF k h (upd h1 (20 * k + i) x) := fun j q => by rw [upd_ne _ _ (by omega)]; exact e j q
theorem SF_u0 {k : Nat} {h h1 : Nat → Int32} {x : Int32} (e : SF k h h1) : SF k h (upd h1 (20 * k) x) := fun j q => by rw [upd_ne _ _ (by omega)]; exact e j q
theorem sn_val {h : Nat → Int32} {k a b : Nat} (hz : ∀ i, i < 20 → dg h (20 * k + i) = 0) (ha : a < 2 ^ 31) (hb : b < 2 ^ 31) : sl (upd (upd h (20 * k) (nI a)) (20 * k + 1) (nI b)) k = a + b * 1000000 := by
  unfold sl
  rw [kw_up (m := 2) (by omega) (fun i h1 h2 => by unfold l6; rw [if_pos h2, dg_ne (by omega), dg_ne (by omega)]; exact hz i h2)]
  show 0 + l6 _ k 0 * 1000000 ^ 0 + l6 _ k 1 * 1000000 ^ 1 = _
  unfold l6
  rw [if_pos (by decide), if_pos (by decide), dg_at hb, Nat.add_zero (20 * k), dg_ne (by omega), dg_at ha]
  omega
theorem n32 {v : Int32} (h : v.toInt.natAbs ≤ 1000000000) : (v < 0 → -v = nI v.toInt.natAbs) ∧ (¬ v < 0 → v = nI v.toInt.natAbs) := by
  have e0 : (0 : Int32).toInt = 0 := by decide
  refine ⟨fun q => Int32.toInt_inj.mp ?_, fun q => Int32.toInt_inj.mp ?_⟩
  · rw [Int32.lt_iff_toInt_lt, e0] at q
    rw [Int32.toInt_neg, nI_toInt (by omega), Int.bmod_eq_of_le (by omega) (by omega)]
    omega
  · rw [Int32.lt_iff_toInt_lt, e0] at q
    rw [nI_toInt (by omega)]
    omega
theorem sgI_n {v : Int} (h : v < 0) : sgI v = -1 := if_pos h
theorem sgI_p {v : Int} (h : 0 < v) : sgI v = nI 1 := by unfold sgI; rw [if_neg (by omega), if_pos h]
theorem sgI_0 {v : Int} (h : v = 0) : sgI v = nI 0 := by subst h; rfl
theorem i32_lt {v : Int32} : v < nI 0 ↔ v.toInt < 0 := by rw [Int32.lt_iff_toInt_lt, ti_0]
theorem i32_gt {v : Int32} : nI 0 < v ↔ 0 < v.toInt := by rw [Int32.lt_iff_toInt_lt, ti_0]
/-- which of two slots is the farther one -/
def ORD (r : Int32) (X Y : Nat) : Prop := (r = -1 ∧ X < Y) ∨ (r = nI 1 ∧ Y < X) ∨ (r = nI 0 ∧ X = Y)
theorem far6 {a b : Nat → Nat} {j : Nat} : ∀ {n : Nat}, (∀ i, i < n → b i < 1000000) → j < n → (∀ i, j < i → i < n → a i = b i) → b j < a j → kw b n < kw a n := by
  intro n
  induction n with
  | zero => intro _ h; omega
  | succ n ih =>
    intro hb hj e h
    rw [kw_s, kw_s]
    rcases Nat.lt_or_ge j n with q | q
    · have := ih (fun i hi => hb i (by omega)) q (fun i h1 h2 => e i h1 (by omega)) h
      rw [e n q (by omega)]
      omega
    · obtain rfl : j = n := by omega
      have l1 := kw_lt (h := b) (n := j) (fun i hi => hb i (by omega))
      have : (b j + 1) * 1000000 ^ j ≤ a j * 1000000 ^ j := Nat.mul_le_mul_right _ h
      rw [Nat.add_mul] at this
      omega
/-- sums and differences -/
theorem au_1 {h : Nat → Int32} {a b : Nat → Nat} {i cy : Nat} (e : kw (dg h) i + cy * 1000000 ^ i = kw a i + kw b i) (hb : a i + b i + cy < 2147483648) (hm : 1000000 ≤ a i + b i + cy) : kw (dg (upd h i (nI (a i + b i + cy - 1000000)))) (i + 1) + 1 * 1000000 ^ (i + 1) = kw a (i + 1) + kw b (i + 1) := by
  rw [kw_upd (by omega), km_s, kw_s a, kw_s b]
  generalize 1000000 ^ i = P at *
  have e4 : (a i + b i + cy - 1000000) * P + 1000000 * P = (a i + b i + cy) * P := by rw [← Nat.add_mul, Nat.sub_add_cancel hm]
  rw [Nat.add_mul, Nat.add_mul] at e4
  omega
theorem au_2 {h : Nat → Int32} {a b : Nat → Nat} {i cy : Nat} (e : kw (dg h) i + cy * 1000000 ^ i = kw a i + kw b i) (hm : a i + b i + cy < 1000000) : kw (dg (upd h i (nI (a i + b i + cy - 0)))) (i + 1) + 0 * 1000000 ^ (i + 1) = kw a (i + 1) + kw b (i + 1) := by
  rw [Nat.sub_zero, kw_upd (by omega), km_s, kw_s a, kw_s b]
  generalize 1000000 ^ i = P at *
  have e4 : (a i + b i + cy) * P = a i * P + b i * P + cy * P := by rw [Nat.add_mul, Nat.add_mul]
  omega
theorem au_end {h hl : Nat → Int32} {x y cy : Nat} (c : C6 1600 hl) (hx : x < 80) (hy : y < 80) (hz : ∀ k, 21 ≤ k → k < 44 → dg h k = 0) (e : kw (dg h) 21 + cy * 1000000 ^ 21 = kw (l6 hl x) 21 + kw (l6 hl y) 21) : kw (dg h) 44 = sl hl x + sl hl y := by
  rw [kw_up (h := dg h) (m := 21) (by omega) hz]
  rw [kw_l6 (by omega), kw_l6 (by omega)] at e
  have h1 := sl_lt c (k := x) (by omega)
  have h2 := sl_lt c (k := y) (by omega)
  have h3 := pw_20
  rw [show 1000000 ^ 21 = 1000000 * 1000000 ^ 20 from km_s 20, h3] at e
  rcases Nat.eq_zero_or_pos cy with q | q
  · subst q; omega
  · have := Nat.mul_le_mul_right (1000000 * T12) q
    omega
theorem ad_1 {h : Nat → Int32} {a b : Nat → Nat} {i cy : Nat} (e : kw (dg h) i + kw b i = kw a i + cy * 1000000 ^ i) (ha : a i < 1000000) (hb : b i < 1000000) (hc : cy ≤ 1) (hm : a i < b i + cy) : kw (dg (upd h i (nI (a i + 1000000 - (b i + cy))))) (i + 1) + kw b (i + 1) = kw a (i + 1) + 1 * 1000000 ^ (i + 1) := by
  rw [kw_upd (by omega), km_s, kw_s a, kw_s b]
  generalize 1000000 ^ i = P at *
  have e4 : (a i + 1000000 - (b i + cy)) * P + (b i + cy) * P = a i * P + 1000000 * P := by rw [← Nat.add_mul, Nat.sub_add_cancel (by omega), Nat.add_mul]
  rw [Nat.add_mul] at e4
  omega
theorem ad_2 {h : Nat → Int32} {a b : Nat → Nat} {i cy : Nat} (e : kw (dg h) i + kw b i = kw a i + cy * 1000000 ^ i) (ha : a i < 1000000) (hm : ¬ a i < b i + cy) : kw (dg (upd h i (nI (a i - (b i + cy))))) (i + 1) + kw b (i + 1) = kw a (i + 1) + 0 * 1000000 ^ (i + 1) := by
  rw [kw_upd (by omega), km_s, kw_s a, kw_s b]
  generalize 1000000 ^ i = P at *
  have e4 : (a i - (b i + cy)) * P + (b i + cy) * P = a i * P := by rw [← Nat.add_mul, Nat.sub_add_cancel (by omega)]
  rw [Nat.add_mul] at e4
  omega
theorem ad_end {h hl : Nat → Int32} {x y cy : Nat} (ch : C6 44 h) (hz : ∀ k, 21 ≤ k → k < 44 → dg h k = 0) (hle : sl hl y ≤ sl hl x) (e : kw (dg h) 21 + kw (l6 hl y) 21 = kw (l6 hl x) 21 + cy * 1000000 ^ 21) : kw (dg h) 44 = sl hl x - sl hl y := by
  rw [kw_up (h := dg h) (m := 21) (by omega) hz]
  rw [kw_l6 (by omega), kw_l6 (by omega)] at e
  have h1 := kw_lt (h := dg h) (n := 21) (fun i hi => dg6_lt ch (by omega))
  rcases Nat.eq_zero_or_pos cy with q | q
  · subst q; omega
  · have := Nat.mul_le_mul_right (1000000 ^ 21) q
    omega
theorem nI_dif (a b cy : Nat) : nI a + (-1) * nI b + (nI 0 - nI cy) = nI a - nI (b + cy) := by
  rw [← nI_add, nI_0]
  generalize nI a = x
  generalize nI b = y
  generalize nI cy = z
  have : (-1 : Int32) * y = -y := by rw [Int32.neg_mul, Int32.one_mul]
  rw [this]
  simp only [Int32.sub_eq_add_neg, Int32.neg_add, Int32.add_assoc, Int32.zero_add]
theorem sp6_step {h h0 : Nat → Int32} {z : Nat → Nat} {i j cy a : Nat} (hij : i + j < 44) (e : kw (dg h) 44 + cy * 1000000 ^ (i + j) = kw (dg h0) 44 + a * kw z j * 1000000 ^ i) : kw (dg (upd h (i + j) (nI ((dg h (i + j) + a * z j + cy) % 1000000)))) 44 + (dg h (i + j) + a * z j + cy) / 1000000 * 1000000 ^ (i + (j + 1)) = kw (dg h0) 44 + a * kw z (j + 1) * 1000000 ^ i := by
  have hd := Nat.div_add_mod (dg h (i + j) + a * z j + cy) 1000000
  have hs := kw_set (h := h) (i := i + j) (k := (dg h (i + j) + a * z j + cy) % 1000000) (by omega) (n := 44) hij
  generalize (dg h (i + j) + a * z j + cy) / 1000000 = q at *
  generalize (dg h (i + j) + a * z j + cy) % 1000000 = r at *
  have e1 : 1000000 ^ (i + (j + 1)) = 1000000 * 1000000 ^ (i + j) := by rw [← Nat.add_assoc, km_s]
  have e2 : a * kw z (j + 1) * 1000000 ^ i = a * kw z j * 1000000 ^ i + a * z j * 1000000 ^ (i + j) := by
    rw [kw_s, Nat.mul_add, Nat.add_mul, Nat.pow_add, ← Nat.mul_assoc a, Nat.mul_assoc (a * z j), Nat.mul_comm (1000000 ^ j)]
  have e3 : q * (1000000 * 1000000 ^ (i + j)) = 1000000 * q * 1000000 ^ (i + j) := by rw [← Nat.mul_assoc, Nat.mul_comm q]
  rw [e1, e2, e3]
  generalize 1000000 ^ (i + j) = P at *
  have e4 : 1000000 * q * P + r * P = (dg h (i + j) + a * z j + cy) * P := by rw [← Nat.add_mul, hd]
  rw [Nat.add_mul, Nat.add_mul] at e4
  omega
theorem sp6_out {h h0 : Nat → Int32} {x z : Nat → Nat} {i cy : Nat} {Z : Nat} (hcy : cy = 0) (hZ : kw z 21 = Z) (e0 : kw (dg h0) 44 = kw x i * Z) (e : kw (dg h) 44 + cy * 1000000 ^ (i + 21) = kw (dg h0) 44 + x i * kw z 21 * 1000000 ^ i) : kw (dg h) 44 = kw x (i + 1) * Z := by
  subst hcy
  rw [hZ, e0] at e
  rw [kw_s x i, Nat.add_mul, Nat.mul_assoc (x i), Nat.mul_comm (1000000 ^ i), ← Nat.mul_assoc]
  omega

