/-! ===== numbers by their limbs; division by hand (all pure) ===== -/
def kv (h : Nat → Nat) : Nat → Nat
  | 0 => 0
  | n + 1 => kv h n + h n * 1000000000 ^ n
theorem kv_s (h : Nat → Nat) (n : Nat) : kv h (n + 1) = kv h n + h n * 1000000000 ^ n := rfl
theorem kv_eq {h k : Nat → Nat} {n : Nat} (e : ∀ i, i < n → h i = k i) : kv h n = kv k n := by
  induction n with
  | zero => rfl
  | succ n ih => rw [kv_s, kv_s, ih (fun i hi => e i (by omega)), e n (by omega)]
theorem kn_pos (n : Nat) : 0 < 1000000000 ^ n := Nat.pow_pos (by decide)
theorem kn_s (n : Nat) : 1000000000 ^ (n + 1) = 1000000000 * 1000000000 ^ n := by rw [Nat.pow_succ, Nat.mul_comm]
theorem kv_lt {h : Nat → Nat} {n : Nat} (e : ∀ i, i < n → h i < 1000000000) : kv h n < 1000000000 ^ n := by
  induction n with
  | zero => exact Nat.one_pos
  | succ n ih =>
    have h1 := ih (fun i hi => e i (by omega))
    have h2 : h n + 1 ≤ 1000000000 := e n (by omega)
    have h3 := Nat.mul_le_mul_right (1000000000 ^ n) h2
    rw [kv_s, kn_s]
    rw [Nat.add_mul] at h3
    omega
theorem kv_sh (h : Nat → Nat) (n : Nat) : kv h (n + 1) = h 0 + 1000000000 * kv (fun i => h (i + 1)) n := by
  induction n with
  | zero => simp [kv]
  | succ n ih =>
    rw [kv_s, ih, kv_s (fun i => h (i + 1)), kn_s, Nat.mul_add, ← Nat.mul_assoc, ← Nat.mul_assoc, Nat.mul_comm (h (n + 1)) 1000000000]
    omega
/-- the highest limb against the whole -/
theorem kv_top {h : Nat → Nat} {n : Nat} (e : ∀ i, i < n + 1 → h i < 1000000000) : h n * 1000000000 ^ n ≤ kv h (n + 1) ∧ kv h (n + 1) < (h n + 1) * 1000000000 ^ n := by
  have := kv_lt (h := h) (n := n) (fun i hi => e i (by omega))
  rw [kv_s, Nat.add_mul]
  omega
/-- one limb of the taking away -/
theorem kn_ta {U U1 W P g c u w : Nat} (h : U1 + g * W = U + c * P) (hu : u < 1000000000) :
    ((c + g * w) % 1000000000 ≤ u → (U1 + (u - (c + g * w) % 1000000000) * P) + g * (W + w * P) = (U + u * P) + ((c + g * w) / 1000000000) * (1000000000 * P)) ∧
    (u < (c + g * w) % 1000000000 → (U1 + (u + 1000000000 - (c + g * w) % 1000000000) * P) + g * (W + w * P) = (U + u * P) + ((c + g * w) / 1000000000 + 1) * (1000000000 * P)) := by
  have hd := Nat.div_add_mod (c + g * w) 1000000000
  generalize hq : (c + g * w) / 1000000000 = q at *
  generalize hm : (c + g * w) % 1000000000 = r at *
  have e1 : g * (W + w * P) = g * W + g * w * P := by rw [Nat.mul_add, Nat.mul_assoc]
  have e2 : 1000000000 * q * P + r * P = c * P + g * w * P := by rw [← Nat.add_mul, hd, Nat.add_mul]
  have e3 : q * (1000000000 * P) = 1000000000 * q * P := by rw [← Nat.mul_assoc, Nat.mul_comm q]
  constructor
  · intro hle
    have e4 : (u - r) * P + r * P = u * P := by rw [← Nat.add_mul, Nat.sub_add_cancel hle]
    rw [e1, e3]; omega
  · intro hlt
    have hr : r < 1000000000 := by rw [← hm]; exact Nat.mod_lt _ (by decide)
    have e4 : (u + 1000000000 - r) * P + r * P = u * P + 1000000000 * P := by rw [← Nat.add_mul, Nat.sub_add_cancel (by omega), Nat.add_mul]
    rw [e1, Nat.add_mul, e3]; omega
/-- one limb of the putting back -/
theorem kn_pb {U U1 W P c u w : Nat} (h : U1 + c * P = U + W) :
    (1000000000 ≤ u + w + c → (U1 + (u + w + c - 1000000000) * P) + 1 * (1000000000 * P) = (U + u * P) + (W + w * P)) ∧
    (u + w + c < 1000000000 → (U1 + (u + w + c) * P) + 0 * (1000000000 * P) = (U + u * P) + (W + w * P)) := by
  have e1 : (u + w + c) * P = u * P + w * P + c * P := by rw [Nat.add_mul, Nat.add_mul]
  constructor
  · intro hle
    have e4 : (u + w + c - 1000000000) * P + 1000000000 * P = (u + w + c) * P := by rw [← Nat.add_mul, Nat.sub_add_cancel hle]
    omega
  · intro hlt
    omega
/-- one limb of the enlarging -/
theorem kn_en {R X P s c x : Nat} (h : R + c * P = s * X) : (R + ((c + x * s) % 1000000000) * P) + ((c + x * s) / 1000000000) * (1000000000 * P) = s * (X + x * P) := by
  have hd := Nat.div_add_mod (c + x * s) 1000000000
  generalize (c + x * s) / 1000000000 = q at *
  generalize (c + x * s) % 1000000000 = r at *
  have e1 : s * (X + x * P) = s * X + x * s * P := by rw [Nat.mul_add, ← Nat.mul_assoc, Nat.mul_comm s x]
  have e2 : 1000000000 * q * P + r * P = c * P + x * s * P := by rw [← Nat.add_mul, hd, Nat.add_mul]
  have e3 : q * (1000000000 * P) = 1000000000 * q * P := by rw [← Nat.mul_assoc, Nat.mul_comm q]
  rw [e1, e3]; omega
/-- not taken too often: what is left is below the divisor -/
theorem kn_f1 {U U1 V P g c t : Nat} (h : U1 + g * V = U + c * P) (hU1 : U1 < P) (hV : V < P) (h1 : U + t * P < (g + 1) * V) (hc : c ≤ t) : U1 < V := by
  have e1 := Nat.mul_le_mul_right P hc
  rw [Nat.add_mul] at h1
  omega
/-- taken once too often, and put back -/
theorem kn_f2 {U U1 U2 V P g c t k : Nat} (h : U1 + g * V = U + c * P) (hU1 : U1 < P) (hU2 : U2 < P) (hV : V < P) (h2 : g * V < U + t * P + V) (hc : t < c) (hb : U2 + k * P = U1 + V) (hk : k ≤ 1) : U2 < V := by
  have e1 := Nat.mul_le_mul_right P hc
  rw [Nat.succ_mul] at e1
  obtain ⟨d, rfl⟩ : ∃ d, c = t + 1 + d := ⟨c - (t + 1), by omega⟩
  rw [Nat.add_mul, Nat.add_mul] at h
  have hk' : k = 0 ∨ k = 1 := by omega
  rcases hk' with rfl | rfl
  · omega
  · omega
/-- what is guessed at first isn't too little -/
theorem kn_g1 {U V P h head : Nat} (hU : U < (head + 1) * P) (hV : h * P ≤ V) (h0 : 0 < h) : U < (head / h + 1) * V := by
  have e1 : head + 1 ≤ (head / h + 1) * h := by
    have := Nat.div_add_mod head h
    have := Nat.mod_lt head h0
    rw [Nat.add_mul, Nat.mul_comm (head / h)]
    omega
  have e2 := Nat.mul_le_mul_right P e1
  have e3 := Nat.mul_le_mul_left (head / h + 1) hV
  rw [← Nat.mul_assoc] at e3
  omega
/-- a guess of BASE or more is too much -/
theorem kn_g2 {U V g : Nat} (hU : U < 1000000000 * V) (hg : 1000000000 ≤ g) : U < g * V := Nat.lt_of_lt_of_le hU (Nat.mul_le_mul_right V hg)
/-- a guess that the second limbs refuse is too much -/
theorem kn_g3 {U V Q h s head third g left : Nat} (hU : U < (head * 1000000000 + third + 1) * Q) (hV : (h * 1000000000 + s) * Q ≤ V) (hi : g * h + left = head) (hb : left * 1000000000 + third < g * s) : U < g * V := by
  have e1 := Nat.mul_le_mul_left g hV
  rw [← Nat.mul_assoc] at e1
  have e2 : head * 1000000000 + third + 1 ≤ g * (h * 1000000000 + s) := by
    rw [Nat.mul_add, ← Nat.mul_assoc, ← hi]
    generalize g * h = x at *
    omega
  have e3 := Nat.mul_le_mul_right Q e2
  omega
/-- a guess that the second limbs take is at most one too much -/
theorem kn_g4 {U V Q h s head third g left : Nat} (hU : (head * 1000000000 + third) * Q ≤ U) (hV : V < (h * 1000000000 + s + 1) * Q) (hV2 : (h * 1000000000 + s) * Q ≤ V) (h0 : 0 < h) (hi : g * h + left = head) (hg : g < 1000000000) (hb : g * s ≤ left * 1000000000 + third) : g * V < U + V := by
  have e1 := Nat.mul_le_mul_left g (Nat.le_of_lt hV)
  rw [← Nat.mul_assoc] at e1
  have e2 : g * (h * 1000000000 + s + 1) ≤ head * 1000000000 + third + g := by
    rw [Nat.mul_add, Nat.mul_add, ← Nat.mul_assoc, ← hi]
    generalize g * h = x at *
    omega
  have e3 := Nat.mul_le_mul_right Q e2
  rw [Nat.add_mul] at e3
  have e4 : g * Q ≤ 1000000000 * Q := Nat.mul_le_mul_right Q (Nat.le_of_lt hg)
  have e5 : 1000000000 * Q ≤ (h * 1000000000 + s) * Q := Nat.mul_le_mul_right Q (by omega)
  by_cases q : 0 < Q
  · have e6 : g * Q < 1000000000 * Q := Nat.mul_lt_mul_of_pos_right hg q
    omega
  · have : Q = 0 := by omega
    subst this
    simp at hV
theorem kn_g4' {U V head g left h : Nat} (hU : head ≤ U) (hV : V = h) (h0 : 0 < h) (hi : g * h + left = head) : g * V < U + V := by
  subst hV; omega
/-- the highest limb of what is divided is at most the divisor's -/
theorem kn_top {U V P h a r : Nat} (hU : (a * 1000000000 + r) * P ≤ U) (hV : V < (h + 1) * P) (h1 : U < 1000000000 * V) : a ≤ h := by
  have e1 := Nat.mul_le_mul_left 1000000000 (Nat.le_of_lt hV)
  rw [← Nat.mul_assoc] at e1
  have e2 : (a * 1000000000 + r) * P < (1000000000 * (h + 1)) * P := by omega
  have e3 := Nat.lt_of_mul_lt_mul_right e2
  omega
/-- a guess of BASE or more leaves less than BASE -/
theorem kn_gB {h a b g left : Nat} (ha : a ≤ h) (hb : b < 1000000000) (hi : g * h + left = a * 1000000000 + b) (hl : 1000000000 ≤ left) : g < 1000000000 := by
  rcases Nat.lt_or_ge g 1000000000 with q | q
  · exact q
  · have e1 := Nat.mul_le_mul_right h q
    have e2 := Nat.mul_le_mul_right 1000000000 ha
    omega
theorem kn_dec {g h left head : Nat} (hi : g * h + left = head) (hg : 0 < g) : (g - 1) * h + (left + h) = head := by
  obtain ⟨k, rfl⟩ : ∃ k, g = k + 1 := ⟨g - 1, by omega⟩
  rw [Nat.add_sub_cancel]
  rw [Nat.add_mul] at hi
  omega
/-- the divisor's highest limb, once enlarged -/
theorem kn_sc {t : Nat} (h0 : 0 < t) (ht : t < 1000000000) : 1000000000 ≤ 4 * (1000000000 / (t + 1) * t) := by
  have hd := Nat.div_add_mod 1000000000 (t + 1)
  have hm := Nat.mod_lt 1000000000 (show 0 < t + 1 by omega)
  generalize 1000000000 / (t + 1) = s at *
  generalize 1000000000 % (t + 1) = r at *
  have e1 : (t + 1) * s = s * t + s := by rw [Nat.mul_comm, Nat.mul_add, Nat.mul_one]
  have e2 : s ≤ s * t := Nat.le_mul_of_pos_right s h0
  by_cases q : t + 1 ≤ 500000000
  · omega
  · have hs : 0 < s := by
      rcases Nat.eq_zero_or_pos s with z | z
      · subst z; omega
      · exact z
    have : t ≤ s * t := Nat.le_mul_of_pos_left t hs
    omega
/-- the enlarged divisor keeps its size -/
theorem kn_fit {Y P t s : Nat} (hY : Y < (t + 1) * P) (hs : s * (t + 1) ≤ 1000000000) : s * Y < 1000000000 * P ∨ s = 0 := by
  rcases Nat.eq_zero_or_pos s with z | z
  · exact Or.inr z
  · left
    have e1 := Nat.mul_lt_mul_of_pos_left hY z
    have e2 := Nat.mul_le_mul_right P hs
    rw [← Nat.mul_assoc] at e1
    omega
theorem kn_hi {h r P V t s Y : Nat} (e : V = r + h * P) (hr : r < P) (hV : V = s * Y) (hY : t * P ≤ Y) : s * t ≤ h := by
  have e1 := Nat.mul_le_mul_left s hY
  rw [← Nat.mul_assoc] at e1
  have e2 : s * t * P < (h + 1) * P := by rw [Nat.add_mul]; omega
  have e3 := Nat.lt_of_mul_lt_mul_right e2
  omega
/-- the dividend's highest limbs at the start -/
theorem kn_st {T M lowP D s X V Y Pn t : Nat} (e : D = lowP + T * M) (hD : D = s * X) (hX : X < M * Pn) (hY : t * Pn ≤ Y) (h0 : 0 < t) (hV : V = s * Y) (hs : 0 < s) : T < V := by
  have e1 := Nat.mul_lt_mul_of_pos_left hX hs
  have e2 : s * Pn ≤ V := by
    rw [hV]
    exact Nat.mul_le_mul_left s (Nat.le_trans (Nat.le_mul_of_pos_left Pn h0) hY)
  have e3 : T * M < (s * Pn) * M := by
    have : s * (M * Pn) = (s * Pn) * M := by rw [Nat.mul_comm M, Nat.mul_assoc]
    omega
  exact Nat.lt_of_lt_of_le (Nat.lt_of_mul_lt_mul_right e3) e2
/-- the lower limbs and the higher ones -/
theorem kv_sp (h : Nat → Nat) (m n : Nat) : kv h (m + n) = kv h m + kv (fun i => h (m + i)) n * 1000000000 ^ m := by
  induction n with
  | zero => simp [kv]
  | succ n ih => rw [← Nat.add_assoc, kv_s, ih, kv_s, Nat.add_mul, Nat.pow_add, Nat.add_assoc, Nat.mul_assoc, Nat.mul_comm (1000000000 ^ m) (1000000000 ^ n)]
/-- the next place -/
theorem kn_nx {h : Nat → Nat} {p n V : Nat} (hl : kv (fun i => h (p + 1 + i)) n < V) (hp : h p < 1000000000) : kv (fun i => h (p + i)) (n + 1) < 1000000000 * V := by
  have : kv (fun i => h (p + (i + 1))) n = kv (fun i => h (p + 1 + i)) n := kv_eq (fun i _ => by rw [Nat.add_assoc, Nat.add_comm 1 i])
  rw [kv_sh]
  simp only [Nat.add_zero]
  omega

