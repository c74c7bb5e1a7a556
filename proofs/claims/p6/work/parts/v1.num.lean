/-! ===== long numbers of the class: what they are worth ===== -/
def T12 : Nat := 10 ^ 120
def LSg (sg : Int32) (n : Nat) : Prop := (n = 0 ∧ sg = nI 0) ∨ (0 < n ∧ (sg = nI 1 ∨ sg = -1))
def CB (h : Nat → Int32) : Prop := ∀ i, i < 15 → ∃ k, k < 1000000000 ∧ h i = nI k
def LNV (sg : Int32) (n : Nat) (h : Nat → Int32) (v : Int) : Prop := n ≤ 15 ∧ CB h ∧ LSg sg n ∧ (0 < n → dg h (n - 1) ≠ 0) ∧ v = sg.toInt * (kv (dg h) n : Int)
/-- a number that isn't too long -/
def LNF (sg : Int32) (n : Nat) (h : Nat → Int32) (v : Int) : Prop := LNV sg n h v ∧ v.natAbs < T12
def LV (g : Lay) (f : Nat → va_E) (x : Nat) (v : Int) : Prop := ∃ (sg : Int32) (n : Nat) (h : Nat → Int32), f x = .inr (4, [.int sg, .int (nI n), .ref (g.lk x 2)]) ∧ f (g.lk x 2) = .inl (g.ac (g.lk x 2), 15, .inl h) ∧ LNV sg n h v
/-- a sign that is given for a number worth k -/
def FS (sg : Int32) (k : Nat) : Prop := (sg = nI 1 ∨ sg = -1) ∨ (sg = nI 0 ∧ k = 0)
theorem ti_0 : (nI 0).toInt = 0 := by decide
theorem ti_1 : (nI 1).toInt = 1 := by decide
theorem ti_m : (-1 : Int32).toInt = -1 := by decide
theorem kv_pos {h : Nat → Nat} {n : Nat} (hn : 0 < n) (ht : h (n - 1) ≠ 0) : 0 < kv h n := by
  obtain ⟨k, rfl⟩ : ∃ k, n = k + 1 := ⟨n - 1, by omega⟩
  rw [Nat.add_sub_cancel] at ht
  rw [kv_s]
  have := Nat.mul_pos (Nat.pos_of_ne_zero ht) (kn_pos k)
  omega
theorem kv_pz {h : Nat → Nat} {n : Nat} (hn : 0 < n) (hz : h (n - 1) = 0) : kv h (n - 1) = kv h n := by
  obtain ⟨k, rfl⟩ : ∃ k, n = k + 1 := ⟨n - 1, by omega⟩
  rw [Nat.add_sub_cancel] at hz ⊢
  rw [kv_s, hz]
  omega
theorem dg_n0 {h : Nat → Int32} {i : Nat} (q : dg h i ≠ 0) : h i ≠ nI 0 := fun z => q (dg_is (by decide) z)
theorem CB_lt {h : Nat → Int32} (c : CB h) {n : Nat} (hn : n ≤ 15) : ∀ i, i < n → dg h i < 1000000000 := fun i hi => dg_lt c (by omega)
theorem LNV_0 {sg : Int32} {j n : Nat} {h : Nat → Int32} (c : CB h) (hj : j = 0) (e : kv (dg h) j = kv (dg h) n) : LNV (nI 0) j h (sg.toInt * (kv (dg h) n : Int)) := by
  subst hj
  rw [← e]
  refine ⟨by omega, c, Or.inl ⟨rfl, rfl⟩, fun q => absurd q (by omega), ?_⟩
  show sg.toInt * ((0 : Nat) : Int) = (nI 0).toInt * ((0 : Nat) : Int)
  simp
theorem LNV_p {sg : Int32} {j n : Nat} {h : Nat → Int32} (c : CB h) (hj : 0 < j) (h15 : j ≤ 15) (hs : FS sg (kv (dg h) n)) (e : kv (dg h) j = kv (dg h) n) (ht : dg h (j - 1) ≠ 0) : LNV sg j h (sg.toInt * (kv (dg h) n : Int)) := by
  have hp := kv_pos (h := dg h) hj ht
  rw [← e] at hs ⊢
  exact ⟨h15, c, Or.inr ⟨hj, hs.resolve_right (fun q => absurd q.2 (by omega))⟩, fun _ => ht, rfl⟩
theorem LNV_abs {sg : Int32} {n : Nat} {h : Nat → Int32} {v : Int} (q : LNV sg n h v) : v.natAbs = kv (dg h) n := by
  obtain ⟨-, -, hs, -, rfl⟩ := q
  rcases hs with ⟨rfl, rfl⟩ | ⟨-, rfl | rfl⟩
  · simp [kv]
  · rw [ti_1]; omega
  · rw [ti_m]; omega
theorem LNV_0s {sg : Int32} {n : Nat} {h : Nat → Int32} {v : Int} (q : LNV sg n h v) : sg = nI 0 ↔ n = 0 := by
  obtain ⟨-, -, hs, -⟩ := q
  rcases hs with ⟨rfl, rfl⟩ | ⟨z, rfl | rfl⟩
  · exact ⟨fun _ => rfl, fun _ => rfl⟩
  · exact ⟨fun w => absurd w (by decide), fun w => by omega⟩
  · exact ⟨fun w => absurd w (by decide), fun w => by omega⟩
/-- its sign -/
theorem LNV_sg {sg : Int32} {n : Nat} {h : Nat → Int32} {v : Int} (q : LNV sg n h v) : sg.toInt = v.sign := by
  have ha := LNV_abs q
  obtain ⟨-, -, hs, ht, hv⟩ := q
  rcases hs with ⟨rfl, rfl⟩ | ⟨z, rfl | rfl⟩
  · rw [hv]; simp [kv, ti_0]
  · have := kv_pos (h := dg h) z (ht z)
    rw [ti_1] at hv ⊢
    rw [hv, Int.sign_eq_one_of_pos (by omega)]
  · have := kv_pos (h := dg h) z (ht z)
    rw [ti_m] at hv ⊢
    rw [hv, Int.sign_eq_neg_one_of_neg (by omega)]
theorem pw_13 : 1000000000 ^ 13 * 1000 = T12 := by unfold T12; decide +kernel
theorem pw_14 : 1000000000 ^ 14 = T12 * 1000000 := by unfold T12; decide +kernel
theorem fit_1 {h : Nat → Int32} {n : Nat} (c : CB h) (hn : n ≤ 13) : kv (dg h) n < T12 := by
  have h1 := kv_lt (CB_lt c (n := n) (by omega))
  have h2 : 1000000000 ^ n ≤ 1000000000 ^ 13 := Nat.pow_le_pow_right (by decide) hn
  have h3 := pw_13
  have h4 := kn_pos 13
  generalize 1000000000 ^ 13 = P at *
  omega
theorem fit_s {h : Nat → Int32} (c : CB h) : kv (dg h) 14 = kv (dg h) 13 + dg h 13 * 1000000000 ^ 13 ∧ kv (dg h) 13 < 1000000000 ^ 13 := ⟨rfl, kv_lt (CB_lt c (by omega))⟩
theorem fit_2 {h : Nat → Int32} (c : CB h) (hl : dg h 13 < 1000) : kv (dg h) 14 < T12 := by
  obtain ⟨h1, h2⟩ := fit_s c
  have h3 := pw_13
  have h5 : dg h 13 * 1000000000 ^ 13 ≤ 999 * 1000000000 ^ 13 := Nat.mul_le_mul_right _ (by omega)
  rw [h1]
  generalize 1000000000 ^ 13 = P at *
  omega
theorem fit_3 {h : Nat → Int32} (c : CB h) (hl : 1000 ≤ dg h 13) : T12 ≤ kv (dg h) 14 := by
  obtain ⟨h1, h2⟩ := fit_s c
  have h3 := pw_13
  have h5 : 1000 * 1000000000 ^ 13 ≤ dg h 13 * 1000000000 ^ 13 := Nat.mul_le_mul_right _ (by omega)
  rw [h1]
  generalize 1000000000 ^ 13 = P at *
  omega
theorem fit_4 {h : Nat → Int32} (ht : dg h 14 ≠ 0) : T12 ≤ kv (dg h) 15 := by
  have h5 : 1 * 1000000000 ^ 14 ≤ dg h 14 * 1000000000 ^ 14 := Nat.mul_le_mul_right _ (by omega)
  have h3 := pw_14
  rw [show kv (dg h) 15 = kv (dg h) 14 + dg h 14 * 1000000000 ^ 14 from rfl]
  generalize 1000000000 ^ 14 = P at *
  omega
/-- a number that isn't too long has at most fourteen limbs -/
theorem LNF_14 {sg : Int32} {n : Nat} {h : Nat → Int32} {v : Int} (q : LNF sg n h v) : n ≤ 14 := by
  rcases Nat.lt_or_ge n 15 with z | z
  · omega
  · have h1 := LNV_abs q.1
    have h2 := q.2
    have h3 := q.1.1
    have h4 := q.1.2.2.2.1
    obtain rfl : n = 15 := by omega
    have := fit_4 (h4 (by omega))
    omega
/-- a limb, or 0 beyond -/
def lm (h : Nat → Int32) (n i : Nat) : Nat := if i < n then dg h i else 0
theorem lm_lt {h : Nat → Int32} {n : Nat} (c : CB h) (hn : n ≤ 15) (i : Nat) : lm h n i < 1000000000 := by
  unfold lm
  by_cases q : i < n
  · rw [if_pos q]; exact dg_lt c (by omega)
  · rw [if_neg q]; decide
theorem kv_lm {h : Nat → Int32} {n m : Nat} (hm : n ≤ m) : kv (lm h n) m = kv (dg h) n := by
  induction m with
  | zero =>
    obtain rfl : n = 0 := by omega
    rfl
  | succ m ih =>
    rw [kv_s]
    by_cases q : n ≤ m
    · rw [ih q, show lm h n m = 0 from if_neg (by omega)]; omega
    · obtain rfl : n = m + 1 := by omega
      rw [kv_s, show lm h (m + 1) m = dg h m from if_pos (by omega), kv_eq (h := lm h (m + 1)) (k := dg h) (fun i hi => if_pos (by omega))]
/-- one limb of a sum, of a difference -/
theorem al_1 {h : Nat → Int32} {a b : Nat → Nat} {i cy : Nat} (e : kv (dg h) i + cy * 1000000000 ^ i = kv a i + kv b i) (hb : a i + b i + cy < 2147483648) (hm : 1000000000 ≤ a i + b i + cy) : kv (dg (upd h i (nI (a i + b i + cy - 1000000000)))) (i + 1) + 1 * 1000000000 ^ (i + 1) = kv a (i + 1) + kv b (i + 1) := by
  rw [kv_upd (by omega), kn_s, kv_s a, kv_s b]
  exact (kn_pb e).1 hm
theorem al_2 {h : Nat → Int32} {a b : Nat → Nat} {i cy : Nat} (e : kv (dg h) i + cy * 1000000000 ^ i = kv a i + kv b i) (hm : a i + b i + cy < 1000000000) : kv (dg (upd h i (nI (a i + b i + cy - 0)))) (i + 1) + 0 * 1000000000 ^ (i + 1) = kv a (i + 1) + kv b (i + 1) := by
  rw [Nat.sub_zero, kv_upd (by omega), kn_s, kv_s a, kv_s b]
  exact (kn_pb e).2 hm
theorem al_end {h hy hz : Nat → Int32} {ny nz c cy : Nat} (cy' : CB hy) (cz' : CB hz) (h1 : ny ≤ 14) (h2 : nz ≤ 14) (hc : c = max ny nz + 1) (e : kv (dg h) c + cy * 1000000000 ^ c = kv (lm hy ny) c + kv (lm hz nz) c) : kv (dg h) c = kv (dg hy) ny + kv (dg hz) nz := by
  rw [kv_lm (by omega), kv_lm (by omega)] at e
  have l1 := kv_lt (CB_lt cy' (n := ny) (by omega))
  have l2 := kv_lt (CB_lt cz' (n := nz) (by omega))
  have p1 : 1000000000 ^ ny ≤ 1000000000 ^ (max ny nz) := Nat.pow_le_pow_right (by decide) (by omega)
  have p2 : 1000000000 ^ nz ≤ 1000000000 ^ (max ny nz) := Nat.pow_le_pow_right (by decide) (by omega)
  subst hc
  rw [kn_s] at e
  generalize 1000000000 ^ (max ny nz) = P at *
  rcases Nat.eq_zero_or_pos cy with q | q
  · subst q; omega
  · have := Nat.mul_le_mul_right (1000000000 * P) q
    omega
theorem sl_1 {h : Nat → Int32} {a b : Nat → Nat} {i cy : Nat} (e : kv (dg h) i + kv b i = kv a i + cy * 1000000000 ^ i) (ha : a i < 1000000000) (hm : a i < b i + cy) (hb : b i < 1000000000) (hc : cy ≤ 1) : kv (dg (upd h i (nI (a i + 1000000000 - (b i + cy))))) (i + 1) + kv b (i + 1) = kv a (i + 1) + 1 * 1000000000 ^ (i + 1) := by
  rw [kv_upd (by omega), kn_s, kv_s a, kv_s b]
  generalize 1000000000 ^ i = P at *
  have e4 : (a i + 1000000000 - (b i + cy)) * P + (b i + cy) * P = a i * P + 1000000000 * P := by rw [← Nat.add_mul, Nat.sub_add_cancel (by omega), Nat.add_mul]
  rw [Nat.add_mul] at e4
  omega
theorem sl_2 {h : Nat → Int32} {a b : Nat → Nat} {i cy : Nat} (e : kv (dg h) i + kv b i = kv a i + cy * 1000000000 ^ i) (ha : a i < 1000000000) (hm : ¬ a i < b i + cy) : kv (dg (upd h i (nI (a i + 0 - (b i + cy))))) (i + 1) + kv b (i + 1) = kv a (i + 1) + 0 * 1000000000 ^ (i + 1) := by
  rw [kv_upd (by omega), kn_s, kv_s a, kv_s b]
  generalize 1000000000 ^ i = P at *
  have e4 : (a i + 0 - (b i + cy)) * P + (b i + cy) * P = a i * P := by rw [← Nat.add_mul, Nat.sub_add_cancel (by omega), Nat.add_zero]
  rw [Nat.add_mul] at e4
  omega
/-- a number of more limbs is farther from 0 -/
theorem kv_more {a b : Nat → Nat} {m n : Nat} (hb : ∀ i, i < n → b i < 1000000000) (hm : n < m) (ht : a (m - 1) ≠ 0) : kv b n < kv a m := by
  have l1 := kv_lt hb
  obtain ⟨k, rfl⟩ : ∃ k, m = k + 1 := ⟨m - 1, by omega⟩
  rw [Nat.add_sub_cancel] at ht
  have p1 : 1000000000 ^ n ≤ 1000000000 ^ k := Nat.pow_le_pow_right (by decide) (by omega)
  have p2 : 1 * 1000000000 ^ k ≤ a k * 1000000000 ^ k := Nat.mul_le_mul_right _ (by omega)
  rw [kv_s]
  omega
theorem sl_end {h hy hz : Nat → Int32} {ny nz cy : Nat} (ch : CB h) (cz' : CB hz) (cy' : CB hy) (h1 : ny ≤ 15) (h2 : nz ≤ 15) (ht : 0 < nz → dg hz (nz - 1) ≠ 0) (hle : kv (dg hz) nz ≤ kv (dg hy) ny) (e : kv (dg h) ny + kv (lm hz nz) ny = kv (dg hy) ny + cy * 1000000000 ^ ny) : kv (dg h) ny = kv (dg hy) ny - kv (dg hz) nz := by
  have hn : nz ≤ ny := by
    rcases Nat.lt_or_ge ny nz with q | q
    · have := kv_more (a := dg hz) (CB_lt cy' h1) q (ht (by omega)); omega
    · exact q
  rw [kv_lm hn] at e
  have l1 := kv_lt (CB_lt ch h1)
  rcases Nat.eq_zero_or_pos cy with q | q
  · subst q; omega
  · have := Nat.mul_le_mul_right (1000000000 ^ ny) q
    omega
theorem far_gt {a b : Nat → Nat} {j : Nat} : ∀ {n : Nat}, (∀ i, i < n → b i < 1000000000) → j < n → (∀ i, j < i → i < n → a i = b i) → b j < a j → kv b n < kv a n := by
  intro n
  induction n with
  | zero => intro _ h; omega
  | succ n ih =>
    intro hb hj e h
    rw [kv_s, kv_s]
    rcases Nat.lt_or_ge j n with q | q
    · have := ih (fun i hi => hb i (by omega)) q (fun i h1 h2 => e i h1 (by omega)) h
      rw [e n q (by omega)]
      omega
    · obtain rfl : j = n := by omega
      have l1 := kv_lt (h := b) (n := j) (fun i hi => hb i (by omega))
      have : (b j + 1) * 1000000000 ^ j ≤ a j * 1000000000 ^ j := Nat.mul_le_mul_right _ h
      rw [Nat.add_mul] at this
      omega
theorem cb_cpy {h0 h1 : Nat → Int32} {m : Nat} (hm : m ≤ 15) (c0 : CB h0) (c1 : CB h1) : CB (va_cpy h0 h1 0 0 m) := lb_cpy c0 c1 (by omega) (by omega)
theorem dg_cpy {h0 h1 : Nat → Int32} {m i : Nat} (hi : i < m) : dg (va_cpy h0 h1 0 0 m) i = dg h0 i := by
  unfold dg va_cpy
  rw [if_pos (by omega)]
  simp
theorem LNV_cpy {sg s0 : Int32} {n : Nat} {h0 h1 : Nat → Int32} {v : Int} (q : LNV s0 n h0 v) (c1 : CB h1) (hs : LSg sg n) : LNV sg n (va_cpy h0 h1 0 0 n) (sg.toInt * (kv (dg h0) n : Int)) := by
  refine ⟨q.1, cb_cpy q.1 q.2.1 c1, hs, fun z => ?_, ?_⟩
  · rw [dg_cpy (by omega)]; exact q.2.2.2.1 z
  · rw [kv_eq (k := dg h0) (fun i hi => dg_cpy hi)]
/-- how a sum is made -/
theorem sm_add {a b : Int32} {x y : Nat} (e : a = b) : a.toInt * ((x + y : Nat) : Int) = a.toInt * (x : Int) + b.toInt * (y : Int) := by
  subst e
  rw [Int.natCast_add, Int.mul_add]
theorem sg_neg {a b : Int32} {m n : Nat} (ha : LSg a m) (hb : LSg b n) (h0 : ¬ a = nI 0) (h1 : ¬ b = nI 0) (h2 : ¬ a = b) : b.toInt = - a.toInt := by
  rcases ha with ⟨-, q⟩ | ⟨-, rfl | rfl⟩
  · exact absurd q h0
  · rcases hb with ⟨-, q⟩ | ⟨-, rfl | rfl⟩
    · exact absurd q h1
    · exact absurd rfl h2
    · rw [ti_1, ti_m]
  · rcases hb with ⟨-, q⟩ | ⟨-, rfl | rfl⟩
    · exact absurd q h1
    · rw [ti_1, ti_m]; rfl
    · exact absurd rfl h2
theorem sm_sub1 {a b : Int32} {x y : Nat} (e : b.toInt = - a.toInt) (h : y ≤ x) : a.toInt * ((x - y : Nat) : Int) = a.toInt * (x : Int) + b.toInt * (y : Int) := by
  rw [e, Int.natCast_sub h, Int.mul_sub, Int.neg_mul]
  omega
theorem sm_sub2 {a b : Int32} {x y : Nat} (e : b.toInt = - a.toInt) (h : x ≤ y) : b.toInt * ((y - x : Nat) : Int) = a.toInt * (x : Int) + b.toInt * (y : Int) := by
  rw [Int.natCast_sub h, Int.mul_sub, e, Int.neg_mul, Int.neg_mul]
  omega
theorem LS_neg {sg : Int32} {n : Nat} (h : LSg sg n) : LSg (-sg) n ∧ (-sg).toInt = - sg.toInt := by
  rcases h with ⟨z, rfl⟩ | ⟨z, rfl | rfl⟩
  · exact ⟨Or.inl ⟨z, by decide⟩, by decide⟩
  · exact ⟨Or.inr ⟨z, Or.inr (by decide)⟩, by decide⟩
  · exact ⟨Or.inr ⟨z, Or.inl (by decide)⟩, by decide⟩
def SGN (sg : Int32) : Prop := sg = nI 1 ∨ sg = -1
theorem LS_SGN {sg : Int32} {n : Nat} (h : LSg sg n) (h0 : ¬ sg = nI 0) : SGN sg := by
  rcases h with ⟨-, q⟩ | ⟨-, q⟩
  · exact absurd q h0
  · exact q
theorem un.st2 {W : List Nat} {g : Lay} {f f1 f2 : Nat → va_E} (h : un W g f f1) {x y T S : Nat} (hk : ∀ b, b ≠ x → b ≠ y → f2 b = f1 b) (ht : g.tg x = T) (hs : g.tg y = S) (hT : T ∈ W) (hS : S ∈ W) : un W g f f2 := fun a ha => (hk a (fun q => ha (by rw [q, ht]; exact hT)) (fun q => ha (by rw [q, hs]; exact hS))).trans (h a ha)
theorem LNV_cast {sg : Int32} {n : Nat} {h : Nat → Int32} {v w : Int} (q : LNV sg n h v) (e : v = w) : LNV sg n h w := e ▸ q
theorem ss_a {sy sg : Int32} {n K : Nat} {h : Nat → Int32} {v : Int} (q : LNV sy n h v) (h0 : sg = nI 0) : sy.toInt * (kv (dg h) n : Int) = v + sg.toInt * (K : Int) := by
  rw [← q.2.2.2.2, h0, ti_0]
  simp
theorem ss_b {sy sg : Int32} {n K : Nat} {h : Nat → Int32} {v : Int} (q : LNV sy n h v) (h0 : sy = nI 0) : sg.toInt * (K : Int) = v + sg.toInt * (K : Int) := by
  rw [q.2.2.2.2, h0, ti_0]
  simp
theorem ss_c {sy sg : Int32} {n K : Nat} {h : Nat → Int32} {v : Int} (q : LNV sy n h v) (e : sy = sg) : sy.toInt * ((kv (dg h) n + K : Nat) : Int) = v + sg.toInt * (K : Int) := (sm_add e).trans (by rw [← q.2.2.2.2])
theorem ss_d {sy sg : Int32} {n m K : Nat} {h : Nat → Int32} {v : Int} (q : LNV sy n h v) (hs : LSg sg m) (h0 : ¬ sg = nI 0) (h1 : ¬ sy = nI 0) (e : ¬ sy = sg) (hk : K ≤ kv (dg h) n) : sy.toInt * ((kv (dg h) n - K : Nat) : Int) = v + sg.toInt * (K : Int) := (sm_sub1 (sg_neg q.2.2.1 hs h1 h0 e) hk).trans (by rw [← q.2.2.2.2])
theorem ss_e {sy sg : Int32} {n m K : Nat} {h : Nat → Int32} {v : Int} (q : LNV sy n h v) (hs : LSg sg m) (h0 : ¬ sg = nI 0) (h1 : ¬ sy = nI 0) (e : ¬ sy = sg) (hk : kv (dg h) n ≤ K) : sg.toInt * ((K - kv (dg h) n : Nat) : Int) = v + sg.toInt * (K : Int) := (sm_sub2 (sg_neg q.2.2.1 hs h1 h0 e) hk).trans (by rw [← q.2.2.2.2])

