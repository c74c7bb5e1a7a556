/-! ===== the reference's drafts: what is open still, and what is whole ===== -/
theorem dpc_le (h : Nat → Int32) (n : Nat) : ∀ k, dpc h (n + k) ≤ dpc h n + k := by
  intro k
  induction k with
  | zero => exact Nat.le_refl _
  | succ k ih =>
    show (if dg h (n + k) < 2 then dpc h (n + k) + 1 else if dg h (n + k) = 7 then dpc h (n + k) else if dg h (n + k) < 7 then dpc h (n + k) - 1 else 0) ≤ _
    split
    · omega
    · split
      · omega
      · split <;> omega
theorem dpc_end {h : Nat → Int32} {n w : Nat} (e : h n = nI w) (hw : w < 2 ^ 31) (h8 : 8 ≤ w) : dpc h (n + 1) = 0 := by
  show (if dg h n < 2 then _ else if dg h n = 7 then _ else if dg h n < 7 then _ else 0) = 0
  rw [dg_is hw e, if_neg (by omega), if_neg (by omega), if_neg (by omega)]
theorem dpc_st {h : Nat → Int32} {n w : Nat} (e : h n = nI w) (hw : w < 2 ^ 31) : (w < 2 → dpc h (n + 1) = dpc h n + 1) ∧ (w = 7 → dpc h (n + 1) = dpc h n) ∧ (2 ≤ w → w < 7 → dpc h (n + 1) = dpc h n - 1) := by
  have z : dpc h (n + 1) = (if dg h n < 2 then dpc h n + 1 else if dg h n = 7 then dpc h n else if dg h n < 7 then dpc h n - 1 else 0) := rfl
  rw [dg_is hw e] at z
  refine ⟨fun q => ?_, fun q => ?_, fun q q2 => ?_⟩
  · rw [z, if_pos q]
  · rw [z, if_neg (by omega), if_pos q]
  · rw [z, if_neg (by omega), if_neg (by omega), if_pos q2]
/-- an instruction of an EXPR is whole, once something stands behind it -/
theorem GC_WO {hD hG : Nat → Int32} {a b n p : Nat} (h : GC hD hG a b) (ha : dpc hD a = 0) (h1 : a ≤ p) (h2 : p < b) (hb : b < n) (h72 : b ≤ a + 79) : ∃ w v, WO hD hG (dpc hD) n p w v ∧ w < 8 := by
  obtain ⟨w, v, a1, a2, a3, a4, a5, a6, a7⟩ := h p h1 h2
  have s := dpc_st a1 (by omega)
  have l := dpc_le hD a (p - a)
  rw [show a + (p - a) = p by omega, ha] at l
  exact ⟨w, v, ⟨a1, a2, by omega, a4, by omega, a5, s.1, fun z => ⟨a6 z, s.2.1 z⟩, fun z y => ⟨a7 z y, by have := s.2.2 z y; have := a7 z y; omega⟩, fun z => by omega, fun z => by omega, fun z => by omega, fun _ => by omega, fun z => by omega, fun z => by omega, fun z => by omega⟩, a3⟩
/-- an instruction that ends a STATEMENT: 8, 9, 10, or 11 with its target -/
theorem WO_end {hD hG : Nat → Int32} {n p w v : Nat} (e1 : hD p = nI w) (e2 : hG p = nI v) (h8 : 8 ≤ w) (h12 : w ≤ 11) (hv : v < 2147483648) (hv10 : w < 10 → v < 10) (h9 : w = 9 → dpc hD p = 0) (hd : dpc hD p ≤ 79) (ht : w = 11 → 0 < v ∧ v ≤ n ∧ (v < n → dpc hD v = 0)) : WO hD hG (dpc hD) n p w v :=
  ⟨e1, e2, by omega, hv, hd, fun z => by omega, fun z => by omega, fun z => by omega, fun z y => by omega, fun _ => dpc_end e1 (by omega) h8, fun _ y => hv10 y, fun z => h9 (by omega), fun z => by omega, ht, fun z => by omega, fun z => by omega⟩
theorem WO_jump {hD hG : Nat → Int32} {n p v : Nat} (e1 : hD p = nI 12) (e2 : hG p = nI v) (hv : v < 2147483648) (hd : dpc hD p = 0) (h1 : v ≤ n ∧ (v < n → dpc hD v = 0)) (h2 : p < v ∨ ∃ w', hD v = nI w' ∧ w' < 8 ∧ v < n) : WO hD hG (dpc hD) n p 12 v :=
  ⟨e1, e2, by omega, hv, by omega, fun z => by omega, fun z => by omega, fun z => by omega, fun z y => by omega, fun _ => dpc_end e1 (by decide) (by decide), fun _ y => by omega, fun _ => hd, fun z => by omega, fun z => by omega, fun _ => h1, fun _ => h2⟩
/-- more drafts behind it, and its own kept -/
theorem WO_mono {hD hG d g : Nat → Int32} {n n' p w v : Nat} (h : WO hD hG (dpc hD) n p w v) (hn : n ≤ n') (h0 : dpc hD n = 0) (hp : p < n) (e : smd n d hD) (eg : g p = hG p) : WO d g (dpc d) n' p w v := by
  obtain ⟨q1, q2, q3, q4, q5, q6, q7, q8, q9, q10, q11, q12, q13, q14, q15, q16⟩ := h
  have E : ∀ m, m ≤ n → dpc d m = dpc hD m := fun m hm => dpc_eq (fun i hi => e i (by omega))
  have T : ∀ m, m ≤ n → (m < n → dpc hD m = 0) → dpc d m = 0 := fun m hm z => by
    rw [E m hm]
    rcases Nat.lt_or_ge m n with y | y
    · exact z y
    · rw [show m = n by omega]; exact h0
  refine ⟨(e p hp).trans q1, eg.trans q2, q3, q4, by rw [E p (by omega)]; exact q5, q6, fun z => by rw [E _ (by omega), E _ (by omega)]; exact q7 z, fun z => by rw [E _ (by omega), E _ (by omega)]; exact q8 z, fun z y => by rw [E _ (by omega), E _ (by omega)]; exact q9 z y, fun z => by rw [E _ (by omega)]; exact q10 z, q11, fun z => by rw [E _ (by omega)]; exact q12 z, fun z => by have := q13 z; omega, fun z => ?_, fun z => ?_, fun z => ?_⟩
  · obtain ⟨z1, z2, z3⟩ := q14 z
    exact ⟨z1, by omega, fun _ => T v z2 z3⟩
  · obtain ⟨z2, z3⟩ := q15 z
    exact ⟨by omega, fun _ => T v z2 z3⟩
  · rcases q16 z with y | ⟨w', y1, y2, y3⟩
    · exact Or.inl y
    · exact Or.inr ⟨w', (e v y3).trans y1, y2, by omega⟩
/-- what is open: its test (or the way past it), which waits for its target -/
def PD (hD hG hB hK : Nat → Int32) (n j : Nat) : Prop := ∃ p, hB j = nI p ∧ p < n ∧ ((∃ b w', (hK j = nI 91 ∨ hK j = nI 123) ∧ hD p = nI 11 ∧ hG p = nI b ∧ b < p ∧ dpc hD b = 0 ∧ hD b = nI w' ∧ w' < 8 ∧ dpc hD p ≤ 79) ∨ (hK j = nI 124 ∧ hD p = nI 12 ∧ dpc hD p = 0))
def DI (hD hG hB hK : Nat → Int32) (n op : Nat) : Prop := n ≤ 100 ∧ dpc hD n = 0 ∧ (∀ j, j < op → PD hD hG hB hK n j) ∧ (∀ j j', j < j' → j' < op → ∃ p p', hB j = nI p ∧ hB j' = nI p' ∧ p < p' ∧ p' < 100) ∧ (n = 0 ∨ hD 0 ≠ nI 12) ∧ ∀ p, p < n → (∃ j, j < op ∧ hB j = nI p) ∨ ∃ w v, WO hD hG (dpc hD) n p w v
theorem DI_0 {hD hG hB hK : Nat → Int32} : DI hD hG hB hK 0 0 := ⟨by omega, rfl, fun j hj => absurd hj (by omega), fun j j' _ hj => absurd hj (by omega), Or.inl rfl, fun p hp => absurd hp (by omega)⟩
theorem PD_mono {hD hG hB hK d g : Nat → Int32} {n n' j : Nat} (h : PD hD hG hB hK n j) (hn : n ≤ n') (e : smd n d hD) (eg : smd n g hG) : PD d g hB hK n' j := by
  have E : ∀ m, m ≤ n → dpc d m = dpc hD m := fun m hm => dpc_eq (fun i hi => e i (by omega))
  obtain ⟨p, h1, h2, h3⟩ := h
  refine ⟨p, h1, by omega, h3.elim (fun ⟨b, w', a1, a2, a3, a4, a5, a6, a7, a8⟩ => Or.inl ⟨b, w', a1, (e p h2).trans a2, (eg p h2).trans a3, a4, by rw [E _ (by omega)]; exact a5, (e b (by omega)).trans a6, a7, by rw [E _ (by omega)]; exact a8⟩) (fun ⟨a1, a2, a3⟩ => Or.inr ⟨a1, (e p h2).trans a2, by rw [E _ (by omega)]; exact a3⟩)⟩
/-- whole instructions behind them -/
theorem DI_ext {hD hG hB hK d g : Nat → Int32} {n n' op : Nat} (h : DI hD hG hB hK n op) (e : smd n d hD) (eg : smd n g hG) (hn : n ≤ n') (hn' : n' ≤ 100) (h0 : dpc d n' = 0) (hf : n = 0 → n' = 0 ∨ d 0 ≠ nI 12) (hw : ∀ p, n ≤ p → p < n' → ∃ w v, WO d g (dpc d) n' p w v) : DI d g hB hK n' op := by
  obtain ⟨a1, a2, a3, a4, a5, a6⟩ := h
  refine ⟨hn', h0, fun j hj => PD_mono (a3 j hj) hn e eg, a4, ?_, fun p hp => ?_⟩
  · rcases a5 with z | z
    · exact hf z
    · rcases Nat.eq_zero_or_pos n with y | y
      · exact hf y
      · exact Or.inr (by rw [e 0 y]; exact z)
  · rcases Nat.lt_or_ge p n with q | q
    · rcases a6 p q with z | ⟨w, v, z⟩
      · exact Or.inl z
      · exact Or.inr ⟨w, v, WO_mono z hn a2 q e (eg p q)⟩
    · exact Or.inr (hw p q hp)
theorem DI_WF {hD hG hB hK : Nat → Int32} {n : Nat} (h : DI hD hG hB hK n 0) : WF hD hG (dpc hD) n := by
  obtain ⟨a1, a2, a3, a4, a5, a6⟩ := h
  refine ⟨a1, rfl, fun p hp => ?_⟩
  rcases a6 p hp with ⟨j, hj, -⟩ | z
  · omega
  · exact z
theorem GC_smd {hD hG d g : Nat → Int32} {a b : Nat} (h : GC hD hG a b) (e : smd b d hD) (eg : smd b g hG) : GC d g a b := by
  intro p h1 h2
  obtain ⟨w, v, a1, a2, a3, a4, a5, a6, a7⟩ := h p h1 h2
  have E : dpc d p = dpc hD p := dpc_eq (fun i hi => e i (by omega))
  exact ⟨w, v, (e p h2).trans a1, (eg p h2).trans a2, a3, a4, a5, fun z => by rw [E]; exact a6 z, fun z y => by rw [E]; exact a7 z y⟩
theorem PD_at {hD hG hB hK d g b k : Nat → Int32} {n n' j t : Nat} (h : PD hD hG hB hK n j) (hn : n ≤ n') (e : smd n d hD) (eg : ∀ q, q < n → q ≠ t → g q = hG q) (ht : ∀ p, hB j = nI p → p < n → p ≠ t) (eb : b j = hB j) (ek : k j = hK j) : PD d g b k n' j := by
  have E : ∀ m, m ≤ n → dpc d m = dpc hD m := fun m hm => dpc_eq (fun i hi => e i (by omega))
  obtain ⟨p, h1, h2, h3⟩ := h
  have hp := ht p h1 h2
  refine ⟨p, eb.trans h1, by omega, h3.elim (fun ⟨b', w', a1, a2, a3, a4, a5, a6, a7, a8⟩ => Or.inl ⟨b', w', by rw [ek]; exact a1, (e p h2).trans a2, (eg p h2 hp).trans a3, a4, by rw [E _ (by omega)]; exact a5, (e b' (by omega)).trans a6, a7, by rw [E _ (by omega)]; exact a8⟩) (fun ⟨a1, a2, a3⟩ => Or.inr ⟨ek.trans a1, (e p h2).trans a2, by rw [E _ (by omega)]; exact a3⟩)⟩
theorem nI_i {a b : Nat} (ha : a < 100) (hb : b < 100) (h : nI a = nI b) : a = b := (nI_eq (by omega) (by omega)).mp h
/-- a test is read: it is open -/
theorem DI_open {hD hG hB hK d g b k : Nat → Int32} {n n1 op : Nat} {c : Int32} (h : DI hD hG hB hK n op) (e : smd n d hD) (eg : smd n g hG) (hgc : GC d g n n1) (h1 : n < n1) (hn1 : n1 < 100) (h72 : n1 ≤ n + 79) (hd1 : dpc d n1 = 1) (e11 : d n1 = nI 11) (en : g n1 = nI n) (eb : smd op b hB) (eb1 : b op = nI n1) (ek : smd op k hK) (ek1 : k op = c) (hc : c = nI 91 ∨ c = nI 123) : DI d g b k (n1 + 1) (op + 1) := by
  obtain ⟨a1, a2, a3, a4, a5, a6⟩ := h
  have E0 : dpc d n = 0 := (dpc_eq (fun i hi => e i (by omega))).trans a2
  obtain ⟨w0, v0, f1, f2, f3, -⟩ := hgc n (Nat.le_refl n) h1
  have n0 : ∀ j, j < op → ∃ p, hB j = nI p ∧ p < n := fun j hj => by obtain ⟨p, z1, z2, -⟩ := a3 j hj; exact ⟨p, z1, z2⟩
  refine ⟨by omega, dpc_end e11 (by decide) (by decide), fun j hj => ?_, fun j j' hj hj' => ?_, Or.inr ?_, fun p hp => ?_⟩
  · rcases Nat.lt_or_ge j op with q | q
    · exact PD_at (t := n) (a3 j q) (by omega) e (fun x hx _ => eg x hx) (fun p _ hp => by omega) (eb j q) (ek j q)
    · obtain rfl : j = op := by omega
      exact ⟨n1, eb1, by omega, Or.inl ⟨n, w0, by rw [ek1]; exact hc, e11, en, h1, E0, f1, f3, by omega⟩⟩
  · rcases Nat.lt_or_ge j' op with q | q
    · obtain ⟨p, p', z1, z2, z3, z4⟩ := a4 j j' hj q
      exact ⟨p, p', (eb j (by omega)).trans z1, (eb j' q).trans z2, z3, z4⟩
    · obtain rfl : j' = op := by omega
      obtain ⟨p, z1, z2⟩ := n0 j (by omega)
      exact ⟨p, n1, (eb j (by omega)).trans z1, eb1, by omega, hn1⟩
  · rcases Nat.eq_zero_or_pos n with z | z
    · subst z; rw [f1]; exact fun q => by have := (nI_eq (by omega) (by decide)).mp q; omega
    · rcases a5 with y | y
      · omega
      · rw [e 0 z]; exact y
  · rcases Nat.lt_or_ge p n with q | q
    · rcases a6 p q with ⟨j, z1, z2⟩ | ⟨w, v, z⟩
      · exact Or.inl ⟨j, by omega, (eb j z1).trans z2⟩
      · exact Or.inr ⟨w, v, WO_mono z (by omega) a2 q e (eg p q)⟩
    · rcases Nat.lt_or_ge p n1 with q1 | q1
      · obtain ⟨w, v, z, -⟩ := GC_WO (n := n1 + 1) hgc E0 q q1 (by omega) h72
        exact Or.inr ⟨w, v, z⟩
      · obtain rfl : p = n1 := by omega
        exact Or.inl ⟨op, by omega, eb1⟩
/-- the last one open gets its target -/
theorem DI_close {hD hG hB hK d g : Nat → Int32} {n n' op t w v : Nat} (h : DI hD hG hB hK n (op + 1)) (hb : hB op = nI t) (ht : t < n) (e : smd n d hD) (eg : ∀ q, q < n → q ≠ t → g q = hG q) (hn : n ≤ n') (hn' : n' ≤ 100) (h0 : dpc d n' = 0) (hw : WO d g (dpc d) n' t w v) (hws : ∀ p, n ≤ p → p < n' → ∃ w v, WO d g (dpc d) n' p w v) : DI d g hB hK n' op := by
  obtain ⟨a1, a2, a3, a4, a5, a6⟩ := h
  have ne : ∀ j, j < op → ∀ p, hB j = nI p → p < n → p ≠ t := fun j hj p z1 z2 z3 => by
    obtain ⟨p1, p2, y1, y2, y3, y4⟩ := a4 j op hj (by omega)
    have := nI_i (by omega) (by omega) (z1.symm.trans y1)
    have := nI_i (by omega) y4 (hb.symm.trans y2)
    omega
  refine ⟨hn', h0, fun j hj => PD_at (a3 j (by omega)) hn e eg (ne j hj) rfl rfl, fun j j' z1 z2 => a4 j j' z1 (by omega), Or.inr ?_, fun p hp => ?_⟩
  · rcases a5 with z | z
    · omega
    · rw [e 0 (by omega)]; exact z
  · rcases Nat.lt_or_ge p n with q | q
    · by_cases qt : p = t
      · subst qt; exact Or.inr ⟨w, v, hw⟩
      · rcases a6 p q with ⟨j, z1, z2⟩ | ⟨w, v, z⟩
        · rcases Nat.lt_or_ge j op with y | y
          · exact Or.inl ⟨j, y, z2⟩
          · obtain rfl : j = op := by omega
            exact absurd (nI_i (by omega) (by omega) (z2.symm.trans hb)) qt
        · exact Or.inr ⟨w, v, WO_mono z hn a2 q e (eg p q qt)⟩
    · exact Or.inr (hws p q hp)
/-- .. and the way past the second PROGRAM is open instead -/
theorem DI_bar {hD hG hB hK d g b k : Nat → Int32} {n op t w v : Nat} (h : DI hD hG hB hK n (op + 1)) (hb : hB op = nI t) (ht : t < n) (e : smd n d hD) (eg : ∀ q, q < n → q ≠ t → g q = hG q) (hn : n < 100) (e12 : d n = nI 12) (hw : WO d g (dpc d) (n + 1) t w v) (eb : smd op b hB) (eb1 : b op = nI n) (ek : smd op k hK) (ek1 : k op = nI 124) : DI d g b k (n + 1) (op + 1) := by
  obtain ⟨a1, a2, a3, a4, a5, a6⟩ := h
  have E : dpc d n = 0 := (dpc_eq (fun i hi => e i (by omega))).trans a2
  have ne : ∀ j, j < op → ∀ p, hB j = nI p → p < n → p ≠ t := fun j hj p z1 z2 z3 => by
    obtain ⟨p1, p2, y1, y2, y3, y4⟩ := a4 j op hj (by omega)
    have := nI_i (by omega) (by omega) (z1.symm.trans y1)
    have := nI_i (by omega) y4 (hb.symm.trans y2)
    omega
  refine ⟨by omega, dpc_end e12 (by decide) (by decide), fun j hj => ?_, fun j j' hj hj' => ?_, Or.inr ?_, fun p hp => ?_⟩
  · rcases Nat.lt_or_ge j op with q | q
    · exact PD_at (a3 j (by omega)) (by omega) e eg (ne j q) (eb j q) (ek j q)
    · obtain rfl : j = op := by omega
      exact ⟨n, eb1, by omega, Or.inr ⟨ek1, e12, E⟩⟩
  · rcases Nat.lt_or_ge j' op with q | q
    · obtain ⟨p, p', z1, z2, z3, z4⟩ := a4 j j' hj (by omega)
      exact ⟨p, p', (eb j (by omega)).trans z1, (eb j' q).trans z2, z3, z4⟩
    · obtain rfl : j' = op := by omega
      obtain ⟨p, z1, z2, -⟩ := a3 j (by omega)
      exact ⟨p, n, (eb j (by omega)).trans z1, eb1, z2, hn⟩
  · rcases a5 with z | z
    · omega
    · rw [e 0 (by omega)]; exact z
  · rcases Nat.lt_or_ge p n with q | q
    · by_cases qt : p = t
      · subst qt; exact Or.inr ⟨w, v, hw⟩
      · rcases a6 p q with ⟨j, z1, z2⟩ | ⟨w, v, z⟩
        · rcases Nat.lt_or_ge j op with y | y
          · exact Or.inl ⟨j, by omega, (eb j y).trans z2⟩
          · obtain rfl : j = op := by omega
            exact absurd (nI_i (by omega) (by omega) (z2.symm.trans hb)) qt
        · exact Or.inr ⟨w, v, WO_mono z (by omega) a2 q e (eg p q qt)⟩
    · obtain rfl : p = n := by omega
      exact Or.inl ⟨op, by omega, eb1⟩
/-- the open signs as the pure reader keeps them -/
def kl (h : Nat → Int32) : Nat → List Nat
  | 0 => []
  | n + 1 => kc (h n) :: kl h n
theorem kl_eq {h k : Nat → Int32} {n : Nat} (e : ∀ i, i < n → h i = k i) : kl h n = kl k n := by
  induction n with
  | zero => rfl
  | succ n ih => unfold kl; rw [ih (fun i hi => e i (by omega)), e n (by omega)]
theorem kl_s (h : Nat → Int32) {n : Nat} (hn : 0 < n) : kl h n = kc (h (n - 1)) :: kl h (n - 1) := by
  obtain ⟨k, rfl⟩ : ∃ k, n = k + 1 := ⟨n - 1, by omega⟩
  rfl
theorem kl_upd (h : Nat → Int32) (n : Nat) (x : Int32) : kl (upd h n x) (n + 1) = kc x :: kl h n := by
  show kc (upd h n x n) :: kl (upd h n x) n = _
  rw [upd_at, kl_eq (k := h) (fun i hi => upd_ne _ _ (by omega))]

