/-! ===== the reference's reader: its row of waiting signs, its drafts ===== -/
def nxm (h : Nat → Int32) (n i : Nat) : Int32 := if i < n then h i else nI 10
theorem tkm (h : Nat → Int32) (n i : Nat) : kc (nxm h n i) = tk h n i := by
  unfold tk nxm nx
  by_cases q : i < n
  · rw [if_pos q, if_pos q]
  · rw [if_neg q, if_neg q]; decide
def wcc (c : Int32) : Nat := if c = nI 40 then 4 else if c = nI 117 then 8 else if kc c = 3 then 3 else 1
def wll (h : Nat → Int32) : Nat → List Nat
  | 0 => []
  | n + 1 => wcc (h n) :: wll h n
theorem wll_eq {h k : Nat → Int32} {n : Nat} (e : ∀ i, i < n → h i = k i) : wll h n = wll k n := by
  induction n with
  | zero => rfl
  | succ n ih => unfold wll; rw [ih (fun i hi => e i (by omega)), e n (by omega)]
theorem wll_s (h : Nat → Int32) {n : Nat} (hn : 0 < n) : wll h n = wcc (h (n - 1)) :: wll h (n - 1) := by
  obtain ⟨k, rfl⟩ : ∃ k, n = k + 1 := ⟨n - 1, by omega⟩
  rfl
theorem wll_upd (h : Nat → Int32) (n : Nat) (x : Int32) : wll (upd h n x) (n + 1) = wcc x :: wll h n := by
  show wcc (upd h n x n) :: wll (upd h n x) n = _
  rw [upd_at, wll_eq (k := h) (fun i hi => upd_ne _ _ (by omega))]
/-- how many brackets and signs before factors wait; how many signs between -/
def cbr : List Nat → Nat
  | [] => 0
  | x :: S => (if x = 4 ∨ x = 8 then 1 else 0) + cbr S
def nbS : List Nat → Nat
  | [] => 0
  | x :: S => (if x = 4 ∨ x = 8 then 0 else 1) + nbS S
/-- signs before factors wait only at the top (true: they may) or right above a bracket -/
def nn8 : Bool → List Nat → Prop
  | _, [] => True
  | b, x :: S => if x = 4 then nn8 true S else if x = 8 then b = true ∧ nn8 true S else nn8 false S
def n8 (S : List Nat) : Prop := nn8 false S
def n8t (S : List Nat) : Prop := nn8 true S
theorem nn8_c (b : Bool) (x : Nat) (S : List Nat) : nn8 b (x :: S) = (if x = 4 then nn8 true S else if x = 8 then b = true ∧ nn8 true S else nn8 false S) := rfl
theorem n8t_nil : n8t [] := trivial
theorem n8t_8 {S : List Nat} (h : n8t S) : n8t (8 :: S) := by
  unfold n8t; rw [nn8_c, if_neg (by decide), if_pos rfl]; exact ⟨rfl, h⟩
theorem n8t_4 {S : List Nat} (h : n8t S) : n8t (4 :: S) := by
  unfold n8t; rw [nn8_c, if_pos rfl]; exact h
theorem n8t_x {x : Nat} {S : List Nat} (h4 : x ≠ 4) (h8 : x ≠ 8) (h : n8 S) : n8t (x :: S) := by
  unfold n8t; rw [nn8_c, if_neg h4, if_neg h8]; exact h
theorem n8_4 {S : List Nat} (h : n8 (4 :: S)) : n8t S := by
  unfold n8 at h; rw [nn8_c, if_pos rfl] at h; exact h
theorem neg_n8 : ∀ {S : List Nat} (d : Nat), n8t S → n8 (py_neg S d).1 := by
  intro S
  induction S with
  | nil => intro d _; trivial
  | cons x S ih =>
    intro d h
    by_cases q : x = 8
    · subst q
      show n8 (py_neg S (d - 1)).1
      unfold n8t at h
      rw [nn8_c, if_neg (by decide), if_pos rfl] at h
      exact ih _ h.2
    · rw [py_neg_s (x :: S) (by simpa using q)]
      unfold n8t at h
      unfold n8
      rw [nn8_c] at *
      by_cases h4 : x = 4
      · rw [if_pos h4] at *; exact h
      · rw [if_neg h4, if_neg q] at *; exact h
theorem neg_8 (S : List Nat) (d : Nat) : py_neg (8 :: S) d = py_neg S (d - 1) := rfl
theorem neg_n {x : Nat} {S : List Nat} {d : Nat} (h : x ≠ 8) : py_neg (x :: S) d = (x :: S, d) := py_neg_s _ (by simpa using h) d
theorem rel_p {b x : Nat} {S : List Nat} (h : x ≠ 4 ∧ b ≤ (if x = 3 then 2 else 1)) : py_rel b (x :: S) = py_rel b S := if_pos h
theorem rel_n {b x : Nat} {S : List Nat} (h : ¬ (x ≠ 4 ∧ b ≤ (if x = 3 then 2 else 1))) : py_rel b (x :: S) = x :: S := if_neg h
theorem n8_top {x : Nat} {S : List Nat} (h : n8 (x :: S)) (h4 : x ≠ 4) : x ≠ 8 ∧ n8 S := by
  unfold n8 at h
  rw [nn8_c, if_neg h4] at h
  by_cases h8 : x = 8
  · rw [if_pos h8] at h; exact absurd h.1 (by decide)
  · rw [if_neg h8] at h; exact ⟨h8, h⟩
/-- the height of the row behind so many drafts -/
def dpc (h : Nat → Int32) : Nat → Nat
  | 0 => 0
  | n + 1 => if dg h n < 2 then dpc h n + 1 else if dg h n = 7 then dpc h n else if dg h n < 7 then dpc h n - 1 else 0
theorem dpc_eq {h k : Nat → Int32} {n : Nat} (e : ∀ i, i < n → h i = k i) : dpc h n = dpc k n := by
  induction n with
  | zero => rfl
  | succ n ih => unfold dpc; rw [ih (fun i hi => e i (by omega)), show dg h n = dg k n by unfold dg; rw [e n (by omega)]]
theorem dpc_u {h : Nat → Int32} {n m : Nat} {x : Int32} (hm : m ≤ n) : dpc (upd h n x) m = dpc h m := dpc_eq (fun i hi => upd_ne _ _ (by omega))
theorem dpc_s {h : Nat → Int32} {n w : Nat} (hw : w < 2 ^ 31) : dpc (upd h n (nI w)) (n + 1) = if w < 2 then dpc h n + 1 else if w = 7 then dpc h n else if w < 7 then dpc h n - 1 else 0 := by
  show (if dg (upd h n (nI w)) n < 2 then _ else _) = _
  rw [dg_at hw, dpc_u (Nat.le_refl n)]
/-- the drafts from a up to b are an EXPR's -/
def GC (hD hG : Nat → Int32) (a b : Nat) : Prop := ∀ p, a ≤ p → p < b → ∃ w v, hD p = nI w ∧ hG p = nI v ∧ w < 8 ∧ v < 2147483648 ∧ (w = 1 → v < 10) ∧ (w = 7 → 1 ≤ dpc hD p) ∧ (2 ≤ w → w < 7 → 2 ≤ dpc hD p)
theorem GC_nil {hD hG : Nat → Int32} {a : Nat} : GC hD hG a a := fun p h1 h2 => by omega
theorem GC_put {hD hG : Nat → Int32} {a n w v : Nat} (h : GC hD hG a n) (hw : w < 8) (hv : v < 2147483648) (h1 : w = 1 → v < 10) (h7 : w = 7 → 1 ≤ dpc hD n) (h2 : 2 ≤ w → w < 7 → 2 ≤ dpc hD n) : GC (upd hD n (nI w)) (upd hG n (nI v)) a (n + 1) := by
  intro p p1 p2
  by_cases q : p = n
  · subst q
    exact ⟨w, v, upd_at _ _ _, upd_at _ _ _, hw, hv, h1, fun z => by rw [dpc_u (Nat.le_refl _)]; exact h7 z, fun z y => by rw [dpc_u (Nat.le_refl _)]; exact h2 z y⟩
  · obtain ⟨w', v', a1, a2, a3, a4, a5, a6, a7⟩ := h p p1 (by omega)
    exact ⟨w', v', (upd_ne _ _ q).trans a1, (upd_ne _ _ q).trans a2, a3, a4, a5, fun z => by rw [dpc_u (by omega)]; exact a6 z, fun z y => by rw [dpc_u (by omega)]; exact a7 z y⟩
/-- drafts below n are as they were -/
def smd (n : Nat) (h k : Nat → Int32) : Prop := ∀ i, i < n → h i = k i
theorem smd_rf {n : Nat} {h : Nat → Int32} : smd n h h := fun _ _ => rfl
theorem smd_u {n m : Nat} {h k : Nat → Int32} {x : Int32} (e : smd n h k) (hm : n ≤ m) : smd n (upd h m x) k := fun i hi => (upd_ne _ _ (by omega)).trans (e i hi)
theorem smd_tr {n : Nat} {h k l : Nat → Int32} (e : smd n h k) (e2 : smd n k l) : smd n h l := fun i hi => (e i hi).trans (e2 i hi)
theorem smd_le {n m : Nat} {h k : Nat → Int32} (e : smd n h k) (hm : m ≤ n) : smd m h k := fun i hi => e i (by omega)
def PWN (n v : Nat) : Prop := v < 10 ^ (min n 9)
theorem pwn_0 : PWN 0 0 := by unfold PWN; decide
theorem pwn_s {n v d : Nat} (h : PWN n v) (hn : n < 9) (hd : d < 10) : PWN (n + 1) (10 * v + d) := by
  unfold PWN at *
  rw [Nat.min_eq_left (by omega)] at *
  rw [Nat.pow_succ]
  omega
theorem pwn_k {n v : Nat} (h : PWN n v) (hn : 9 ≤ n) : PWN (n + 1) v := by
  unfold PWN at *
  rw [Nat.min_eq_right (by omega)] at *
  exact h
theorem pwn_lt {n v : Nat} (h : PWN n v) : v < 1000000000 := by
  unfold PWN at h
  have : (10 : Nat) ^ (min n 9) ≤ 10 ^ 9 := Nat.pow_le_pow_right (by decide) (Nat.min_le_right _ _)
  omega
theorem dgc {c : Int32} (h : kc c = 7) : ∃ k, 48 ≤ k ∧ k ≤ 57 ∧ c = nI k := by
  obtain ⟨h1, h2⟩ := kc_7.mp h
  have h0 : ¬ c < 0 := fun q => absurd (Int32.lt_of_lt_of_le q (show (0 : Int32) ≤ nI 48 by decide)) (Int32.not_lt.mpr h1)
  obtain ⟨j, hj, rfl⟩ := nI_of h0
  exact ⟨j, (nI_leI (by decide) hj).mp h1, (nI_leI hj (by decide)).mp h2, rfl⟩
theorem wcc_8 {c : Int32} (h : wcc c = 8) : c = nI 117 := by
  unfold wcc at h
  by_cases h1 : c = nI 40
  · rw [if_pos h1] at h; omega
  · rw [if_neg h1] at h
    by_cases h2 : c = nI 117
    · exact h2
    · rw [if_neg h2] at h
      by_cases h3 : kc c = 3
      · rw [if_pos h3] at h; omega
      · rw [if_neg h3] at h; omega
theorem wcc_4 {c : Int32} (h : wcc c = 4) : c = nI 40 := by
  unfold wcc at h
  by_cases h1 : c = nI 40
  · exact h1
  · rw [if_neg h1] at h
    by_cases h2 : c = nI 117
    · rw [if_pos h2] at h; omega
    · rw [if_neg h2] at h
      by_cases h3 : kc c = 3
      · rw [if_pos h3] at h; omega
      · rw [if_neg h3] at h; omega
theorem wcc_3 {c : Int32} (h : kc c = 3) : wcc c = 3 := by
  unfold wcc
  rw [if_neg (fun q => by rw [q] at h; exact absurd h (by decide)), if_neg (fun q => by rw [q] at h; exact absurd h (by decide)), if_pos h]
theorem wcc_1 {c : Int32} (h1 : c ≠ nI 40) (h2 : c ≠ nI 117) (h3 : kc c ≠ 3) : wcc c = 1 := by
  unfold wcc
  rw [if_neg h1, if_neg h2, if_neg h3]
theorem cbr_c (x : Nat) (S : List Nat) : cbr (x :: S) = (if x = 4 ∨ x = 8 then 1 else 0) + cbr S := rfl
theorem nbS_c (x : Nat) (S : List Nat) : nbS (x :: S) = (if x = 4 ∨ x = 8 then 0 else 1) + nbS S := rfl

