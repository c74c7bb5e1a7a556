/-! ===== what an interval holds: the working out of numbers stays inside ===== -/
def ivin (v : Int) (X : IVL) : Prop := (∀ a, X.1 = some a → a ≤ v) ∧ ∀ b, X.2 = some b → v ≤ b
def bdd (X : IVL) : Prop := X.1 ≠ none ∧ X.2 ≠ none
def isub (X Y : IVL) : Prop := (∀ a, Y.1 = some a → ∃ b, X.1 = some b ∧ a ≤ b) ∧ ∀ a, Y.2 = some a → ∃ b, X.2 = some b ∧ b ≤ a
theorem ivin_sub {v : Int} {X Y : IVL} (h : ivin v X) (k : isub X Y) : ivin v Y := by
  refine ⟨fun a q => ?_, fun a q => ?_⟩
  · obtain ⟨b, e, z⟩ := k.1 a q
    have := h.1 b e
    omega
  · obtain ⟨b, e, z⟩ := k.2 a q
    have := h.2 b e
    omega
theorem ivin_60 {v : Int} {X : IVL} (h : ivin v X) (b : bdd X) (k : iK X) : v.natAbs ≤ 1152921504606846976 := by
  obtain ⟨x, y⟩ := X
  cases x with
  | none => exact absurd rfl b.1
  | some x =>
    cases y with
    | none => exact absurd rfl b.2
    | some y =>
      have h1 := h.1 x rfl
      have h2 := h.2 y rfl
      have k1 := k.1 x rfl
      have k2 := k.2 y rfl
      omega
theorem ivin_n {v : Int} : ivin v (none, none) := ⟨fun a q => (by cases q), fun a q => (by cases q)⟩
theorem ivin_1 (v : Int) : ivin v (some v, some v) := ⟨fun a q => by cases q; exact Int.le_refl _, fun a q => by cases q; exact Int.le_refl _⟩
theorem oad_s {a b : Option Int} {z : Int} (h : oad a b = some z) : ∃ x y, a = some x ∧ b = some y ∧ z = x + y := by
  cases a with
  | none => cases h
  | some x =>
    cases b with
    | none => cases h
    | some y =>
      refine ⟨x, y, rfl, rfl, ?_⟩
      have h : cap (x + y) = some z := h
      unfold cap at h
      by_cases q : -1152921504606846976 ≤ x + y ∧ x + y ≤ 1152921504606846976
      · rw [if_pos q] at h; cases h; rfl
      · rw [if_neg q] at h; cases h
theorem ong_s {a : Option Int} {z : Int} (h : ong a = some z) : a = some (-z) := by
  cases a with
  | none => cases h
  | some x => cases h; rw [Int.neg_neg]
theorem ivin_neg {x : Int} {X : IVL} (h : ivin x X) : ivin (-x) (ineg X) := by
  refine ⟨fun a q => ?_, fun a q => ?_⟩
  · have := h.2 _ (ong_s q); omega
  · have := h.1 _ (ong_s q); omega
theorem ivin_add {x y : Int} {X Y : IVL} (h : ivin x X) (k : ivin y Y) : ivin (x + y) (isum X Y) := by
  refine ⟨fun a q => ?_, fun a q => ?_⟩
  · obtain ⟨c, d, e1, e2, e3⟩ := oad_s q
    have := h.1 c e1
    have := k.1 d e2
    omega
  · obtain ⟨c, d, e1, e2, e3⟩ := oad_s q
    have := h.2 c e1
    have := k.2 d e2
    omega
theorem ivin_dif {x y : Int} {X Y : IVL} (h : ivin x X) (k : ivin y Y) : ivin (x - y) (isum X (ineg Y)) := by
  rw [Int.sub_eq_add_neg]
  exact ivin_add h (ivin_neg k)
theorem bt_r {x c y d : Int} (h1 : c ≤ y) (h2 : y ≤ d) : (x * c ≤ x * y ∨ x * d ≤ x * y) ∧ (x * y ≤ x * c ∨ x * y ≤ x * d) := by
  rcases Int.le_total 0 x with h | h
  · exact ⟨Or.inl (Int.mul_le_mul_of_nonneg_left h1 h), Or.inr (Int.mul_le_mul_of_nonneg_left h2 h)⟩
  · exact ⟨Or.inr (Int.mul_le_mul_of_nonpos_left h h2), Or.inl (Int.mul_le_mul_of_nonpos_left h h1)⟩
theorem bt_l {y a x b : Int} (h1 : a ≤ x) (h2 : x ≤ b) : (a * y ≤ x * y ∨ b * y ≤ x * y) ∧ (x * y ≤ a * y ∨ x * y ≤ b * y) := by
  have := bt_r (x := y) h1 h2
  rw [Int.mul_comm y a, Int.mul_comm y x, Int.mul_comm y b] at this
  exact this
theorem bt_4 {a b c d x y : Int} (h1 : a ≤ x) (h2 : x ≤ b) (h3 : c ≤ y) (h4 : y ≤ d) : (a * c ≤ x * y ∨ a * d ≤ x * y ∨ b * c ≤ x * y ∨ b * d ≤ x * y) ∧ (x * y ≤ a * c ∨ x * y ≤ a * d ∨ x * y ≤ b * c ∨ x * y ≤ b * d) := by
  have q := bt_r (x := x) h3 h4
  have qc := bt_l (y := c) h1 h2
  have qd := bt_l (y := d) h1 h2
  omega
theorem tpr_b (a b : Int) : (-1152921504606846976 ≤ tpr a b → tpr a b ≤ a * b) ∧ (tpr a b ≤ 1152921504606846976 → a * b ≤ tpr a b) := by
  unfold tpr
  by_cases h : 1152921504606846976 < a.natAbs * b.natAbs
  · rw [if_pos h]
    by_cases q : a < 0 ↔ b < 0
    · rw [if_pos q]
      have a0 : a ≠ 0 := fun z => by rw [z] at h; simp at h
      have b0 : b ≠ 0 := fun z => by rw [z] at h; simp at h
      have e := (sgn_mul (a := a) (b := b)).1 q a0 b0
      rw [e]
      exact ⟨fun _ => Int.ofNat_le.mpr h, fun z => absurd z (by decide)⟩
    · rw [if_neg q]
      have e := (sgn_mul (a := a) (b := b)).2 q
      rw [e]
      exact ⟨fun z => absurd z (by decide), fun _ => Int.neg_le_neg (Int.ofNat_le.mpr h)⟩
  · rw [if_neg h]
    exact ⟨fun _ => Int.le_refl _, fun _ => Int.le_refl _⟩
theorem cap_s {x z : Int} (h : cap x = some z) : z = x ∧ -1152921504606846976 ≤ x ∧ x ≤ 1152921504606846976 := by
  unfold cap at h
  by_cases q : -1152921504606846976 ≤ x ∧ x ≤ 1152921504606846976
  · rw [if_pos q] at h; cases h; exact ⟨rfl, q⟩
  · rw [if_neg q] at h; cases h
theorem ivin_mulb {a b c d x y : Int} (h1 : a ≤ x) (h2 : x ≤ b) (h3 : c ≤ y) (h4 : y ≤ d) : ivin (x * y) (imulb a b c d) := by
  have q := bt_4 h1 h2 h3 h4
  have t1 := tpr_b a c
  have t2 := tpr_b a d
  have t3 := tpr_b b c
  have t4 := tpr_b b d
  unfold imulb
  refine ⟨fun z e => ?_, fun z e => ?_⟩
  · obtain ⟨e1, l, u⟩ := cap_s (z := z) e
    omega
  · obtain ⟨e1, l, u⟩ := cap_s (z := z) e
    omega
theorem ivin_z {x : Int} (h : ivin x (some 0, some 0)) : x = 0 := by
  have h1 := h.1 0 rfl
  have h2 := h.2 0 rfl
  omega
theorem ivin_mul {x y : Int} {X Y : IVL} (h : ivin x X) (k : ivin y Y) : ivin (x * y) (imul X Y) := by
  unfold imul
  by_cases q : X = (some 0, some 0) ∨ Y = (some 0, some 0)
  · rw [if_pos q]
    have e : x * y = 0 := by
      rcases q with q | q
      · rw [q] at h; rw [ivin_z h, Int.zero_mul]
      · rw [q] at k; rw [ivin_z k, Int.mul_zero]
    rw [e]
    exact ivin_1 0
  · rw [if_neg q]
    obtain ⟨x1, x2⟩ := X
    obtain ⟨y1, y2⟩ := Y
    cases x1 with
    | none => exact ivin_n
    | some a =>
      cases x2 with
      | none => exact ivin_n
      | some b =>
        cases y1 with
        | none => exact ivin_n
        | some c =>
          cases y2 with
          | none => exact ivin_n
          | some d => exact ivin_mulb (h.1 a rfl) (h.2 b rfl) (k.1 c rfl) (k.2 d rfl)
theorem ifar_in {x m : Int} {X : IVL} (h : ivin x X) (e : ifar X = some m) : (x.natAbs : Int) ≤ m := by
  obtain ⟨x1, x2⟩ := X
  cases x1 with
  | none => cases e
  | some a =>
    cases x2 with
    | none => cases e
    | some b =>
      have h1 := h.1 a rfl
      have h2 := h.2 b rfl
      have e : ((max a.natAbs b.natAbs : Nat) : Int) = m := Option.some.inj e
      omega
theorem ivin_quo {x : Int} {X : IVL} (y : Int) (h : ivin x X) : ivin (Int.tdiv x y) (iquo X) := by
  have q := (td_abs x y).1
  have d : x.natAbs / y.natAbs ≤ x.natAbs := Nat.div_le_self _ _
  refine ⟨fun a e => ?_, fun a e => ?_⟩
  · have := ifar_in h (ong_s e); omega
  · have := ifar_in h (show ifar X = some a from e); omega
theorem tmod_s {x : Int} (y : Int) (h : 0 ≤ x) : 0 ≤ Int.tmod x y := by
  obtain ⟨n, rfl⟩ := Int.eq_ofNat_of_zero_le h
  exact Int.tmod_nonneg y (Int.ofNat_nonneg n)
theorem imr_in {x y m : Int} {X Y : IVL} (h : ivin x X) (k : ivin y Y) (hy : y ≠ 0) (e : imr X Y = some m) : ((Int.tmod x y).natAbs : Int) ≤ m := by
  have q := (td_abs x y).2
  have y0 : 0 < y.natAbs := Int.natAbs_pos.mpr hy
  have d1 : x.natAbs % y.natAbs ≤ x.natAbs := Nat.mod_le _ _
  have d2 : x.natAbs % y.natAbs < y.natAbs := Nat.mod_lt _ y0
  unfold imr at e
  cases e1 : ifar X with
  | none =>
    cases e2 : ifar Y with
    | none => rw [e1, e2] at e; cases e
    | some n =>
      rw [e1, e2] at e
      have e : max 0 (n - 1) = m := Option.some.inj e
      have := ifar_in k e2
      omega
  | some p =>
    cases e2 : ifar Y with
    | none =>
      rw [e1, e2] at e
      have e : p = m := Option.some.inj e
      have := ifar_in h e1
      omega
    | some n =>
      rw [e1, e2] at e
      have e : min p (max 0 (n - 1)) = m := Option.some.inj e
      have := ifar_in h e1
      have := ifar_in k e2
      omega
theorem ivin_rst {x y : Int} {X Y : IVL} (h : ivin x X) (k : ivin y Y) (hy : y ≠ 0) : ivin (Int.tmod x y) (irst X Y) := by
  refine ⟨fun a e => ?_, fun a e => ?_⟩
  · have e : (if inn X = true then some 0 else ong (imr X Y)) = some a := e
    by_cases q : inn X = true
    · rw [if_pos q] at e
      have e : (0 : Int) = a := Option.some.inj e
      have x0 : 0 ≤ x := by
        unfold inn at q
        cases z : X.1 with
        | none => rw [z] at q; cases q
        | some b =>
          rw [z] at q
          have := of_decide_eq_true q
          have := h.1 b z
          omega
      have := tmod_s y x0
      omega
    · rw [if_neg q] at e
      have := imr_in h k hy (ong_s e)
      omega
  · have := imr_in h k hy (show imr X Y = some a from e)
    omega
/-! one instruction, then an EXPR -/
def VIN (en : Nat → IVL) (vr : Nat → Int) : Prop := ∀ v, v < 10 → ivin (vr v) (en v) ∧ (vr v).natAbs < T12
/-- a trap, and the value where there is none -/
def otr (w : Nat) (x y : Int) : Nat := if w = 7 then 0 else if 4 < w ∧ y = 0 then 1 else if T12 ≤ (opv w x y).natAbs then 2 else 0
def ovl (w : Nat) (x y : Int) : Int := if w = 7 then -x else opv w x y
theorem ovl_in {w a : Nat} {x y : Int} {X Y : IVL} (hw : 2 ≤ w) (hw8 : w < 8) (h : ivin x X) (k : w ≠ 7 → ivin y Y) (h0 : otr w x y = 0) : ivin (ovl w x y) (ivn w a X Y) := by
  unfold ovl ivn
  rw [if_neg (show ¬ w = 0 by omega), if_neg (show ¬ w = 1 by omega)]
  by_cases h7 : w = 7
  · rw [if_pos h7, if_pos h7]; exact ivin_neg h
  rw [if_neg h7, if_neg h7]
  have k := k h7
  unfold otr at h0
  rw [if_neg h7] at h0
  unfold opv
  by_cases h2 : w = 2
  · rw [if_pos h2, if_pos h2]; exact ivin_add h k
  rw [if_neg h2, if_neg h2]
  by_cases h3 : w = 3
  · rw [if_pos h3, if_pos h3]; exact ivin_dif h k
  rw [if_neg h3, if_neg h3]
  by_cases h4 : w = 4
  · rw [if_pos h4, if_pos h4]; exact ivin_mul h k
  rw [if_neg h4, if_neg h4]
  have hy : y ≠ 0 := fun z => by rw [if_pos ⟨by omega, z⟩] at h0; cases h0
  by_cases h5 : w = 5
  · rw [if_pos h5, if_pos h5]; exact ivin_quo y h
  · rw [if_neg h5, if_neg h5]; exact ivin_rst h k hy
theorem otr_3 (w : Nat) (x y : Int) : otr w x y = 0 ∨ otr w x y = 1 ∨ otr w x y = 2 := by
  unfold otr
  by_cases h7 : w = 7
  · rw [if_pos h7]; exact Or.inl rfl
  rw [if_neg h7]
  by_cases h : 4 < w ∧ y = 0
  · rw [if_pos h]; exact Or.inr (Or.inl rfl)
  rw [if_neg h]
  by_cases h2 : T12 ≤ (opv w x y).natAbs
  · rw [if_pos h2]; exact Or.inr (Or.inr rfl)
  · rw [if_neg h2]; exact Or.inl rfl
theorem ovl_lt {w : Nat} {x y : Int} (hx : x.natAbs < T12) (h : otr w x y = 0) : (ovl w x y).natAbs < T12 := by
  unfold otr at h
  unfold ovl
  by_cases h7 : w = 7
  · rw [if_pos h7, Int.natAbs_neg]; exact hx
  rw [if_neg h7] at h ⊢
  by_cases h1 : 4 < w ∧ y = 0
  · rw [if_pos h1] at h; cases h
  rw [if_neg h1] at h
  by_cases h2 : T12 ≤ (opv w x y).natAbs
  · rw [if_pos h2] at h; cases h
  · omega
theorem ev1_0 (vr : Nat → Int) (a : Nat) (S : List Int) : ev1 vr 0 a S = (0, (a : Int) :: S) := rfl
theorem ev1_1 (vr : Nat → Int) (a : Nat) (S : List Int) : ev1 vr 1 a S = (0, vr a :: S) := rfl
theorem ev1_7 (vr : Nat → Int) (a : Nat) (x : Int) (S : List Int) : ev1 vr 7 a (x :: S) = (0, (-x) :: S) := rfl
theorem ev1_o (vr : Nat → Int) {w a : Nat} (x y : Int) (S : List Int) (h2 : 2 ≤ w) (h7 : w < 7) : ev1 vr w a (y :: x :: S) = if otr w x y = 0 then (0, ovl w x y :: S) else (otr w x y, y :: x :: S) := by
  unfold ev1 otr ovl
  rw [if_neg (show ¬ w = 0 by omega), if_neg (show ¬ w = 1 by omega), if_neg (show ¬ w = 7 by omega), if_neg (show ¬ w = 7 by omega), if_neg (show ¬ w = 7 by omega)]
  show (if 4 < w ∧ y = 0 then (1, y :: x :: S) else if T12 ≤ (opv w x y).natAbs then (2, y :: x :: S) else (0, opv w x y :: S)) = _
  by_cases h1 : 4 < w ∧ y = 0
  · rw [if_pos h1, if_pos h1, if_neg (by decide)]
  rw [if_neg h1, if_neg h1]
  by_cases h3 : T12 ≤ (opv w x y).natAbs
  · rw [if_pos h3, if_pos h3, if_neg (by decide)]
  · rw [if_neg h3, if_neg h3, if_pos rfl]

