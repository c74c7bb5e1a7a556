/-! ===== intervals: what both machines work out of them ===== -/
abbrev IVL := Option Int × Option Int
def bI : Bool → Int32
  | true => nI 1
  | false => nI 0
def KU (v : Int64) : Bool := decide (v < (-1152921504606846976)) || decide (nL 1152921504606846976 < v)
def kL (u : Int64) : Int64 := if KU u = true then (-9223372036854775808) else u
def kH (u : Int64) : Int64 := if KU u = true then nL 9223372036854775807 else u
def kS (u v : Int64) : Int64 := if KU u = true ∨ KU v = true then nL 1152921504606846977 else u + v
def kA (u : Int64) : Int64 := if 0 < u then u else -u
def kmin (x y : Int64) : Int64 := if y < x then y else x
def kmax (x y : Int64) : Int64 := if y < x then x else y
def kP (u v : Int64) : Int64 := if u = nL 0 ∨ v = nL 0 then nL 0 else if nL 1152921504606846976 / kA v < kA u then (if (u < nL 0 ↔ v < nL 0) then nL 1152921504606846977 else (-1152921504606846977)) else u * v
def kZ (lo hi : Int64) : Bool := decide (lo = nL 0) && decide (hi = nL 0)
def kB (lo hi : Int64) : Bool := !KU lo && !KU hi
def kF (lo hi : Int64) : Int64 := if kB lo hi = true then kmax (kA lo) (kA hi) else nL 9223372036854775807
def kJL (wd : Int32) (lo ol : Int64) : Int64 := if ol < lo then (if wd = nI 0 then ol else (-9223372036854775808)) else lo
def kJH (wd : Int32) (hi oh : Int64) : Int64 := if hi < oh then (if wd = nI 0 then oh else nL 9223372036854775807) else hi
def kML (a b c d : Int64) : Int64 := if kZ a b = true ∨ kZ c d = true then nL 0 else if kB a b = true ∧ kB c d = true then kmin (kmin (kP a c) (kP a d)) (kmin (kP b c) (kP b d)) else (-9223372036854775808)
def kMH (a b c d : Int64) : Int64 := if kZ a b = true ∨ kZ c d = true then nL 0 else if kB a b = true ∧ kB c d = true then kmax (kmax (kP a c) (kP a d)) (kmax (kP b c) (kP b d)) else nL 9223372036854775807
def kR (a b c d : Int64) : Int64 := if kB c d = true then kmin (kF a b) (kmax (nL 0) (kF c d - nL 1)) else kF a b
/-! the intervals themselves: none is UNBOUNDED -/
def cap (x : Int) : Option Int := if -1152921504606846976 ≤ x ∧ x ≤ 1152921504606846976 then some x else none
def oK (o : Option Int) : Prop := ∀ v, o = some v → -1152921504606846976 ≤ v ∧ v ≤ 1152921504606846976
def iK (x : IVL) : Prop := oK x.1 ∧ oK x.2
def ong : Option Int → Option Int
  | some x => some (-x)
  | none => none
def oad : Option Int → Option Int → Option Int
  | some x, some y => cap (x + y)
  | _, _ => none
def tpr (a b : Int) : Int := if 1152921504606846976 < a.natAbs * b.natAbs then (if (a < 0 ↔ b < 0) then 1152921504606846977 else -1152921504606846977) else a * b
def ineg (x : IVL) : IVL := (ong x.2, ong x.1)
def isum (x y : IVL) : IVL := (oad x.1 y.1, oad x.2 y.2)
def imulb (a b c d : Int) : IVL := (cap (min (min (tpr a c) (tpr a d)) (min (tpr b c) (tpr b d))), cap (max (max (tpr a c) (tpr a d)) (max (tpr b c) (tpr b d))))
def imul (x y : IVL) : IVL := if x = (some 0, some 0) ∨ y = (some 0, some 0) then (some 0, some 0) else match x, y with
  | (some a, some b), (some c, some d) => imulb a b c d
  | _, _ => (none, none)
def ifar : IVL → Option Int
  | (some a, some b) => some (max a.natAbs b.natAbs : Nat)
  | _ => none
def iquo (x : IVL) : IVL := (ong (ifar x), ifar x)
def imr (x y : IVL) : Option Int := match ifar x, ifar y with
  | some m, some n => some (min m (max 0 (n - 1)))
  | none, some n => some (max 0 (n - 1))
  | o, none => o
def inn (x : IVL) : Bool := match x.1 with
  | some a => decide (0 ≤ a)
  | none => false
def irst (x y : IVL) : IVL := (if inn x = true then some 0 else ong (imr x y), imr x y)
def ivn (w a : Nat) (X Y : IVL) : IVL := if w = 0 then (some (a : Int), some (a : Int)) else if w = 1 then X else if w = 7 then ineg X else if w = 2 then isum X Y else if w = 3 then isum X (ineg Y) else if w = 4 then imul X Y else if w = 5 then iquo X else irst X Y
def cL : Option Int → Int64
  | none => (-9223372036854775808)
  | some v => Int64.ofInt v
def cH : Option Int → Int64
  | none => nL 9223372036854775807
  | some v => Int64.ofInt v
theorem KU_t {v : Int64} : KU v = true ↔ v.toInt < -1152921504606846976 ∨ 1152921504606846976 < v.toInt := by
  unfold KU
  rw [Bool.or_eq_true, decide_eq_true_iff, decide_eq_true_iff, Int64.lt_iff_toInt_lt, Int64.lt_iff_toInt_lt, nL_toInt (by decide), show ((-1152921504606846976 : Int64)).toInt = -1152921504606846976 by decide]
  constructor <;> (intro h; omega)
theorem KU_f {v : Int64} : KU v = false ↔ -1152921504606846976 ≤ v.toInt ∧ v.toInt ≤ 1152921504606846976 := by
  rw [← Bool.not_eq_true, KU_t]
  omega
theorem kL_cap (v : Int64) : kL v = cL (cap v.toInt) := by
  unfold kL cap
  by_cases h : KU v = true
  · rw [if_pos h, if_neg (by rw [KU_t] at h; omega)]; rfl
  · have h2 := KU_f.mp (Bool.eq_false_iff.mpr h)
    rw [if_neg h, if_pos h2]; exact (Int64.ofInt_toInt v).symm
theorem kH_cap (v : Int64) : kH v = cH (cap v.toInt) := by
  unfold kH cap
  by_cases h : KU v = true
  · rw [if_pos h, if_neg (by rw [KU_t] at h; omega)]; rfl
  · have h2 := KU_f.mp (Bool.eq_false_iff.mpr h)
    rw [if_neg h, if_pos h2]; exact (Int64.ofInt_toInt v).symm
theorem oK_cap (x : Int) : oK (cap x) := by
  intro v h
  unfold cap at h
  by_cases q : -1152921504606846976 ≤ x ∧ x ≤ 1152921504606846976
  · rw [if_pos q] at h; cases h; exact q
  · rw [if_neg q] at h; cases h
theorem cap_in {x : Int} (h : -1152921504606846976 ≤ x ∧ x ≤ 1152921504606846976) : cap x = some x := if_pos h
/-- a long that stands for a bound -/
def RP (u : Int64) (o : Option Int) : Prop := (o = none → KU u = true) ∧ ∀ x, o = some x → u.toInt = x ∧ -1152921504606846976 ≤ x ∧ x ≤ 1152921504606846976
theorem ofI_t {v : Int} (h : -1152921504606846976 ≤ v ∧ v ≤ 1152921504606846976) : (Int64.ofInt v).toInt = v := Int64.toInt_ofInt_of_le (by omega) (by omega)
theorem RP_L {o : Option Int} (h : oK o) : RP (cL o) o := by
  cases o with
  | none => exact ⟨fun _ => (by decide), fun x q => by cases q⟩
  | some v => exact ⟨fun q => (by cases q), fun x q => by cases q; exact ⟨ofI_t (h v rfl), h v rfl⟩⟩
theorem RP_H {o : Option Int} (h : oK o) : RP (cH o) o := by
  cases o with
  | none => exact ⟨fun _ => (by decide), fun x q => by cases q⟩
  | some v => exact ⟨fun q => (by cases q), fun x q => by cases q; exact ⟨ofI_t (h v rfl), h v rfl⟩⟩
theorem neg_t {u : Int64} (h : -1152921504606846977 ≤ u.toInt ∧ u.toInt ≤ 1152921504606846977) : (-u).toInt = -u.toInt := by
  rw [Int64.toInt_neg, Int.bmod_eq_of_le (by omega) (by omega)]
theorem RP_nL {o : Option Int} (h : oK o) : RP (-(cL o)) (ong o) := by
  cases o with
  | none => exact ⟨fun _ => (by decide), fun x q => by cases q⟩
  | some v =>
    have h2 := h v rfl
    have h3 := ofI_t h2
    exact ⟨fun q => (by cases q), fun x q => by cases q; exact ⟨by show (-(Int64.ofInt v)).toInt = -v; rw [neg_t (by omega), h3], by omega, by omega⟩⟩
theorem RP_nH {o : Option Int} (h : oK o) : RP (-(cH o)) (ong o) := by
  cases o with
  | none => exact ⟨fun _ => (by decide), fun x q => by cases q⟩
  | some v =>
    have h2 := h v rfl
    have h3 := ofI_t h2
    exact ⟨fun q => (by cases q), fun x q => by cases q; exact ⟨by show (-(Int64.ofInt v)).toInt = -v; rw [neg_t (by omega), h3], by omega, by omega⟩⟩
theorem KU_RP {u : Int64} {o : Option Int} (h : RP u o) : KU u = o.isNone := by
  cases o with
  | none => exact h.1 rfl
  | some x =>
    have := h.2 x rfl
    exact KU_f.mpr ⟨by omega, by omega⟩
theorem cap_RP {u : Int64} {o : Option Int} (h : RP u o) : cap u.toInt = o := by
  cases o with
  | none =>
    have := KU_t.mp (h.1 rfl)
    exact if_neg (by omega)
  | some x =>
    have := h.2 x rfl
    rw [this.1]
    exact if_pos this.2
theorem cap_big : cap (nL 1152921504606846977).toInt = none := by decide
theorem cap_max : cap (nL 9223372036854775807).toInt = none := by decide
theorem cap_min : cap ((-9223372036854775808 : Int64)).toInt = none := by decide
theorem kS_n {u v : Int64} {a b : Option Int} (h1 : RP u a) (h2 : RP v b) : cap (kS u v).toInt = oad a b := by
  unfold kS
  rw [KU_RP h1, KU_RP h2]
  cases a with
  | none => rw [show (none : Option Int).isNone = true from rfl, if_pos (Or.inl rfl), cap_big]; rfl
  | some x =>
    cases b with
    | none => rw [show (none : Option Int).isNone = true from rfl, if_pos (Or.inr rfl), cap_big]; rfl
    | some y =>
      have q1 := h1.2 x rfl
      have q2 := h2.2 y rfl
      rw [if_neg (fun z => z.elim (fun z => by cases z) (fun z => by cases z))]
      show cap (u + v).toInt = cap (x + y)
      rw [Int64.toInt_add, Int.bmod_eq_of_le (by omega) (by omega), q1.1, q2.1]
theorem kmin_t (x y : Int64) : (kmin x y).toInt = min x.toInt y.toInt := by
  unfold kmin
  by_cases h : y < x
  · rw [if_pos h]; rw [Int64.lt_iff_toInt_lt] at h; omega
  · rw [if_neg h]; rw [Int64.lt_iff_toInt_lt] at h; omega
theorem kmax_t (x y : Int64) : (kmax x y).toInt = max x.toInt y.toInt := by
  unfold kmax
  by_cases h : y < x
  · rw [if_pos h]; rw [Int64.lt_iff_toInt_lt] at h; omega
  · rw [if_neg h]; rw [Int64.lt_iff_toInt_lt] at h; omega
theorem zero_t : ((0 : Int64)).toInt = 0 := rfl
theorem nL0_t : (nL 0).toInt = 0 := rfl
theorem abs_c (a : Int) : (0 ≤ a → (a.natAbs : Int) = a) ∧ (a ≤ 0 → (a.natAbs : Int) = -a) := ⟨fun h => (by omega), fun h => by omega⟩
theorem kA_t {u : Int64} (h : -1152921504606846977 ≤ u.toInt ∧ u.toInt ≤ 1152921504606846977) : (kA u).toInt = (u.toInt.natAbs : Int) := by
  unfold kA
  have q := abs_c u.toInt
  by_cases h1 : 0 < u
  · rw [if_pos h1]; rw [Int64.lt_iff_toInt_lt, zero_t] at h1; rw [q.1 (by omega)]
  · rw [if_neg h1]; rw [Int64.lt_iff_toInt_lt, zero_t] at h1; rw [q.2 (by omega), neg_t h]
theorem tpr_0 (a b : Int) (h : a = 0 ∨ b = 0) : tpr a b = 0 := by
  unfold tpr
  rcases h with rfl | rfl
  · simp
  · simp
theorem div_lt {a b : Nat} (hb : 0 < b) : (1152921504606846976 / b < a) ↔ 1152921504606846976 < a * b := Nat.div_lt_iff_lt_mul hb
theorem mul_t {u v : Int64} {a b : Int} (hu : u.toInt = a) (hv : v.toInt = b) (h : a.natAbs * b.natAbs ≤ 1152921504606846977) : (u * v).toInt = a * b := by
  have e : (a * b).natAbs = a.natAbs * b.natAbs := Int.natAbs_mul a b
  have q := abs_c (a * b)
  rw [Int64.toInt_mul, hu, hv, Int.bmod_eq_of_le (by omega) (by omega)]
theorem div_t {v : Int64} {b : Nat} (hv : v.toInt = (b : Int)) : (nL 1152921504606846976 / v).toInt = ((1152921504606846976 / b : Nat) : Int) := by
  rw [Int64.toInt_div_of_ne_left _ _ (by decide), hv, nL_toInt (by decide)]
  exact (Int.ofNat_tdiv _ _).symm
theorem kP_t {u v : Int64} {a b : Int} (hu : u.toInt = a) (hv : v.toInt = b) (ha : -1152921504606846976 ≤ a ∧ a ≤ 1152921504606846976) (hb : -1152921504606846976 ≤ b ∧ b ≤ 1152921504606846976) : (kP u v).toInt = tpr a b := by
  have eu : u = nL 0 ↔ a = 0 := by rw [← Int64.toInt_inj, nL0_t, hu]
  have ev : v = nL 0 ↔ b = 0 := by rw [← Int64.toInt_inj, nL0_t, hv]
  have lu : u < nL 0 ↔ a < 0 := by rw [Int64.lt_iff_toInt_lt, nL0_t, hu]
  have lv : v < nL 0 ↔ b < 0 := by rw [Int64.lt_iff_toInt_lt, nL0_t, hv]
  unfold kP
  by_cases h0 : u = nL 0 ∨ v = nL 0
  · rw [if_pos h0, tpr_0 a b (h0.imp eu.mp ev.mp)]; rfl
  · rw [if_neg h0]
    have hb0 : b ≠ 0 := fun z => h0 (Or.inr (ev.mpr z))
    have hbn : 0 < b.natAbs := Int.natAbs_pos.mpr hb0
    have ea := kA_t (u := u) (by omega)
    have eb := kA_t (u := v) (by omega)
    rw [hu] at ea
    rw [hv] at eb
    have ed := div_t eb
    have ec : (nL 1152921504606846976 / kA v < kA u) ↔ 1152921504606846976 < a.natAbs * b.natAbs := by
      rw [Int64.lt_iff_toInt_lt, ed, ea, Int.ofNat_lt]
      exact div_lt hbn
    unfold tpr
    by_cases h1 : 1152921504606846976 < a.natAbs * b.natAbs
    · rw [if_pos (ec.mpr h1), if_pos h1]
      by_cases h2 : a < 0 ↔ b < 0
      · rw [if_pos (by rw [lu, lv]; exact h2), if_pos h2]; rfl
      · rw [if_neg (by rw [lu, lv]; exact h2), if_neg h2]; rfl
    · rw [if_neg (fun z => h1 (ec.mp z)), if_neg h1]
      exact mul_t hu hv (by omega)
theorem kZ_RP {u v : Int64} {x : IVL} (h1 : RP u x.1) (h2 : RP v x.2) : kZ u v = decide (x = (some 0, some 0)) := by
  have z : KU (nL 0) = false := by decide
  obtain ⟨a, b⟩ := x
  have q : ∀ {u : Int64} {o : Option Int}, RP u o → (u = nL 0 ↔ o = some 0) := fun {u o} h => by
    cases o with
    | none => exact ⟨fun e => (by have := h.1 rfl; rw [e, z] at this; cases this), fun e => by cases e⟩
    | some y =>
      have := (h.2 y rfl).1
      rw [← Int64.toInt_inj, nL0_t, this]
      exact ⟨fun e => by rw [e], fun e => Option.some.inj e⟩
  unfold kZ
  rw [Bool.eq_iff_iff, Bool.and_eq_true, decide_eq_true_iff, decide_eq_true_iff, decide_eq_true_iff, q h1, q h2, Prod.mk.injEq]
theorem kB_RP {u v : Int64} {x : IVL} (h1 : RP u x.1) (h2 : RP v x.2) : kB u v = (x.1.isSome && x.2.isSome) := by
  unfold kB
  rw [KU_RP h1, KU_RP h2]
  cases x.1 <;> cases x.2 <;> rfl
theorem kF_n {u v : Int64} {x : IVL} (h1 : RP u x.1) (h2 : RP v x.2) : (∀ m, ifar x = some m → (kF u v).toInt = m ∧ 0 ≤ m ∧ m ≤ 1152921504606846976) ∧ (ifar x = none → kF u v = nL 9223372036854775807) := by
  obtain ⟨a, b⟩ := x
  unfold kF
  rw [kB_RP (x := (a, b)) h1 h2]
  cases a with
  | none => exact ⟨fun m q => (by cases q), fun _ => if_neg (fun z => by cases z)⟩
  | some a =>
    cases b with
    | none => exact ⟨fun m q => (by cases q), fun _ => if_neg (fun z => by cases z)⟩
    | some b =>
      have q1 := h1.2 a rfl
      have q2 := h2.2 b rfl
      rw [show ((some a, some b) : IVL).1.isSome = true from rfl, show ((some a, some b) : IVL).2.isSome = true from rfl, Bool.true_and, if_pos rfl]
      refine ⟨fun m q => ?_, fun q => by cases q⟩
      cases q
      rw [kmax_t, kA_t (by omega), kA_t (by omega), q1.1, q2.1]
      have c1 := abs_c a
      have c2 := abs_c b
      omega
theorem ifar_K {x : IVL} (h : iK x) : ∀ m, ifar x = some m → 0 ≤ m ∧ m ≤ 1152921504606846976 := by
  intro m q
  exact ((kF_n (RP_L h.1) (RP_H h.2)).1 m q).2

