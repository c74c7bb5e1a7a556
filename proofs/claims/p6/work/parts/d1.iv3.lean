/-! ===== what the reference's longs and flags come to ===== -/
def nzf (x : Int32) : Bool := !decide (x = nI 0)
def mU (nf : Bool) (u : Int64) : Bool := nf || KU u
def mV (nf : Bool) (u : Int64) : Int64 := if mU nf u = true then nL 0 else u
def mS (x : Int64) : Int64 := if x < nL 0 then -x else x
def mTp (x y : Int64) : Int64 := if nL 1152921504606846976 / mS y < mS x then nL 1152921504606846977 else mS x * mS y
def mT (x y : Int64) : Int64 := if x = nL 0 ∨ y = nL 0 then nL 0 else if (x < nL 0 ↔ y < nL 0) then mTp x y else -(mTp x y)
def mless (x y : Int64) : Int64 := if x < y then x else y
def mmore (x y : Int64) : Int64 := if y < x then x else y
def mz (ua ub : Int32) (a b : Int64) : Bool := decide (ua = nI 0) && decide (ub = nI 0) && decide (a = nL 0) && decide (b = nL 0)
def mf (ua ub : Int32) : Bool := nzf ua || nzf ub
def spN (ua ub : Int32) (a b : Int64) (uc ud : Int32) (c d : Int64) : Bool := mz ua ub a b || mz uc ud c d
def spF (ua ub uc ud : Int32) : Bool := mf ua ub || mf uc ud
def spf (ua ub : Int32) (a b : Int64) (uc ud : Int32) (c d : Int64) : Bool := (spN ua ub a b uc ud c d || spF ua ub uc ud) && !spN ua ub a b uc ud c d
def spu (ua ub : Int32) (a b : Int64) (uc ud : Int32) (c d : Int64) : Int64 := if (spN ua ub a b uc ud c d || spF ua ub uc ud) = true then nL 0 else mless (mless (mT a c) (mT a d)) (mless (mT b c) (mT b d))
def spv (ua ub : Int32) (a b : Int64) (uc ud : Int32) (c d : Int64) : Int64 := if (spN ua ub a b uc ud c d || spF ua ub uc ud) = true then nL 0 else mmore (mmore (mT a c) (mT a d)) (mmore (mT b c) (mT b d))
def sqc (rs : Bool) (uc ud : Int32) : Bool := rs && (decide (uc = nI 0) && decide (ud = nI 0))
def sq0 (ua ub : Int32) (a b : Int64) : Int64 := if mf ua ub = true then nL 1152921504606846976 else mmore (mS a) (mS b)
def sqm (rs : Bool) (ua ub : Int32) (a b : Int64) (uc ud : Int32) (c d : Int64) : Int64 := if sqc rs uc ud = true then mless (sq0 ua ub a b) (mmore (nL 0) (mmore (mS c) (mS d) - nL 1)) else sq0 ua ub a b
def sqr (rs : Bool) (ua ub uc ud : Int32) : Bool := if sqc rs uc ud = true then false else mf ua ub
def sqw (ua : Int32) (a : Int64) : Bool := nzf ua || decide (a < nL 0)
def sqb (rs : Bool) (ua : Int32) (a : Int64) : Bool := rs && !sqw ua a
def squ (rs : Bool) (ua ub : Int32) (a b : Int64) (uc ud : Int32) (c d : Int64) : Int64 := if sqb rs ua a = true then nL 0 else -(sqm rs ua ub a b uc ud c d)
def sqf (rs : Bool) (ua ub : Int32) (a : Int64) (uc ud : Int32) : Bool := sqr rs ua ub uc ud && !sqb rs ua a
def jdn (un ua : Int32) (lw a : Int64) : Bool := decide (un = nI 0) && (nzf ua || decide (a < lw))
def jup (ov ub : Int32) (hg b : Int64) : Bool := decide (ov = nI 0) && (nzf ub || decide (hg < b))
theorem nar_b (b : Bool) : vp_nar .boolean (bI b) = bI b := by cases b <;> decide
def RO (ua : Int32) (a : Int64) (o : Option Int) : Prop := (o = none → ua = nI 1 ∧ a = nL 0) ∧ ∀ x, o = some x → ua = nI 0 ∧ a.toInt = x ∧ -1152921504606846976 ≤ x ∧ x ≤ 1152921504606846976
def RV (u : Int32) (a : Int64) (o : Option Int) : Prop := (o = none → u = nI 1) ∧ ∀ x, o = some x → u = nI 0 ∧ a.toInt = x ∧ -1152921504606846976 ≤ x ∧ x ≤ 1152921504606846976
theorem RO.rv {u : Int32} {a : Int64} {o : Option Int} (h : RO u a o) : RV u a o := ⟨fun q => (h.1 q).1, h.2⟩
theorem RV_nz {u : Int32} {a : Int64} {o : Option Int} (h : RV u a o) : nzf u = o.isNone ∧ u = bI (nzf u) := by
  cases o with
  | none => rw [h.1 rfl]; decide
  | some x => rw [(h.2 x rfl).1]; exact (by decide : nzf (nI 0) = false ∧ nI 0 = bI (nzf (nI 0)))
theorem RV_d {u : Int32} {a : Int64} {o : Option Int} (h : RV u a o) : decide (u = nI 0) = o.isSome := by
  cases o with
  | none => rw [h.1 rfl]; decide
  | some x => rw [(h.2 x rfl).1]; exact (by decide : decide (nI 0 = nI 0) = true)
theorem RO_iv {nf : Bool} {u : Int64} {o : Option Int} (h1 : nf = true → o = none) (h2 : nf = false → o = cap u.toInt) : RO (bI (mU nf u)) (mV nf u) o := by
  unfold mV mU
  cases nf with
  | true => rw [h1 rfl]; exact ⟨fun _ => ⟨rfl, rfl⟩, fun x q => by cases q⟩
  | false =>
    rw [h2 rfl, Bool.false_or]
    unfold cap
    by_cases q : KU u = true
    · rw [if_pos q, if_neg (by rw [KU_t] at q; omega), q]
      exact ⟨fun _ => ⟨rfl, rfl⟩, fun x q => by cases q⟩
    · have q2 := KU_f.mp (Bool.eq_false_iff.mpr q)
      rw [if_neg q, if_pos q2, Bool.eq_false_iff.mpr q]
      exact ⟨fun z => (by cases z), fun x z => by cases z; exact ⟨rfl, rfl, q2⟩⟩
theorem mS_t {u : Int64} (h : -1152921504606846977 ≤ u.toInt ∧ u.toInt ≤ 1152921504606846977) : (mS u).toInt = (u.toInt.natAbs : Int) := by
  unfold mS
  have q := abs_c u.toInt
  by_cases h1 : u < nL 0
  · rw [if_pos h1]; rw [Int64.lt_iff_toInt_lt, nL0_t] at h1; rw [q.2 (by omega), neg_t h]
  · rw [if_neg h1]; rw [Int64.lt_iff_toInt_lt, nL0_t] at h1; rw [q.1 (by omega)]
theorem mless_t (x y : Int64) : (mless x y).toInt = min x.toInt y.toInt := by
  unfold mless
  by_cases h : x < y
  · rw [if_pos h]; rw [Int64.lt_iff_toInt_lt] at h; omega
  · rw [if_neg h]; rw [Int64.lt_iff_toInt_lt] at h; omega
theorem mmore_t (x y : Int64) : (mmore x y).toInt = max x.toInt y.toInt := by
  unfold mmore
  by_cases h : y < x
  · rw [if_pos h]; rw [Int64.lt_iff_toInt_lt] at h; omega
  · rw [if_neg h]; rw [Int64.lt_iff_toInt_lt] at h; omega
theorem sgn_mul {a b : Int} : ((a < 0 ↔ b < 0) → a ≠ 0 → b ≠ 0 → a * b = (a.natAbs * b.natAbs : Nat)) ∧ (¬ (a < 0 ↔ b < 0) → a * b = -((a.natAbs * b.natAbs : Nat) : Int)) := by
  have ea := abs_c a
  have eb := abs_c b
  rw [Int.natCast_mul]
  by_cases ha : a < 0
  · by_cases hb : b < 0
    · rw [ea.2 (by omega), eb.2 (by omega)]
      exact ⟨fun _ _ _ => by rw [Int.neg_mul_neg], fun h => absurd ⟨fun _ => hb, fun _ => ha⟩ h⟩
    · rw [ea.2 (by omega), eb.1 (by omega)]
      exact ⟨fun h => absurd (h.mp ha) hb, fun _ => by rw [Int.neg_mul, Int.neg_neg]⟩
  · by_cases hb : b < 0
    · rw [ea.1 (by omega), eb.2 (by omega)]
      exact ⟨fun h => absurd (h.mpr hb) ha, fun _ => by rw [Int.mul_neg, Int.neg_neg]⟩
    · rw [ea.1 (by omega), eb.1 (by omega)]
      exact ⟨fun _ _ _ => rfl, fun h => absurd ⟨fun z => absurd z ha, fun z => absurd z hb⟩ h⟩
theorem mT_t {u v : Int64} {a b : Int} (hu : u.toInt = a) (hv : v.toInt = b) (ha : -1152921504606846976 ≤ a ∧ a ≤ 1152921504606846976) (hb : -1152921504606846976 ≤ b ∧ b ≤ 1152921504606846976) : (mT u v).toInt = tpr a b := by
  have eu : u = nL 0 ↔ a = 0 := by rw [← Int64.toInt_inj, nL0_t, hu]
  have ev : v = nL 0 ↔ b = 0 := by rw [← Int64.toInt_inj, nL0_t, hv]
  have lu : u < nL 0 ↔ a < 0 := by rw [Int64.lt_iff_toInt_lt, nL0_t, hu]
  have lv : v < nL 0 ↔ b < 0 := by rw [Int64.lt_iff_toInt_lt, nL0_t, hv]
  unfold mT
  by_cases h0 : u = nL 0 ∨ v = nL 0
  · rw [if_pos h0, tpr_0 a b (h0.imp eu.mp ev.mp)]; rfl
  · rw [if_neg h0]
    have ha0 : a ≠ 0 := fun z => h0 (Or.inl (eu.mpr z))
    have hb0 : b ≠ 0 := fun z => h0 (Or.inr (ev.mpr z))
    have hbn : 0 < b.natAbs := Int.natAbs_pos.mpr hb0
    have ea := mS_t (u := u) (by omega)
    have eb := mS_t (u := v) (by omega)
    rw [hu] at ea
    rw [hv] at eb
    have ed := div_t eb
    have ec : (nL 1152921504606846976 / mS v < mS u) ↔ 1152921504606846976 < a.natAbs * b.natAbs := by
      rw [Int64.lt_iff_toInt_lt, ed, ea, Int.ofNat_lt]
      exact div_lt hbn
    have sg := sgn_mul (a := a) (b := b)
    unfold tpr mTp
    by_cases h1 : 1152921504606846976 < a.natAbs * b.natAbs
    · rw [if_pos (ec.mpr h1), if_pos h1]
      by_cases h2 : a < 0 ↔ b < 0
      · rw [if_pos (by rw [lu, lv]; exact h2), if_pos h2]; rfl
      · rw [if_neg (by rw [lu, lv]; exact h2), if_neg h2]; rfl
    · rw [if_neg (fun z => h1 (ec.mp z)), if_neg h1]
      have em : (mS u * mS v).toInt = ((a.natAbs * b.natAbs : Nat) : Int) := by
        have := mul_t ea eb (by rw [Int.natAbs_natCast, Int.natAbs_natCast]; omega)
        rw [this, Int.natCast_mul]
      by_cases h2 : a < 0 ↔ b < 0
      · rw [if_pos (by rw [lu, lv]; exact h2), em, sg.1 h2 ha0 hb0]
      · rw [if_neg (by rw [lu, lv]; exact h2), neg_t (by rw [em]; omega), em, sg.2 h2]
theorem mz_RO {ua ub : Int32} {a b : Int64} {X : IVL} (h1 : RO ua a X.1) (h2 : RO ub b X.2) : mz ua ub a b = decide (X = (some 0, some 0)) := by
  obtain ⟨x, y⟩ := X
  have q : ∀ {u : Int32} {a : Int64} {o : Option Int}, RO u a o → ((u = nI 0 ∧ a = nL 0) ↔ o = some 0) := fun {u a o} h => by
    cases o with
    | none => exact ⟨fun e => (by have := (h.1 rfl).1; rw [e.1] at this; exact absurd this (by decide)), fun e => by cases e⟩
    | some z =>
      have := h.2 z rfl
      rw [← Int64.toInt_inj, nL0_t, this.2.1]
      exact ⟨fun e => by rw [e.2], fun e => ⟨this.1, Option.some.inj e⟩⟩
  unfold mz
  rw [Bool.eq_iff_iff]
  simp only [Bool.and_eq_true, decide_eq_true_iff, Prod.mk.injEq]
  rw [← q h1, ← q h2]
  constructor
  · rintro ⟨⟨⟨e1, e2⟩, e3⟩, e4⟩; exact ⟨⟨e1, e3⟩, ⟨e2, e4⟩⟩
  · rintro ⟨⟨e1, e3⟩, ⟨e2, e4⟩⟩; exact ⟨⟨⟨e1, e2⟩, e3⟩, e4⟩
theorem mf_RO {ua ub : Int32} {a b : Int64} {X : IVL} (h1 : RO ua a X.1) (h2 : RO ub b X.2) : mf ua ub = !(X.1.isSome && X.2.isSome) := by
  unfold mf
  rw [(RV_nz h1.rv).1, (RV_nz h2.rv).1]
  cases X.1 <;> cases X.2 <;> rfl
section ro
variable {ua ub uc ud : Int32} {a b c d : Int64} {X Y : IVL}
theorem r_mul (h1 : RO ua a X.1) (h2 : RO ub b X.2) (h3 : RO uc c Y.1) (h4 : RO ud d Y.2) : RO (bI (mU (spf ua ub a b uc ud c d) (spu ua ub a b uc ud c d))) (mV (spf ua ub a b uc ud c d) (spu ua ub a b uc ud c d)) (imul X Y).1 ∧ RO (bI (mU (spf ua ub a b uc ud c d) (spv ua ub a b uc ud c d))) (mV (spf ua ub a b uc ud c d) (spv ua ub a b uc ud c d)) (imul X Y).2 := by
  have eN : spN ua ub a b uc ud c d = (decide (X = (some 0, some 0)) || decide (Y = (some 0, some 0))) := by unfold spN; rw [mz_RO h1 h2, mz_RO h3 h4]
  have eF : spF ua ub uc ud = (!(X.1.isSome && X.2.isSome) || !(Y.1.isSome && Y.2.isSome)) := by unfold spF; rw [mf_RO h1 h2, mf_RO h3 h4]
  unfold spf spu spv
  rw [eN, eF]
  by_cases hz : X = (some 0, some 0) ∨ Y = (some 0, some 0)
  · have ez : (decide (X = (some 0, some 0)) || decide (Y = (some 0, some 0))) = true := by rw [Bool.or_eq_true, decide_eq_true_iff, decide_eq_true_iff]; exact hz
    rw [ez, show imul X Y = (some 0, some 0) from if_pos hz, Bool.true_or, if_pos rfl, if_pos rfl]
    exact ⟨RO_iv (fun q => by cases q) (fun _ => by decide), RO_iv (fun q => by cases q) (fun _ => by decide)⟩
  · have ez : (decide (X = (some 0, some 0)) || decide (Y = (some 0, some 0))) = false := by rw [← Bool.not_eq_true, Bool.or_eq_true, decide_eq_true_iff, decide_eq_true_iff]; exact hz
    rw [ez]
    by_cases hb : (X.1.isSome && X.2.isSome) = true ∧ (Y.1.isSome && Y.2.isSome) = true
    · rw [hb.1, hb.2]
      obtain ⟨x, y⟩ := X
      obtain ⟨z, w⟩ := Y
      cases x with
      | none => exact absurd hb.1 (by simp)
      | some x =>
        cases y with
        | none => exact absurd hb.1 (by simp)
        | some y =>
          cases z with
          | none => exact absurd hb.2 (by simp)
          | some z =>
            cases w with
            | none => exact absurd hb.2 (by simp)
            | some w =>
              have ha := h1.2 x rfl
              have hb := h2.2 y rfl
              have hc := h3.2 z rfl
              have hd := h4.2 w rfl
              have e : imul (some x, some y) (some z, some w) = imulb x y z w := if_neg hz
              rw [e]
              refine ⟨RO_iv (fun q => by cases q) (fun _ => ?_), RO_iv (fun q => by cases q) (fun _ => ?_)⟩
              · rw [if_neg (by decide)]
                simp only [mless_t, mT_t ha.2.1 hc.2.1 ha.2.2 hc.2.2, mT_t ha.2.1 hd.2.1 ha.2.2 hd.2.2, mT_t hb.2.1 hc.2.1 hb.2.2 hc.2.2, mT_t hb.2.1 hd.2.1 hb.2.2 hd.2.2]
                rfl
              · rw [if_neg (by decide)]
                simp only [mmore_t, mT_t ha.2.1 hc.2.1 ha.2.2 hc.2.2, mT_t ha.2.1 hd.2.1 ha.2.2 hd.2.2, mT_t hb.2.1 hc.2.1 hb.2.2 hc.2.2, mT_t hb.2.1 hd.2.1 hb.2.2 hd.2.2]
                rfl
    · have ef : (!(X.1.isSome && X.2.isSome) || !(Y.1.isSome && Y.2.isSome)) = true := by
        cases h5 : (X.1.isSome && X.2.isSome) with
        | false => rfl
        | true =>
          cases h6 : (Y.1.isSome && Y.2.isSome) with
          | false => rfl
          | true => exact absurd ⟨h5, h6⟩ hb
      rw [ef, imul_n hz hb]
      exact ⟨RO_iv (fun _ => rfl) (fun q => by cases q), RO_iv (fun _ => rfl) (fun q => by cases q)⟩
theorem far_m (h1 : RO ua a X.1) (h2 : RO ub b X.2) : (∀ m, ifar X = some m → mf ua ub = false ∧ (mmore (mS a) (mS b)).toInt = m ∧ 0 ≤ m ∧ m ≤ 1152921504606846976) ∧ (ifar X = none → mf ua ub = true) := by
  have e := mf_RO h1 h2
  obtain ⟨x, y⟩ := X
  cases x with
  | none => exact ⟨fun m q => (by cases q), fun _ => e⟩
  | some x =>
    cases y with
    | none => exact ⟨fun m q => (by cases q), fun _ => e⟩
    | some y =>
      have q1 := h1.2 x rfl
      have q2 := h2.2 y rfl
      refine ⟨fun m q => ⟨e, ?_⟩, fun q => by cases q⟩
      cases q
      rw [mmore_t, mS_t (by omega), mS_t (by omega), q1.2.1, q2.2.1]
      have c1 := abs_c x
      have c2 := abs_c y
      omega
def imq (rs : Bool) (X Y : IVL) : Option Int := if rs = true then imr X Y else ifar X
theorem sq_m (rs : Bool) (h1 : RO ua a X.1) (h2 : RO ub b X.2) (h3 : rs = true → RO uc c Y.1) (h4 : rs = true → RO ud d Y.2) : (∀ m, imq rs X Y = some m → sqr rs ua ub uc ud = false ∧ (sqm rs ua ub a b uc ud c d).toInt = m ∧ 0 ≤ m ∧ m ≤ 1152921504606846976) ∧ (imq rs X Y = none → sqr rs ua ub uc ud = true) := by
  have f := far_m h1 h2
  unfold imq sqr sqm sqc sq0
  cases rs with
  | false =>
    rw [Bool.false_and, if_neg (by decide), if_neg (by decide), if_neg (by decide)]
    refine ⟨fun m q => ?_, fun q => f.2 q⟩
    have z := f.1 m q
    rw [if_neg (by rw [z.1]; decide)]
    exact z
  | true =>
    have k3 := h3 rfl
    have k4 := h4 rfl
    have f2 := far_m k3 k4
    have ey : (decide (uc = nI 0) && decide (ud = nI 0)) = (ifar Y).isSome := by
      rw [RV_d k3.rv, RV_d k4.rv]
      obtain ⟨z, w⟩ := Y
      cases z <;> cases w <;> rfl
    rw [Bool.true_and, ey, if_pos rfl]
    unfold imr
    cases e2 : ifar Y with
    | none =>
      rw [if_neg (by decide), if_neg (by decide)]
      cases e1 : ifar X with
      | none => exact ⟨fun m q => (by cases q), fun _ => f.2 e1⟩
      | some n =>
        refine ⟨fun m q => ?_, fun q => by cases q⟩
        cases q
        have z := f.1 _ e1
        rw [if_neg (by rw [z.1]; decide)]
        exact z
    | some n =>
      have z2 := f2.1 n e2
      have e3 : (mmore (mS c) (mS d) - nL 1).toInt = n - 1 := by
        rw [Int64.toInt_sub, z2.2.1, nL_toInt (by decide), Int.bmod_eq_of_le (by omega) (by omega)]; rfl
      rw [show (some n : Option Int).isSome = true from rfl, if_pos rfl, if_pos rfl]
      cases e1 : ifar X with
      | none =>
        refine ⟨fun m q => ?_, fun q => by cases q⟩
        cases q
        rw [if_pos (f.2 e1), mless_t, mmore_t, nL0_t, e3, nL_toInt (by decide)]
        refine ⟨rfl, ?_⟩
        omega
      | some p =>
        have z1 := f.1 p e1
        refine ⟨fun m q => ?_, fun q => by cases q⟩
        cases q
        rw [if_neg (by rw [z1.1]; decide), mless_t, z1.2.1, mmore_t, nL0_t, e3]
        refine ⟨rfl, ?_⟩
        omega
def iq (rs : Bool) (X Y : IVL) : IVL := if rs = true then irst X Y else iquo X
theorem sqb_n (rs : Bool) (h1 : RO ua a X.1) : sqb rs ua a = (rs && inn X) := by
  unfold sqb sqw inn
  rw [(RV_nz h1.rv).1]
  congr 1
  cases e : X.1 with
  | none => rfl
  | some x =>
    rw [e] at h1
    have z := (h1.2 x rfl).2.1
    show (!(false || decide (a < nL 0))) = decide (0 ≤ x)
    rw [Bool.false_or, Bool.eq_iff_iff, Bool.not_eq_true', decide_eq_false_iff_not, decide_eq_true_iff, Int64.lt_iff_toInt_lt, nL0_t, z]
    omega
theorem r_quo (rs : Bool) (h1 : RO ua a X.1) (h2 : RO ub b X.2) (h3 : rs = true → RO uc c Y.1) (h4 : rs = true → RO ud d Y.2) : RO (bI (mU (sqf rs ua ub a uc ud) (squ rs ua ub a b uc ud c d))) (mV (sqf rs ua ub a uc ud) (squ rs ua ub a b uc ud c d)) (iq rs X Y).1 ∧ RO (bI (mU (sqr rs ua ub uc ud) (sqm rs ua ub a b uc ud c d))) (mV (sqr rs ua ub uc ud) (sqm rs ua ub a b uc ud c d)) (iq rs X Y).2 := by
  have s := sq_m rs h1 h2 h3 h4
  have e1 : (iq rs X Y).2 = imq rs X Y := by cases rs <;> rfl
  have e2 : (iq rs X Y).1 = if (rs && inn X) = true then some 0 else ong (imq rs X Y) := by cases rs <;> rfl
  rw [e1, e2]
  have up : RO (bI (mU (sqr rs ua ub uc ud) (sqm rs ua ub a b uc ud c d))) (mV (sqr rs ua ub uc ud) (sqm rs ua ub a b uc ud c d)) (imq rs X Y) := by
    cases e : imq rs X Y with
    | none => exact RO_iv (fun _ => rfl) (fun q => by rw [s.2 e] at q; cases q)
    | some m =>
      have z := s.1 m e
      exact RO_iv (fun q => by rw [z.1] at q; cases q) (fun _ => by rw [z.2.1, cap_in (by omega)])
  refine ⟨?_, up⟩
  unfold sqf squ
  rw [sqb_n rs h1]
  cases hn : (rs && inn X) with
  | true => rw [if_pos rfl, if_pos rfl]; exact RO_iv (fun q => by cases h : sqr rs ua ub uc ud <;> rw [h] at q <;> cases q) (fun _ => by decide)
  | false =>
    rw [if_neg (by decide), if_neg (by decide), Bool.not_false, Bool.and_true]
    cases e : imq rs X Y with
    | none => exact RO_iv (fun _ => rfl) (fun q => by rw [s.2 e] at q; cases q)
    | some m =>
      have z := s.1 m e
      exact RO_iv (fun q => by rw [z.1] at q; cases q) (fun _ => by rw [neg_t (by omega), z.2.1, cap_in (by omega)]; rfl)
theorem r_one {o : Option Int} {u : Int32} {a : Int64} (h : RV u a o) : RO (bI (mU (nzf u) a)) (mV (nzf u) a) o := by
  have e := (RV_nz h).1
  cases o with
  | none => exact RO_iv (fun _ => rfl) (fun q => by rw [e] at q; cases q)
  | some x =>
    have z := h.2 x rfl
    exact RO_iv (fun q => by rw [e] at q; cases q) (fun _ => by rw [z.2.1, cap_in (by omega)])
theorem r_num {v : Nat} (h : v < 1000000000) : RO (bI (mU false (nL v))) (mV false (nL v)) (some (v : Int)) := RO_iv (fun q => by cases q) (fun _ => by rw [nL_toInt (by omega), cap_in (by omega)])
theorem r_neg {o : Option Int} {u : Int32} {a : Int64} (h : RO u a o) : RO (bI (mU (nzf u) (-a))) (mV (nzf u) (-a)) (ong o) := by
  have e := (RV_nz h.rv).1
  cases o with
  | none => exact RO_iv (fun _ => rfl) (fun q => by rw [e] at q; cases q)
  | some x =>
    have z := h.2 x rfl
    exact RO_iv (fun q => by rw [e] at q; cases q) (fun _ => by rw [neg_t (by omega), z.2.1, cap_in (by omega)]; rfl)
theorem r_add {o p : Option Int} {u v : Int32} {a b : Int64} (h : RO u a o) (k : RO v b p) : RO (bI (mU (nzf u || nzf v) (a + b))) (mV (nzf u || nzf v) (a + b)) (oad o p) := by
  have e := (RV_nz h.rv).1
  have e2 := (RV_nz k.rv).1
  cases o with
  | none => exact RO_iv (fun _ => by cases p <;> rfl) (fun q => by rw [e] at q; cases q)
  | some x =>
    cases p with
    | none => exact RO_iv (fun _ => rfl) (fun q => by rw [e, e2] at q; cases q)
    | some y =>
      have z := h.2 x rfl
      have z2 := k.2 y rfl
      exact RO_iv (fun q => by rw [e, e2] at q; cases q) (fun _ => by rw [Int64.toInt_add, Int.bmod_eq_of_le (by omega) (by omega), z.2.1, z2.2.1]; rfl)
theorem r_sub {o p : Option Int} {u v : Int32} {a b : Int64} (h : RO u a o) (k : RO v b p) : RO (bI (mU (nzf u || nzf v) (a - b))) (mV (nzf u || nzf v) (a - b)) (oad o (ong p)) := by
  have e := (RV_nz h.rv).1
  have e2 := (RV_nz k.rv).1
  cases o with
  | none => exact RO_iv (fun _ => by cases p <;> rfl) (fun q => by rw [e] at q; cases q)
  | some x =>
    cases p with
    | none => exact RO_iv (fun _ => rfl) (fun q => by rw [e, e2] at q; cases q)
    | some y =>
      have z := h.2 x rfl
      have z2 := k.2 y rfl
      exact RO_iv (fun q => by rw [e, e2] at q; cases q) (fun _ => by
        rw [Int64.toInt_sub, Int.bmod_eq_of_le (by omega) (by omega), z.2.1, z2.2.1]
        show cap (x + -y) = cap (x - y)
        rw [Int.sub_eq_add_neg])
theorem j_dn {un ua : Int32} {lw a : Int64} {v o : Option Int} (hv : RV un lw v) (ho : RO ua a o) : jdn un ua lw a = lwL o v := by
  unfold jdn
  rw [RV_d hv, (RV_nz ho.rv).1]
  cases v with
  | none => cases o <;> rfl
  | some x =>
    cases o with
    | none => rfl
    | some y =>
      have z := (hv.2 x rfl).2.1
      have z2 := (ho.2 y rfl).2.1
      show (true && (false || decide (a < lw))) = decide (y < x)
      rw [Bool.true_and, Bool.false_or, Bool.eq_iff_iff, decide_eq_true_iff, decide_eq_true_iff, Int64.lt_iff_toInt_lt, z, z2]
theorem j_up {ov ub : Int32} {hg b : Int64} {v o : Option Int} (hv : RV ov hg v) (ho : RO ub b o) : jup ov ub hg b = lwH o v := by
  unfold jup
  rw [RV_d hv, (RV_nz ho.rv).1]
  cases v with
  | none => cases o <;> rfl
  | some x =>
    cases o with
    | none => rfl
    | some y =>
      have z := (hv.2 x rfl).2.1
      have z2 := (ho.2 y rfl).2.1
      show (true && (false || decide (hg < b))) = decide (x < y)
      rw [Bool.true_and, Bool.false_or, Bool.eq_iff_iff, decide_eq_true_iff, decide_eq_true_iff, Int64.lt_iff_toInt_lt, z, z2]
theorem j_rv {wd : Bool} {un ua : Int32} {lw a : Int64} {o : Option Int} (ho : RO ua a o) : RV (bI (nzf ua || wd)) a (if wd = true then none else o) := by
  rw [(RV_nz ho.rv).1]
  cases wd with
  | true => rw [if_pos rfl, Bool.or_true]; exact ⟨fun _ => rfl, fun x q => by cases q⟩
  | false =>
    rw [if_neg (by decide), Bool.or_false]
    cases o with
    | none => exact ⟨fun _ => rfl, fun x q => by cases q⟩
    | some y => exact ⟨fun q => (by cases q), fun x q => by cases q; exact ⟨rfl, (ho.2 y rfl).2⟩⟩
end ro
/-! rows of the reference -/
def MR (ua : Nat → Int32) (a : Nat → Int64) (ub : Nat → Int32) (b : Nat → Int64) : Nat → List IVL → Prop
  | 0, S => S = []
  | n + 1, S => ∃ X S', S = X :: S' ∧ RO (ua n) (a n) X.1 ∧ RO (ub n) (b n) X.2 ∧ MR ua a ub b n S'
theorem MR_eq {ua ua1 : Nat → Int32} {a a1 : Nat → Int64} {ub ub1 : Nat → Int32} {b b1 : Nat → Int64} : ∀ (n : Nat) (S : List IVL), (∀ j, j < n → ua1 j = ua j ∧ a1 j = a j ∧ ub1 j = ub j ∧ b1 j = b j) → MR ua a ub b n S → MR ua1 a1 ub1 b1 n S := by
  intro n
  induction n with
  | zero => intro S _ h; exact h
  | succ n ih =>
    intro S e h
    obtain ⟨X, S', h1, h2, h3, h4⟩ := h
    have q := e n (Nat.lt_succ_self n)
    exact ⟨X, S', h1, by rw [q.1, q.2.1]; exact h2, by rw [q.2.2.1, q.2.2.2]; exact h3, ih S' (fun j hj => e j (by omega)) h4⟩
theorem updL_at (h : Nat → Int64) (n : Nat) (x : Int64) : vp_updL h n x n = x := if_pos rfl
theorem updL_ne (h : Nat → Int64) {n j : Nat} (x : Int64) (q : j ≠ n) : vp_updL h n x j = h j := if_neg q
theorem MR_u {ua : Nat → Int32} {a : Nat → Int64} {ub : Nat → Int32} {b : Nat → Int64} {k : Nat} {S : List IVL} {x z : Int32} {y w : Int64} {o : IVL} (h : MR ua a ub b k S) (h1 : RO x y o.1) (h2 : RO z w o.2) : MR (upd ua k x) (vp_updL a k y) (upd ub k z) (vp_updL b k w) (k + 1) (o :: S) :=
  ⟨o, S, rfl, by rw [upd_at, updL_at]; exact h1, by rw [upd_at, updL_at]; exact h2, MR_eq k S (fun j hj => ⟨upd_ne _ _ (by omega), updL_ne _ _ (by omega), upd_ne _ _ (by omega), updL_ne _ _ (by omega)⟩) h⟩
def VR (lw hg : Nat → Int64) (un ov : Nat → Int32) (en : Nat → IVL) : Prop := enK en ∧ ∀ v, v < 10 → RV (un v) (lw v) (en v).1 ∧ RV (ov v) (hg v) (en v).2

