/-! ===== what a node is worth; what one node's working out leaves as it was ===== -/
theorem T12_big : 1152921504606846976 * 1152921504606846976 < T12 := by unfold T12; decide +kernel
theorem T12_60 {v : Int} (h : v.natAbs ≤ 1152921504606846976) : v.natAbs < T12 := by
  have := T12_big
  omega
theorem otr_60 {w : Nat} {x y : Int} (hx : x.natAbs ≤ 1152921504606846976) (hy : y.natAbs ≤ 1152921504606846976) : ¬ T12 ≤ (opv w x y).natAbs := by
  have b := T12_big
  have m : x.natAbs * y.natAbs ≤ 1152921504606846976 * 1152921504606846976 := Nat.mul_le_mul hx hy
  unfold opv
  by_cases h2 : w = 2
  · rw [if_pos h2]; omega
  rw [if_neg h2]
  by_cases h3 : w = 3
  · rw [if_pos h3]; omega
  rw [if_neg h3]
  by_cases h4 : w = 4
  · rw [if_pos h4, Int.natAbs_mul]; omega
  rw [if_neg h4]
  by_cases h5 : w = 5
  · rw [if_pos h5, (td_abs x y).1]
    have : x.natAbs / y.natAbs ≤ x.natAbs := Nat.div_le_self _ _
    omega
  · rw [if_neg h5, (td_abs x y).2]
    have : x.natAbs % y.natAbs ≤ x.natAbs := Nat.mod_le _ _
    omega
theorem otr_z {w : Nat} {x y : Int} (hx : x.natAbs ≤ 1152921504606846976) (hy : y.natAbs ≤ 1152921504606846976) (h : w < 5 ∨ w = 7 ∨ y ≠ 0) : otr w x y = 0 := by
  unfold otr
  by_cases h7 : w = 7
  · rw [if_pos h7]
  rw [if_neg h7, if_neg (fun z => by omega), if_neg (otr_60 hx hy)]
theorem otr_1 {w : Nat} {x y : Int} (h : 4 < w) (h7 : w < 7) (hy : y = 0) : otr w x y = 1 := by
  unfold otr
  rw [if_neg (by omega), if_pos ⟨h, hy⟩]
theorem otr_2 {w : Nat} {x y : Int} (h7 : w < 7) (hy : w < 5 ∨ y ≠ 0) (h : T12 ≤ (opv w x y).natAbs) : otr w x y = 2 := by
  unfold otr
  rw [if_neg (by omega), if_neg (fun z => by omega), if_pos h]
theorem otr_0 {w : Nat} {x y : Int} (h7 : w < 7) (hy : w < 5 ∨ y ≠ 0) (h : (opv w x y).natAbs < T12) : otr w x y = 0 := by
  unfold otr
  rw [if_neg (by omega), if_neg (fun z => by omega), if_neg (by omega)]
section mach
variable {a b : Int64} {x y : Int}
theorem oe_neg (ha : a.toInt = x) (h : x.natAbs ≤ 1152921504606846976) : (-a).toInt = ovl 7 x y := by
  show _ = -x
  rw [neg_ti (by omega), ha]
theorem oe_add (ha : a.toInt = x) (hb : b.toInt = y) (h : x.natAbs ≤ 1152921504606846976) (k : y.natAbs ≤ 1152921504606846976) : (a + b).toInt = ovl 2 x y := by
  show _ = x + y
  rw [Int64.toInt_add, ha, hb, Int.bmod_eq_of_le (by omega) (by omega)]
theorem oe_sub (ha : a.toInt = x) (hb : b.toInt = y) (h : x.natAbs ≤ 1152921504606846976) (k : y.natAbs ≤ 1152921504606846976) : (a - b).toInt = ovl 3 x y := by
  show _ = x - y
  rw [Int64.toInt_sub, ha, hb, Int.bmod_eq_of_le (by omega) (by omega)]
theorem oe_mul (ha : a.toInt = x) (hb : b.toInt = y) (h : (ovl 4 x y).natAbs ≤ 1152921504606846976) : (a * b).toInt = ovl 4 x y := by
  have h : (x * y).natAbs ≤ 1152921504606846976 := h
  show _ = x * y
  exact mul_t ha hb (by rw [Int.natAbs_mul] at h; omega)
theorem oe_div (ha : a.toInt = x) (hb : b.toInt = y) (h : x.natAbs ≤ 1152921504606846976) : (a / b).toInt = ovl 5 x y := by
  show _ = Int.tdiv x y
  rw [Int64.toInt_div_of_ne_left _ _ (fun z => by rw [z] at ha; have q : (Int64.minValue).toInt = -9223372036854775808 := (by decide); omega), ha, hb]
theorem oe_rem (ha : a.toInt = x) (hb : b.toInt = y) (h : x.natAbs ≤ 1152921504606846976) : (a - a / b * b).toInt = ovl 6 x y := by
  show _ = Int.tmod x y
  have e : (a / b).toInt = Int.tdiv x y := oe_div ha hb h
  have q := (td_abs x y).1
  have d : x.natAbs / y.natAbs ≤ x.natAbs := Nat.div_le_self _ _
  have m := Int.tmod_add_tdiv_mul x y
  have ma : (Int.tmod x y).natAbs ≤ x.natAbs := by rw [(td_abs x y).2]; exact Nat.mod_le _ _
  have p : (a / b * b).toInt = Int.tdiv x y * y := by
    rw [Int64.toInt_mul, e, hb, Int.bmod_eq_of_le (by omega) (by omega)]
  rw [Int64.toInt_sub, ha, p, Int.bmod_eq_of_le (by omega) (by omega)]
  omega
end mach
def VL (g : Lay) (f : Nat → va_E) (P sm j : Nat) (v : Int) : Prop := ∃ (kd le ri : Nat) (mv : Int64), f (g.lk (g.lk P 2) j) = .inr (5, [.int (nI kd), .int (nI le), .int (nI ri), .ref (g.lk (g.lk (g.lk P 2) j) 3), .int (nI sm), .long mv, .ref (g.lk (g.lk (g.lk P 2) j) 6)]) ∧ (sm = 1 → mv.toInt = v ∧ v.natAbs ≤ 1152921504606846976) ∧ (sm = 0 → LV g f (g.lk (g.lk (g.lk P 2) j) 6) v) ∧ v.natAbs < T12
def VS (g : Lay) (f : Nat → va_E) (P : Nat) (T : TT) : Nat → List Nat → List Int → List IVL → Prop
  | _, [], V, S => V = [] ∧ S = []
  | n, j :: st, V, S => ∃ v V' X S', V = v :: V' ∧ S = X :: S' ∧ j < n ∧ VL g f P (T 3 j) j v ∧ ivin v X ∧ iK X ∧ VS g f P T j st V' S'
/-- the working out of the node m changes no more than this -/
def FK (g : Lay) (f f1 : Nat → va_E) (X P : Nat) (T : TT) (k m : Nat) : Prop := ∀ b, b ≠ X → b ≠ g.lk (g.lk P 2) m → b ≠ g.lk (g.lk (g.lk P 2) m) 6 → b ≠ g.lk (g.lk (g.lk (g.lk P 2) m) 6) 2 → b ≠ g.lk X 6 → b ≠ g.lk (g.lk X 6) 0 → b ≠ g.lk (g.lk X 6) 1 → (∀ j, j < m → T 3 j = 1 ∨ k ≤ j → b ≠ g.lk (g.lk (g.lk P 2) j) 6 ∧ b ≠ g.lk (g.lk (g.lk (g.lk P 2) j) 6) 2) → f1 b = f b
/-- the numbers of variables and outputs are as they were -/
def FW (g : Lay) (f f1 : Nat → va_E) : Prop := ∀ x, g.tg x = 5 → 100 ≤ g.tn x → f1 x = f x ∧ f1 (g.lk x 2) = f (g.lk x 2)
section fk
variable {g : Lay} {f f1 : Nat → va_E} {X P k m : Nat} {T : TT}
theorem nw_tn (hL : LO g) (hP : g.tg P = 7) {j : Nat} (hj : j < 72) : g.tn (g.lk (g.lk (g.lk P 2) j) 6) = j := (lo_n6 hL _ (lo_e25 hL _ (lo_k7_2 hL P hP) j hj)).trans (lo_n25 hL _ (lo_k7_2 hL P hP) j hj)
theorem nw_5 (hL : LO g) (hP : g.tg P = 7) {j : Nat} (hj : j < 72) : g.tg (g.lk (g.lk (g.lk P 2) j) 6) = 5 := lo_k6_6 hL _ (lo_e25 hL _ (lo_k7_2 hL P hP) j hj)
theorem nw_23 (hL : LO g) (hP : g.tg P = 7) {j : Nat} (hj : j < 72) : g.tg (g.lk (g.lk (g.lk (g.lk P 2) j) 6) 2) = 23 := lo_k5_2 hL _ (nw_5 hL hP hj)
theorem tn5_ne (hL : LO g) {x y : Nat} (hx : g.tg x = 5) (hy : g.tg y = 5) (h : g.tn x ≠ g.tn y) : x ≠ y ∧ g.lk x 2 ≠ g.lk y 2 := ⟨fun q => h (by rw [q]), fun q => h (by rw [lo_inj5 hL x y hx hy q])⟩
theorem na_ne (hL : LO g) (hP : g.tg P = 7) {i j : Nat} (hi : i < 72) (hj : j < 72) (h : i ≠ j) : g.lk (g.lk P 2) i ≠ g.lk (g.lk P 2) j := fun q => h (lo_inj25 hL _ _ _ _ (lo_k7_2 hL P hP) (lo_k7_2 hL P hP) hi hj q).2
theorem FK_na (hL : LO g) (hX : g.tg X = 9) (hP : g.tg P = 7) (hm : m < 72) (h : FK g f f1 X P T k m) {j : Nat} (hj : j < 72) (hne : j ≠ m) : f1 (g.lk (g.lk P 2) j) = f (g.lk (g.lk P 2) j) := by
  have t6 := lo_e25 hL _ (lo_k7_2 hL P hP) j hj
  have tD := lo_k9_6 hL X hX
  exact h _ (tg_ne t6 hX (by decide)) (na_ne hL hP hj hm hne) (tg_ne t6 (nw_5 hL hP hm) (by decide)) (tg_ne t6 (nw_23 hL hP hm) (by decide)) (tg_ne t6 tD (by decide)) (tg_ne t6 (lo_k4_0 hL _ tD) (by decide)) (tg_ne t6 (lo_k4_1 hL _ tD) (by decide)) (fun i hi _ => ⟨tg_ne t6 (nw_5 hL hP (by omega)) (by decide), tg_ne t6 (nw_23 hL hP (by omega)) (by decide)⟩)
theorem FK_5 (hL : LO g) (hX : g.tg X = 9) (hP : g.tg P = 7) (hm : m < 72) (h : FK g f f1 X P T k m) {x : Nat} (hx : g.tg x = 5) (hne : g.tn x ≠ m) (hj : ∀ j, j < m → T 3 j = 1 ∨ k ≤ j → g.tn x ≠ j) : f1 x = f x ∧ f1 (g.lk x 2) = f (g.lk x 2) := by
  have t23 := lo_k5_2 hL x hx
  have tD := lo_k9_6 hL X hX
  have t6 := lo_e25 hL _ (lo_k7_2 hL P hP) m hm
  have e := tn5_ne hL hx (nw_5 hL hP hm) (by rw [nw_tn hL hP hm]; exact hne)
  refine ⟨h _ (tg_ne hx hX (by decide)) (tg_ne hx t6 (by decide)) e.1 (tg_ne hx (nw_23 hL hP hm) (by decide)) (tg_ne hx tD (by decide)) (tg_ne hx (lo_k4_0 hL _ tD) (by decide)) (tg_ne hx (lo_k4_1 hL _ tD) (by decide)) (fun i hi h3 => ?_), h _ (tg_ne t23 hX (by decide)) (tg_ne t23 t6 (by decide)) (tg_ne t23 (nw_5 hL hP hm) (by decide)) e.2 (tg_ne t23 tD (by decide)) (tg_ne t23 (lo_k4_0 hL _ tD) (by decide)) (tg_ne t23 (lo_k4_1 hL _ tD) (by decide)) (fun i hi h3 => ?_)⟩
  · have e2 := tn5_ne hL hx (nw_5 hL hP (show i < 72 by omega)) (by rw [nw_tn hL hP (by omega)]; exact hj i hi h3)
    exact ⟨e2.1, tg_ne hx (nw_23 hL hP (by omega)) (by decide)⟩
  · have e2 := tn5_ne hL hx (nw_5 hL hP (show i < 72 by omega)) (by rw [nw_tn hL hP (by omega)]; exact hj i hi h3)
    exact ⟨tg_ne t23 (nw_5 hL hP (by omega)) (by decide), e2.2⟩
theorem LV_eq {x : Nat} {v : Int} (h : LV g f x v) (e : f1 x = f x ∧ f1 (g.lk x 2) = f (g.lk x 2)) : LV g f1 x v := by
  obtain ⟨sg, n, d, e1, e2, q⟩ := h
  exact ⟨sg, n, d, e.1.trans e1, e.2.trans e2, q⟩
theorem VL_fk (hL : LO g) (hX : g.tg X = 9) (hP : g.tg P = 7) (hm : m < 72) (h : FK g f f1 X P T k m) (hkm : k ≤ m) {j : Nat} {v : Int} (hj : j < k) (q : VL g f P (T 3 j) j v) : VL g f1 P (T 3 j) j v := by
  obtain ⟨kd, le, ri, mv, e, h1, h0, h12⟩ := q
  refine ⟨kd, le, ri, mv, (FK_na hL hX hP hm h (by omega) (by omega)).trans e, h1, fun z => ?_, h12⟩
  refine LV_eq (h0 z) (FK_5 hL hX hP hm h (nw_5 hL hP (by omega)) (by rw [nw_tn hL hP (by omega)]; omega) (fun i hi h3 => ?_))
  rw [nw_tn hL hP (by omega)]
  intro q
  subst q
  omega
theorem VS_fk (hL : LO g) (hX : g.tg X = 9) (hP : g.tg P = 7) (hm : m < 72) (h : FK g f f1 X P T k m) (hkm : k ≤ m) : ∀ (st : List Nat) (n : Nat) (V : List Int) (S : List IVL), n ≤ k → VS g f P T n st V S → VS g f1 P T n st V S := by
  intro st
  induction st with
  | nil => intro n V S _ q; exact q
  | cons j st ih =>
    intro n V S hn q
    obtain ⟨v, V', Y, S', e1, e2, hj, hv, hi, hk, hr⟩ := q
    exact ⟨v, V', Y, S', e1, e2, hj, VL_fk hL hX hP hm h hkm (by omega) hv, hi, hk, ih j V' S' (by omega) hr⟩
theorem FW_fk (hL : LO g) (hX : g.tg X = 9) (hP : g.tg P = 7) (hm : m < 72) (h : FK g f f1 X P T k m) : FW g f f1 := fun x hx ht => FK_5 hL hX hP hm h hx (by omega) (fun j hj _ => by omega)
theorem FW.tr {f2 : Nat → va_E} (h : FW g f f1) (k : FW g f1 f2) : FW g f f2 := fun x hx ht => ⟨(k x hx ht).1.trans (h x hx ht).1, (k x hx ht).2.trans (h x hx ht).2⟩
theorem FW.rf : FW g f f := fun _ _ _ => ⟨rfl, rfl⟩
theorem TPN_fk (hL : LO g) (hX : g.tg X = 9) (hP : g.tg P = 7) (hm : m < 72) (h : FK g f f1 X P T k m) {mv : Int64} (e : f1 (g.lk (g.lk P 2) m) = .inr (5, [.int (nI (T 0 m)), .int (nI (T 1 m)), .int (nI (T 2 m)), .ref (g.lk (g.lk (g.lk P 2) m) 3), .int (nI (T 3 m)), .long mv, .ref (g.lk (g.lk (g.lk P 2) m) 6)])) (h0 : T 0 m = 0 → ∀ a, T 4 m = a + 1 → mv = nL a) (q : TPN g f P T) : TPN g f1 P T := fun j hj => by
  by_cases z : j = m
  · subst z; exact ⟨mv, e, h0⟩
  · obtain ⟨mv2, e2, h2⟩ := q j hj
    exact ⟨mv2, (FK_na hL hX hP hm h hj z).trans e2, h2⟩
end fk
/-- the variables: small ones in the row of machine numbers, the others in the row of long ones -/
def VARS (g : Lay) (f : Nat → va_E) (X : Nat) (en : Nat → IVL) (vr : Nat → Int) : Prop := ∃ hM : Nat → Int64, f (g.lk X 3) = .inl (g.ac (g.lk X 3), 10, .inr (.inl hM)) ∧ ∀ v, v < 10 → (bdd (en v) → (hM v).toInt = vr v) ∧ (¬ bdd (en v) → LV g f (g.lk (g.lk X 4) v) (vr v))
theorem VARS_fw {g : Lay} {f f1 : Nat → va_E} {X : Nat} {en : Nat → IVL} {vr : Nat → Int} (hL : LO g) (hX : g.tg X = 9) (h : VARS g f X en vr) (k : FW g f f1) (e : f1 (g.lk X 3) = f (g.lk X 3)) : VARS g f1 X en vr := by
  obtain ⟨hM, e1, q⟩ := h
  have t28 := lo_k9_4 hL X hX
  exact ⟨hM, e.trans e1, fun v hv => ⟨(q v hv).1, fun z => LV_eq ((q v hv).2 z) (k _ (lo_e28 hL _ t28 v hv) (by rw [lo_n28 hL _ t28 v hv]; omega))⟩⟩
/-- what is kept of the outputs -/
def OUTS (g : Lay) (f : Nat → va_E) (X : Nat) (outs : List Int) : Prop := ∀ k, k < 12 → k < outs.length → LV g f (g.lk (g.lk X 7) k) (outs.getD k 0) ∧ (outs.getD k 0).natAbs < T12
theorem OUTS_fw {g : Lay} {f f1 : Nat → va_E} {X : Nat} {outs : List Int} (hL : LO g) (hX : g.tg X = 9) (h : OUTS g f X outs) (k : FW g f f1) : OUTS g f1 X outs := fun i hi h2 => ⟨LV_eq (h i hi h2).1 (k _ (lo_e29 hL _ (lo_k9_7 hL X hX) i hi) (by rw [lo_n29 hL _ (lo_k9_7 hL X hX) i hi]; omega)), (h i hi h2).2⟩
theorem VS_mono {g : Lay} {f : Nat → va_E} {P : Nat} {T : TT} {st : List Nat} {n m : Nat} {V : List Int} {S : List IVL} (h : n ≤ m) (q : VS g f P T n st V S) : VS g f P T m st V S := by
  cases st with
  | nil => exact q
  | cons j st =>
    obtain ⟨v, V', Y, S', e1, e2, hj, hr⟩ := q
    exact ⟨v, V', Y, S', e1, e2, by omega, hr⟩
theorem evs_ok {vr : Nat → Int} {w a : Nat} {E : List (Nat × Nat)} {S S' : List Int} (h : ev1 vr w a S = (0, S')) : evs vr ((w, a) :: E) S = evs vr E S' := by
  show (if (ev1 vr w a S).1 = 0 then evs vr E (ev1 vr w a S).2 else ev1 vr w a S) = _
  rw [h]
  exact if_pos rfl
theorem evs_no {vr : Nat → Int} {w a t : Nat} {E : List (Nat × Nat)} {S S' : List Int} (h : ev1 vr w a S = (t, S')) (ht : t ≠ 0) : evs vr ((w, a) :: E) S = (t, S') := by
  show (if (ev1 vr w a S).1 = 0 then evs vr E (ev1 vr w a S).2 else ev1 vr w a S) = _
  rw [h]
  exact if_neg ht
theorem ev1_z (vr : Nat → Int) {w a : Nat} {x y : Int} {S : List Int} (h2 : 2 ≤ w) (h7 : w < 7) (h : otr w x y = 0) : ev1 vr w a (y :: x :: S) = (0, ovl w x y :: S) := (ev1_o vr x y S h2 h7).trans (if_pos h)
theorem ev1_t (vr : Nat → Int) {w a : Nat} {x y : Int} {S : List Int} (h2 : 2 ≤ w) (h7 : w < 7) (h : ¬ otr w x y = 0) : ev1 vr w a (y :: x :: S) = (otr w x y, y :: x :: S) := (ev1_o vr x y S h2 h7).trans (if_neg h)

