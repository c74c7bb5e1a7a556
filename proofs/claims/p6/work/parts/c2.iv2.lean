/-! ===== what the class's longs come to ===== -/
theorem c_nL {X : IVL} (h : iK X) : kL (-(cH X.2)) = cL (ineg X).1 := by rw [kL_cap, cap_RP (RP_nH h.2)]; rfl
theorem c_nH {X : IVL} (h : iK X) : kH (-(cL X.1)) = cH (ineg X).2 := by rw [kH_cap, cap_RP (RP_nL h.1)]; rfl
theorem c_sL {X Y : IVL} (h : iK X) (k : iK Y) : kL (kS (cL X.1) (cL Y.1)) = cL (isum X Y).1 := by rw [kL_cap, kS_n (RP_L h.1) (RP_L k.1)]; rfl
theorem c_sH {X Y : IVL} (h : iK X) (k : iK Y) : kH (kS (cH X.2) (cH Y.2)) = cH (isum X Y).2 := by rw [kH_cap, kS_n (RP_H h.2) (RP_H k.2)]; rfl
theorem c_dL {X Y : IVL} (h : iK X) (k : iK Y) : kL (kS (cL X.1) (-(cH Y.2))) = cL (isum X (ineg Y)).1 := by rw [kL_cap, kS_n (RP_L h.1) (RP_nH k.2)]; rfl
theorem c_dH {X Y : IVL} (h : iK X) (k : iK Y) : kH (kS (cH X.2) (-(cL Y.1))) = cH (isum X (ineg Y)).2 := by rw [kH_cap, kS_n (RP_H h.2) (RP_nL k.1)]; rfl
theorem c_iL {X : IVL} (h : iK X) : kL (cL X.1) = cL X.1 := by rw [kL_cap, cap_RP (RP_L h.1)]
theorem c_iH {X : IVL} (h : iK X) : kH (cH X.2) = cH X.2 := by rw [kH_cap, cap_RP (RP_H h.2)]
theorem c_vL {a : Nat} (h : a < 1000000000) : kL (nL a) = cL (some (a : Int)) := by rw [kL_cap, nL_toInt (by omega), cap_in (by omega)]
theorem c_vH {a : Nat} (h : a < 1000000000) : kH (nL a) = cH (some (a : Int)) := by rw [kH_cap, nL_toInt (by omega), cap_in (by omega)]
theorem imul_n {X Y : IVL} (hz : ¬ (X = (some 0, some 0) ∨ Y = (some 0, some 0))) (hb : ¬ ((X.1.isSome && X.2.isSome) = true ∧ (Y.1.isSome && Y.2.isSome) = true)) : imul X Y = (none, none) := by
  unfold imul
  rw [if_neg hz]
  obtain ⟨a, b⟩ := X
  obtain ⟨c, d⟩ := Y
  cases a <;> cases b <;> cases c <;> cases d <;> first | rfl | exact absurd ⟨rfl, rfl⟩ hb
theorem c_m {X Y : IVL} (h : iK X) (k : iK Y) : kL (kML (cL X.1) (cH X.2) (cL Y.1) (cH Y.2)) = cL (imul X Y).1 ∧ kH (kMH (cL X.1) (cH X.2) (cL Y.1) (cH Y.2)) = cH (imul X Y).2 := by
  unfold kML kMH
  rw [kZ_RP (x := X) (RP_L h.1) (RP_H h.2), kZ_RP (x := Y) (RP_L k.1) (RP_H k.2), kB_RP (x := X) (RP_L h.1) (RP_H h.2), kB_RP (x := Y) (RP_L k.1) (RP_H k.2)]
  have dz : (decide (X = (some 0, some 0)) = true ∨ decide (Y = (some 0, some 0)) = true) ↔ (X = (some 0, some 0) ∨ Y = (some 0, some 0)) := by rw [decide_eq_true_iff, decide_eq_true_iff]
  by_cases hz : X = (some 0, some 0) ∨ Y = (some 0, some 0)
  · rw [if_pos (dz.mpr hz), if_pos (dz.mpr hz), show imul X Y = (some 0, some 0) from if_pos hz]
    exact ⟨c_vL (a := 0) (by decide), c_vH (a := 0) (by decide)⟩
  · rw [if_neg (fun z => hz (dz.mp z)), if_neg (fun z => hz (dz.mp z))]
    by_cases hb : (X.1.isSome && X.2.isSome) = true ∧ (Y.1.isSome && Y.2.isSome) = true
    · rw [if_pos hb, if_pos hb]
      obtain ⟨a, b⟩ := X
      obtain ⟨c, d⟩ := Y
      cases a with
      | none => exact absurd hb.1 (by simp)
      | some a =>
        cases b with
        | none => exact absurd hb.1 (by simp)
        | some b =>
          cases c with
          | none => exact absurd hb.2 (by simp)
          | some c =>
            cases d with
            | none => exact absurd hb.2 (by simp)
            | some d =>
              have ha := (RP_L h.1).2 a rfl
              have hb := (RP_H h.2).2 b rfl
              have hc := (RP_L k.1).2 c rfl
              have hd := (RP_H k.2).2 d rfl
              have e : imul (some a, some b) (some c, some d) = imulb a b c d := if_neg hz
              rw [e, kL_cap, kH_cap]
              simp only [kmin_t, kmax_t, kP_t ha.1 hc.1 ha.2 hc.2, kP_t ha.1 hd.1 ha.2 hd.2, kP_t hb.1 hc.1 hb.2 hc.2, kP_t hb.1 hd.1 hb.2 hd.2]
              exact ⟨rfl, rfl⟩
    · rw [if_neg hb, if_neg hb, imul_n hz hb, kL_cap, kH_cap, cap_min, cap_max]
      exact ⟨rfl, rfl⟩
theorem cap_nmax : cap (-(nL 9223372036854775807)).toInt = none := by decide
theorem c_q {X : IVL} (h : iK X) : kL (-(kF (cL X.1) (cH X.2))) = cL (iquo X).1 ∧ kH (kF (cL X.1) (cH X.2)) = cH (iquo X).2 := by
  have q := kF_n (x := X) (RP_L h.1) (RP_H h.2)
  rw [kL_cap, kH_cap]
  unfold iquo
  cases e : ifar X with
  | none => rw [q.2 e, cap_nmax, cap_max]; exact ⟨rfl, rfl⟩
  | some m =>
    have z := q.1 m e
    rw [neg_t (by omega), z.1, cap_in (by omega), cap_in (by omega)]
    exact ⟨rfl, rfl⟩
theorem kR_n {X Y : IVL} (h : iK X) (k : iK Y) : (∀ m, imr X Y = some m → (kR (cL X.1) (cH X.2) (cL Y.1) (cH Y.2)).toInt = m ∧ 0 ≤ m ∧ m ≤ 1152921504606846976) ∧ (imr X Y = none → kR (cL X.1) (cH X.2) (cL Y.1) (cH Y.2) = nL 9223372036854775807) := by
  have q := kF_n (x := X) (RP_L h.1) (RP_H h.2)
  have p := kF_n (x := Y) (RP_L k.1) (RP_H k.2)
  have hy : (Y.1.isSome && Y.2.isSome) = (ifar Y).isSome := by
    obtain ⟨c, d⟩ := Y
    cases c <;> cases d <;> rfl
  unfold kR imr
  rw [kB_RP (x := Y) (RP_L k.1) (RP_H k.2), hy]
  cases e2 : ifar Y with
  | none =>
    rw [if_neg (by simp)]
    cases e : ifar X with
    | none => exact ⟨fun m z => (by cases z), fun _ => q.2 e⟩
    | some m => exact ⟨fun m' z => by cases z; exact q.1 m e, fun z => by cases z⟩
  | some n =>
    have z2 := p.1 n e2
    have e3 : (kF (cL Y.1) (cH Y.2) - nL 1).toInt = n - 1 := by
      rw [Int64.toInt_sub, z2.1, nL_toInt (by decide), Int.bmod_eq_of_le (by omega) (by omega)]; rfl
    rw [if_pos (by simp)]
    cases e : ifar X with
    | none =>
      refine ⟨fun m z => ?_, fun z => by cases z⟩
      cases z
      rw [kmin_t, kmax_t, nL0_t, e3, q.2 e, nL_toInt (by decide)]
      omega
    | some m =>
      have z1 := q.1 m e
      refine ⟨fun m' z => ?_, fun z => by cases z⟩
      cases z
      rw [kmin_t, kmax_t, nL0_t, e3, z1.1]
      omega
theorem inn_c {X : IVL} (h : iK X) : (cL X.1 < nL 0) ↔ inn X = false := by
  obtain ⟨a, b⟩ := X
  unfold inn
  cases a with
  | none => exact ⟨fun _ => rfl, fun _ => (show cL none < nL 0 by decide)⟩
  | some a =>
    have z := ((RP_L h.1).2 a rfl).1
    rw [Int64.lt_iff_toInt_lt, z, nL0_t]
    show a < 0 ↔ decide (0 ≤ a) = false
    rw [decide_eq_false_iff_not]
    omega
theorem c_r {X Y : IVL} (h : iK X) (k : iK Y) : kL (if cL X.1 < nL 0 then -(kR (cL X.1) (cH X.2) (cL Y.1) (cH Y.2)) else nL 0) = cL (irst X Y).1 ∧ kH (kR (cL X.1) (cH X.2) (cL Y.1) (cH Y.2)) = cH (irst X Y).2 := by
  have q := kR_n h k
  rw [kL_cap, kH_cap]
  unfold irst
  have e1 : cap (kR (cL X.1) (cH X.2) (cL Y.1) (cH Y.2)).toInt = imr X Y ∧ cap (-(kR (cL X.1) (cH X.2) (cL Y.1) (cH Y.2))).toInt = ong (imr X Y) := by
    cases e : imr X Y with
    | none => rw [q.2 e, cap_nmax, cap_max]; exact ⟨rfl, rfl⟩
    | some m =>
      have z := q.1 m e
      rw [neg_t (by omega), z.1, cap_in (by omega), cap_in (by omega)]
      exact ⟨rfl, rfl⟩
  refine ⟨?_, by rw [e1.1]⟩
  by_cases hn : inn X = true
  · rw [if_neg (fun z => by rw [(inn_c h).mp z] at hn; cases hn), if_pos hn]; rfl
  · rw [if_pos ((inn_c h).mpr (Bool.eq_false_iff.mpr hn)), if_neg hn, e1.2]
/-! what is within LIMIT stays so -/
theorem oK_ong {o : Option Int} (h : oK o) : oK (ong o) := by
  intro v q
  cases o with
  | none => cases q
  | some x => cases q; have := h x rfl; omega
theorem oK_oad (a b : Option Int) : oK (oad a b) := by
  cases a with
  | none => intro v q; cases b <;> cases q
  | some x =>
    cases b with
    | none => intro v q; cases q
    | some y => exact oK_cap _
theorem iK_neg {X : IVL} (h : iK X) : iK (ineg X) := ⟨oK_ong h.2, oK_ong h.1⟩
theorem iK_sum (X Y : IVL) : iK (isum X Y) := ⟨oK_oad _ _, oK_oad _ _⟩
theorem oK_n {x : Int} (h : -1152921504606846976 ≤ x ∧ x ≤ 1152921504606846976) : oK (some x) := fun v q => by cases q; exact h
theorem oK_none : oK none := fun v q => by cases q
theorem iK_mul (X Y : IVL) : iK (imul X Y) := by
  unfold imul
  by_cases hz : X = (some 0, some 0) ∨ Y = (some 0, some 0)
  · rw [if_pos hz]; exact ⟨oK_n (by decide), oK_n (by decide)⟩
  · rw [if_neg hz]
    obtain ⟨a, b⟩ := X
    obtain ⟨c, d⟩ := Y
    cases a <;> cases b <;> cases c <;> cases d <;> first | exact ⟨oK_none, oK_none⟩ | exact ⟨oK_cap _, oK_cap _⟩
theorem iK_quo {X : IVL} (h : iK X) : iK (iquo X) := by
  have q : oK (ifar X) := fun m e => by have := ifar_K h m e; omega
  exact ⟨oK_ong q, q⟩
theorem iK_rst {X Y : IVL} (h : iK X) (k : iK Y) : iK (irst X Y) := by
  have q : oK (imr X Y) := fun m e => by have := (kR_n h k).1 m e; omega
  refine ⟨?_, q⟩
  show oK (if inn X = true then some 0 else ong (imr X Y))
  by_cases hn : inn X = true
  · rw [if_pos hn]; exact oK_n (by decide)
  · rw [if_neg hn]; exact oK_ong q
theorem iK_ivn {w a : Nat} {X Y : IVL} (h : iK X) (k : iK Y) (ha : w = 0 → a < 1000000000) : iK (ivn w a X Y) := by
  unfold ivn
  by_cases h0 : w = 0
  · rw [if_pos h0]; have := ha h0; exact ⟨oK_n (by omega), oK_n (by omega)⟩
  rw [if_neg h0]
  by_cases h1 : w = 1
  · rw [if_pos h1]; exact h
  rw [if_neg h1]
  by_cases h7 : w = 7
  · rw [if_pos h7]; exact iK_neg h
  rw [if_neg h7]
  by_cases h2 : w = 2
  · rw [if_pos h2]; exact iK_sum _ _
  rw [if_neg h2]
  by_cases h3 : w = 3
  · rw [if_pos h3]; exact iK_sum _ _
  rw [if_neg h3]
  by_cases h4 : w = 4
  · rw [if_pos h4]; exact iK_mul _ _
  rw [if_neg h4]
  by_cases h5 : w = 5
  · rw [if_pos h5]; exact iK_quo h
  · rw [if_neg h5]; exact iK_rst h k
/-! ===== rounds ===== -/
def zI : IVL := (some 0, some 0)
def inI : IVL := (some (-1000000000), some 1000000000)
theorem iK_z : iK zI := ⟨oK_n (by decide), oK_n (by decide)⟩
theorem iK_in : iK inI := ⟨oK_n (by decide), oK_n (by decide)⟩
def lwL : Option Int → Option Int → Bool
  | _, none => false
  | none, some _ => true
  | some y, some x => decide (y < x)
def lwH : Option Int → Option Int → Bool
  | _, none => false
  | none, some _ => true
  | some y, some x => decide (x < y)
def jnL (wd : Bool) (v o : Option Int) : Option Int := if lwL o v = true then (if wd = true then none else o) else v
def jnH (wd : Bool) (v o : Option Int) : Option Int := if lwH o v = true then (if wd = true then none else o) else v
def jnI (wd : Bool) (v o : IVL) : IVL := (jnL wd v.1 o.1, jnH wd v.2 o.2)
def mvI (v o : IVL) : Bool := lwL o.1 v.1 || lwH o.2 v.2
theorem lw_c {o v : Option Int} (ho : oK o) (hv : oK v) : (cL o < cL v ↔ lwL o v = true) ∧ (cH v < cH o ↔ lwH o v = true) := by
  have m1 : ((-9223372036854775808 : Int64)).toInt = -9223372036854775808 := by decide
  have m2 : (nL 9223372036854775807).toInt = 9223372036854775807 := by decide
  rw [Int64.lt_iff_toInt_lt, Int64.lt_iff_toInt_lt]
  cases v with
  | none =>
    refine ⟨⟨fun z => ?_, fun z => by cases o <;> cases z⟩, ⟨fun z => ?_, fun z => by cases o <;> cases z⟩⟩
    · have := (cL o).le_toInt
      rw [show cL none = (-9223372036854775808 : Int64) from rfl, m1] at z
      omega
    · have := (cH o).toInt_lt
      rw [show cH none = nL 9223372036854775807 from rfl, m2] at z
      omega
  | some x =>
    have hx := ofI_t (hv x rfl)
    have hx2 := hv x rfl
    rw [show cL (some x) = Int64.ofInt x from rfl, show cH (some x) = Int64.ofInt x from rfl, hx]
    cases o with
    | none =>
      rw [show cL none = (-9223372036854775808 : Int64) from rfl, show cH none = nL 9223372036854775807 from rfl, m1, m2]
      exact ⟨⟨fun _ => rfl, fun _ => by omega⟩, ⟨fun _ => rfl, fun _ => by omega⟩⟩
    | some y =>
      rw [show cL (some y) = Int64.ofInt y from rfl, show cH (some y) = Int64.ofInt y from rfl, ofI_t (ho y rfl)]
      exact ⟨⟨fun z => decide_eq_true z, fun z => of_decide_eq_true z⟩, ⟨fun z => decide_eq_true z, fun z => of_decide_eq_true z⟩⟩
theorem c_jL {wd : Bool} {v o : IVL} (ho : iK o) (hv : iK v) : kJL (bI wd) (cL v.1) (cL o.1) = cL (jnI wd v o).1 := by
  show _ = cL (jnL wd v.1 o.1)
  unfold kJL jnL
  by_cases h : lwL o.1 v.1 = true
  · rw [if_pos ((lw_c ho.1 hv.1).1.mpr h), if_pos h]
    cases wd
    · rw [if_pos (show bI false = nI 0 from rfl), if_neg (show ¬ (false = true) by decide)]
    · rw [if_neg (show ¬ bI true = nI 0 by decide), if_pos rfl]; rfl
  · rw [if_neg (fun z => h ((lw_c ho.1 hv.1).1.mp z)), if_neg h]
theorem c_jH {wd : Bool} {v o : IVL} (ho : iK o) (hv : iK v) : kJH (bI wd) (cH v.2) (cH o.2) = cH (jnI wd v o).2 := by
  show _ = cH (jnH wd v.2 o.2)
  unfold kJH jnH
  by_cases h : lwH o.2 v.2 = true
  · rw [if_pos ((lw_c ho.2 hv.2).2.mpr h), if_pos h]
    cases wd
    · rw [if_pos (show bI false = nI 0 from rfl), if_neg (show ¬ (false = true) by decide)]
    · rw [if_neg (show ¬ bI true = nI 0 by decide), if_pos rfl]; rfl
  · rw [if_neg (fun z => h ((lw_c ho.2 hv.2).2.mp z)), if_neg h]
theorem c_mv {v o : IVL} (ho : iK o) (hv : iK v) : (cL o.1 < cL v.1 ∨ cH v.2 < cH o.2) ↔ mvI v o = true := by
  unfold mvI
  rw [Bool.or_eq_true, (lw_c ho.1 hv.1).1, (lw_c ho.2 hv.2).2]
theorem iK_jn {wd : Bool} {v o : IVL} (ho : iK o) (hv : iK v) : iK (jnI wd v o) := by
  refine ⟨?_, ?_⟩
  · show oK (jnL wd v.1 o.1)
    unfold jnL
    by_cases h : lwL o.1 v.1 = true
    · rw [if_pos h]
      cases wd
      · rw [if_neg (by decide)]; exact ho.1
      · rw [if_pos rfl]; exact oK_none
    · rw [if_neg h]; exact hv.1
  · show oK (jnH wd v.2 o.2)
    unfold jnH
    by_cases h : lwH o.2 v.2 = true
    · rw [if_pos h]
      cases wd
      · rw [if_neg (by decide)]; exact ho.2
      · rw [if_pos rfl]; exact oK_none
    · rw [if_neg h]; exact hv.2
def xst (en : Nat → IVL) (S : List IVL) (w a : Nat) : List IVL := if w < 2 then ivn w a (en a) zI :: S else if w = 7 then ivn 7 a (S.headD zI) zI :: S.tail else ivn w a (S.tail.headD zI) (S.headD zI) :: S.tail.tail
def xsts (en : Nat → IVL) : List IVL → List (Nat × Nat) → List IVL
  | S, [] => S
  | S, (w, a) :: L => xsts en (xst en S w a) L
def enu (en : Nat → IVL) (a : Nat) (x : IVL) : Nat → IVL := fun i => if i = a then x else en i
def rnd (wd : Bool) : (Nat → IVL) → List IVL → Bool → List (Nat × Nat) → (Nat → IVL) × Bool
  | en, _, mv, [] => (en, mv)
  | en, S, mv, (w, a) :: L => if w < 8 then rnd wd en (xst en S w a) mv L else if w = 8 then rnd wd (enu en a (jnI wd (en a) (S.headD zI))) [] (mvI (en a) (S.headD zI) || mv) L else if w = 9 then rnd wd (enu en a (jnI wd (en a) inI)) [] (mvI (en a) inI || mv) L else rnd wd en [] mv L
def rds (L : List (Nat × Nat)) : Nat → Nat → (Nat → IVL) → Nat × (Nat → IVL)
  | 0, n, en => (n, en)
  | k + 1, n, en => if (rnd (decide (3 < n)) en [] false L).2 = true then rds L k (n + 1) (rnd (decide (3 < n)) en [] false L).1 else (n, (rnd (decide (3 < n)) en [] false L).1)
def enK (en : Nat → IVL) : Prop := ∀ i, iK (en i)
theorem enK_u {en : Nat → IVL} {a : Nat} {x : IVL} (h : enK en) (hx : iK x) : enK (enu en a x) := fun i => by
  unfold enu
  by_cases q : i = a
  · rw [if_pos q]; exact hx
  · rw [if_neg q]; exact h i
theorem rnd_e (wd : Bool) (en : Nat → IVL) (mv : Bool) (L : List (Nat × Nat)) (E : List (Nat × Nat)) : ∀ S, (∀ x, x ∈ E → x.1 < 8) → rnd wd en S mv (E ++ L) = rnd wd en (xsts en S E) mv L := by
  induction E with
  | nil => intro S _; rfl
  | cons x E ih =>
    intro S h
    obtain ⟨w, a⟩ := x
    have hw : w < 8 := h (w, a) (List.mem_cons_self)
    have e : rnd wd en S mv ((w, a) :: E ++ L) = rnd wd en (xst en S w a) mv (E ++ L) := if_pos hw
    rw [e, ih _ (fun x q => h x (List.mem_cons_of_mem _ q))]
    rfl
theorem rnd_8 (wd : Bool) (en : Nat → IVL) (S : List IVL) (mv : Bool) (a : Nat) (L : List (Nat × Nat)) : rnd wd en S mv ((8, a) :: L) = rnd wd (enu en a (jnI wd (en a) (S.headD zI))) [] (mvI (en a) (S.headD zI) || mv) L := rfl
theorem rnd_9 (wd : Bool) (en : Nat → IVL) (S : List IVL) (mv : Bool) (a : Nat) (L : List (Nat × Nat)) : rnd wd en S mv ((9, a) :: L) = rnd wd (enu en a (jnI wd (en a) inI)) [] (mvI (en a) inI || mv) L := rfl
theorem rnd_o (wd : Bool) (en : Nat → IVL) (S : List IVL) (mv : Bool) (w a : Nat) (L : List (Nat × Nat)) (h : 10 ≤ w) : rnd wd en S mv ((w, a) :: L) = rnd wd en [] mv L := by
  show (if w < 8 then _ else if w = 8 then _ else if w = 9 then _ else _) = _
  rw [if_neg (by omega), if_neg (by omega), if_neg (by omega)]
/-! a ROUND that moves nothing changes nothing; from the fourth on each that moves makes a bound UNBOUNDED -/
def oc1 (o : Option Int) : Nat := if o.isSome = true then 1 else 0
def cnt (en : Nat → IVL) : Nat → Nat
  | 0 => 0
  | n + 1 => cnt en n + (oc1 (en n).1 + oc1 (en n).2)
theorem oc1_le (o : Option Int) : oc1 o ≤ 1 := by unfold oc1; split <;> omega
theorem cnt_le (en : Nat → IVL) : ∀ n, cnt en n ≤ 2 * n := by
  intro n
  induction n with
  | zero => exact Nat.le_refl _
  | succ n ih => have := oc1_le (en n).1; have := oc1_le (en n).2; unfold cnt; omega
theorem cnt_u {en : Nat → IVL} {a : Nat} {x : IVL} : ∀ n, (a < n → cnt (enu en a x) n + (oc1 (en a).1 + oc1 (en a).2) = cnt en n + (oc1 x.1 + oc1 x.2)) ∧ (n ≤ a → cnt (enu en a x) n = cnt en n) := by
  intro n
  induction n with
  | zero => exact ⟨fun h => absurd h (by omega), fun _ => rfl⟩
  | succ n ih =>
    have e : n ≠ a → enu en a x n = en n := fun q => if_neg q
    refine ⟨fun h => ?_, fun h => ?_⟩
    · unfold cnt
      by_cases q : n = a
      · subst q
        rw [ih.2 (Nat.le_refl n), show enu en n x n = x from if_pos rfl]
        omega
      · rw [e q]
        have := ih.1 (by omega)
        omega
    · unfold cnt
      rw [e (by omega), ih.2 (by omega)]
theorem jn_same {wd : Bool} {v o : IVL} (h : mvI v o = false) : jnI wd v o = v := by
  unfold mvI at h
  rw [Bool.or_eq_false_iff] at h
  unfold jnI jnL jnH
  rw [if_neg (by rw [h.1]; decide), if_neg (by rw [h.2]; decide)]
theorem enu_same (en : Nat → IVL) (a : Nat) : enu en a (en a) = en := by
  funext i
  unfold enu
  by_cases q : i = a
  · rw [if_pos q, q]
  · rw [if_neg q]
theorem lw_some {o v : Option Int} : (lwL o v = true → oc1 v = 1) ∧ (lwH o v = true → oc1 v = 1) := by
  cases v with
  | none => cases o <;> exact ⟨fun q => (by cases q), fun q => by cases q⟩
  | some x => exact ⟨fun _ => rfl, fun _ => rfl⟩
theorem jn_cnt {v o : IVL} : oc1 (jnI true v o).1 + oc1 (jnI true v o).2 ≤ oc1 v.1 + oc1 v.2 ∧ (mvI v o = true → oc1 (jnI true v o).1 + oc1 (jnI true v o).2 < oc1 v.1 + oc1 v.2) := by
  have q1 : oc1 (jnL true v.1 o.1) ≤ oc1 v.1 ∧ (lwL o.1 v.1 = true → oc1 (jnL true v.1 o.1) < oc1 v.1) := by
    unfold jnL
    by_cases h : lwL o.1 v.1 = true
    · rw [if_pos h, if_pos rfl, lw_some.1 h]; exact ⟨by decide, fun _ => by decide⟩
    · rw [if_neg h]; exact ⟨Nat.le_refl _, fun z => absurd z h⟩
  have q2 : oc1 (jnH true v.2 o.2) ≤ oc1 v.2 ∧ (lwH o.2 v.2 = true → oc1 (jnH true v.2 o.2) < oc1 v.2) := by
    unfold jnH
    by_cases h : lwH o.2 v.2 = true
    · rw [if_pos h, if_pos rfl, lw_some.2 h]; exact ⟨by decide, fun _ => by decide⟩
    · rw [if_neg h]; exact ⟨Nat.le_refl _, fun z => absurd z h⟩
  refine ⟨Nat.add_le_add q1.1 q2.1, fun h => ?_⟩
  unfold mvI at h
  rw [Bool.or_eq_true] at h
  show oc1 (jnL true v.1 o.1) + oc1 (jnH true v.2 o.2) < _
  rcases h with h | h
  · have := q1.2 h; omega
  · have := q2.2 h; omega
theorem rnd_mv (wd : Bool) (L : List (Nat × Nat)) : ∀ en S mv, (rnd wd en S mv L).2 = false → mv = false ∧ (rnd wd en S mv L).1 = en := by
  induction L with
  | nil => intro en S mv h; exact ⟨h, rfl⟩
  | cons x L ih =>
    intro en S mv h
    obtain ⟨w, a⟩ := x
    by_cases h8 : w < 8
    · have e : rnd wd en S mv ((w, a) :: L) = rnd wd en (xst en S w a) mv L := if_pos h8
      rw [e] at h ⊢
      exact ih _ _ _ h
    · have st : ∀ o : IVL, (rnd wd (enu en a (jnI wd (en a) o)) [] (mvI (en a) o || mv) L).2 = false → mv = false ∧ (rnd wd (enu en a (jnI wd (en a) o)) [] (mvI (en a) o || mv) L).1 = en := fun o z => by
        obtain ⟨z1, z2⟩ := ih _ _ _ z
        rw [Bool.or_eq_false_iff] at z1
        refine ⟨z1.2, z2.trans ?_⟩
        rw [jn_same z1.1, enu_same]
      by_cases q8 : w = 8
      · subst q8; exact st _ h
      · by_cases q9 : w = 9
        · subst q9; exact st _ h
        · rw [rnd_o wd en S mv w a L (by omega)] at h ⊢
          exact ih _ _ _ h
theorem rnd_cnt (L : List (Nat × Nat)) : ∀ en S mv, (∀ x, x ∈ L → x.1 = 8 ∨ x.1 = 9 → x.2 < 10) → cnt (rnd true en S mv L).1 10 ≤ cnt en 10 ∧ ((rnd true en S mv L).2 = true → mv = true ∨ cnt (rnd true en S mv L).1 10 < cnt en 10) := by
  induction L with
  | nil => intro en S mv _; exact ⟨Nat.le_refl _, fun h => Or.inl h⟩
  | cons x L ih =>
    intro en S mv hL
    obtain ⟨w, a⟩ := x
    have hL2 : ∀ x, x ∈ L → x.1 = 8 ∨ x.1 = 9 → x.2 < 10 := fun x q => hL x (List.mem_cons_of_mem _ q)
    have ha := hL (w, a) (List.mem_cons_self)
    by_cases h8 : w < 8
    · have e : rnd true en S mv ((w, a) :: L) = rnd true en (xst en S w a) mv L := if_pos h8
      rw [e]
      exact ih _ _ _ hL2
    · have st : ∀ o : IVL, a < 10 → cnt (rnd true (enu en a (jnI true (en a) o)) [] (mvI (en a) o || mv) L).1 10 ≤ cnt en 10 ∧ ((rnd true (enu en a (jnI true (en a) o)) [] (mvI (en a) o || mv) L).2 = true → mv = true ∨ cnt (rnd true (enu en a (jnI true (en a) o)) [] (mvI (en a) o || mv) L).1 10 < cnt en 10) := fun o h10 => by
        obtain ⟨z1, z2⟩ := ih (enu en a (jnI true (en a) o)) [] (mvI (en a) o || mv) hL2
        have c := (cnt_u (en := en) (a := a) (x := jnI true (en a) o) 10).1 h10
        have d := jn_cnt (v := en a) (o := o)
        refine ⟨by omega, fun z => ?_⟩
        rcases z2 z with y | y
        · rw [Bool.or_eq_true] at y
          rcases y with y | y
          · have := d.2 y; exact Or.inr (by omega)
          · exact Or.inl y
        · exact Or.inr (by omega)
      by_cases q8 : w = 8
      · subst q8; exact st _ (ha (Or.inl rfl))
      · by_cases q9 : w = 9
        · subst q9; exact st _ (ha (Or.inr rfl))
        · rw [rnd_o true en S mv w a L (by omega)]
          exact ih _ _ _ hL2
theorem rds_s (L : List (Nat × Nat)) (k n : Nat) (en : Nat → IVL) : (∀ b e, rnd (decide (3 < n)) en [] false L = (e, b) → (b = true → rds L (k + 1) n en = rds L k (n + 1) e) ∧ (b = false → rds L (k + 1) n en = (n, e))) := by
  intro b e h
  have q : rds L (k + 1) n en = if (rnd (decide (3 < n)) en [] false L).2 = true then rds L k (n + 1) (rnd (decide (3 < n)) en [] false L).1 else (n, (rnd (decide (3 < n)) en [] false L).1) := rfl
  rw [h] at q
  refine ⟨fun z => ?_, fun z => ?_⟩
  · rw [q, if_pos z]
  · rw [q, if_neg (show ¬ b = true by rw [z]; decide)]
/-- where no bound is left to move, the next ROUND is the last one -/
theorem rds_end {L : List (Nat × Nat)} (hL : ∀ x, x ∈ L → x.1 = 8 ∨ x.1 = 9 → x.2 < 10) {k n : Nat} {en : Nat → IVL} (hn : 3 < n) (h : cnt en 10 = 0) : rds L (k + 1) n en = (n, en) := by
  have c := rnd_cnt L en [] false hL
  have e : rnd (decide (3 < n)) en [] false L = rnd true en [] false L := by rw [decide_eq_true hn]
  have m : (rnd true en [] false L).2 = false := by
    cases z : (rnd true en [] false L).2 with
    | false => rfl
    | true =>
      rcases c.2 z with y | y
      · cases y
      · omega
  have r := rnd_mv true L en [] false m
  exact ((rds_s L k n en) false (rnd true en [] false L).1 (e.trans (Prod.ext rfl m))).2 rfl |>.trans (by rw [r.2])

