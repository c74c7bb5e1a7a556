/-! ===== a program that was read and judged, as tables ===== -/
def TSBL (T : TT) (en : Nat → IVL) : List IVL → Nat → List (Nat × Nat) → Prop
  | _, _, [] => True
  | S, n, (w, a) :: L => if w < 8 then TSB T en (xst en S w a) n w a ∧ TSBL T en (xst en S w a) (n + 1) L else TSBL T en [] n L
def TSE (T : TT) (en : Nat → IVL) : List IVL → Nat → List (Nat × Nat) → Prop
  | _, _, [] => True
  | S, n, (w, a) :: E => TSB T en (xst en S w a) n w a ∧ TSE T en (xst en S w a) (n + 1) E
theorem TSBL_e {T : TT} {en : Nat → IVL} {w a : Nat} {B : List (Nat × Nat)} (hw : 8 ≤ w) : ∀ (E : List (Nat × Nat)) (S : List IVL) (n : Nat), (∀ x, x ∈ E → x.1 < 8) → TSBL T en S n (E ++ (w, a) :: B) → TSE T en S n E ∧ TSBL T en [] (n + E.length) B := by
  intro E
  induction E with
  | nil =>
    intro S n _ h
    have h : (if w < 8 then _ else TSBL T en [] n B) := h
    rw [if_neg (by omega)] at h
    exact ⟨trivial, h⟩
  | cons x E ih =>
    intro S n h8 h
    obtain ⟨w', a'⟩ := x
    have hw' : w' < 8 := h8 (w', a') List.mem_cons_self
    have h : (if w' < 8 then TSB T en (xst en S w' a') n w' a' ∧ TSBL T en (xst en S w' a') (n + 1) (E ++ (w, a) :: B) else _) := h
    rw [if_pos hw'] at h
    obtain ⟨q1, q2⟩ := ih _ _ (fun y q => h8 y (List.mem_cons_of_mem _ q)) h.2
    rw [List.length_cons, show n + (E.length + 1) = n + 1 + E.length by omega]
    exact ⟨⟨h.1, q1⟩, q2⟩
theorem TSBL_end {T : TT} {en : Nat → IVL} : ∀ (L : List (Nat × Nat)) (S : List IVL) (s n b : Nat) (st : List Nat) (s1 b1 : Nat) (st1 : List Nat), ren s n b st L = (s1, n, b1, st1) → TSBL T en S n L := by
  intro L
  induction L with
  | nil => intros; trivial
  | cons x L ih =>
    intro S s n b st s1 b1 st1 h
    obtain ⟨w, a⟩ := x
    show (if w < 8 then _ else TSBL T en [] n L)
    by_cases hw : w < 8
    · have := (ren_le L _ _ _ _ _ _ _ _ ((if_pos hw).symm.trans h)).2.1
      omega
    · rw [if_neg hw]
      exact ih _ _ _ _ _ _ _ _ ((if_neg hw).symm.trans h)
/-- the next node of what was put down -/
theorem PRS_node {g : Lay} {f : Nat → va_E} {P : Nat} {nb : Nat → Nat} {en : Nat → IVL} : ∀ (L : List (Nat × Nat)) (s n b : Nat) (st : List Nat) (S : List IVL) (s1 n1 b1 : Nat) (st1 : List Nat), ren s n b st L = (s1, n1, b1, st1) → PRS g f P nb s n b st L → ISt g f P n st S → n < n1 → ∃ s' b' st' S' w a L', w < 8 ∧ ND g f P st' n w a ∧ PRS g f P nb s' (n + 1) b' (stp st' n w) L' ∧ ren s' (n + 1) b' (stp st' n w) L' = (s1, n1, b1, st1) ∧ ISt g f P n st' S' ∧ ∀ T, TSB T en (xst en S' w a) n w a → TSBL T en (xst en S' w a) (n + 1) L' → TSBL T en S n L := by
  intro L
  induction L with
  | nil => intro s n b st S s1 n1 b1 st1 h _ _ q; cases h; exact absurd q (Nat.lt_irrefl _)
  | cons x L ih =>
    intro s n b st S s1 n1 b1 st1 h p i q
    obtain ⟨w, a⟩ := x
    unfold PRS at p
    by_cases hw : w < 8
    · rw [if_pos hw] at p
      refine ⟨s, b, st, S, w, a, L, hw, p.1, p.2, (if_pos hw).symm.trans h, i, fun T h1 h2 => ?_⟩
      show (if w < 8 then _ else _)
      rw [if_pos hw]
      exact ⟨h1, h2⟩
    · rw [if_neg hw] at p
      obtain ⟨s', b', st', S', w', a', L', e1, e2, e3, e4, e5, e6⟩ := ih (s + 1) n n [] [] _ _ _ _ ((if_neg hw).symm.trans h) p.2 rfl q
      refine ⟨s', b', st', S', w', a', L', e1, e2, e3, e4, e5, fun T h1 h2 => ?_⟩
      show (if w < 8 then _ else _)
      rw [if_neg hw]
      exact e6 T h1 h2
theorem stp_c (st : List Nat) (n w : Nat) : ∃ r, stp st n w = n :: r := by
  unfold stp
  by_cases h : w < 2
  · rw [if_pos h]; exact ⟨_, rfl⟩
  · rw [if_neg h]
    by_cases h7 : w = 7
    · rw [if_pos h7]; exact ⟨_, rfl⟩
    · rw [if_neg h7]; exact ⟨_, rfl⟩
theorem IS_hd {g : Lay} {f : Nat → va_E} {P n m w : Nat} {st : List Nat} {S : List IVL} (h : ISt g f P m (stp st n w) S) : f (g.lk (g.lk (g.lk P 2) n) 3) = .inr (2, [.long (cL (S.headD zI).1), .long (cH (S.headD zI).2)]) ∧ iK (S.headD zI) := by
  obtain ⟨r, e⟩ := stp_c st n w
  rw [e] at h
  obtain ⟨X, S', e1, -, e2, e3, -⟩ := h
  rw [e1]
  exact ⟨e2, e3⟩
theorem ISt_fr {g : Lay} {f f1 : Nat → va_E} {P : Nat} (hk : ∀ i, i < 72 → f1 (g.lk (g.lk (g.lk P 2) i) 3) = f (g.lk (g.lk (g.lk P 2) i) 3)) : ∀ (st : List Nat) (n : Nat) (S : List IVL), n ≤ 72 → ISt g f P n st S → ISt g f1 P n st S := by
  intro st
  induction st with
  | nil => intro n S _ h; exact h
  | cons j st ih =>
    intro n S hn h
    obtain ⟨X, S', e, h1, h2, h3, h4⟩ := h
    exact ⟨X, S', e, h1, (hk j (by omega)).trans h2, h3, ih n S' hn h4⟩
/-- small or not is no word of what was put down -/
def NSM (g : Lay) (f f1 : Nat → va_E) (P n : Nat) : Prop := (∀ i, i < 72 → i ≠ n → f1 (g.lk (g.lk P 2) i) = f (g.lk (g.lk P 2) i)) ∧ ∀ (kd le ri : Nat) (sm : Int32) (mv : Int64) (a b : Nat), f (g.lk (g.lk P 2) n) = .inr (5, [.int (nI kd), .int (nI le), .int (nI ri), .ref a, .int sm, .long mv, .ref b]) → ∃ sm1 : Int32, f1 (g.lk (g.lk P 2) n) = .inr (5, [.int (nI kd), .int (nI le), .int (nI ri), .ref a, .int sm1, .long mv, .ref b])
theorem ND_sm {g : Lay} {f f1 : Nat → va_E} {P m n w a : Nat} {st : List Nat} (h : ND g f P st n w a) (hn : n < 72) (k : NSM g f f1 P m) : ND g f1 P st n w a := by
  by_cases q : n = m
  · subst q
    obtain ⟨le, ri, sm, mv, e, r⟩ := h
    obtain ⟨sm1, e1⟩ := k.2 _ _ _ _ _ _ _ e
    exact ⟨le, ri, sm1, mv, e1, r⟩
  · exact ND_eq h (k.1 n hn q)
theorem PRS_sm {g : Lay} {f f1 : Nat → va_E} {P m : Nat} {nb : Nat → Nat} (k : NSM g f f1 P m) (ks : ∀ i, i < 36 → f1 (g.lk (g.lk P 0) i) = f (g.lk (g.lk P 0) i)) : ∀ (L : List (Nat × Nat)) (s n b : Nat) (st : List Nat) (s1 n1 b1 : Nat) (st1 : List Nat), ren s n b st L = (s1, n1, b1, st1) → n1 ≤ 72 → s1 ≤ 36 → PRS g f P nb s n b st L → PRS g f1 P nb s n b st L := by
  intro L
  induction L with
  | nil => intros; trivial
  | cons x L ih =>
    intro s n b st s1 n1 b1 st1 h hn hs p
    obtain ⟨w, a⟩ := x
    unfold PRS at p ⊢
    by_cases hw : w < 8
    · rw [if_pos hw] at p ⊢
      have h' : ren s (n + 1) b (stp st n w) L = (s1, n1, b1, st1) := (if_pos hw).symm.trans h
      have := (ren_le L _ _ _ _ _ _ _ _ h').2.1
      exact ⟨ND_sm p.1 (by omega) k, ih _ _ _ _ _ _ _ _ h' hn hs p.2⟩
    · rw [if_neg hw] at p ⊢
      have h' : ren (s + 1) n n [] L = (s1, n1, b1, st1) := (if_neg hw).symm.trans h
      have := (ren_le L _ _ _ _ _ _ _ _ h').1
      exact ⟨STM_eq p.1 (ks s (by omega)), ih _ _ _ _ _ _ _ _ h' hn hs p.2⟩
def AGR (T' T : TT) (n : Nat) : Prop := ∀ i, i < n → T' 1 i = T 1 i ∧ T' 2 i = T 2 i ∧ T' 3 i = T 3 i
theorem sm1_1 {sm : Int32} (h : sm = nI 0 ∨ sm = nI 1) : sm.toNatClampNeg = 1 ↔ sm = nI 1 := by
  rcases h with h | h <;> rw [h] <;> decide
theorem km_2 (w : Nat) (hw : w < 8) : 2 ≤ km w ↔ 2 ≤ w := by
  unfold km
  by_cases h : w < 2
  · rw [if_pos h]
  · rw [if_neg h]
    by_cases h7 : w = 7
    · rw [if_pos h7]; omega
    · rw [if_neg h7]; omega
theorem TSB_j {T : TT} {en : Nat → IVL} {S : List IVL} {n w a : Nat} {sm : Int32} (hw : w < 8) (e3 : T 3 n = sm.toNatClampNeg) (hb : sm = nI 0 ∨ sm = nI 1) (hj : sm = nI 1 ↔ bdd (S.headD zI) ∧ (2 ≤ km w → T 3 (T 1 n) = 1 ∧ T 3 (T 2 n) = 1)) (h0 : w = 0 → bdd (S.headD zI)) (h1 : w = 1 → S.headD zI = en a) : TSB T en S n w a := by
  have q : T 3 n = 1 ↔ sm = nI 1 := by rw [e3]; exact sm1_1 hb
  have k2 := km_2 w hw
  refine ⟨fun z => ?_, fun z => ?_, fun z => (hj.mp (q.mp z)).1, fun z y => (hj.mp (q.mp y)).2 (k2.mpr z)⟩
  · exact q.mpr (hj.mpr ⟨h0 z, fun y => absurd (k2.mp y) (by omega)⟩)
  · rw [q, hj, h1 z]
    exact ⟨fun y => y.1, fun y => ⟨y, fun x => absurd (k2.mp x) (by omega)⟩⟩
/-! the last ROUND moved nothing -/
theorem rds_fix {L : List (Nat × Nat)} : ∀ (k n : Nat) (en : Nat → IVL), (rds L k n en).1 < n + k → ∃ wd, (rnd wd (rds L k n en).2 [] false L).2 = false := by
  intro k
  induction k with
  | zero => intro n en h; exact absurd h (by show ¬ n < n + 0; omega)
  | succ k ih =>
    intro n en h
    cases q : (rnd (decide (3 < n)) en [] false L).2 with
    | true =>
      have e : rds L (k + 1) n en = rds L k (n + 1) (rnd (decide (3 < n)) en [] false L).1 := ((rds_s L k n en) _ _ rfl).1 q
      rw [e] at h ⊢
      exact ih _ _ (by omega)
    | false =>
      have e : rds L (k + 1) n en = (n, (rnd (decide (3 < n)) en [] false L).1) := ((rds_s L k n en) _ _ rfl).2 q
      rw [e]
      have z := (rnd_mv _ L en [] false q).2
      exact ⟨decide (3 < n), by show (rnd _ (rnd (decide (3 < n)) en [] false L).1 [] false L).2 = false; rw [z]; exact q⟩
def zin (en : Nat → IVL) : Prop := ∀ v, ivin 0 (en v)
theorem zin_jn {wd : Bool} {v o : IVL} (h : ivin 0 v) : ivin 0 (jnI wd v o) := by
  refine ⟨fun a q => ?_, fun a q => ?_⟩
  · have q : jnL wd v.1 o.1 = some a := q
    unfold jnL at q
    by_cases z : lwL o.1 v.1 = true
    · rw [if_pos z] at q
      cases wd with
      | true => cases q
      | false =>
        have q : o.1 = some a := q
        rw [q] at z
        cases y : v.1 with
        | none => rw [y] at z; cases z
        | some x =>
          rw [y] at z
          have := of_decide_eq_true z
          have := h.1 x y
          omega
    · rw [if_neg z] at q; exact h.1 a q
  · have q : jnH wd v.2 o.2 = some a := q
    unfold jnH at q
    by_cases z : lwH o.2 v.2 = true
    · rw [if_pos z] at q
      cases wd with
      | true => cases q
      | false =>
        have q : o.2 = some a := q
        rw [q] at z
        cases y : v.2 with
        | none => rw [y] at z; cases z
        | some x =>
          rw [y] at z
          have := of_decide_eq_true z
          have := h.2 x y
          omega
    · rw [if_neg z] at q; exact h.2 a q
theorem zin_u {en : Nat → IVL} {a : Nat} {wd : Bool} {o : IVL} (h : zin en) : zin (enu en a (jnI wd (en a) o)) := fun v => by
  by_cases q : v = a
  · rw [show enu en a (jnI wd (en a) o) v = jnI wd (en a) o from if_pos q]; exact zin_jn (h a)
  · rw [show enu en a (jnI wd (en a) o) v = en v from if_neg q]; exact h v
theorem zin_rnd (wd : Bool) (L : List (Nat × Nat)) : ∀ en S mv, zin en → zin (rnd wd en S mv L).1 := by
  induction L with
  | nil => intro en S mv h; exact h
  | cons x L ih =>
    intro en S mv h
    obtain ⟨w, a⟩ := x
    by_cases h8 : w < 8
    · have e : rnd wd en S mv ((w, a) :: L) = rnd wd en (xst en S w a) mv L := if_pos h8
      rw [e]; exact ih _ _ _ h
    · by_cases q8 : w = 8
      · subst q8; rw [rnd_8]; exact ih _ _ _ (zin_u h)
      · by_cases q9 : w = 9
        · subst q9; rw [rnd_9]; exact ih _ _ _ (zin_u h)
        · rw [rnd_o wd en S mv w a L (by omega)]; exact ih _ _ _ h
theorem zin_rds {L : List (Nat × Nat)} : ∀ (k n : Nat) (en : Nat → IVL), zin en → zin (rds L k n en).2 := by
  intro k
  induction k with
  | zero => intro n en h; exact h
  | succ k ih =>
    intro n en h
    cases q : (rnd (decide (3 < n)) en [] false L).2 with
    | true =>
      have e : rds L (k + 1) n en = rds L k (n + 1) (rnd (decide (3 < n)) en [] false L).1 := ((rds_s L k n en) _ _ rfl).1 q
      rw [e]; exact ih _ _ (zin_rnd _ _ _ _ _ h)
    | false =>
      have e : rds L (k + 1) n en = (n, (rnd (decide (3 < n)) en [] false L).1) := ((rds_s L k n en) _ _ rfl).2 q
      rw [e]; exact zin_rnd _ _ _ _ _ h
theorem mv_sub {v o : IVL} (h : mvI v o = false) : isub o v := by
  unfold mvI at h
  rw [Bool.or_eq_false_iff] at h
  refine ⟨fun a q => ?_, fun a q => ?_⟩
  · have h1 := h.1
    rw [q] at h1
    cases z : o.1 with
    | none => rw [z] at h1; cases h1
    | some b => rw [z] at h1; have := of_decide_eq_false h1; exact ⟨b, rfl, by omega⟩
  · have h1 := h.2
    rw [q] at h1
    cases z : o.2 with
    | none => rw [z] at h1; cases h1
    | some b => rw [z] at h1; have := of_decide_eq_false h1; exact ⟨b, rfl, by omega⟩
theorem rnd_st {wd : Bool} {en : Nat → IVL} {E B : List (Nat × Nat)} {w a : Nat} (h8 : ∀ x, x ∈ E → x.1 < 8) (hw : 8 ≤ w) (h : (rnd wd en [] false (E ++ (w, a) :: B)).2 = false) : (rnd wd en [] false B).2 = false ∧ (w = 8 → isub ((xsts en [] E).headD zI) (en a)) ∧ (w = 9 → isub inI (en a)) := by
  rw [rnd_e wd en false ((w, a) :: B) E [] h8] at h
  have st : ∀ o : IVL, (rnd wd (enu en a (jnI wd (en a) o)) [] (mvI (en a) o || false) B).2 = false → (rnd wd en [] false B).2 = false ∧ isub o (en a) := fun o z => by
    have m := (rnd_mv wd B _ _ _ z).1
    rw [Bool.or_false] at m z
    rw [m, jn_same m, enu_same] at z
    exact ⟨z, mv_sub m⟩
  by_cases q8 : w = 8
  · subst q8
    rw [rnd_8] at h
    have := st _ h
    exact ⟨this.1, fun _ => this.2, fun z => absurd z (by decide)⟩
  · by_cases q9 : w = 9
    · subst q9
      rw [rnd_9] at h
      have := st _ h
      exact ⟨this.1, fun z => absurd z (by decide), fun _ => this.2⟩
    · rw [rnd_o wd en _ false w a B (by omega)] at h
      exact ⟨h, fun z => absurd z q8, fun z => absurd z q9⟩
theorem ckj_st {E B : List (Nat × Nat)} {w a : Nat} (h8 : ∀ x, x ∈ E → x.1 < 8) (hw : 8 ≤ w) (h : ckj true (E ++ (w, a) :: B) = true) : ckj true B = true ∧ (w = 9 ∨ w = 12 → E = []) := by
  rw [ckj_app, ckj_e E h8, Bool.true_and] at h
  have h : ((if w = 9 ∨ w = 12 then enj true E else true) && ckj (decide (8 ≤ w)) B) = true := h
  rw [decide_eq_true hw, Bool.and_eq_true] at h
  refine ⟨h.2, fun z => ?_⟩
  rw [if_pos z] at h
  by_cases e : E = []
  · exact e
  · rw [enj_e E h8 e true] at h; exact absurd h.1 (by decide)
theorem nbm_end : ∀ (L : List (Nat × Nat)) (s n b : Nat) (st : List Nat) (s1 n1 : Nat), ren s n b st L = (s1, n1, n1, []) → ∀ j, s1 ≤ j → nbm s n b L j = n1 := by
  intro L
  induction L with
  | nil => intro s n b st s1 n1 h j hj; cases h; rfl
  | cons x L ih =>
    intro s n b st s1 n1 h j hj
    obtain ⟨w, a⟩ := x
    by_cases hw : w < 8
    · have e : nbm s n b ((w, a) :: L) = nbm s (n + 1) b L := if_pos hw
      rw [e]; exact ih _ _ _ _ _ _ ((if_pos hw).symm.trans h) j hj
    · have e : nbm s n b ((w, a) :: L) = fun j => if j ≤ s then b else nbm (s + 1) n n L j := if_neg hw
      have h' : ren (s + 1) n n [] L = (s1, n1, n1, []) := (if_neg hw).symm.trans h
      have := (ren_le L _ _ _ _ _ _ _ _ h').1
      rw [e]
      show (if j ≤ s then b else nbm (s + 1) n n L j) = n1
      rw [if_neg (by omega)]
      exact ih _ _ _ _ _ _ h' j hj
section ptof
variable {g : Lay} {f : Nat → va_E} {P : Nat} {nb : Nat → Nat} {en : Nat → IVL}
theorem NRT_of : ∀ (E : List (Nat × Nat)) (st : List Nat) (S : List IVL) (n : Nat), (∀ x, x ∈ st → x < n) → n + E.length ≤ 72 → NR g f P st n E → TSE (Tof g f P) en S n E → NRT (Tof g f P) en st S n E := by
  intro E
  induction E with
  | nil => intros; trivial
  | cons x E ih =>
    intro st S n hst hn h k
    obtain ⟨w, a⟩ := x
    rw [List.length_cons] at hn
    obtain ⟨hd, hr⟩ := h
    obtain ⟨le, ri, sm, mv, e, w8, z0, z1, z7, z2⟩ := hd
    obtain ⟨t0, t1, t2, t3, t4⟩ := Tof_n e
    have hk : km w < 2147483648 := by
      unfold km
      by_cases h : w < 2
      · rw [if_pos h]; omega
      · rw [if_neg h]
        by_cases h7 : w = 7
        · rw [if_pos h7]; omega
        · rw [if_neg h7]; omega
    refine ⟨⟨t0 hk, w8, fun q => ?_, fun q => ?_, fun q => ?_, fun q1 q2 => ?_⟩, k.1, ih _ _ _ ?_ (by omega) hr k.2⟩
    · obtain ⟨e1, e2⟩ := z0 q
      have e3 : (nL a).toInt = (a : Int) := nL_toInt (by omega)
      rw [t4, e1, e3, if_pos (by omega)]
      exact ⟨by omega, e2⟩
    · obtain ⟨e1, e2⟩ := z1 q
      exact ⟨(t1 (by omega)).trans e1, e2⟩
    · obtain ⟨r, e1, e2⟩ := z7 q
      have : le < n := hst le (by rw [e1]; exact List.mem_cons_self)
      have t1 := t1 (by omega)
      have t2 := t2 (by omega)
      exact ⟨r, by rw [t1]; exact e1, by rw [t1, t2]; exact e2⟩
    · obtain ⟨r, e1⟩ := z2 q1 q2
      have h1 : ri < n := hst ri (by rw [e1]; exact List.mem_cons_self)
      have h2 : le < n := hst le (by rw [e1]; exact List.mem_cons_of_mem _ List.mem_cons_self)
      have t1 := t1 (by omega)
      have t2 := t2 (by omega)
      exact ⟨r, by rw [t1, t2]; exact e1⟩
    · intro y hy
      have tl : ∀ l : List Nat, (∀ x, x ∈ l → x < n) → ∀ x, x ∈ l.tail → x < n := fun l h x q => h x (List.mem_of_mem_tail q)
      unfold stp at hy
      by_cases h : w < 2
      · rw [if_pos h] at hy
        rcases List.mem_cons.mp hy with rfl | q
        · omega
        · have := hst y q; omega
      · rw [if_neg h] at hy
        by_cases h7 : w = 7
        · rw [if_pos h7] at hy
          rcases List.mem_cons.mp hy with rfl | q
          · omega
          · have := tl st hst y q; omega
        · rw [if_neg h7] at hy
          rcases List.mem_cons.mp hy with rfl | q
          · omega
          · have := tl _ (tl st hst) y q; omega
theorem TS_of {s w a b n : Nat} (h : STM g f P nb s w a b n) (ha : w = 8 ∨ w = 9 → a < 10) (hn : n ≤ 72) : TS (Tof g f P) nb s w a b n := by
  obtain ⟨kd, nm, fn, la, ta, e, z8, z9, z10, z11, z12, zE, zT⟩ := h
  obtain ⟨t5, t6, t7, t8, t9⟩ := Tof_s e
  refine ⟨fun q => ?_, fun q => ?_, fun q => ?_, fun q => ?_, fun q => ?_, fun q1 q2 => ?_, fun q => ?_⟩
  · obtain ⟨e1, e2⟩ := z8 q
    have := ha (Or.inl q)
    exact ⟨(t5 (by omega)).trans e1, (t6 (by omega)).trans e2⟩
  · obtain ⟨e1, e2⟩ := z9 q
    have := ha (Or.inr q)
    exact ⟨(t5 (by omega)).trans e1, (t6 (by omega)).trans e2⟩
  · have e1 := z10 q
    exact (t5 (by omega)).trans e1
  · have e1 := z11 q
    rw [t5 (by omega)]; exact e1
  · have e1 := z12 q
    exact (t5 (by omega)).trans e1
  · obtain ⟨e1, e2, e3⟩ := zE q1 q2
    refine ⟨(t7 (by omega)).trans e1, e2, ?_⟩
    rw [t8, e3, ← nI_succ, nI_clamp (by omega)]
    omega
  · obtain ⟨e1, e2⟩ := zT q
    rw [t9 (by omega)]; exact e1
theorem PRS_at {wd : Bool} {sn nn : Nat} (L : List (Nat × Nat)) (hp : PRS g f P nb 0 0 0 [] L) (hr : ren 0 0 0 [] L = (sn, nn, nn, [])) (hN : NBA nb 0 0 0 L) (ht : TSBL (Tof g f P) en [] 0 L) (hf : (rnd wd en [] false L).2 = false) (hc : ckj true L = true) : ∀ s, s ≤ sn → ∃ A B, L = A ++ B ∧ A.length = s + nb s ∧ PRS g f P nb s (nb s) (nb s) [] B ∧ ren s (nb s) (nb s) [] B = (sn, nn, nn, []) ∧ NBA nb s (nb s) (nb s) B ∧ TSBL (Tof g f P) en [] (nb s) B ∧ (rnd wd en [] false B).2 = false ∧ ckj true B = true := by
  have h0 : nb 0 = 0 := NBA_0 hN
  intro s
  induction s with
  | zero => intro _; rw [h0]; exact ⟨[], L, rfl, rfl, hp, hr, hN, ht, hf, hc⟩
  | succ s ih =>
    intro hs
    obtain ⟨A, B, e, el, p, r, nB, t, fx, c⟩ := ih (by omega)
    obtain ⟨E, w, a, B', e1, e2, e3, e4, e5, e6⟩ := PRS_step B _ _ _ _ _ _ _ _ r p (by omega)
    have h8 := NR_8 E _ _ e2
    subst e1
    have nB' : NBA nb (s + 1) (nb s + E.length) (nb s + E.length) B' := NBA_op e3 (NBA_nr E _ _ _ _ _ e2 nB)
    have n1 : nb (s + 1) = nb s + E.length := NBA_0 nB'
    have t' := (TSBL_e e3 E [] (nb s) h8 t).2
    have f' := (rnd_st h8 e3 fx).1
    have c' := (ckj_st h8 e3 c).1
    rw [n1]
    exact ⟨A ++ (E ++ [(w, a)]), B', by rw [e]; simp, by rw [List.length_append, List.length_append, List.length_singleton]; omega, e5, e6, nB', t', f', c'⟩
/-- all of it -/
theorem PT_of {wd : Bool} {sn nn : Nat} {L : List (Nat × Nat)} (hL : LO g) (hP : g.tg P = 7) (hI : OC g f) (hsn : sn ≤ 36) (hnn : nn ≤ 72) (hp : PRS g f P nb 0 0 0 [] L) (hr : ren 0 0 0 [] L = (sn, nn, nn, [])) (hN : NBA nb 0 0 0 L) (hne : ∀ j, sn ≤ j → nb j = nn) (ht : TSBL (Tof g f P) en [] 0 L) (hf : (rnd wd en [] false L).2 = false) (hc : ckj true L = true) (hj : ∀ x, x ∈ L → 11 ≤ x.1 → x.2 ≤ L.length) (hS : SG g f P 0 sn) (h12 : ∀ x, x ∈ L → x.1 ≤ 12) (h10 : ∀ x, x ∈ L → x.1 = 8 ∨ x.1 = 9 → x.2 < 10) (hK : enK en) : PT (Tof g f P) nb sn nn en L := by
  have at_ := PRS_at L hp hr hN ht hf hc
  have hl : L.length = sn + nn := by have := ren_len L _ _ _ _ _ _ _ _ hr; omega
  have hst : ∀ s, s < sn → STF (Tof g f P) nb en L s ∧ (3 ≤ Tof g f P 5 s → Tof g f P 9 s ≤ sn ∨ Tof g f P 5 s = 5) := fun s hs => by
    obtain ⟨A, B, e, el, p, r, nB, t, fx, c⟩ := at_ s (by omega)
    obtain ⟨E, w, a, B', e1, e2, e3, e4, e5, e6⟩ := PRS_step B _ _ _ _ _ _ _ _ r p hs
    have h8 := NR_8 E _ _ e2
    subst e1
    have nB' : NBA nb (s + 1) (nb s + E.length) (nb s + E.length) B' := NBA_op e3 (NBA_nr E _ _ _ _ _ e2 nB)
    have n1 : nb (s + 1) = nb s + E.length := NBA_0 nB'
    have hm : (w, a) ∈ L := by rw [e]; simp
    have hle := (ren_le B' _ _ _ _ _ _ _ _ e6).2.1
    have f' := rnd_st h8 e3 fx
    have c' := ckj_st h8 e3 c
    have t' := TSBL_e e3 E [] (nb s) h8 t
    have ts := TS_of e4 (fun z => h10 (w, a) hm z) (by omega)
    refine ⟨⟨E, w, a, B', ?_, h8, NRT_of E [] [] (nb s) (fun x q => by cases q) (by omega) e2 t'.1, e3, h12 (w, a) hm, ts, n1, c'.2, fun z => ⟨h10 (w, a) hm (Or.inl z), f'.2.1 z⟩, fun z => ⟨h10 (w, a) hm (Or.inr z), f'.2.2 z⟩⟩, fun z => ?_⟩
    · rw [e, ← el, List.drop_left]
    · obtain ⟨t8, t9, t10, t11, t12, -, ta⟩ := ts
      have hw12 := h12 (w, a) hm
      have hw : w = 11 ∨ w = 12 := by
        rcases (show w = 8 ∨ w = 9 ∨ w = 10 ∨ w = 11 ∨ w = 12 by have : w ≤ 12 := hw12; omega) with y | y | y | y | y
        · have := t8 y; omega
        · have := t9 y; omega
        · have := t10 y; omega
        · exact Or.inl y
        · exact Or.inr y
      rcases hw with y | y
      · left
        have h1 := ta (by omega)
        have h2 : a ≤ L.length := hj (w, a) hm (by show 11 ≤ w; omega)
        rcases Nat.lt_or_ge (Tof g f P 9 s) sn with x | x
        · omega
        · have := hne _ x
          omega
      · exact Or.inr (t12 y)
  have hsg : ∀ s, s < sn → Tof g f P 5 s = 5 → (s < Tof g f P 9 s ∧ Tof g f P 9 s ≤ sn) ∨ (Tof g f P 9 s < sn ∧ Tof g f P 5 (Tof g f P 9 s) < 5) := fun s hs h5 => by
    obtain ⟨kd, nm, fn, la, ta, q0, q1, q2, q3, q4, q5, q6⟩ := hS s (Nat.zero_le _) hs
    obtain ⟨t5, -, -, -, t9⟩ := Tof_s q0
    have t5 := t5 (by omega)
    have t9 := t9 (by omega)
    rw [t9]
    rcases q6 (by omega) with z | ⟨-, z1, z2⟩
    · exact Or.inl z
    · obtain ⟨kd', nm', fn', la', ta', e', k'⟩ := z2
      refine Or.inr ⟨z1, ?_⟩
      rw [(Tof_s e').1 (by omega)]; exact k'
  refine ⟨hsn, hnn, hl, NBA_0 hN, hne sn (Nat.le_refl _), fun s hs => (hst s hs).1, hsg, fun s hs h3 => ?_, hK, (Tof_ok hL hP hI).2.2⟩
  rcases (hst s hs).2 h3 with z | z
  · exact z
  · rcases hsg s hs z with y | y <;> omega
end ptof

