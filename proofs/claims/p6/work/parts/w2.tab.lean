/-! ===== a program as tables: 0 kind, 1 left, 2 right, 3 small, 4 number of a node; 5 kind, 6 name, 7 first, 8 last, 9 target of a STATEMENT ===== -/
abbrev TT := Nat → Nat → Nat
def gI : va_E → Nat → Nat
  | .inr (_, fs), k => match fs[k]? with
    | some (.int x) => x.toNatClampNeg
    | _ => 0
  | _, _ => 0
def gJ : va_E → Nat
  | .inr (_, fs) => match (fs[5]? : Option Value) with
    | some (Value.long x) => if 0 ≤ x.toInt then x.toInt.toNat + 1 else 0
    | _ => 0
  | _ => 0
def gL : va_E → Nat
  | .inr (_, fs) => match (fs[3]? : Option Value) with
    | some (Value.int x) => (x + 1).toNatClampNeg
    | _ => 0
  | _ => 0
def Tof (g : Lay) (f : Nat → va_E) (P : Nat) : TT := fun k j => if k = 0 then gI (f (g.lk (g.lk P 2) j)) 0 else if k = 1 then gI (f (g.lk (g.lk P 2) j)) 1 else if k = 2 then gI (f (g.lk (g.lk P 2) j)) 2 else if k = 3 then gI (f (g.lk (g.lk P 2) j)) 4 else if k = 4 then gJ (f (g.lk (g.lk P 2) j)) else if k = 8 then gL (f (g.lk (g.lk P 0) j)) else gI (f (g.lk (g.lk P 0) j)) (k - 5)
def TPN (g : Lay) (f : Nat → va_E) (P : Nat) (T : TT) : Prop := ∀ j, j < 72 → ∃ mv : Int64, f (g.lk (g.lk P 2) j) = .inr (5, [.int (nI (T 0 j)), .int (nI (T 1 j)), .int (nI (T 2 j)), .ref (g.lk (g.lk (g.lk P 2) j) 3), .int (nI (T 3 j)), .long mv, .ref (g.lk (g.lk (g.lk P 2) j) 6)]) ∧ (T 0 j = 0 → ∀ a, T 4 j = a + 1 → mv = nL a)
def TPS (g : Lay) (f : Nat → va_E) (P : Nat) (T : TT) : Prop := ∀ s, s < 36 → ∃ la : Int32, f (g.lk (g.lk P 0) s) = .inr (9, [.int (nI (T 5 s)), .int (nI (T 6 s)), .int (nI (T 7 s)), .int la, .int (nI (T 9 s))]) ∧ ∀ j, T 8 s = j + 1 → la = nI j
def TB2 (T : TT) : Prop := (∀ j, j < 72 → T 0 j ≤ 7 ∧ T 1 j < 72 ∧ T 2 j < 72 ∧ (T 0 j = 1 → T 1 j < 10) ∧ (T 3 j = 0 ∨ T 3 j = 1)) ∧ ∀ s, s < 36 → T 5 s ≤ 5 ∧ T 6 s < 10 ∧ T 7 s ≤ 72 ∧ T 8 s ≤ 72 ∧ T 9 s ≤ 36
theorem Tof_n {g : Lay} {f : Nat → va_E} {P j kd le ri : Nat} {sm : Int32} {mv : Int64} {a b : Nat} (e : f (g.lk (g.lk P 2) j) = .inr (5, [.int (nI kd), .int (nI le), .int (nI ri), .ref a, .int sm, .long mv, .ref b])) : (kd < 2147483648 → Tof g f P 0 j = kd) ∧ (le < 2147483648 → Tof g f P 1 j = le) ∧ (ri < 2147483648 → Tof g f P 2 j = ri) ∧ Tof g f P 3 j = sm.toNatClampNeg ∧ Tof g f P 4 j = (if 0 ≤ mv.toInt then mv.toInt.toNat + 1 else 0) := by
  refine ⟨fun h1 => ?_, fun h2 => ?_, fun h3 => ?_, ?_, ?_⟩
  · show gI (f (g.lk (g.lk P 2) j)) 0 = kd
    rw [e]; exact nI_clamp h1
  · show gI (f (g.lk (g.lk P 2) j)) 1 = le
    rw [e]; exact nI_clamp h2
  · show gI (f (g.lk (g.lk P 2) j)) 2 = ri
    rw [e]; exact nI_clamp h3
  · show gI (f (g.lk (g.lk P 2) j)) 4 = _
    rw [e]; rfl
  · show gJ (f (g.lk (g.lk P 2) j)) = _
    rw [e]; rfl
theorem Tof_s {g : Lay} {f : Nat → va_E} {P s kd nm fn ta : Nat} {la : Int32} (e : f (g.lk (g.lk P 0) s) = .inr (9, [.int (nI kd), .int (nI nm), .int (nI fn), .int la, .int (nI ta)])) : (kd < 2147483648 → Tof g f P 5 s = kd) ∧ (nm < 2147483648 → Tof g f P 6 s = nm) ∧ (fn < 2147483648 → Tof g f P 7 s = fn) ∧ Tof g f P 8 s = (la + 1).toNatClampNeg ∧ (ta < 2147483648 → Tof g f P 9 s = ta) := by
  refine ⟨fun h1 => ?_, fun h2 => ?_, fun h3 => ?_, ?_, fun h4 => ?_⟩
  · show gI (f (g.lk (g.lk P 0) s)) 0 = kd
    rw [e]; exact nI_clamp h1
  · show gI (f (g.lk (g.lk P 0) s)) 1 = nm
    rw [e]; exact nI_clamp h2
  · show gI (f (g.lk (g.lk P 0) s)) 2 = fn
    rw [e]; exact nI_clamp h3
  · show gL (f (g.lk (g.lk P 0) s)) = _
    rw [e]; rfl
  · show gI (f (g.lk (g.lk P 0) s)) 4 = ta
    rw [e]; exact nI_clamp h4
theorem sm_cl {sm : Int32} (h : sm = 0 ∨ sm = 1) : sm = nI sm.toNatClampNeg ∧ (sm.toNatClampNeg = 0 ∨ sm.toNatClampNeg = 1) := by
  rcases h with h | h <;> rw [h] <;> decide
theorem Tof_ok {g : Lay} {f : Nat → va_E} {P : Nat} (hL : LO g) (hP : g.tg P = 7) (hI : OC g f) : TPN g f P (Tof g f P) ∧ TPS g f P (Tof g f P) ∧ TB2 (Tof g f P) := by
  have hn : ∀ j, j < 72 → ∃ (kd le ri : Nat) (sm : Int32) (mv : Int64), f (g.lk (g.lk P 2) j) = .inr (5, [.int (nI kd), .int (nI le), .int (nI ri), .ref (g.lk (g.lk (g.lk P 2) j) 3), .int sm, .long mv, .ref (g.lk (g.lk (g.lk P 2) j) 6)]) ∧ kd ≤ 7 ∧ le < 72 ∧ ri < 72 ∧ (kd = 1 → le < 10) ∧ (sm = 0 ∨ sm = 1) := fun j hj => by
    obtain ⟨kd, le, ri, sm, mv, e, c1, c2, c3, c4, c5, -⟩ := oc_6.of (lo_e25 hL _ (lo_k7_2 hL P hP) j hj) (hI (g.lk (g.lk P 2) j))
    exact ⟨kd, le, ri, sm, mv, e, c1, c2, c3, c4, c5⟩
  have hs : ∀ s, s < 36 → ∃ (kd nm fn : Nat) (la : Int32) (ta : Nat), f (g.lk (g.lk P 0) s) = .inr (9, [.int (nI kd), .int (nI nm), .int (nI fn), .int la, .int (nI ta)]) ∧ kd ≤ 5 ∧ nm < 10 ∧ fn ≤ 72 ∧ (la = -1 ∨ ∃ j, j < 72 ∧ la = nI j) ∧ ta ≤ 36 := fun s hs => by
    obtain ⟨kd, nm, fn, la, ta, e, c1, c2, c3, c4, c5⟩ := oc_10.of (lo_e24 hL _ (lo_k7_0 hL P hP) s hs) (hI (g.lk (g.lk P 0) s))
    exact ⟨kd, nm, fn, la, ta, e, c1, c2, c3, c4, c5⟩
  refine ⟨fun j hj => ?_, fun s h36 => ?_, fun j hj => ?_, fun s h36 => ?_⟩
  · obtain ⟨kd, le, ri, sm, mv, e, c1, c2, c3, c4, c5⟩ := hn j hj
    obtain ⟨t0, t1, t2, t3, t4⟩ := Tof_n e
    have t0 := t0 (by omega)
    have t1 := t1 (by omega)
    have t2 := t2 (by omega)
    refine ⟨mv, ?_, fun _ a q2 => ?_⟩
    · rw [t0, t1, t2, t3, ← (sm_cl c5).1]; exact e
    · rw [t4] at q2
      have hlt := mv.toInt_lt
      by_cases q0 : 0 ≤ mv.toInt
      · rw [if_pos q0] at q2
        exact Int64.toInt_inj.mp (by rw [nL_toInt (by omega)]; omega)
      · rw [if_neg q0] at q2; omega
  · obtain ⟨kd, nm, fn, la, ta, e, c1, c2, c3, c4, c5⟩ := hs s h36
    obtain ⟨t5, t6, t7, t8, t9⟩ := Tof_s e
    have t5 := t5 (by omega)
    have t6 := t6 (by omega)
    have t7 := t7 (by omega)
    have t9 := t9 (by omega)
    refine ⟨la, by rw [t5, t6, t7, t9]; exact e, fun i q => ?_⟩
    rcases c4 with c4 | ⟨j, hj, c4⟩
    · rw [t8, c4, show ((-1 : Int32) + 1).toNatClampNeg = 0 by decide] at q
      omega
    · rw [t8, c4, ← nI_succ, nI_clamp (by omega)] at q
      rw [c4, show j = i by omega]
  · obtain ⟨kd, le, ri, sm, mv, e, c1, c2, c3, c4, c5⟩ := hn j hj
    obtain ⟨t0, t1, t2, t3, t4⟩ := Tof_n e
    have t0 := t0 (by omega)
    have t1 := t1 (by omega)
    have t2 := t2 (by omega)
    rw [t0, t1, t2, t3]
    exact ⟨c1, c2, c3, c4, (sm_cl c5).2⟩
  · obtain ⟨kd, nm, fn, la, ta, e, c1, c2, c3, c4, c5⟩ := hs s h36
    obtain ⟨t5, t6, t7, t8, t9⟩ := Tof_s e
    have t5 := t5 (by omega)
    have t6 := t6 (by omega)
    have t7 := t7 (by omega)
    have t9 := t9 (by omega)
    rw [t5, t6, t7, t8, t9]
    refine ⟨c1, c2, c3, ?_, c5⟩
    rcases c4 with c4 | ⟨j, hj, c4⟩
    · rw [c4]; decide
    · rw [c4, ← nI_succ, nI_clamp (by omega)]; omega
/-! ===== what was put down, over the tables ===== -/
def TN (T : TT) (st : List Nat) (n w a : Nat) : Prop := T 0 n = km w ∧ w < 8 ∧ (w = 0 → T 4 n = a + 1 ∧ a < 1000000000) ∧ (w = 1 → T 1 n = a ∧ a < 10) ∧ (w = 7 → ∃ r, st = T 1 n :: r ∧ T 2 n = T 1 n) ∧ (2 ≤ w → w < 7 → ∃ r, st = T 2 n :: T 1 n :: r)
def TSB (T : TT) (en : Nat → IVL) (S : List IVL) (n w a : Nat) : Prop := (w = 0 → T 3 n = 1) ∧ (w = 1 → (T 3 n = 1 ↔ bdd (en a))) ∧ (T 3 n = 1 → bdd (S.headD zI)) ∧ (2 ≤ w → T 3 n = 1 → T 3 (T 1 n) = 1 ∧ T 3 (T 2 n) = 1)
def NRT (T : TT) (en : Nat → IVL) : List Nat → List IVL → Nat → List (Nat × Nat) → Prop
  | _, _, _, [] => True
  | st, S, n, (w, a) :: E => TN T st n w a ∧ TSB T en (xst en S w a) n w a ∧ NRT T en (stp st n w) (xst en S w a) (n + 1) E
def TS (T : TT) (nb : Nat → Nat) (s w a b n : Nat) : Prop := (w = 8 → T 5 s = 0 ∧ T 6 s = a) ∧ (w = 9 → T 5 s = 1 ∧ T 6 s = a) ∧ (w = 10 → T 5 s = 2) ∧ (w = 11 → T 5 s = 3 ∨ T 5 s = 4) ∧ (w = 12 → T 5 s = 5) ∧ (w ≠ 9 → w ≠ 12 → T 7 s = b ∧ b < n ∧ T 8 s = n) ∧ (11 ≤ w → a = T 9 s + nb (T 9 s))
def STF (T : TT) (nb : Nat → Nat) (en : Nat → IVL) (L : List (Nat × Nat)) (s : Nat) : Prop := ∃ E w a B, L.drop (s + nb s) = E ++ (w, a) :: B ∧ (∀ x, x ∈ E → x.1 < 8) ∧ NRT T en [] [] (nb s) E ∧ 8 ≤ w ∧ w ≤ 12 ∧ TS T nb s w a (nb s) (nb s + E.length) ∧ nb (s + 1) = nb s + E.length ∧ (w = 9 ∨ w = 12 → E = []) ∧ (w = 8 → a < 10 ∧ isub ((xsts en [] E).headD zI) (en a)) ∧ (w = 9 → a < 10 ∧ isub inI (en a))
def PT (T : TT) (nb : Nat → Nat) (sn nn : Nat) (en : Nat → IVL) (L : List (Nat × Nat)) : Prop := sn ≤ 36 ∧ nn ≤ 72 ∧ L.length = sn + nn ∧ nb 0 = 0 ∧ nb sn = nn ∧ (∀ s, s < sn → STF T nb en L s) ∧ (∀ s, s < sn → T 5 s = 5 → (s < T 9 s ∧ T 9 s ≤ sn) ∨ (T 9 s < sn ∧ T 5 (T 9 s) < 5)) ∧ (∀ s, s < sn → 3 ≤ T 5 s → T 9 s ≤ sn) ∧ enK en ∧ TB2 T
/-! no EXPR stands before an input or a jump -/
def ckj : Bool → List (Nat × Nat) → Bool
  | _, [] => true
  | p, (w, _) :: L => (if w = 9 ∨ w = 12 then p else true) && ckj (decide (8 ≤ w)) L
def enj : Bool → List (Nat × Nat) → Bool
  | p, [] => p
  | _, (w, _) :: L => enj (decide (8 ≤ w)) L
theorem ckj_app (A B : List (Nat × Nat)) : ∀ p, ckj p (A ++ B) = (ckj p A && ckj (enj p A) B) := by
  induction A with
  | nil => intro p; rfl
  | cons x A ih =>
    intro p
    obtain ⟨w, a⟩ := x
    show ((if w = 9 ∨ w = 12 then p else true) && ckj (decide (8 ≤ w)) (A ++ B)) = (((if w = 9 ∨ w = 12 then p else true) && ckj (decide (8 ≤ w)) A) && ckj (enj (decide (8 ≤ w)) A) B)
    rw [ih, Bool.and_assoc]
theorem enj_app (A B : List (Nat × Nat)) : ∀ p, enj p (A ++ B) = enj (enj p A) B := by
  induction A with
  | nil => intro p; rfl
  | cons x A ih => intro p; exact ih _
theorem ckj_e (E : List (Nat × Nat)) (h : ∀ x, x ∈ E → x.1 < 8) : ∀ p, ckj p E = true := by
  induction E with
  | nil => intro p; rfl
  | cons x E ih =>
    intro p
    obtain ⟨w, a⟩ := x
    have hw : w < 8 := h (w, a) List.mem_cons_self
    show ((if w = 9 ∨ w = 12 then p else true) && ckj (decide (8 ≤ w)) E) = true
    rw [if_neg (by omega), Bool.true_and]
    exact ih (fun y q => h y (List.mem_cons_of_mem _ q)) _
theorem enj_e (E : List (Nat × Nat)) (h : ∀ x, x ∈ E → x.1 < 8) : E ≠ [] → ∀ p, enj p E = false := by
  induction E with
  | nil => intro q; exact absurd rfl q
  | cons x E ih =>
    intro _ p
    obtain ⟨w, a⟩ := x
    have hw : w < 8 := h (w, a) List.mem_cons_self
    show enj (decide (8 ≤ w)) E = false
    rw [decide_eq_false (by omega)]
    cases E with
    | nil => rfl
    | cons y E => exact ih (fun y q => h y (List.mem_cons_of_mem _ q)) (by simp) _
theorem ckj_w {p : Bool} {w a : Nat} {L : List (Nat × Nat)} (h9 : w ≠ 9) (h12 : w ≠ 12) : ckj p ((w, a) :: L) = ckj (decide (8 ≤ w)) L := by
  show ((if w = 9 ∨ w = 12 then p else true) && ckj (decide (8 ≤ w)) L) = _
  rw [if_neg (by omega), Bool.true_and]
def ckg (B : List (Nat × Nat)) : Prop := ckj true B = true ∧ enj true B = true
theorem ckg_e {E B : List (Nat × Nat)} {w a : Nat} (h : ∀ x, x ∈ E → x.1 < 8) (h8 : 8 ≤ w) (h9 : w ≠ 9) (h12 : w ≠ 12) (k : ckg B) : ckg (E ++ (w, a) :: B) := by
  have d : decide (8 ≤ w) = true := decide_eq_true h8
  refine ⟨?_, ?_⟩
  · rw [ckj_app, ckj_e E h, Bool.true_and, ckj_w h9 h12, d]; exact k.1
  · rw [enj_app]
    show enj (decide (8 ≤ w)) B = true
    rw [d]; exact k.2
theorem ckg_j {B C : List (Nat × Nat)} {w a : Nat} (k : ckg B) (h8 : 8 ≤ w) (kc : ckg C) : ckg (B ++ (w, a) :: C) := by
  have d : decide (8 ≤ w) = true := decide_eq_true h8
  refine ⟨?_, ?_⟩
  · rw [ckj_app, k.1, k.2, Bool.true_and]
    show ((if w = 9 ∨ w = 12 then true else true) && ckj (decide (8 ≤ w)) C) = true
    rw [d, ite_self, Bool.true_and]; exact kc.1
  · rw [enj_app]
    show enj (decide (8 ≤ w)) C = true
    rw [d]; exact kc.2
theorem ckg_nil : ckg [] := ⟨rfl, rfl⟩
theorem ckg_app {B C : List (Nat × Nat)} (k : ckg B) (kc : ckg C) : ckg (B ++ C) := ⟨by rw [ckj_app, k.1, k.2, Bool.true_and]; exact kc.1, by rw [enj_app, k.2]; exact kc.2⟩
theorem ox_s_g (k v : Nat → Nat) : ∀ f t d i p, ckg (ox_s k v f t d i p) := by
  intro f
  induction f with
  | zero => intro t d i p; exact ckg_nil
  | succ f ih =>
    intro t d i p
    have he : ∀ d i x, x ∈ ox_e k v 400 1 d i → x.1 < 8 := fun d i x q => by have := ox_e_m k v 400 1 d i x q; omega
    match t with
    | 0 =>
      rw [ox_s0]
      by_cases h8 : k i = 8
      · rw [if_pos h8]; exact ⟨rfl, rfl⟩
      rw [if_neg h8]
      by_cases h9 : k i = 9
      · rw [if_pos h9]; exact ckg_e (he _ _) (by decide) (by decide) (by decide) ckg_nil
      rw [if_neg h9]
      by_cases h10 : k i = 10
      · rw [if_pos h10]
        exact ckg_e (he _ _) (by decide) (by decide) (by decide) (ckg_j (ih _ _ _ _) (by decide) ckg_nil)
      rw [if_neg h10]
      by_cases h12 : k i = 12
      · rw [if_pos h12]
        exact ckg_e (he _ _) (by decide) (by decide) (by decide) (ckg_j (ih _ _ _ _) (by decide) (ih _ _ _ _))
      rw [if_neg h12]
      exact ckg_e (he _ _) (by decide) (by decide) (by decide) ckg_nil
    | 1 =>
      rw [ox_s1]
      refine ckg_app (ih _ _ _ _) ?_
      by_cases h16 : k ((px_s k f 0 d i).getD 0) = 16
      · rw [if_pos h16]; exact ih _ _ _ _
      · rw [if_neg h16]; exact ckg_nil
    | t + 2 => exact ckg_nil
/-- where they lead to lies inside -/
theorem ox_s_j (k v : Nat → Nat) : ∀ f t d i p x, x ∈ ox_s k v f t d i p → 11 ≤ x.1 → x.2 ≤ p + (ox_s k v f t d i p).length := by
  intro f
  induction f with
  | zero => intro t d i p x h; cases h
  | succ f ih =>
    intro t d i p x h h11
    have he : ∀ d i x, x ∈ ox_e k v 400 1 d i → x.1 < 8 := fun d i x q => by have := ox_e_m k v 400 1 d i x q; omega
    match t with
    | 0 =>
      rw [ox_s0] at h ⊢
      by_cases h8 : k i = 8
      · rw [if_pos h8] at h; cases List.mem_singleton.mp h; exact absurd (show 11 ≤ 9 from h11) (by decide)
      rw [if_neg h8] at h ⊢
      by_cases h9 : k i = 9
      · rw [if_pos h9] at h
        rcases List.mem_append.mp h with q | q
        · have := he _ _ _ q; omega
        · cases List.mem_singleton.mp q; exact absurd h11 (by decide)
      rw [if_neg h9] at h ⊢
      by_cases h10 : k i = 10
      · rw [if_pos h10] at h ⊢
        unfold oxl at h ⊢
        rw [List.length_append, List.length_cons, List.length_append, List.length_singleton]
        rcases List.mem_append.mp h with q | q
        · have := he _ _ _ q; omega
        · rcases List.mem_cons.mp q with rfl | q
          · show p + _ + _ + 2 ≤ _; omega
          · rcases List.mem_append.mp q with q | q
            · have := ih _ _ _ _ _ q h11; omega
            · cases List.mem_singleton.mp q; show p ≤ _; omega
      rw [if_neg h10] at h ⊢
      by_cases h12 : k i = 12
      · rw [if_pos h12] at h ⊢
        unfold oxc at h ⊢
        rw [List.length_append, List.length_cons, List.length_append, List.length_cons]
        rcases List.mem_append.mp h with q | q
        · have := he _ _ _ q; omega
        · rcases List.mem_cons.mp q with rfl | q
          · show p + _ + _ + 2 ≤ _; omega
          · rcases List.mem_append.mp q with q | q
            · have := ih _ _ _ _ _ q h11; omega
            · rcases List.mem_cons.mp q with rfl | q
              · show p + _ + _ + 2 + _ ≤ _; omega
              · have := ih _ _ _ _ _ q h11; omega
      rw [if_neg h12] at h ⊢
      rcases List.mem_append.mp h with q | q
      · have := he _ _ _ q; omega
      · cases List.mem_singleton.mp q; exact absurd (show 11 ≤ 8 from h11) (by decide)
    | 1 =>
      rw [ox_s1] at h ⊢
      rw [List.length_append]
      rcases List.mem_append.mp h with q | q
      · have := ih _ _ _ _ _ q h11; omega
      · by_cases h16 : k ((px_s k f 0 d i).getD 0) = 16
        · rw [if_pos h16] at q ⊢
          have := ih _ _ _ _ _ q h11; omega
        · rw [if_neg h16] at q; cases q
    | t + 2 => cases h

