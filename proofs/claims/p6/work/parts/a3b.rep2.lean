/-! ===== STATEMENTs against what was put down: nb says how many nodes stand before a STATEMENT ===== -/
def STM (g : Lay) (f : Nat → va_E) (P : Nat) (nb : Nat → Nat) (s w a b n : Nat) : Prop := ∃ (kd nm fn : Nat) (la : Int32) (ta : Nat), f (g.lk (g.lk P 0) s) = .inr (9, [.int (nI kd), .int (nI nm), .int (nI fn), .int la, .int (nI ta)]) ∧ (w = 8 → kd = 0 ∧ nm = a) ∧ (w = 9 → kd = 1 ∧ nm = a) ∧ (w = 10 → kd = 2) ∧ (w = 11 → kd = 3 ∨ kd = 4) ∧ (w = 12 → kd = 5) ∧ (w ≠ 9 → w ≠ 12 → fn = b ∧ b < n ∧ la = nI (n - 1)) ∧ (11 ≤ w → a = ta + nb ta ∧ ta ≤ 36)
def PRS (g : Lay) (f : Nat → va_E) (P : Nat) (nb : Nat → Nat) : Nat → Nat → Nat → List Nat → List (Nat × Nat) → Prop
  | _, _, _, _, [] => True
  | s, n, b, st, (w, a) :: L => if w < 8 then ND g f P st n w a ∧ PRS g f P nb s (n + 1) b (stp st n w) L else STM g f P nb s w a b n ∧ PRS g f P nb (s + 1) n n [] L
def ren : Nat → Nat → Nat → List Nat → List (Nat × Nat) → Nat × Nat × Nat × List Nat
  | s, n, b, st, [] => (s, n, b, st)
  | s, n, b, st, (w, _) :: L => if w < 8 then ren s (n + 1) b (stp st n w) L else ren (s + 1) n n [] L
def NBA (nb : Nat → Nat) : Nat → Nat → Nat → List (Nat × Nat) → Prop
  | s, _, b, [] => nb s = b
  | s, n, b, (w, _) :: L => nb s = b ∧ (if w < 8 then NBA nb s (n + 1) b L else NBA nb (s + 1) n n L)
section rep2
variable {g : Lay} {f f1 : Nat → va_E} {P : Nat} {nb : Nat → Nat}
theorem NBA_0 {s n b : Nat} {L : List (Nat × Nat)} (h : NBA nb s n b L) : nb s = b := by
  cases L with
  | nil => exact h
  | cons x L => exact h.1
theorem NBA_app (A B : List (Nat × Nat)) : ∀ (s n b : Nat) (st : List Nat) (s1 n1 b1 : Nat) (st1 : List Nat), ren s n b st A = (s1, n1, b1, st1) → NBA nb s n b (A ++ B) → NBA nb s n b A ∧ NBA nb s1 n1 b1 B := by
  induction A with
  | nil => intro s n b st s1 n1 b1 st1 h q; cases h; exact ⟨NBA_0 q, q⟩
  | cons x A ih =>
    intro s n b st s1 n1 b1 st1 h q
    obtain ⟨w, a⟩ := x
    by_cases hw : w < 8
    · have h : ren s (n + 1) b (stp st n w) A = _ := (if_pos hw).symm.trans h
      have q2 : NBA nb s (n + 1) b (A ++ B) := (if_pos hw : (if w < 8 then NBA nb s (n + 1) b (A ++ B) else NBA nb (s + 1) n n (A ++ B)) = _) ▸ q.2
      obtain ⟨e1, e2⟩ := ih _ _ _ _ _ _ _ _ h q2
      exact ⟨⟨q.1, by rw [if_pos hw]; exact e1⟩, e2⟩
    · have h : ren (s + 1) n n [] A = _ := (if_neg hw).symm.trans h
      have q2 : NBA nb (s + 1) n n (A ++ B) := (if_neg hw : (if w < 8 then NBA nb s (n + 1) b (A ++ B) else NBA nb (s + 1) n n (A ++ B)) = _) ▸ q.2
      obtain ⟨e1, e2⟩ := ih _ _ _ _ _ _ _ _ h q2
      exact ⟨⟨q.1, by rw [if_neg hw]; exact e1⟩, e2⟩
theorem ren_app (A B : List (Nat × Nat)) : ∀ (s n b : Nat) (st : List Nat) (s1 n1 b1 : Nat) (st1 : List Nat), ren s n b st A = (s1, n1, b1, st1) → ren s n b st (A ++ B) = ren s1 n1 b1 st1 B := by
  induction A with
  | nil => intro s n b st s1 n1 b1 st1 h; cases h; rfl
  | cons x A ih =>
    intro s n b st s1 n1 b1 st1 h
    obtain ⟨w, a⟩ := x
    by_cases hw : w < 8
    · have h : ren s (n + 1) b (stp st n w) A = _ := (if_pos hw).symm.trans h
      exact (if_pos hw).trans (ih _ _ _ _ _ _ _ _ h)
    · have h : ren (s + 1) n n [] A = _ := (if_neg hw).symm.trans h
      exact (if_neg hw).trans (ih _ _ _ _ _ _ _ _ h)
theorem ren_len (L : List (Nat × Nat)) : ∀ (s n b : Nat) (st : List Nat) (s1 n1 b1 : Nat) (st1 : List Nat), ren s n b st L = (s1, n1, b1, st1) → L.length + s + n = s1 + n1 := by
  induction L with
  | nil => intro s n b st s1 n1 b1 st1 h; cases h; simp
  | cons x L ih =>
    intro s n b st s1 n1 b1 st1 h
    obtain ⟨w, a⟩ := x
    rw [List.length_cons]
    by_cases hw : w < 8
    · have := ih _ _ _ _ _ _ _ _ ((if_pos hw).symm.trans h); omega
    · have := ih _ _ _ _ _ _ _ _ ((if_neg hw).symm.trans h); omega
theorem PRS_app (A B : List (Nat × Nat)) : ∀ (s n b : Nat) (st : List Nat) (s1 n1 b1 : Nat) (st1 : List Nat), ren s n b st A = (s1, n1, b1, st1) → PRS g f P nb s n b st A → PRS g f P nb s1 n1 b1 st1 B → PRS g f P nb s n b st (A ++ B) := by
  induction A with
  | nil => intro s n b st s1 n1 b1 st1 h _ q; cases h; exact q
  | cons x A ih =>
    intro s n b st s1 n1 b1 st1 h q1 q2
    obtain ⟨w, a⟩ := x
    unfold PRS at q1
    show (if w < 8 then _ else _)
    by_cases hw : w < 8
    · rw [if_pos hw] at q1 ⊢
      exact ⟨q1.1, ih _ _ _ _ _ _ _ _ ((if_pos hw).symm.trans h) q1.2 q2⟩
    · rw [if_neg hw] at q1 ⊢
      exact ⟨q1.1, ih _ _ _ _ _ _ _ _ ((if_neg hw).symm.trans h) q1.2 q2⟩
/-- an EXPR at the head of what was put down -/
theorem PRS_nr (E L : List (Nat × Nat)) : ∀ (s n b : Nat) (st : List Nat), NR g f P st n E → PRS g f P nb s (n + E.length) b (pst st n E) L → PRS g f P nb s n b st (E ++ L) := by
  induction E with
  | nil => intro s n b st _ q; exact q
  | cons x E ih =>
    intro s n b st h q
    obtain ⟨w, a⟩ := x
    rw [List.length_cons, show n + (E.length + 1) = n + 1 + E.length by omega] at q
    show (if w < 8 then _ else _)
    have hw : w < 8 := by obtain ⟨-, -, -, -, -, z, -⟩ := h.1; exact z
    rw [if_pos hw]
    exact ⟨h.1, ih _ _ _ _ h.2 q⟩
theorem ren_nr (E L : List (Nat × Nat)) : ∀ (s n b : Nat) (st : List Nat), NR g f P st n E → ren s n b st (E ++ L) = ren s (n + E.length) b (pst st n E) L := by
  induction E with
  | nil => intro s n b st _; rfl
  | cons x E ih =>
    intro s n b st h
    obtain ⟨w, a⟩ := x
    have hw : w < 8 := by obtain ⟨-, -, -, -, -, z, -⟩ := h.1; exact z
    rw [List.length_cons, show n + (E.length + 1) = n + 1 + E.length by omega]
    exact (if_pos hw).trans (ih _ _ _ _ h.2)
theorem NBA_nr (E L : List (Nat × Nat)) : ∀ (s n b : Nat) (st : List Nat), NR g f P st n E → NBA nb s n b (E ++ L) → NBA nb s (n + E.length) b L := by
  induction E with
  | nil => intro s n b st _ q; exact q
  | cons x E ih =>
    intro s n b st h q
    obtain ⟨w, a⟩ := x
    have hw : w < 8 := by obtain ⟨-, -, -, -, -, z, -⟩ := h.1; exact z
    rw [List.length_cons, show n + (E.length + 1) = n + 1 + E.length by omega]
    have q2 : NBA nb s (n + 1) b (E ++ L) := (if_pos hw : (if w < 8 then NBA nb s (n + 1) b (E ++ L) else NBA nb (s + 1) n n (E ++ L)) = _) ▸ q.2
    exact ih _ _ _ _ h.2 q2
theorem PRS_op {s n b w a : Nat} {st : List Nat} {L : List (Nat × Nat)} (hw : 8 ≤ w) (h : STM g f P nb s w a b n) (q : PRS g f P nb (s + 1) n n [] L) : PRS g f P nb s n b st ((w, a) :: L) := by
  show (if w < 8 then _ else _)
  rw [if_neg (by omega)]
  exact ⟨h, q⟩
theorem ren_op {s n b w a : Nat} {st : List Nat} {L : List (Nat × Nat)} (hw : 8 ≤ w) : ren s n b st ((w, a) :: L) = ren (s + 1) n n [] L := if_neg (by omega)
theorem NBA_op {s n b w a : Nat} {L : List (Nat × Nat)} (hw : 8 ≤ w) (q : NBA nb s n b ((w, a) :: L)) : NBA nb (s + 1) n n L := (if_neg (by omega) : (if w < 8 then NBA nb s (n + 1) b L else NBA nb (s + 1) n n L) = _) ▸ q.2
theorem STM_eq {s w a b n : Nat} (h : STM g f P nb s w a b n) (e : f1 (g.lk (g.lk P 0) s) = f (g.lk (g.lk P 0) s)) : STM g f1 P nb s w a b n := by
  obtain ⟨kd, nm, fn, la, ta, q1, q2⟩ := h
  exact ⟨kd, nm, fn, la, ta, e.trans q1, q2⟩
theorem PRS_eq (L : List (Nat × Nat)) : ∀ (s n b : Nat) (st : List Nat) (s1 n1 b1 : Nat) (st1 : List Nat), ren s n b st L = (s1, n1, b1, st1) → PRS g f P nb s n b st L → (∀ i, s ≤ i → i < s1 → f1 (g.lk (g.lk P 0) i) = f (g.lk (g.lk P 0) i)) → (∀ i, n ≤ i → i < n1 → f1 (g.lk (g.lk P 2) i) = f (g.lk (g.lk P 2) i)) → PRS g f1 P nb s n b st L := by
  induction L with
  | nil => intro s n b st s1 n1 b1 st1 _ _ _ _; trivial
  | cons x L ih =>
    intro s n b st s1 n1 b1 st1 h q e1 e2
    obtain ⟨w, a⟩ := x
    unfold PRS at q
    show (if w < 8 then _ else _)
    have hm : ∀ (L : List (Nat × Nat)) (s n b : Nat) (st : List Nat) (s1 n1 b1 : Nat) (st1 : List Nat), ren s n b st L = (s1, n1, b1, st1) → s ≤ s1 ∧ n ≤ n1 := by
      intro L
      induction L with
      | nil => intro s n b st s1 n1 b1 st1 h; cases h; exact ⟨Nat.le_refl _, Nat.le_refl _⟩
      | cons x L ih =>
        intro s n b st s1 n1 b1 st1 h
        obtain ⟨w, a⟩ := x
        by_cases hw : w < 8
        · have := ih _ _ _ _ _ _ _ _ ((if_pos hw).symm.trans h); omega
        · have := ih _ _ _ _ _ _ _ _ ((if_neg hw).symm.trans h); omega
    by_cases hw : w < 8
    · rw [if_pos hw] at q ⊢
      have h' : ren s (n + 1) b (stp st n w) L = _ := (if_pos hw).symm.trans h
      have := hm _ _ _ _ _ _ _ _ _ h'
      exact ⟨ND_eq q.1 (e2 n (Nat.le_refl _) (by omega)), ih _ _ _ _ _ _ _ _ h' q.2 e1 (fun i h1 h2 => e2 i (by omega) h2)⟩
    · rw [if_neg hw] at q ⊢
      have h' : ren (s + 1) n n [] L = _ := (if_neg hw).symm.trans h
      have := hm _ _ _ _ _ _ _ _ _ h'
      exact ⟨STM_eq q.1 (e1 s (Nat.le_refl _) (by omega)), ih _ _ _ _ _ _ _ _ h' q.2 (fun i h1 h2 => e1 i (by omega) h2) e2⟩
/-- the STATEMENTs sn .. and nodes nn .. of P are what L says, and end at s1, n1 -/
def SRP (g : Lay) (f : Nat → va_E) (P s n s1 n1 : Nat) (L : List (Nat × Nat)) : Prop := ren s n n [] L = (s1, n1, n1, []) ∧ ∀ nb, NBA nb s n n L → PRS g f P nb s n n [] L
theorem SRP_eq {s n s1 n1 : Nat} {L : List (Nat × Nat)} (h : SRP g f P s n s1 n1 L) (e1 : ∀ i, s ≤ i → i < s1 → f1 (g.lk (g.lk P 0) i) = f (g.lk (g.lk P 0) i)) (e2 : ∀ i, n ≤ i → i < n1 → f1 (g.lk (g.lk P 2) i) = f (g.lk (g.lk P 2) i)) : SRP g f1 P s n s1 n1 L := ⟨h.1, fun nb q => PRS_eq L _ _ _ _ _ _ _ _ h.1 (h.2 nb q) e1 e2⟩
theorem SRP_nil {s n : Nat} : SRP g f P s n s n [] := ⟨rfl, fun _ _ => trivial⟩
theorem SRP_app {s n s1 n1 s2 n2 : Nat} {A B : List (Nat × Nat)} (h : SRP g f P s n s1 n1 A) (q : SRP g f P s1 n1 s2 n2 B) : SRP g f P s n s2 n2 (A ++ B) := ⟨by rw [ren_app A B _ _ _ _ _ _ _ _ h.1]; exact q.1, fun nb z => by
  obtain ⟨z1, z2⟩ := NBA_app A B _ _ _ _ _ _ _ _ h.1 z
  exact PRS_app A B _ _ _ _ _ _ _ _ h.1 (h.2 nb z1) (q.2 nb z2)⟩
/-- a STATEMENT with an EXPR and no jump -/
theorem SRP_st {s n w a kd nm ta : Nat} {la : Int32} {E : List (Nat × Nat)} (hx : XR g f P n E) (e : f (g.lk (g.lk P 0) s) = .inr (9, [.int (nI kd), .int (nI nm), .int (nI n), .int la, .int (nI ta)])) (hla : la = nI (n + E.length - 1)) (hw : w = 8 ∧ kd = 0 ∧ nm = a ∨ w = 10 ∧ kd = 2) : SRP g f P s n (s + 1) (n + E.length) (E ++ [(w, a)]) := by
  have h0 := hx.1
  refine ⟨?_, fun nb q => ?_⟩
  · rw [ren_nr E _ _ _ _ _ (hx.2 []).1, ren_op (by omega)]; rfl
  · refine PRS_nr E _ _ _ _ _ (hx.2 []).1 (PRS_op (by omega) ⟨kd, nm, n, la, ta, e, fun z => ?_, fun z => ?_, fun z => ?_, fun z => ?_, fun z => ?_, fun _ _ => ⟨rfl, by omega, hla⟩, fun z => ?_⟩ trivial)
    · omega
    · omega
    · omega
    · omega
    · omega
    · omega
theorem SRP_in {s n a nm fn ta : Nat} {la : Int32} (e : f (g.lk (g.lk P 0) s) = .inr (9, [.int (nI 1), .int (nI nm), .int (nI fn), .int la, .int (nI ta)])) (hn : nm = a) : SRP g f P s n (s + 1) n [(9, a)] :=
  ⟨rfl, fun nb q => PRS_op (by omega) ⟨1, nm, fn, la, ta, e, fun z => absurd z (by decide), fun _ => ⟨rfl, hn⟩, fun z => absurd z (by decide), fun z => absurd z (by decide), fun z => absurd z (by decide), fun z _ => absurd rfl z, fun z => absurd z (by decide)⟩ trivial⟩
theorem SRP_loop {s n s1 n1 nm ta nm2 fn2 ta2 p : Nat} {la la2 : Int32} {E B : List (Nat × Nat)} (hx : XR g f P n E) (e : f (g.lk (g.lk P 0) s) = .inr (9, [.int (nI 3), .int (nI nm), .int (nI n), .int la, .int (nI ta)])) (hla : la = nI (n + E.length - 1)) (hb : SRP g f P (s + 1) (n + E.length) s1 n1 B) (e2 : f (g.lk (g.lk P 0) s1) = .inr (9, [.int (nI 5), .int (nI nm2), .int (nI fn2), .int la2, .int (nI ta2)])) (ht : ta = s1 + 1) (ht2 : ta2 = s) (hs : s1 < 36) (hss : s ≤ 36) (hp : p = s + n) : SRP g f P s n (s1 + 1) n1 (oxl E B p) := by
  have h0 := hx.1
  have hl := ren_len B _ _ _ _ _ _ _ _ hb.1
  subst hp
  unfold oxl
  refine ⟨?_, fun nb q => ?_⟩
  · rw [ren_nr E _ _ _ _ _ (hx.2 []).1, ren_op (by omega), ren_app B _ _ _ _ _ _ _ _ _ hb.1, ren_op (by omega)]; rfl
  · have q0 := NBA_0 q
    have q1 := NBA_op (by omega) (NBA_nr E _ _ _ _ _ (hx.2 []).1 q)
    obtain ⟨q2, q3⟩ := NBA_app B _ _ _ _ _ _ _ _ _ hb.1 q1
    have q4 : nb (s1 + 1) = n1 := NBA_0 (NBA_op (by omega) q3)
    refine PRS_nr E _ _ _ _ _ (hx.2 []).1 (PRS_op (by omega) ⟨3, nm, n, la, ta, e, fun z => absurd z (by decide), fun z => absurd z (by decide), fun z => absurd z (by decide), fun _ => Or.inl rfl, fun z => absurd z (by decide), fun _ _ => ⟨rfl, by omega, hla⟩, fun _ => ⟨by rw [ht, q4]; omega, by omega⟩⟩ (PRS_app B _ _ _ _ _ _ _ _ _ hb.1 (hb.2 nb q2) (PRS_op (by omega) ⟨5, nm2, fn2, la2, ta2, e2, fun z => absurd z (by decide), fun z => absurd z (by decide), fun z => absurd z (by decide), fun z => absurd z (by decide), fun _ => rfl, fun _ z => absurd rfl z, fun _ => ⟨by rw [ht2, q0], by omega⟩⟩ trivial)))
theorem SRP_choice {s n s1 n1 s2 n2 nm ta nm2 fn2 ta2 p : Nat} {la la2 : Int32} {E B C : List (Nat × Nat)} (hx : XR g f P n E) (e : f (g.lk (g.lk P 0) s) = .inr (9, [.int (nI 4), .int (nI nm), .int (nI n), .int la, .int (nI ta)])) (hla : la = nI (n + E.length - 1)) (hb : SRP g f P (s + 1) (n + E.length) s1 n1 B) (e2 : f (g.lk (g.lk P 0) s1) = .inr (9, [.int (nI 5), .int (nI nm2), .int (nI fn2), .int la2, .int (nI ta2)])) (hc : SRP g f P (s1 + 1) n1 s2 n2 C) (ht : ta = s1 + 1) (ht2 : ta2 = s2) (hs : s1 < 36) (hs2 : s2 ≤ 36) (hp : p = s + n) : SRP g f P s n s2 n2 (oxc E B C p) := by
  have h0 := hx.1
  have hl := ren_len B _ _ _ _ _ _ _ _ hb.1
  have hl2 := ren_len C _ _ _ _ _ _ _ _ hc.1
  subst hp
  unfold oxc
  refine ⟨?_, fun nb q => ?_⟩
  · rw [ren_nr E _ _ _ _ _ (hx.2 []).1, ren_op (by omega), ren_app B _ _ _ _ _ _ _ _ _ hb.1, ren_op (by omega)]; exact hc.1
  · have q0 := NBA_0 q
    have q1 := NBA_op (by omega) (NBA_nr E _ _ _ _ _ (hx.2 []).1 q)
    obtain ⟨q2, q3⟩ := NBA_app B _ _ _ _ _ _ _ _ _ hb.1 q1
    have q3 := NBA_op (by omega) q3
    have q4 : nb (s1 + 1) = n1 := NBA_0 q3
    have q5 : nb s2 = n2 := NBA_0 (NBA_app C [] _ _ _ _ _ _ _ _ hc.1 (by rw [List.append_nil]; exact q3)).2
    refine PRS_nr E _ _ _ _ _ (hx.2 []).1 (PRS_op (by omega) ⟨4, nm, n, la, ta, e, fun z => absurd z (by decide), fun z => absurd z (by decide), fun z => absurd z (by decide), fun _ => Or.inr rfl, fun z => absurd z (by decide), fun _ _ => ⟨rfl, by omega, hla⟩, fun _ => ⟨by rw [ht, q4]; omega, by omega⟩⟩ (PRS_app B _ _ _ _ _ _ _ _ _ hb.1 (hb.2 nb q2) (PRS_op (by omega) ⟨5, nm2, fn2, la2, ta2, e2, fun z => absurd z (by decide), fun z => absurd z (by decide), fun z => absurd z (by decide), fun z => absurd z (by decide), fun _ => rfl, fun _ z => absurd rfl z, fun _ => ⟨by rw [ht2, q5]; omega, by omega⟩⟩ (hc.2 nb q3))))
end rep2
/-- a LOOP, a CHOICE behind its sign -/
def ox_l (k v : Nat → Nat) (F d i p : Nat) : List (Nat × Nat) := oxl (ox_e k v 400 1 d i) (ox_s k v F 1 (d + 1) ((px_e k 400 1 d i).getD 0 + 1) (p + (ox_e k v 400 1 d i).length + 1)) p
def ox_c (k v : Nat → Nat) (F d i p : Nat) : List (Nat × Nat) := oxc (ox_e k v 400 1 d i) (ox_s k v F 1 (d + 1) ((px_e k 400 1 d i).getD 0 + 1) (p + (ox_e k v 400 1 d i).length + 1)) (ox_s k v F 1 (d + 1) ((px_s k F 1 (d + 1) ((px_e k 400 1 d i).getD 0 + 1)).getD 0 + 1) (p + (ox_e k v 400 1 d i).length + (ox_s k v F 1 (d + 1) ((px_e k 400 1 d i).getD 0 + 1) (p + (ox_e k v 400 1 d i).length + 1)).length + 2)) p
theorem ox_s0' (k v : Nat → Nat) (f d i p : Nat) : ox_s k v (f + 1) 0 d i p = (if k i = 8 then [(9, v (i + 1) - 97)] else if k i = 9 then ox_e k v 400 1 d (i + 1) ++ [(10, 0)] else if k i = 10 then ox_l k v f d (i + 1) p else if k i = 12 then ox_c k v f d (i + 1) p else ox_e k v 400 1 d (i + 2) ++ [(8, v i - 97)]) := rfl

