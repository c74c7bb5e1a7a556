/-! ===== what the class's program holds, against what was put down ===== -/
def stp (st : List Nat) (n w : Nat) : List Nat := if w < 2 then n :: st else if w = 7 then n :: st.tail else n :: st.tail.tail
def km (w : Nat) : Nat := if w < 2 then w else if w = 7 then 2 else w + 1
/-- the node n of the program P is what (w, a) says, over the row st of nodes that wait -/
def ND (g : Lay) (f : Nat → va_E) (P : Nat) (st : List Nat) (n w a : Nat) : Prop := ∃ (le ri : Nat) (sm : Int32) (mv : Int64), f (g.lk (g.lk P 2) n) = .inr (5, [.int (nI (km w)), .int (nI le), .int (nI ri), .ref (g.lk (g.lk (g.lk P 2) n) 3), .int sm, .long mv, .ref (g.lk (g.lk (g.lk P 2) n) 6)]) ∧ w < 8 ∧ (w = 0 → mv = nL a ∧ a < 1000000000) ∧ (w = 1 → le = a ∧ a < 10) ∧ (w = 7 → ∃ r, st = le :: r ∧ ri = le) ∧ (2 ≤ w → w < 7 → ∃ r, st = ri :: le :: r)
def NR (g : Lay) (f : Nat → va_E) (P : Nat) : List Nat → Nat → List (Nat × Nat) → Prop
  | _, _, [] => True
  | st, n, (w, a) :: L => ND g f P st n w a ∧ NR g f P (stp st n w) (n + 1) L
def pst : List Nat → Nat → List (Nat × Nat) → List Nat
  | st, _, [] => st
  | st, n, (w, _) :: L => pst (stp st n w) (n + 1) L
section rep
variable {g : Lay} {f f1 : Nat → va_E} {P : Nat}
theorem pst_app (A B : List (Nat × Nat)) : ∀ (st : List Nat) (n : Nat), pst st n (A ++ B) = pst (pst st n A) (n + A.length) B := by
  induction A with
  | nil => intro st n; rfl
  | cons x A ih =>
    intro st n
    obtain ⟨w, a⟩ := x
    show pst (stp st n w) (n + 1) (A ++ B) = _
    rw [ih, List.length_cons, show n + 1 + A.length = n + (A.length + 1) by omega]
    rfl
theorem NR_app (A B : List (Nat × Nat)) : ∀ (st : List Nat) (n : Nat), NR g f P st n A → NR g f P (pst st n A) (n + A.length) B → NR g f P st n (A ++ B) := by
  induction A with
  | nil => intro st n _ h; exact h
  | cons x A ih =>
    intro st n h1 h2
    obtain ⟨w, a⟩ := x
    refine ⟨h1.1, ih _ _ h1.2 ?_⟩
    rw [List.length_cons, show n + (A.length + 1) = n + 1 + A.length by omega] at h2
    exact h2
theorem ND_eq {st : List Nat} {n w a : Nat} (h : ND g f P st n w a) (e : f1 (g.lk (g.lk P 2) n) = f (g.lk (g.lk P 2) n)) : ND g f1 P st n w a := by
  obtain ⟨le, ri, sm, mv, q1, q2⟩ := h
  exact ⟨le, ri, sm, mv, e.trans q1, q2⟩
theorem NR_eq (L : List (Nat × Nat)) : ∀ (st : List Nat) (n : Nat), NR g f P st n L → (∀ i, n ≤ i → i < n + L.length → f1 (g.lk (g.lk P 2) i) = f (g.lk (g.lk P 2) i)) → NR g f1 P st n L := by
  induction L with
  | nil => intro st n _ _; trivial
  | cons x L ih =>
    intro st n h e
    obtain ⟨w, a⟩ := x
    rw [List.length_cons] at e
    exact ⟨ND_eq h.1 (e n (Nat.le_refl n) (by omega)), ih _ _ h.2 (fun i h1 h2 => e i (by omega) (by omega))⟩
/-- an EXPR's nodes: it stands for its last node -/
def XR (g : Lay) (f : Nat → va_E) (P n : Nat) (L : List (Nat × Nat)) : Prop := 0 < L.length ∧ ∀ st, NR g f P st n L ∧ pst st n L = (n + L.length - 1) :: st
theorem XR_eq {n : Nat} {L : List (Nat × Nat)} (h : XR g f P n L) (e : ∀ i, n ≤ i → i < n + L.length → f1 (g.lk (g.lk P 2) i) = f (g.lk (g.lk P 2) i)) : XR g f1 P n L := ⟨h.1, fun st => ⟨NR_eq L st n (h.2 st).1 e, (h.2 st).2⟩⟩
theorem XR_one {n w a : Nat} (hw : w < 2) (h : ∀ st, ND g f P st n w a) : XR g f P n [(w, a)] := ⟨by simp, fun st => ⟨⟨h st, trivial⟩, by show stp st n w = _; unfold stp; rw [if_pos hw]; rfl⟩⟩
theorem XR_neg {n : Nat} {A : List (Nat × Nat)} {sm : Int32} {mv : Int64} (h : XR g f P n A) (e : f (g.lk (g.lk P 2) (n + A.length)) = .inr (5, [.int (nI 2), .int (nI (n + A.length - 1)), .int (nI (n + A.length - 1)), .ref (g.lk (g.lk (g.lk P 2) (n + A.length)) 3), .int sm, .long mv, .ref (g.lk (g.lk (g.lk P 2) (n + A.length)) 6)])) : XR g f P n (A ++ [(7, 0)]) := by
  refine ⟨by rw [List.length_append]; exact Nat.lt_of_lt_of_le h.1 (Nat.le_add_right _ _), fun st => ⟨NR_app A _ st n (h.2 st).1 ⟨?_, trivial⟩, ?_⟩⟩
  · rw [(h.2 st).2]
    exact ⟨_, _, sm, mv, e, by decide, fun q => absurd q (by decide), fun q => absurd q (by decide), fun _ => ⟨st, rfl, rfl⟩, fun _ q => absurd q (by decide)⟩
  · rw [pst_app, (h.2 st).2, List.length_append]
    rfl
theorem XR_bin {n w : Nat} {A B : List (Nat × Nat)} {sm : Int32} {mv : Int64} (h : XR g f P n A) (h2 : XR g f P (n + A.length) B) (hw : 2 ≤ w) (hw7 : w < 7) (e : f (g.lk (g.lk P 2) (n + A.length + B.length)) = .inr (5, [.int (nI (w + 1)), .int (nI (n + A.length - 1)), .int (nI (n + A.length + B.length - 1)), .ref (g.lk (g.lk (g.lk P 2) (n + A.length + B.length)) 3), .int sm, .long mv, .ref (g.lk (g.lk (g.lk P 2) (n + A.length + B.length)) 6)])) : XR g f P n (A ++ (B ++ [(w, 0)])) := by
  have e1 : km w = w + 1 := by unfold km; rw [if_neg (by omega), if_neg (by omega)]
  have e2 : ∀ st, pst st n (A ++ B) = (n + A.length + B.length - 1) :: (n + A.length - 1) :: st := fun st => by rw [pst_app, (h.2 st).2, (h2.2 _).2]
  refine ⟨by rw [List.length_append]; exact Nat.lt_of_lt_of_le h.1 (Nat.le_add_right _ _), fun st => ?_⟩
  rw [← List.append_assoc]
  refine ⟨NR_app (A ++ B) _ st n (NR_app A B st n (h.2 st).1 (by rw [(h.2 st).2]; exact (h2.2 _).1)) ⟨?_, trivial⟩, ?_⟩
  · rw [e2, List.length_append, ← Nat.add_assoc]
    exact ⟨_, _, sm, mv, by rw [e1]; exact e, by omega, fun q => absurd q (by omega), fun q => absurd q (by omega), fun q => absurd q (by omega), fun _ _ => ⟨st, rfl⟩⟩
  · have e3 : n + (A ++ B ++ [(w, 0)]).length - 1 = n + A.length + B.length := by
      rw [List.length_append, List.length_append, List.length_singleton]; omega
    rw [pst_app, e2, e3]
    show stp _ _ w = _
    unfold stp
    rw [if_neg (by omega), if_neg (by omega), List.length_append, ← Nat.add_assoc]
    rfl
end rep
/-- the code of the character at a place -/
def vc (h : Nat → Int32) (n i : Nat) : Nat := (nx h n i).toNatClampNeg
theorem vc_of {h : Nat → Int32} {n i c : Nat} (q : nx h n i = nI c) (hc : c < 2 ^ 31) : vc h n i = c := by unfold vc; rw [q]; exact nI_clamp hc
theorem vc_nm {c : Int32} {k : Nat} (h1 : nI 97 ≤ c) (h2 : c < nI 107) (hk : k < 10) (e : c - nI 97 = nI k) : c.toNatClampNeg - 97 = k := by
  have e1 : (nI 97).toInt = 97 := nI_toInt (by decide)
  have e2 : (nI 107).toInt = 107 := nI_toInt (by decide)
  rw [Int32.le_iff_toInt_le, e1] at h1
  rw [Int32.lt_iff_toInt_lt, e2] at h2
  have e3 := congrArg Int32.toInt e
  rw [Int32.toInt_sub, e1, nI_toInt (by omega), Int.bmod_eq_of_le (by omega) (by omega)] at e3
  rw [show c.toNatClampNeg = c.toInt.toNat from rfl]
  omega
theorem vc_dg {c : Int32} (h1 : nI 48 ≤ c) (h2 : c ≤ nI 57) : c - nI 48 = nI (c.toNatClampNeg - 48) ∧ c.toNatClampNeg - 48 < 10 := by
  have e1 : (nI 48).toInt = 48 := nI_toInt (by decide)
  have e2 : (nI 57).toInt = 57 := nI_toInt (by decide)
  rw [Int32.le_iff_toInt_le, e1] at h1
  rw [Int32.le_iff_toInt_le, e2] at h2
  rw [show c.toNatClampNeg = c.toInt.toNat from rfl]
  refine ⟨Int32.toInt_inj.mp ?_, by omega⟩
  rw [Int32.toInt_sub, e1, nI_toInt (by omega), Int.bmod_eq_of_le (by omega) (by omega)]
  omega
theorem nv_s {v : Nat → Nat} {d i q : Nat} (h : v (i + d) - 48 = q) : nv v (d + 1) i = 10 * nv v d i + q := by rw [← h]; rfl
theorem nv_lt {v : Nat → Nat} {d i m q : Nat} (h : m = nv v d i) (hm : m < 10 ^ d) (hq : q < 10) : 10 * m + q < 10 ^ (d + 1) := by
  rw [Nat.pow_succ]
  omega
theorem nv_9 {m d : Nat} (hm : m < 10 ^ d) (hd : d ≤ 9) : m < 1000000000 := Nat.lt_of_lt_of_le hm (Nat.pow_le_pow_right (n := 10) (i := d) (j := 9) (by decide) hd)
theorem vk_tk (h : Nat → Int32) (n : Nat) : vk (tk h n) (vc h n) := fun i => by
  refine ⟨fun q => ?_, fun q => ?_⟩
  · rcases q with q | q
    · rw [vc_of (kc_1.mp q) (by decide)]; decide
    · rw [vc_of (kc_2.mp q) (by decide)]; decide
  · rcases kc_3.mp q with z | z | z
    · rw [vc_of z (by decide)]; decide
    · rw [vc_of z (by decide)]; decide
    · rw [vc_of z (by decide)]; decide

