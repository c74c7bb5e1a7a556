/-! ===== the pure machine over what was put down ===== -/
def opv (w : Nat) (x y : Int) : Int := if w = 2 then x + y else if w = 3 then x - y else if w = 4 then x * y else if w = 5 then Int.tdiv x y else Int.tmod x y
/-- one instruction below 8 over the row of values: what trapped it, the row -/
def ev1 (vr : Nat → Int) (w a : Nat) (S : List Int) : Nat × List Int :=
  if w = 0 then (0, (a : Int) :: S) else if w = 1 then (0, vr a :: S) else if w = 7 then (0, (- S.headD 0) :: S.tail)
  else if 4 < w ∧ S.headD 0 = 0 then (1, S) else if T12 ≤ (opv w (S.tail.headD 0) (S.headD 0)).natAbs then (2, S) else (0, opv w (S.tail.headD 0) (S.headD 0) :: S.tail.tail)
def evs (vr : Nat → Int) : List (Nat × Nat) → List Int → Nat × List Int
  | [], S => (0, S)
  | (w, a) :: E, S => if (ev1 vr w a S).1 = 0 then evs vr E (ev1 vr w a S).2 else ev1 vr w a S
/-- variables, inputs that wait, outputs, place, steps, trap -/
def PS : Type := (Nat → Int) × List Int × List Int × Nat × Nat × Nat
def PS.vr (s : PS) : Nat → Int := s.1
def PS.ins (s : PS) : List Int := s.2.1
def PS.outs (s : PS) : List Int := s.2.2.1
def PS.pc (s : PS) : Nat := s.2.2.2.1
def PS.sp (s : PS) : Nat := s.2.2.2.2.1
def PS.tr (s : PS) : Nat := s.2.2.2.2.2
def PS.mk (vr : Nat → Int) (ins outs : List Int) (pc sp tr : Nat) : PS := (vr, ins, outs, pc, sp, tr)
def at_ (L : List (Nat × Nat)) (p : Nat) : Nat × Nat := L.getD p (0, 0)
/-- JUMPs are no steps -/
def jmpf (L : List (Nat × Nat)) : Nat → Nat → Nat
  | 0, p => p
  | k + 1, p => if p < L.length ∧ (at_ L p).1 = 12 then jmpf L k (at_ L p).2 else p
def stop (L : List (Nat × Nat)) (p : Nat) : Prop := ¬ (p < L.length ∧ (at_ L p).1 = 12)
theorem jmpf_st {L : List (Nat × Nat)} {p : Nat} (h : stop L p) : ∀ k, jmpf L k p = p := by
  intro k
  cases k with
  | zero => rfl
  | succ k => exact if_neg h
theorem jmpf_le {L : List (Nat × Nat)} : ∀ (k m p : Nat), stop L (jmpf L k p) → k ≤ m → jmpf L m p = jmpf L k p := by
  intro k
  induction k with
  | zero => intro m p h _; exact jmpf_st h m
  | succ k ih =>
    intro m p h hm
    obtain ⟨n, rfl⟩ : ∃ n, m = n + 1 := ⟨m - 1, by omega⟩
    by_cases q : p < L.length ∧ (at_ L p).1 = 12
    · have e1 : jmpf L (k + 1) p = jmpf L k (at_ L p).2 := if_pos q
      have e2 : jmpf L (n + 1) p = jmpf L n (at_ L p).2 := if_pos q
      rw [e1] at h
      rw [e1, e2]
      exact ih n _ h (by omega)
    · exact (if_neg q).trans (if_neg q : jmpf L (k + 1) p = p).symm
def jmp (L : List (Nat × Nat)) (p : Nat) : Nat := jmpf L 200 p
theorem jmp_of {L : List (Nat × Nat)} {k p q : Nat} (e : jmpf L k p = q) (h : stop L q) (hk : k ≤ 200) : jmp L p = q := (jmpf_le k 200 p (by rw [e]; exact h) hk).trans e
/-- the EXPR at a place -/
def seg (L : List (Nat × Nat)) (p : Nat) : List (Nat × Nat) := (L.drop p).takeWhile (fun x => decide (x.1 < 8))
def uI (h : Nat → Int) (a : Nat) (v : Int) : Nat → Int := fun i => if i = a then v else h i
/-- one step: the place is no JUMP, an input is there if it wants one -/
def pstep (L : List (Nat × Nat)) (s : PS) : PS :=
  if (at_ L s.pc).1 = 9 then PS.mk (uI s.vr (at_ L s.pc).2 (s.ins.headD 0)) s.ins.tail s.outs (jmp L (s.pc + 1)) (s.sp + 1) 0
  else if (evs s.vr (seg L s.pc) []).1 = 0 then
    (if (at_ L (s.pc + (seg L s.pc).length)).1 = 8 then PS.mk (uI s.vr (at_ L (s.pc + (seg L s.pc).length)).2 ((evs s.vr (seg L s.pc) []).2.headD 0)) s.ins s.outs (jmp L (s.pc + (seg L s.pc).length + 1)) (s.sp + 1) 0
    else if (at_ L (s.pc + (seg L s.pc).length)).1 = 10 then PS.mk s.vr s.ins (s.outs ++ [(evs s.vr (seg L s.pc) []).2.headD 0]) (jmp L (s.pc + (seg L s.pc).length + 1)) (s.sp + 1) 0
    else PS.mk s.vr s.ins s.outs (jmp L (if (evs s.vr (seg L s.pc) []).2.headD 0 ≤ 0 then (at_ L (s.pc + (seg L s.pc).length)).2 else s.pc + (seg L s.pc).length + 1)) (s.sp + 1) 0)
  else PS.mk s.vr s.ins s.outs s.pc (s.sp + 1) (evs s.vr (seg L s.pc) []).1
/-- a run of at most n steps: how many were made, and the state behind them -/
def prun (L : List (Nat × Nat)) : Nat → PS → Nat × PS
  | 0, s => (0, s)
  | n + 1, s => if s.tr ≠ 0 ∨ s.pc = L.length then (0, s) else if s.sp = 3000 then (0, PS.mk s.vr s.ins s.outs s.pc s.sp 3) else if (at_ L s.pc).1 = 9 ∧ s.ins = [] then (0, s) else ((prun L n (pstep L s)).1 + 1, (prun L n (pstep L s)).2)
/-- what a run answers: it is made, or no program is under way (1), or n is none (2), or it was trapped (3, 4) -/
def prunA (L : List (Nat × Nat)) (n : Int) (s : PS) : Nat × Nat × PS :=
  if s.tr ≠ 0 ∨ s.pc = L.length then (1, 0, s) else if n < 1 ∨ 200 < n then (2, 0, s)
  else if (prun L n.toNat s).2.tr = 0 then (0, (prun L n.toNat s).1, (prun L n.toNat s).2) else (if (prun L n.toNat s).2.tr = 1 then 3 else 4, 0, (prun L n.toNat s).2)

