/-! ===== a step before its JUMPs ===== -/
def pstq (L : List (Nat × Nat)) (s : PS) : PS :=
  if (at_ L s.pc).1 = 9 then PS.mk (uI s.vr (at_ L s.pc).2 (s.ins.headD 0)) s.ins.tail s.outs (s.pc + 1) (s.sp + 1) 0
  else if (evs s.vr (seg L s.pc) []).1 = 0 then
    (if (at_ L (s.pc + (seg L s.pc).length)).1 = 8 then PS.mk (uI s.vr (at_ L (s.pc + (seg L s.pc).length)).2 ((evs s.vr (seg L s.pc) []).2.headD 0)) s.ins s.outs (s.pc + (seg L s.pc).length + 1) (s.sp + 1) 0
    else if (at_ L (s.pc + (seg L s.pc).length)).1 = 10 then PS.mk s.vr s.ins (s.outs ++ [(evs s.vr (seg L s.pc) []).2.headD 0]) (s.pc + (seg L s.pc).length + 1) (s.sp + 1) 0
    else PS.mk s.vr s.ins s.outs (if (evs s.vr (seg L s.pc) []).2.headD 0 ≤ 0 then (at_ L (s.pc + (seg L s.pc).length)).2 else s.pc + (seg L s.pc).length + 1) (s.sp + 1) 0)
  else PS.mk s.vr s.ins s.outs s.pc (s.sp + 1) (evs s.vr (seg L s.pc) []).1
def jps (L : List (Nat × Nat)) (t : PS) : PS := PS.mk t.vr t.ins t.outs (if t.tr = 0 then jmp L t.pc else t.pc) t.sp t.tr
theorem pst_q (L : List (Nat × Nat)) (s : PS) : pstep L s = jps L (pstq L s) := by
  unfold pstep pstq
  by_cases h9 : (at_ L s.pc).1 = 9
  · rw [if_pos h9, if_pos h9]; rfl
  rw [if_neg h9, if_neg h9]
  by_cases h0 : (evs s.vr (seg L s.pc) []).1 = 0
  · rw [if_pos h0, if_pos h0]
    by_cases h8 : (at_ L (s.pc + (seg L s.pc).length)).1 = 8
    · rw [if_pos h8, if_pos h8]; rfl
    rw [if_neg h8, if_neg h8]
    by_cases h10 : (at_ L (s.pc + (seg L s.pc).length)).1 = 10
    · rw [if_pos h10, if_pos h10]; rfl
    · rw [if_neg h10, if_neg h10]; rfl
  · rw [if_neg h0, if_neg h0]
    unfold jps
    show PS.mk s.vr s.ins s.outs s.pc (s.sp + 1) (evs s.vr (seg L s.pc) []).1 = PS.mk s.vr s.ins s.outs (if (evs s.vr (seg L s.pc) []).1 = 0 then jmp L s.pc else s.pc) (s.sp + 1) (evs s.vr (seg L s.pc) []).1
    rw [if_neg h0]
section q
variable {L : List (Nat × Nat)} {s : PS} {a : Nat}
theorem pq_9 (h : at_ L s.pc = (9, a)) : pstq L s = PS.mk (uI s.vr a (s.ins.headD 0)) s.ins.tail s.outs (s.pc + 1) (s.sp + 1) 0 := by
  unfold pstq
  rw [h]
  exact if_pos rfl
theorem pq_t (h9 : (at_ L s.pc).1 ≠ 9) (h0 : (evs s.vr (seg L s.pc) []).1 ≠ 0) : pstq L s = PS.mk s.vr s.ins s.outs s.pc (s.sp + 1) (evs s.vr (seg L s.pc) []).1 := by
  unfold pstq
  rw [if_neg h9, if_neg h0]
variable {q : Nat} {x : Int}
theorem pq_8 (h9 : (at_ L s.pc).1 ≠ 9) (hq : q = s.pc + (seg L s.pc).length) (h : at_ L q = (8, a)) (h0 : evs s.vr (seg L s.pc) [] = (0, [x])) : pstq L s = PS.mk (uI s.vr a x) s.ins s.outs (q + 1) (s.sp + 1) 0 := by
  unfold pstq
  rw [if_neg h9, h0, if_pos rfl, ← hq, h, if_pos rfl]
  rfl
theorem pq_10 (h9 : (at_ L s.pc).1 ≠ 9) (hq : q = s.pc + (seg L s.pc).length) (h : at_ L q = (10, a)) (h0 : evs s.vr (seg L s.pc) [] = (0, [x])) : pstq L s = PS.mk s.vr s.ins (s.outs ++ [x]) (q + 1) (s.sp + 1) 0 := by
  unfold pstq
  rw [if_neg h9, h0, if_pos rfl, ← hq, h, if_neg (show ¬ (10 = 8) by decide), if_pos rfl]
  rfl
theorem pq_11 (h9 : (at_ L s.pc).1 ≠ 9) (hq : q = s.pc + (seg L s.pc).length) (h : at_ L q = (11, a)) (h0 : evs s.vr (seg L s.pc) [] = (0, [x])) : pstq L s = PS.mk s.vr s.ins s.outs (if x ≤ 0 then a else q + 1) (s.sp + 1) 0 := by
  unfold pstq
  rw [if_neg h9, h0, if_pos rfl, ← hq, h, if_neg (show ¬ (11 = 8) by decide), if_neg (show ¬ (11 = 10) by decide)]
  rfl
end q
/-- what the reference's arrays say of a state -/
def MQ9 (hv hw ho hq hi : Nat → Int32) (wa gi sp tr pc : Nat) (s : PS) : Prop := VRS hv hw s.vr ∧ OUM ho hq s.outs ∧ INM hi wa s.ins ∧ gi = s.outs.length ∧ sp = s.sp ∧ tr = s.tr ∧ (tr = 0 → pc = s.pc)
/-- the program in the reference's arrays -/
def MCL (hC hA : Nat → Int32) (dpf : Nat → Nat) (sz : Nat) (L : List (Nat × Nat)) : Prop := L.length = sz ∧ (∀ p, p < sz → hC p = nI (at_ L p).1 ∧ hA p = nI (at_ L p).2 ∧ (at_ L p).1 ≤ 12 ∧ (at_ L p).2 < 2147483648 ∧ ((at_ L p).1 < 2 → (at_ L p).2 < 1000000000)) ∧ ∀ p, p < sz → (hC p = nI 8 ∨ hC p = nI 10 ∨ hC p = nI 11) → dpf p = 1
theorem mcl_w {hC hA : Nat → Int32} {dpf : Nat → Nat} {sz : Nat} {L : List (Nat × Nat)} (h : MCL hC hA dpf sz L) {p w v : Nat} (hp : p < sz) (hw : hC p = nI w) (hv : hA p = nI v) (hw12 : w ≤ 12) (hv3 : v < 2147483648) : at_ L p = (w, v) := by
  obtain ⟨q1, q2, q3, q4, -⟩ := h.2.1 p hp
  have e1 : (at_ L p).1 = w := (nI_eq (by omega) (by omega)).mp (q1.symm.trans hw)
  have e2 : (at_ L p).2 = v := (nI_eq (by omega) (by omega)).mp (q2.symm.trans hv)
  exact Prod.ext e1 e2

