/-! ===== the layout without the loaded program, its STATEMENTs and its nodes ===== -/
/-- all BigRunners and Runners, the Readers but Rd, the program pr with its STATEMENTs -/
def vtS (g : Lay) (Rd pr a : Nat) : Prop := g.tg a = 1 ∨ g.tg a = 9 ∨ (g.tg a = 8 ∧ a ≠ Rd) ∨ a = pr ∨ a = g.lk pr 0 ∨ a = g.lk pr 2 ∨ (∃ i, i < 36 ∧ a = g.lk (g.lk pr 0) i) ∨ ∃ i, i < 72 ∧ a = g.lk (g.lk pr 2) i
noncomputable def vt (g : Lay) (Rd pr : Nat) : Lay := (fun a => @ite _ (vtS g Rd pr a) (Classical.propDecidable _) 0 (g.tg a), g.2)
theorem vt_in {g : Lay} {Rd pr a : Nat} (h : vtS g Rd pr a) : (vt g Rd pr).tg a = 0 := if_pos h
theorem vt_out {g : Lay} {Rd pr a : Nat} (h : ¬ vtS g Rd pr a) : (vt g Rd pr).tg a = g.tg a := if_neg h
theorem vt_of {g : Lay} {Rd pr a T : Nat} (h : (vt g Rd pr).tg a = T) (hT : T ≠ 0) : ¬ vtS g Rd pr a ∧ g.tg a = T := by
  by_cases q : vtS g Rd pr a
  · rw [vt_in q] at h; exact absurd h.symm hT
  · rw [vt_out q] at h; exact ⟨q, h⟩
theorem vt_no {g : Lay} {Rd pr a T : Nat} (hL : LO g) (hpr : g.tg pr = 7) (h : g.tg a = T) (hT : T ≠ 1 ∧ T ≠ 9 ∧ T ≠ 8 ∧ T ≠ 7 ∧ T ≠ 24 ∧ T ≠ 25 ∧ T ≠ 10 ∧ T ≠ 6) : ¬ vtS g Rd pr a := by
  rintro (q | q | q | q | q | q | ⟨i, hi, q⟩ | ⟨i, hi, q⟩)
  · exact hT.1 (h.symm.trans q)
  · exact hT.2.1 (h.symm.trans q)
  · exact hT.2.2.1 (h.symm.trans q.1)
  · exact hT.2.2.2.1 (h.symm.trans (by rw [q]; exact hpr))
  · exact hT.2.2.2.2.1 (h.symm.trans (by rw [q]; exact lo_k7_0 hL _ hpr))
  · exact hT.2.2.2.2.2.1 (h.symm.trans (by rw [q]; exact lo_k7_2 hL _ hpr))
  · exact hT.2.2.2.2.2.2.1 (h.symm.trans (by rw [q]; exact lo_e24 hL _ (lo_k7_0 hL _ hpr) i hi))
  · exact hT.2.2.2.2.2.2.2 (h.symm.trans (by rw [q]; exact lo_e25 hL _ (lo_k7_2 hL _ hpr) i hi))
theorem vt_tg {g : Lay} {Rd pr a T : Nat} (hL : LO g) (hpr : g.tg pr = 7) (h : g.tg a = T) (hT : T ≠ 1 ∧ T ≠ 9 ∧ T ≠ 8 ∧ T ≠ 7 ∧ T ≠ 24 ∧ T ≠ 25 ∧ T ≠ 10 ∧ T ≠ 6) : (vt g Rd pr).tg a = T := (vt_out (vt_no hL hpr h hT)).trans h
theorem vt_7 {g : Lay} {Rd pr a : Nat} (hL : LO g) (hpr : g.tg pr = 7) (h : g.tg a = 7) (hne : a ≠ pr) : ¬ vtS g Rd pr a := by
  rintro (q | q | q | q | q | q | ⟨i, hi, q⟩ | ⟨i, hi, q⟩)
  · exact absurd (h.symm.trans q) (by decide)
  · exact absurd (h.symm.trans q) (by decide)
  · exact absurd (h.symm.trans q.1) (by decide)
  · exact hne q
  · exact ut_ab h q (lo_k7_0 hL _ hpr) (by decide)
  · exact ut_ab h q (lo_k7_2 hL _ hpr) (by decide)
  · exact ut_ab h q (lo_e24 hL _ (lo_k7_0 hL _ hpr) i hi) (by decide)
  · exact ut_ab h q (lo_e25 hL _ (lo_k7_2 hL _ hpr) i hi) (by decide)
theorem vt_8 {g : Lay} {Rd pr : Nat} (hL : LO g) (hpr : g.tg pr = 7) (h : g.tg Rd = 8) : ¬ vtS g Rd pr Rd := by
  rintro (q | q | q | q | q | q | ⟨i, hi, q⟩ | ⟨i, hi, q⟩)
  · exact absurd (h.symm.trans q) (by decide)
  · exact absurd (h.symm.trans q) (by decide)
  · exact q.2 rfl
  · exact ut_ab h q (hpr) (by decide)
  · exact ut_ab h q (lo_k7_0 hL _ hpr) (by decide)
  · exact ut_ab h q (lo_k7_2 hL _ hpr) (by decide)
  · exact ut_ab h q (lo_e24 hL _ (lo_k7_0 hL _ hpr) i hi) (by decide)
  · exact ut_ab h q (lo_e25 hL _ (lo_k7_2 hL _ hpr) i hi) (by decide)
theorem vt_24 {g : Lay} {Rd pr a : Nat} (hL : LO g) (hpr : g.tg pr = 7) (h : g.tg a = 24) (hne : a ≠ g.lk pr 0) : ¬ vtS g Rd pr a := by
  rintro (q | q | q | q | q | q | ⟨i, hi, q⟩ | ⟨i, hi, q⟩)
  · exact absurd (h.symm.trans q) (by decide)
  · exact absurd (h.symm.trans q) (by decide)
  · exact absurd (h.symm.trans q.1) (by decide)
  · exact ut_ab h q (hpr) (by decide)
  · exact hne q
  · exact ut_ab h q (lo_k7_2 hL _ hpr) (by decide)
  · exact ut_ab h q (lo_e24 hL _ (lo_k7_0 hL _ hpr) i hi) (by decide)
  · exact ut_ab h q (lo_e25 hL _ (lo_k7_2 hL _ hpr) i hi) (by decide)
theorem vt_25 {g : Lay} {Rd pr a : Nat} (hL : LO g) (hpr : g.tg pr = 7) (h : g.tg a = 25) (hne : a ≠ g.lk pr 2) : ¬ vtS g Rd pr a := by
  rintro (q | q | q | q | q | q | ⟨i, hi, q⟩ | ⟨i, hi, q⟩)
  · exact absurd (h.symm.trans q) (by decide)
  · exact absurd (h.symm.trans q) (by decide)
  · exact absurd (h.symm.trans q.1) (by decide)
  · exact ut_ab h q (hpr) (by decide)
  · exact ut_ab h q (lo_k7_0 hL _ hpr) (by decide)
  · exact hne q
  · exact ut_ab h q (lo_e24 hL _ (lo_k7_0 hL _ hpr) i hi) (by decide)
  · exact ut_ab h q (lo_e25 hL _ (lo_k7_2 hL _ hpr) i hi) (by decide)
theorem vt_10 {g : Lay} {Rd pr a : Nat} (hL : LO g) (hpr : g.tg pr = 7) (h : g.tg a = 10) (hne : ∀ i, i < 36 → a ≠ g.lk (g.lk pr 0) i) : ¬ vtS g Rd pr a := by
  rintro (q | q | q | q | q | q | ⟨i, hi, q⟩ | ⟨i, hi, q⟩)
  · exact absurd (h.symm.trans q) (by decide)
  · exact absurd (h.symm.trans q) (by decide)
  · exact absurd (h.symm.trans q.1) (by decide)
  · exact ut_ab h q (hpr) (by decide)
  · exact ut_ab h q (lo_k7_0 hL _ hpr) (by decide)
  · exact ut_ab h q (lo_k7_2 hL _ hpr) (by decide)
  · exact hne i hi q
  · exact ut_ab h q (lo_e25 hL _ (lo_k7_2 hL _ hpr) i hi) (by decide)
theorem vt_6 {g : Lay} {Rd pr a : Nat} (hL : LO g) (hpr : g.tg pr = 7) (h : g.tg a = 6) (hne : ∀ i, i < 72 → a ≠ g.lk (g.lk pr 2) i) : ¬ vtS g Rd pr a := by
  rintro (q | q | q | q | q | q | ⟨i, hi, q⟩ | ⟨i, hi, q⟩)
  · exact absurd (h.symm.trans q) (by decide)
  · exact absurd (h.symm.trans q) (by decide)
  · exact absurd (h.symm.trans q.1) (by decide)
  · exact ut_ab h q (hpr) (by decide)
  · exact ut_ab h q (lo_k7_0 hL _ hpr) (by decide)
  · exact ut_ab h q (lo_k7_2 hL _ hpr) (by decide)
  · exact ut_ab h q (lo_e24 hL _ (lo_k7_0 hL _ hpr) i hi) (by decide)
  · exact hne i hi q
set_option maxHeartbeats 4000000 in
set_option maxRecDepth 100000 in
theorem vt_LO {g : Lay} {Rd pr : Nat} (hL : LO g) (hpr : g.tg pr = 7) : LO (vt g Rd pr) := ⟨fun a h => lo_mem hL a (fun q => h (by by_cases z : vtS g Rd pr a; exact vt_in z; exact (vt_out z).trans q)),
  fun a h => absurd (vt_of h (by decide)) (fun z => z.1 (Or.inl z.2)),
  fun a h => absurd (vt_of h (by decide)) (fun z => z.1 (Or.inl z.2)),
  fun a h => absurd (vt_of h (by decide)) (fun z => z.1 (Or.inl z.2)),
  fun a h => vt_tg hL hpr (lo_k2_0 hL a (vt_of h (by decide)).2) (by decide),
  fun a h => vt_tg hL hpr (lo_k4_0 hL a (vt_of h (by decide)).2) (by decide),
  fun a h => vt_tg hL hpr (lo_k4_1 hL a (vt_of h (by decide)).2) (by decide),
  fun a h => vt_tg hL hpr (lo_k5_2 hL a (vt_of h (by decide)).2) (by decide),
  fun a h => vt_tg hL hpr (lo_k6_3 hL a (vt_of h (by decide)).2) (by decide),
  fun a h => vt_tg hL hpr (lo_k6_6 hL a (vt_of h (by decide)).2) (by decide),
  fun a h => (vt_out (vt_24 hL hpr (lo_k7_0 hL a (vt_of h (by decide)).2) (fun z => (vt_of h (by decide)).1 (Or.inr (Or.inr (Or.inr (Or.inl (lo_inj7 hL a pr (vt_of h (by decide)).2 hpr z)))))))).trans (lo_k7_0 hL a (vt_of h (by decide)).2),
  fun a h => (vt_out (vt_25 hL hpr (lo_k7_2 hL a (vt_of h (by decide)).2) (fun z => (vt_of h (by decide)).1 (Or.inr (Or.inr (Or.inr (Or.inl (lo_inj7b hL a pr (vt_of h (by decide)).2 hpr z)))))))).trans (lo_k7_2 hL a (vt_of h (by decide)).2),
  fun a h => vt_tg hL hpr (lo_k7_4 hL a (vt_of h (by decide)).2) (by decide),
  fun a h => vt_tg hL hpr (lo_k7_5 hL a (vt_of h (by decide)).2) (by decide),
  fun a h => absurd (vt_of h (by decide)) (fun z => z.1 (Or.inr (Or.inl z.2))),
  fun a h => absurd (vt_of h (by decide)) (fun z => z.1 (Or.inr (Or.inl z.2))),
  fun a h => absurd (vt_of h (by decide)) (fun z => z.1 (Or.inr (Or.inl z.2))),
  fun a h => absurd (vt_of h (by decide)) (fun z => z.1 (Or.inr (Or.inl z.2))),
  fun a h => absurd (vt_of h (by decide)) (fun z => z.1 (Or.inr (Or.inl z.2))),
  fun a h => absurd (vt_of h (by decide)) (fun z => z.1 (Or.inr (Or.inl z.2))),
  fun a h => vt_tg hL hpr (lo_k11_1 hL a (vt_of h (by decide)).2) (by decide),
  fun a h => vt_tg hL hpr (lo_k11_3 hL a (vt_of h (by decide)).2) (by decide),
  fun a h => vt_tg hL hpr (lo_k11_4 hL a (vt_of h (by decide)).2) (by decide),
  fun a h => vt_tg hL hpr (lo_k11_6 hL a (vt_of h (by decide)).2) (by decide),
  fun a h => vt_tg hL hpr (lo_k11_7 hL a (vt_of h (by decide)).2) (by decide),
  fun a h => vt_tg hL hpr (lo_k11_8 hL a (vt_of h (by decide)).2) (by decide),
  fun a h => vt_tg hL hpr (lo_k11_12 hL a (vt_of h (by decide)).2) (by decide),
  fun a h => vt_tg hL hpr (lo_k11_14 hL a (vt_of h (by decide)).2) (by decide),
  fun a h => vt_tg hL hpr (lo_k11_15 hL a (vt_of h (by decide)).2) (by decide),
  fun a h => vt_tg hL hpr (lo_k11_17 hL a (vt_of h (by decide)).2) (by decide),
  fun a h => vt_tg hL hpr (lo_k11_18 hL a (vt_of h (by decide)).2) (by decide),
  fun a h => vt_tg hL hpr (lo_k11_19 hL a (vt_of h (by decide)).2) (by decide),
  fun a h => vt_tg hL hpr (lo_k11_20 hL a (vt_of h (by decide)).2) (by decide),
  fun a h => vt_tg hL hpr (lo_k11_21 hL a (vt_of h (by decide)).2) (by decide),
  fun a h => vt_tg hL hpr (lo_k11_22 hL a (vt_of h (by decide)).2) (by decide),
  fun a h => vt_tg hL hpr (lo_k11_23 hL a (vt_of h (by decide)).2) (by decide),
  fun a h => vt_tg hL hpr (lo_k11_24 hL a (vt_of h (by decide)).2) (by decide),
  fun a h => vt_tg hL hpr (lo_k11_25 hL a (vt_of h (by decide)).2) (by decide),
  fun a h => vt_tg hL hpr (lo_k11_26 hL a (vt_of h (by decide)).2) (by decide),
  fun a h => vt_tg hL hpr (lo_k11_27 hL a (vt_of h (by decide)).2) (by decide),
  fun a h => vt_tg hL hpr (lo_k11_28 hL a (vt_of h (by decide)).2) (by decide),
  fun a h => vt_tg hL hpr (lo_k11_29 hL a (vt_of h (by decide)).2) (by decide),
  fun a h => vt_tg hL hpr (lo_k11_30 hL a (vt_of h (by decide)).2) (by decide),
  fun a h => vt_tg hL hpr (lo_k11_31 hL a (vt_of h (by decide)).2) (by decide),
  fun a h => vt_tg hL hpr (lo_k11_33 hL a (vt_of h (by decide)).2) (by decide),
  fun a h => vt_tg hL hpr (lo_k11_34 hL a (vt_of h (by decide)).2) (by decide),
  fun a h => vt_tg hL hpr (lo_k11_35 hL a (vt_of h (by decide)).2) (by decide),
  fun a h => lo_t20 hL a (vt_of h (by decide)).2,
  fun a h => lo_t21 hL a (vt_of h (by decide)).2,
  fun a h => lo_t22 hL a (vt_of h (by decide)).2,
  fun a h => lo_t23 hL a (vt_of h (by decide)).2,
  fun a h i hi => (vt_out (vt_10 hL hpr (lo_e24 hL a (vt_of h (by decide)).2 i hi) (fun j hj z => (vt_of h (by decide)).1 (Or.inr (Or.inr (Or.inr (Or.inr (Or.inl (lo_inj24 hL a (g.lk pr 0) i j (vt_of h (by decide)).2 (lo_k7_0 hL _ hpr) hi hj z).1)))))))).trans (lo_e24 hL a (vt_of h (by decide)).2 i hi),
  fun a h => lo_t24 hL a (vt_of h (by decide)).2,
  fun a h i hi => (vt_out (vt_6 hL hpr (lo_e25 hL a (vt_of h (by decide)).2 i hi) (fun j hj z => (vt_of h (by decide)).1 (Or.inr (Or.inr (Or.inr (Or.inr (Or.inr (Or.inl (lo_inj25 hL a (g.lk pr 2) i j (vt_of h (by decide)).2 (lo_k7_2 hL _ hpr) hi hj z).1))))))))).trans (lo_e25 hL a (vt_of h (by decide)).2 i hi),
  fun a h => lo_t25 hL a (vt_of h (by decide)).2,
  fun a h i hi => vt_tg hL hpr (lo_e26 hL a (vt_of h (by decide)).2 i hi) (by decide),
  fun a h => lo_t26 hL a (vt_of h (by decide)).2,
  fun a h => lo_t27 hL a (vt_of h (by decide)).2,
  fun a h i hi => vt_tg hL hpr (lo_e28 hL a (vt_of h (by decide)).2 i hi) (by decide),
  fun a h => lo_t28 hL a (vt_of h (by decide)).2,
  fun a h i hi => vt_tg hL hpr (lo_e29 hL a (vt_of h (by decide)).2 i hi) (by decide),
  fun a h => lo_t29 hL a (vt_of h (by decide)).2,
  fun a h => lo_t40 hL a (vt_of h (by decide)).2,
  fun a h => lo_t41 hL a (vt_of h (by decide)).2,
  fun a h => lo_t42 hL a (vt_of h (by decide)).2,
  fun a h => lo_t43 hL a (vt_of h (by decide)).2,
  fun a h => lo_t44 hL a (vt_of h (by decide)).2,
  fun a h => lo_t45 hL a (vt_of h (by decide)).2,
  fun a h => lo_t46 hL a (vt_of h (by decide)).2,
  fun a h => lo_t47 hL a (vt_of h (by decide)).2,
  fun a h => lo_t48 hL a (vt_of h (by decide)).2,
  fun a h => lo_t49 hL a (vt_of h (by decide)).2,
  fun a h => lo_t50 hL a (vt_of h (by decide)).2,
  fun a h => lo_t51 hL a (vt_of h (by decide)).2,
  fun a h => lo_t52 hL a (vt_of h (by decide)).2,
  fun a h => lo_t53 hL a (vt_of h (by decide)).2,
  fun a h => lo_t54 hL a (vt_of h (by decide)).2,
  fun a h => lo_t55 hL a (vt_of h (by decide)).2,
  fun a h => lo_t56 hL a (vt_of h (by decide)).2,
  fun a h => lo_t57 hL a (vt_of h (by decide)).2,
  fun a h => lo_t58 hL a (vt_of h (by decide)).2,
  fun a h => lo_t59 hL a (vt_of h (by decide)).2,
  fun a h => lo_t60 hL a (vt_of h (by decide)).2,
  fun a h => lo_t61 hL a (vt_of h (by decide)).2,
  fun a h => lo_t62 hL a (vt_of h (by decide)).2,
  fun a h => lo_t63 hL a (vt_of h (by decide)).2,
  fun a h => lo_t64 hL a (vt_of h (by decide)).2,
  fun a h => lo_t65 hL a (vt_of h (by decide)).2,
  fun a h => lo_t66 hL a (vt_of h (by decide)).2,
  fun a b ha hb => lo_inj5 hL a b (vt_of ha (by decide)).2 (vt_of hb (by decide)).2,
  fun a b ha hb => lo_inj7 hL a b (vt_of ha (by decide)).2 (vt_of hb (by decide)).2,
  fun a b i j ha hb => lo_inj24 hL a b i j (vt_of ha (by decide)).2 (vt_of hb (by decide)).2,
  fun a h => lo_ne4 hL a (vt_of h (by decide)).2,
  fun a h => lo_n25 hL a (vt_of h (by decide)).2,
  fun a h => lo_n6 hL a (vt_of h (by decide)).2,
  fun a h => lo_n28 hL a (vt_of h (by decide)).2,
  fun a h => lo_n29 hL a (vt_of h (by decide)).2,
  fun a h => lo_n9 hL a (vt_of h (by decide)).2,
  fun a h => lo_n26 hL a (vt_of h (by decide)).2,
  fun a h => lo_n6i hL a (vt_of h (by decide)).2,
  fun a h => lo_n7i hL a (vt_of h (by decide)).2,
  fun a b ha hb => lo_inj7b hL a b (vt_of ha (by decide)).2 (vt_of hb (by decide)).2,
  fun a b i j ha hb => lo_inj25 hL a b i j (vt_of ha (by decide)).2 (vt_of hb (by decide)).2⟩
set_option maxHeartbeats 4000000 in
set_option maxRecDepth 100000 in
theorem vt_oc {g : Lay} {Rd pr a : Nat} {e : va_E} (h : ¬ vtS g Rd pr a) (h8 : g.tg a ≠ 8) : oc (vt g Rd pr) a e ↔ oc g a e := by
  have h9 : g.tg a ≠ 9 := fun z => h (Or.inr (Or.inl z))
  unfold oc
  rw [vt_out h]
  split <;> first | exact Iff.rfl | exact absurd (by assumption) h8 | exact absurd (by assumption) h9
theorem vt_IV {g : Lay} {Rd pr PR n0 a0 : Nat} {tx : Value} {f : Nat → va_E} (hL : LO g) (hpr : g.tg pr = 7) (hRd : g.tg Rd = 8) (eR : f Rd = .inr (7, [tx, .int (nI n0), .int (nI a0), .ref PR])) (hne : PR ≠ pr) (h : IV g f) : IV (vt g Rd pr) f := by
  refine ⟨fun a => ?_, fun x hx => h.2 x (vt_of hx (by decide)).2⟩
  by_cases q : vtS g Rd pr a
  · unfold oc; rw [vt_in q]; trivial
  · by_cases q8 : g.tg a = 8
    · have ha : a = Rd := Classical.byContradiction (fun z => q (Or.inr (Or.inr (Or.inl ⟨q8, z⟩))))
      subst ha
      refine oc_8.mk ((vt_out q).trans q8) ?_
      obtain ⟨tx', ln, ix, pr', e1, e2, e3, e4⟩ := oc_8.of q8 (h.1 a)
      refine ⟨tx', ln, ix, pr', e1, e2, e3, ?_⟩
      have hz : pr' = PR := by
        rw [eR] at e1
        injection e1 with e1
        injection e1 with _ e1
        injection e1 with _ e1
        injection e1 with _ e1
        injection e1 with _ e1
        injection e1 with e1 _
        injection e1 with e1
        exact e1.symm
      rw [hz] at e4 ⊢
      exact (vt_out (vt_7 hL hpr e4 hne)).trans e4
    · exact (vt_oc q q8).mpr (h.1 a)
theorem vt_un {W : List Nat} {g : Lay} {Rd pr : Nat} {f f1 : Nat → va_E} (h : un W (vt g Rd pr) f f1) (h0 : 0 ∉ W) : un W g f f1 := fun a ha => h a (by
  by_cases q : vtS g Rd pr a
  · rw [vt_in q]; exact h0
  · rw [vt_out q]; exact ha)
theorem vt_fr {W : List Nat} {g : Lay} {Rd pr a : Nat} {f f1 : Nat → va_E} (h : un W (vt g Rd pr) f f1) (h0 : 0 ∉ W) (ha : vtS g Rd pr a) : f1 a = f a := h a (by rw [vt_in ha]; exact h0)
theorem vt_VI {W : List Nat} {g : Lay} {Rd pr : Nat} {f f1 : Nat → va_E} (hL : LO g) (hpr : g.tg pr = 7) (hI : IV g f) (h : IV (vt g Rd pr) f1) (hu : un W (vt g Rd pr) f f1) (h0 : 0 ∉ W) : IV g f1 := by
  refine ⟨fun a => ?_, fun x hx => h.2 x (vt_tg hL hpr hx (by decide))⟩
  by_cases q : vtS g Rd pr a
  · rw [vt_fr hu h0 q]; exact hI.1 a
  · by_cases q8 : g.tg a = 8
    · refine oc_8.mk q8 ?_
      obtain ⟨tx', ln, ix, pr', e1, e2, e3, e4⟩ := oc_8.of ((vt_out q).trans q8) (h.1 a)
      exact ⟨tx', ln, ix, pr', e1, e2, e3, (vt_of e4 (by decide)).2⟩
    · exact (vt_oc q q8).mp (h.1 a)
theorem PRS_vt {g : Lay} {Rd pr P : Nat} {f : Nat → va_E} {nb : Nat → Nat} (L : List (Nat × Nat)) : ∀ (s n b : Nat) (st : List Nat), PRS (vt g Rd pr) f P nb s n b st L = PRS g f P nb s n b st L := by
  induction L with
  | nil => intro s n b st; rfl
  | cons x L ih =>
    intro s n b st
    obtain ⟨w, a⟩ := x
    unfold PRS
    rw [ih, ih]
    rfl
theorem SRP_vt {g : Lay} {Rd pr P s n s1 n1 : Nat} {f : Nat → va_E} {L : List (Nat × Nat)} (h : SRP (vt g Rd pr) f P s n s1 n1 L) : SRP g f P s n s1 n1 L := ⟨h.1, fun nb q => by rw [← PRS_vt (Rd := Rd) (pr := pr)]; exact h.2 nb q⟩
set_option maxHeartbeats 4000000 in
set_option maxRecDepth 100000 in
theorem c4_readsU (l : Launch) (g : Lay) (sz : Nat) (f : Nat → va_E) (Rd : Nat) (tl : Nat) (ln : Nat) (P : Nat) (hT : Nat → Int32) (tx : Value) (ln0 : Nat) (ax0 : Nat) (sn : Nat) (nn : Nat) (pr : Nat) (hL : LO g) (t_Rd : g.tg Rd = 8) (t_tl : g.tg tl = 20) (t_P : g.tg P = 7) (t_pr : g.tg pr = 7) (hI : IV g f) (eR : f Rd = .inr (7, [tx, .int (nI ln0), .int (nI ax0), .ref P])) (eT : f tl = .inl (g.ac tl, 72, .inl hT)) (cT : ∀ i, i < 72 → vp_nar .char (hT i) = hT i) (hln : ln ≤ 72) (hl0 : ln0 ≤ 72) (ha0 : ax0 ≤ 72) (eP : f P = .inr (6, [.ref (g.lk P 0), .int (nI sn), .ref (g.lk P 2), .int (nI nn), .ref (g.lk P 4), .ref (g.lk P 5)])) (hsn : sn ≤ 36) (hnn : nn ≤ 72) (hne : P ≠ pr) : Met l ⟨"BigRunner$Reader", "reads", "([CI)Z"⟩ [Cond.code ⟨"BigRunner$Reader", "reads", "([CI)Z"⟩ prog_8_method_2_code 3 (some .boolean)] ({ frames := 1211, cells := 0, slots := 0, locals := 37022 }) (va_Pc [.ref Rd, .ref tl, .int (nI ln)] (pc_in g sz f)) (va_Qi (fun r f1 => ((∃ (s1 n1 : Nat), s1 ≤ 36 ∧ n1 ≤ 72 ∧ 0 < s1 ∧ px_s (tk hT ln) 400 1 1 0 = some ln ∧ f1 Rd = .inr (7, [.ref tl, .int (nI ln), .int (nI ln), .ref P]) ∧ f1 P = .inr (6, [.ref (g.lk P 0), .int (nI s1), .ref (g.lk P 2), .int (nI n1), .ref (g.lk P 4), .ref (g.lk P 5)]) ∧ SG g f1 P 0 s1 ∧ nj g f1 P 0 ∧ SRP g f1 P 0 0 s1 n1 (ox_s (tk hT ln) (vc hT ln) 400 1 1 0 0) ∧ r = nI 1) ∨ (px_s (tk hT ln) 400 1 1 0 ≠ some ln ∧ (∃ a9 : Nat, a9 ≤ 72 ∧ f1 Rd = .inr (7, [.ref tl, .int (nI ln), .int (nI a9), .ref P])) ∧ r = nI 0)) ∧ (f1 pr = f pr ∧ (∀ i, i < 36 → f1 (g.lk (g.lk pr 0) i) = f (g.lk (g.lk pr 0) i)) ∧ ∀ i, i < 72 → f1 (g.lk (g.lk pr 2) i) = f (g.lk (g.lk pr 2) i)) ∧ (IV g f1) ∧ (un [6, 7, 8, 10] g f f1)) (pc_out g sz) (pc_A g sz)) 0 0 (pc_A g sz) := by
  refine pm_mono (c3_reads l (vt g Rd pr) sz f Rd tl ln P hT tx ln0 ax0 sn nn (vt_LO hL t_pr) ((vt_out (vt_8 hL t_pr t_Rd)).trans t_Rd) (vt_tg hL t_pr t_tl (by decide)) ((vt_out (vt_7 hL t_pr t_P hne)).trans t_P) (vt_IV hL t_pr t_Rd eR hne hI) eR eT cT hln hl0 ha0 eP hsn hnn) ?_
  rintro a st o t ⟨⟨r, f1, q1, ⟨q2, q3, q4⟩, q5⟩, q6⟩
  exact ⟨⟨r, f1, q1, ⟨q2.imp (fun ⟨s1, n1, a1, a2, a3, a4, a5, a6, a7, a8, a9, a10⟩ => ⟨s1, n1, a1, a2, a3, a4, a5, a6, a7, a8, SRP_vt a9, a10⟩) id, ⟨vt_fr q4 (by decide) (Or.inr (Or.inr (Or.inr (Or.inl rfl)))), fun i hi => vt_fr q4 (by decide) (Or.inr (Or.inr (Or.inr (Or.inr (Or.inr (Or.inr (Or.inl ⟨i, hi, rfl⟩))))))), fun i hi => vt_fr q4 (by decide) (Or.inr (Or.inr (Or.inr (Or.inr (Or.inr (Or.inr (Or.inr ⟨i, hi, rfl⟩)))))))⟩, vt_VI hL t_pr hI q3 q4 (by decide), vt_un q4 (by decide)⟩, q5⟩, q6⟩

