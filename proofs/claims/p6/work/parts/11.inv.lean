/-! ===== what each cell of the class may hold, by its tag; the layout's facts ===== -/
def oc_1 (g : Lay) (a : Nat) (e : va_E) : Prop := ∃ (n : Nat) (ld : Int32), e = .inr (0, [.ref (g.lk a 0), .int (nI n), .ref (g.lk a 2), .ref (g.lk a 3), .int ld]) ∧ n ≤ 72 ∧ (ld = 0 ∨ ld = 1)
def oc_2 (g : Lay) (a : Nat) (e : va_E) : Prop := ∃ (fi : Nat) (wa : Nat), e = .inr (1, [.ref (g.lk a 0), .int (nI fi), .int (nI wa)]) ∧ fi < 20 ∧ wa ≤ 20
def oc_3 (g : Lay) (a : Nat) (e : va_E) : Prop := ∃ (lo : Int64) (hi : Int64), e = .inr (2, [.long lo, .long hi])
def oc_4 (g : Lay) (a : Nat) (e : va_E) : Prop := ∃ (n : Nat), e = .inr (3, [.ref (g.lk a 0), .ref (g.lk a 1), .int (nI n)]) ∧ n ≤ 15
def oc_5 (g : Lay) (a : Nat) (e : va_E) : Prop := ∃ (sg : Int32) (n : Nat), e = .inr (4, [.int sg, .int (nI n), .ref (g.lk a 2)]) ∧ n ≤ 15
def oc_6 (g : Lay) (a : Nat) (e : va_E) : Prop := ∃ (kd : Nat) (le : Nat) (ri : Nat) (sm : Int32) (mv : Int64), e = .inr (5, [.int (nI kd), .int (nI le), .int (nI ri), .ref (g.lk a 3), .int sm, .long mv, .ref (g.lk a 6)]) ∧ kd ≤ 7 ∧ le < 72 ∧ ri < 72 ∧ (kd = 1 → le < 10) ∧ (sm = 0 ∨ sm = 1) ∧ (2 ≤ kd → le < g.tn a ∧ ri < g.tn a)
def oc_7 (g : Lay) (a : Nat) (e : va_E) : Prop := ∃ (sc : Nat) (nc : Nat), e = .inr (6, [.ref (g.lk a 0), .int (nI sc), .ref (g.lk a 2), .int (nI nc), .ref (g.lk a 4), .ref (g.lk a 5)]) ∧ sc ≤ 36 ∧ nc ≤ 72
def oc_8 (g : Lay) (a : Nat) (e : va_E) : Prop := ∃ (tx : Value) (ln : Nat) (ix : Nat) (pr : Nat), e = .inr (7, [tx, .int (nI ln), .int (nI ix), .ref pr]) ∧ ln ≤ 72 ∧ ix ≤ 72 ∧ g.tg pr = 7
def oc_9 (g : Lay) (a : Nat) (e : va_E) : Prop := ∃ (pr : Nat) (ix : Nat) (os : Nat) (st : Nat) (mo : Int32) (lo : Int32) (tr : Nat), e = .inr (8, [.ref pr, .ref (g.lk a 1), .int (nI ix), .ref (g.lk a 3), .ref (g.lk a 4), .ref (g.lk a 5), .ref (g.lk a 6), .ref (g.lk a 7), .int (nI os), .int (nI st), .int mo, .int lo, .int (nI tr)]) ∧ g.tg pr = 7 ∧ ix ≤ 36 ∧ os ≤ st ∧ st ≤ 3000 ∧ tr ≤ 3
def oc_10 (g : Lay) (a : Nat) (e : va_E) : Prop := ∃ (kd : Nat) (nm : Nat) (fn : Nat) (la : Int32) (ta : Nat), e = .inr (9, [.int (nI kd), .int (nI nm), .int (nI fn), .int la, .int (nI ta)]) ∧ kd ≤ 5 ∧ nm < 10 ∧ fn ≤ 72 ∧ (la = -1 ∨ ∃ j, j < 72 ∧ la = nI j) ∧ ta ≤ 36
def oc_11 (g : Lay) (a : Nat) (e : va_E) : Prop := ∃ (th : Int32) (n : Nat) (dr : Nat) (sz : Nat) (ix : Nat) (dp : Nat) (wt : Nat) (op : Nat) (tp : Nat) (wa : Nat) (gi : Nat) (pc : Nat) (st : Nat) (tr : Nat) (sp : Nat) (ma : Int32) (lg : Int32) (du : Int32), e = .inr (10, [.int th, .ref (g.lk a 1), .int (nI n), .ref (g.lk a 3), .ref (g.lk a 4), .int (nI dr), .ref (g.lk a 6), .ref (g.lk a 7), .ref (g.lk a 8), .int (nI sz), .int (nI ix), .int (nI dp), .ref (g.lk a 12), .int (nI wt), .ref (g.lk a 14), .ref (g.lk a 15), .int (nI op), .ref (g.lk a 17), .ref (g.lk a 18), .ref (g.lk a 19), .ref (g.lk a 20), .ref (g.lk a 21), .ref (g.lk a 22), .ref (g.lk a 23), .ref (g.lk a 24), .ref (g.lk a 25), .ref (g.lk a 26), .ref (g.lk a 27), .ref (g.lk a 28), .ref (g.lk a 29), .ref (g.lk a 30), .ref (g.lk a 31), .int (nI tp), .ref (g.lk a 33), .ref (g.lk a 34), .ref (g.lk a 35), .int (nI wa), .int (nI gi), .int (nI pc), .int (nI st), .int (nI tr), .int (nI sp), .int ma, .int lg, .int du]) ∧ n ≤ 72 ∧ dr ≤ 100 ∧ sz ≤ 100 ∧ ix ≤ 100 ∧ dp ≤ 20 ∧ wt ≤ 72 ∧ op ≤ 40 ∧ tp ≤ 80 ∧ wa ≤ 20 ∧ gi ≤ sp ∧ pc ≤ 100 ∧ st ≤ 4 ∧ tr ≤ 3 ∧ sp ≤ 3000 ∧ (du = 0 ∨ du = 1)
def oc_20 (g : Lay) (a : Nat) (e : va_E) : Prop := ∃ h : Nat → Int32, e = .inl (g.ac a, 72, .inl h) ∧ (∀ i, i < 72 → vp_nar .char (h i) = h i)
def oc_21 (g : Lay) (a : Nat) (e : va_E) : Prop := ∃ h : Nat → Int32, e = .inl (g.ac a, 20, .inl h)
def oc_22 (g : Lay) (a : Nat) (e : va_E) : Prop := ∃ h : Nat → Int32, e = .inl (g.ac a, 16, .inl h) ∧ (∀ i, i < 16 → ∃ k, k < 1000000000 ∧ h i = nI k)
def oc_23 (g : Lay) (a : Nat) (e : va_E) : Prop := ∃ h : Nat → Int32, e = .inl (g.ac a, 15, .inl h) ∧ (∀ i, i < 15 → ∃ k, k < 1000000000 ∧ h i = nI k)
def oc_24 (g : Lay) (a : Nat) (e : va_E) : Prop := e = .inl (g.ac a, 36, .inr (.inr (.inr (.inr (fun i => some (g.lk a i))))))
def oc_25 (g : Lay) (a : Nat) (e : va_E) : Prop := e = .inl (g.ac a, 72, .inr (.inr (.inr (.inr (fun i => some (g.lk a i))))))
def oc_26 (g : Lay) (a : Nat) (e : va_E) : Prop := e = .inl (g.ac a, 10, .inr (.inr (.inr (.inr (fun i => some (g.lk a i))))))
def oc_27 (g : Lay) (a : Nat) (e : va_E) : Prop := ∃ h : Nat → Int64, e = .inl (g.ac a, 10, .inr (.inl h))
def oc_28 (g : Lay) (a : Nat) (e : va_E) : Prop := e = .inl (g.ac a, 10, .inr (.inr (.inr (.inr (fun i => some (g.lk a i))))))
def oc_29 (g : Lay) (a : Nat) (e : va_E) : Prop := e = .inl (g.ac a, 12, .inr (.inr (.inr (.inr (fun i => some (g.lk a i))))))
def oc_40 (g : Lay) (a : Nat) (e : va_E) : Prop := ∃ h : Nat → Int32, e = .inl (g.ac a, 72, .inl h) ∧ (∀ i, i < 72 → vp_nar .char (h i) = h i)
def oc_41 (g : Lay) (a : Nat) (e : va_E) : Prop := ∃ h : Nat → Int32, e = .inl (g.ac a, 100, .inl h)
def oc_42 (g : Lay) (a : Nat) (e : va_E) : Prop := ∃ h : Nat → Int32, e = .inl (g.ac a, 100, .inl h)
def oc_43 (g : Lay) (a : Nat) (e : va_E) : Prop := ∃ h : Nat → Int32, e = .inl (g.ac a, 100, .inl h)
def oc_44 (g : Lay) (a : Nat) (e : va_E) : Prop := ∃ h : Nat → Int32, e = .inl (g.ac a, 100, .inl h)
def oc_45 (g : Lay) (a : Nat) (e : va_E) : Prop := ∃ h : Nat → Int32, e = .inl (g.ac a, 100, .inl h)
def oc_46 (g : Lay) (a : Nat) (e : va_E) : Prop := ∃ h : Nat → Int32, e = .inl (g.ac a, 72, .inl h)
def oc_47 (g : Lay) (a : Nat) (e : va_E) : Prop := ∃ h : Nat → Int32, e = .inl (g.ac a, 40, .inl h)
def oc_48 (g : Lay) (a : Nat) (e : va_E) : Prop := ∃ h : Nat → Int32, e = .inl (g.ac a, 40, .inl h)
def oc_49 (g : Lay) (a : Nat) (e : va_E) : Prop := ∃ h : Nat → Int64, e = .inl (g.ac a, 10, .inr (.inl h))
def oc_50 (g : Lay) (a : Nat) (e : va_E) : Prop := ∃ h : Nat → Int64, e = .inl (g.ac a, 10, .inr (.inl h))
def oc_51 (g : Lay) (a : Nat) (e : va_E) : Prop := ∃ h : Nat → Int32, e = .inl (g.ac a, 10, .inl h)
def oc_52 (g : Lay) (a : Nat) (e : va_E) : Prop := ∃ h : Nat → Int32, e = .inl (g.ac a, 10, .inl h)
def oc_53 (g : Lay) (a : Nat) (e : va_E) : Prop := ∃ h : Nat → Int64, e = .inl (g.ac a, 80, .inr (.inl h))
def oc_54 (g : Lay) (a : Nat) (e : va_E) : Prop := ∃ h : Nat → Int64, e = .inl (g.ac a, 80, .inr (.inl h))
def oc_55 (g : Lay) (a : Nat) (e : va_E) : Prop := ∃ h : Nat → Int32, e = .inl (g.ac a, 80, .inl h)
def oc_56 (g : Lay) (a : Nat) (e : va_E) : Prop := ∃ h : Nat → Int32, e = .inl (g.ac a, 80, .inl h)
def oc_57 (g : Lay) (a : Nat) (e : va_E) : Prop := ∃ h : Nat → Int32, e = .inl (g.ac a, 80, .inl h)
def oc_58 (g : Lay) (a : Nat) (e : va_E) : Prop := ∃ h : Nat → Int32, e = .inl (g.ac a, 200, .inl h)
def oc_59 (g : Lay) (a : Nat) (e : va_E) : Prop := ∃ h : Nat → Int32, e = .inl (g.ac a, 10, .inl h)
def oc_60 (g : Lay) (a : Nat) (e : va_E) : Prop := ∃ h : Nat → Int32, e = .inl (g.ac a, 240, .inl h)
def oc_61 (g : Lay) (a : Nat) (e : va_E) : Prop := ∃ h : Nat → Int32, e = .inl (g.ac a, 12, .inl h)
def oc_62 (g : Lay) (a : Nat) (e : va_E) : Prop := ∃ h : Nat → Int32, e = .inl (g.ac a, 1600, .inl h)
def oc_63 (g : Lay) (a : Nat) (e : va_E) : Prop := ∃ h : Nat → Int32, e = .inl (g.ac a, 80, .inl h)
def oc_64 (g : Lay) (a : Nat) (e : va_E) : Prop := ∃ h : Nat → Int32, e = .inl (g.ac a, 44, .inl h)
def oc_65 (g : Lay) (a : Nat) (e : va_E) : Prop := ∃ h : Nat → Int32, e = .inl (g.ac a, 44, .inl h)
def oc_66 (g : Lay) (a : Nat) (e : va_E) : Prop := ∃ h : Nat → Int32, e = .inl (g.ac a, 20, .inl h)
def oc (g : Lay) (a : Nat) (e : va_E) : Prop := match g.tg a with
  | 1 => oc_1 g a e
  | 2 => oc_2 g a e
  | 3 => oc_3 g a e
  | 4 => oc_4 g a e
  | 5 => oc_5 g a e
  | 6 => oc_6 g a e
  | 7 => oc_7 g a e
  | 8 => oc_8 g a e
  | 9 => oc_9 g a e
  | 10 => oc_10 g a e
  | 11 => oc_11 g a e
  | 20 => oc_20 g a e
  | 21 => oc_21 g a e
  | 22 => oc_22 g a e
  | 23 => oc_23 g a e
  | 24 => oc_24 g a e
  | 25 => oc_25 g a e
  | 26 => oc_26 g a e
  | 27 => oc_27 g a e
  | 28 => oc_28 g a e
  | 29 => oc_29 g a e
  | 40 => oc_40 g a e
  | 41 => oc_41 g a e
  | 42 => oc_42 g a e
  | 43 => oc_43 g a e
  | 44 => oc_44 g a e
  | 45 => oc_45 g a e
  | 46 => oc_46 g a e
  | 47 => oc_47 g a e
  | 48 => oc_48 g a e
  | 49 => oc_49 g a e
  | 50 => oc_50 g a e
  | 51 => oc_51 g a e
  | 52 => oc_52 g a e
  | 53 => oc_53 g a e
  | 54 => oc_54 g a e
  | 55 => oc_55 g a e
  | 56 => oc_56 g a e
  | 57 => oc_57 g a e
  | 58 => oc_58 g a e
  | 59 => oc_59 g a e
  | 60 => oc_60 g a e
  | 61 => oc_61 g a e
  | 62 => oc_62 g a e
  | 63 => oc_63 g a e
  | 64 => oc_64 g a e
  | 65 => oc_65 g a e
  | 66 => oc_66 g a e
  | _ => True
theorem oc_1.mk {g : Lay} {a : Nat} {e : va_E} (ht : g.tg a = 1) (h : oc_1 g a e) : oc g a e := by unfold oc; rw [ht]; exact h
theorem oc_1.of {g : Lay} {a : Nat} {e : va_E} (ht : g.tg a = 1) (h : oc g a e) : oc_1 g a e := by unfold oc at h; rw [ht] at h; exact h
theorem oc_2.mk {g : Lay} {a : Nat} {e : va_E} (ht : g.tg a = 2) (h : oc_2 g a e) : oc g a e := by unfold oc; rw [ht]; exact h
theorem oc_2.of {g : Lay} {a : Nat} {e : va_E} (ht : g.tg a = 2) (h : oc g a e) : oc_2 g a e := by unfold oc at h; rw [ht] at h; exact h
theorem oc_3.mk {g : Lay} {a : Nat} {e : va_E} (ht : g.tg a = 3) (h : oc_3 g a e) : oc g a e := by unfold oc; rw [ht]; exact h
theorem oc_3.of {g : Lay} {a : Nat} {e : va_E} (ht : g.tg a = 3) (h : oc g a e) : oc_3 g a e := by unfold oc at h; rw [ht] at h; exact h
theorem oc_4.mk {g : Lay} {a : Nat} {e : va_E} (ht : g.tg a = 4) (h : oc_4 g a e) : oc g a e := by unfold oc; rw [ht]; exact h
theorem oc_4.of {g : Lay} {a : Nat} {e : va_E} (ht : g.tg a = 4) (h : oc g a e) : oc_4 g a e := by unfold oc at h; rw [ht] at h; exact h
theorem oc_5.mk {g : Lay} {a : Nat} {e : va_E} (ht : g.tg a = 5) (h : oc_5 g a e) : oc g a e := by unfold oc; rw [ht]; exact h
theorem oc_5.of {g : Lay} {a : Nat} {e : va_E} (ht : g.tg a = 5) (h : oc g a e) : oc_5 g a e := by unfold oc at h; rw [ht] at h; exact h
theorem oc_6.mk {g : Lay} {a : Nat} {e : va_E} (ht : g.tg a = 6) (h : oc_6 g a e) : oc g a e := by unfold oc; rw [ht]; exact h
theorem oc_6.of {g : Lay} {a : Nat} {e : va_E} (ht : g.tg a = 6) (h : oc g a e) : oc_6 g a e := by unfold oc at h; rw [ht] at h; exact h
theorem oc_7.mk {g : Lay} {a : Nat} {e : va_E} (ht : g.tg a = 7) (h : oc_7 g a e) : oc g a e := by unfold oc; rw [ht]; exact h
theorem oc_7.of {g : Lay} {a : Nat} {e : va_E} (ht : g.tg a = 7) (h : oc g a e) : oc_7 g a e := by unfold oc at h; rw [ht] at h; exact h
theorem oc_8.mk {g : Lay} {a : Nat} {e : va_E} (ht : g.tg a = 8) (h : oc_8 g a e) : oc g a e := by unfold oc; rw [ht]; exact h
theorem oc_8.of {g : Lay} {a : Nat} {e : va_E} (ht : g.tg a = 8) (h : oc g a e) : oc_8 g a e := by unfold oc at h; rw [ht] at h; exact h
theorem oc_9.mk {g : Lay} {a : Nat} {e : va_E} (ht : g.tg a = 9) (h : oc_9 g a e) : oc g a e := by unfold oc; rw [ht]; exact h
theorem oc_9.of {g : Lay} {a : Nat} {e : va_E} (ht : g.tg a = 9) (h : oc g a e) : oc_9 g a e := by unfold oc at h; rw [ht] at h; exact h
theorem oc_10.mk {g : Lay} {a : Nat} {e : va_E} (ht : g.tg a = 10) (h : oc_10 g a e) : oc g a e := by unfold oc; rw [ht]; exact h
theorem oc_10.of {g : Lay} {a : Nat} {e : va_E} (ht : g.tg a = 10) (h : oc g a e) : oc_10 g a e := by unfold oc at h; rw [ht] at h; exact h
theorem oc_11.mk {g : Lay} {a : Nat} {e : va_E} (ht : g.tg a = 11) (h : oc_11 g a e) : oc g a e := by unfold oc; rw [ht]; exact h
theorem oc_11.of {g : Lay} {a : Nat} {e : va_E} (ht : g.tg a = 11) (h : oc g a e) : oc_11 g a e := by unfold oc at h; rw [ht] at h; exact h
theorem oc_20.mk {g : Lay} {a : Nat} {e : va_E} (ht : g.tg a = 20) (h : oc_20 g a e) : oc g a e := by unfold oc; rw [ht]; exact h
theorem oc_20.of {g : Lay} {a : Nat} {e : va_E} (ht : g.tg a = 20) (h : oc g a e) : oc_20 g a e := by unfold oc at h; rw [ht] at h; exact h
theorem oc_21.mk {g : Lay} {a : Nat} {e : va_E} (ht : g.tg a = 21) (h : oc_21 g a e) : oc g a e := by unfold oc; rw [ht]; exact h
theorem oc_21.of {g : Lay} {a : Nat} {e : va_E} (ht : g.tg a = 21) (h : oc g a e) : oc_21 g a e := by unfold oc at h; rw [ht] at h; exact h
theorem oc_22.mk {g : Lay} {a : Nat} {e : va_E} (ht : g.tg a = 22) (h : oc_22 g a e) : oc g a e := by unfold oc; rw [ht]; exact h
theorem oc_22.of {g : Lay} {a : Nat} {e : va_E} (ht : g.tg a = 22) (h : oc g a e) : oc_22 g a e := by unfold oc at h; rw [ht] at h; exact h
theorem oc_23.mk {g : Lay} {a : Nat} {e : va_E} (ht : g.tg a = 23) (h : oc_23 g a e) : oc g a e := by unfold oc; rw [ht]; exact h
theorem oc_23.of {g : Lay} {a : Nat} {e : va_E} (ht : g.tg a = 23) (h : oc g a e) : oc_23 g a e := by unfold oc at h; rw [ht] at h; exact h
theorem oc_24.mk {g : Lay} {a : Nat} {e : va_E} (ht : g.tg a = 24) (h : oc_24 g a e) : oc g a e := by unfold oc; rw [ht]; exact h
theorem oc_24.of {g : Lay} {a : Nat} {e : va_E} (ht : g.tg a = 24) (h : oc g a e) : oc_24 g a e := by unfold oc at h; rw [ht] at h; exact h
theorem oc_25.mk {g : Lay} {a : Nat} {e : va_E} (ht : g.tg a = 25) (h : oc_25 g a e) : oc g a e := by unfold oc; rw [ht]; exact h
theorem oc_25.of {g : Lay} {a : Nat} {e : va_E} (ht : g.tg a = 25) (h : oc g a e) : oc_25 g a e := by unfold oc at h; rw [ht] at h; exact h
theorem oc_26.mk {g : Lay} {a : Nat} {e : va_E} (ht : g.tg a = 26) (h : oc_26 g a e) : oc g a e := by unfold oc; rw [ht]; exact h
theorem oc_26.of {g : Lay} {a : Nat} {e : va_E} (ht : g.tg a = 26) (h : oc g a e) : oc_26 g a e := by unfold oc at h; rw [ht] at h; exact h
theorem oc_27.mk {g : Lay} {a : Nat} {e : va_E} (ht : g.tg a = 27) (h : oc_27 g a e) : oc g a e := by unfold oc; rw [ht]; exact h
theorem oc_27.of {g : Lay} {a : Nat} {e : va_E} (ht : g.tg a = 27) (h : oc g a e) : oc_27 g a e := by unfold oc at h; rw [ht] at h; exact h
theorem oc_28.mk {g : Lay} {a : Nat} {e : va_E} (ht : g.tg a = 28) (h : oc_28 g a e) : oc g a e := by unfold oc; rw [ht]; exact h
theorem oc_28.of {g : Lay} {a : Nat} {e : va_E} (ht : g.tg a = 28) (h : oc g a e) : oc_28 g a e := by unfold oc at h; rw [ht] at h; exact h
theorem oc_29.mk {g : Lay} {a : Nat} {e : va_E} (ht : g.tg a = 29) (h : oc_29 g a e) : oc g a e := by unfold oc; rw [ht]; exact h
theorem oc_29.of {g : Lay} {a : Nat} {e : va_E} (ht : g.tg a = 29) (h : oc g a e) : oc_29 g a e := by unfold oc at h; rw [ht] at h; exact h
theorem oc_40.mk {g : Lay} {a : Nat} {e : va_E} (ht : g.tg a = 40) (h : oc_40 g a e) : oc g a e := by unfold oc; rw [ht]; exact h
theorem oc_40.of {g : Lay} {a : Nat} {e : va_E} (ht : g.tg a = 40) (h : oc g a e) : oc_40 g a e := by unfold oc at h; rw [ht] at h; exact h
theorem oc_41.mk {g : Lay} {a : Nat} {e : va_E} (ht : g.tg a = 41) (h : oc_41 g a e) : oc g a e := by unfold oc; rw [ht]; exact h
theorem oc_41.of {g : Lay} {a : Nat} {e : va_E} (ht : g.tg a = 41) (h : oc g a e) : oc_41 g a e := by unfold oc at h; rw [ht] at h; exact h
theorem oc_42.mk {g : Lay} {a : Nat} {e : va_E} (ht : g.tg a = 42) (h : oc_42 g a e) : oc g a e := by unfold oc; rw [ht]; exact h
theorem oc_42.of {g : Lay} {a : Nat} {e : va_E} (ht : g.tg a = 42) (h : oc g a e) : oc_42 g a e := by unfold oc at h; rw [ht] at h; exact h
theorem oc_43.mk {g : Lay} {a : Nat} {e : va_E} (ht : g.tg a = 43) (h : oc_43 g a e) : oc g a e := by unfold oc; rw [ht]; exact h
theorem oc_43.of {g : Lay} {a : Nat} {e : va_E} (ht : g.tg a = 43) (h : oc g a e) : oc_43 g a e := by unfold oc at h; rw [ht] at h; exact h
theorem oc_44.mk {g : Lay} {a : Nat} {e : va_E} (ht : g.tg a = 44) (h : oc_44 g a e) : oc g a e := by unfold oc; rw [ht]; exact h
theorem oc_44.of {g : Lay} {a : Nat} {e : va_E} (ht : g.tg a = 44) (h : oc g a e) : oc_44 g a e := by unfold oc at h; rw [ht] at h; exact h
theorem oc_45.mk {g : Lay} {a : Nat} {e : va_E} (ht : g.tg a = 45) (h : oc_45 g a e) : oc g a e := by unfold oc; rw [ht]; exact h
theorem oc_45.of {g : Lay} {a : Nat} {e : va_E} (ht : g.tg a = 45) (h : oc g a e) : oc_45 g a e := by unfold oc at h; rw [ht] at h; exact h
theorem oc_46.mk {g : Lay} {a : Nat} {e : va_E} (ht : g.tg a = 46) (h : oc_46 g a e) : oc g a e := by unfold oc; rw [ht]; exact h
theorem oc_46.of {g : Lay} {a : Nat} {e : va_E} (ht : g.tg a = 46) (h : oc g a e) : oc_46 g a e := by unfold oc at h; rw [ht] at h; exact h
theorem oc_47.mk {g : Lay} {a : Nat} {e : va_E} (ht : g.tg a = 47) (h : oc_47 g a e) : oc g a e := by unfold oc; rw [ht]; exact h
theorem oc_47.of {g : Lay} {a : Nat} {e : va_E} (ht : g.tg a = 47) (h : oc g a e) : oc_47 g a e := by unfold oc at h; rw [ht] at h; exact h
theorem oc_48.mk {g : Lay} {a : Nat} {e : va_E} (ht : g.tg a = 48) (h : oc_48 g a e) : oc g a e := by unfold oc; rw [ht]; exact h
theorem oc_48.of {g : Lay} {a : Nat} {e : va_E} (ht : g.tg a = 48) (h : oc g a e) : oc_48 g a e := by unfold oc at h; rw [ht] at h; exact h
theorem oc_49.mk {g : Lay} {a : Nat} {e : va_E} (ht : g.tg a = 49) (h : oc_49 g a e) : oc g a e := by unfold oc; rw [ht]; exact h
theorem oc_49.of {g : Lay} {a : Nat} {e : va_E} (ht : g.tg a = 49) (h : oc g a e) : oc_49 g a e := by unfold oc at h; rw [ht] at h; exact h
theorem oc_50.mk {g : Lay} {a : Nat} {e : va_E} (ht : g.tg a = 50) (h : oc_50 g a e) : oc g a e := by unfold oc; rw [ht]; exact h
theorem oc_50.of {g : Lay} {a : Nat} {e : va_E} (ht : g.tg a = 50) (h : oc g a e) : oc_50 g a e := by unfold oc at h; rw [ht] at h; exact h
theorem oc_51.mk {g : Lay} {a : Nat} {e : va_E} (ht : g.tg a = 51) (h : oc_51 g a e) : oc g a e := by unfold oc; rw [ht]; exact h
theorem oc_51.of {g : Lay} {a : Nat} {e : va_E} (ht : g.tg a = 51) (h : oc g a e) : oc_51 g a e := by unfold oc at h; rw [ht] at h; exact h
theorem oc_52.mk {g : Lay} {a : Nat} {e : va_E} (ht : g.tg a = 52) (h : oc_52 g a e) : oc g a e := by unfold oc; rw [ht]; exact h
theorem oc_52.of {g : Lay} {a : Nat} {e : va_E} (ht : g.tg a = 52) (h : oc g a e) : oc_52 g a e := by unfold oc at h; rw [ht] at h; exact h
theorem oc_53.mk {g : Lay} {a : Nat} {e : va_E} (ht : g.tg a = 53) (h : oc_53 g a e) : oc g a e := by unfold oc; rw [ht]; exact h
theorem oc_53.of {g : Lay} {a : Nat} {e : va_E} (ht : g.tg a = 53) (h : oc g a e) : oc_53 g a e := by unfold oc at h; rw [ht] at h; exact h
theorem oc_54.mk {g : Lay} {a : Nat} {e : va_E} (ht : g.tg a = 54) (h : oc_54 g a e) : oc g a e := by unfold oc; rw [ht]; exact h
theorem oc_54.of {g : Lay} {a : Nat} {e : va_E} (ht : g.tg a = 54) (h : oc g a e) : oc_54 g a e := by unfold oc at h; rw [ht] at h; exact h
theorem oc_55.mk {g : Lay} {a : Nat} {e : va_E} (ht : g.tg a = 55) (h : oc_55 g a e) : oc g a e := by unfold oc; rw [ht]; exact h
theorem oc_55.of {g : Lay} {a : Nat} {e : va_E} (ht : g.tg a = 55) (h : oc g a e) : oc_55 g a e := by unfold oc at h; rw [ht] at h; exact h
theorem oc_56.mk {g : Lay} {a : Nat} {e : va_E} (ht : g.tg a = 56) (h : oc_56 g a e) : oc g a e := by unfold oc; rw [ht]; exact h
theorem oc_56.of {g : Lay} {a : Nat} {e : va_E} (ht : g.tg a = 56) (h : oc g a e) : oc_56 g a e := by unfold oc at h; rw [ht] at h; exact h
theorem oc_57.mk {g : Lay} {a : Nat} {e : va_E} (ht : g.tg a = 57) (h : oc_57 g a e) : oc g a e := by unfold oc; rw [ht]; exact h
theorem oc_57.of {g : Lay} {a : Nat} {e : va_E} (ht : g.tg a = 57) (h : oc g a e) : oc_57 g a e := by unfold oc at h; rw [ht] at h; exact h
theorem oc_58.mk {g : Lay} {a : Nat} {e : va_E} (ht : g.tg a = 58) (h : oc_58 g a e) : oc g a e := by unfold oc; rw [ht]; exact h
theorem oc_58.of {g : Lay} {a : Nat} {e : va_E} (ht : g.tg a = 58) (h : oc g a e) : oc_58 g a e := by unfold oc at h; rw [ht] at h; exact h
theorem oc_59.mk {g : Lay} {a : Nat} {e : va_E} (ht : g.tg a = 59) (h : oc_59 g a e) : oc g a e := by unfold oc; rw [ht]; exact h
theorem oc_59.of {g : Lay} {a : Nat} {e : va_E} (ht : g.tg a = 59) (h : oc g a e) : oc_59 g a e := by unfold oc at h; rw [ht] at h; exact h
theorem oc_60.mk {g : Lay} {a : Nat} {e : va_E} (ht : g.tg a = 60) (h : oc_60 g a e) : oc g a e := by unfold oc; rw [ht]; exact h
theorem oc_60.of {g : Lay} {a : Nat} {e : va_E} (ht : g.tg a = 60) (h : oc g a e) : oc_60 g a e := by unfold oc at h; rw [ht] at h; exact h
theorem oc_61.mk {g : Lay} {a : Nat} {e : va_E} (ht : g.tg a = 61) (h : oc_61 g a e) : oc g a e := by unfold oc; rw [ht]; exact h
theorem oc_61.of {g : Lay} {a : Nat} {e : va_E} (ht : g.tg a = 61) (h : oc g a e) : oc_61 g a e := by unfold oc at h; rw [ht] at h; exact h
theorem oc_62.mk {g : Lay} {a : Nat} {e : va_E} (ht : g.tg a = 62) (h : oc_62 g a e) : oc g a e := by unfold oc; rw [ht]; exact h
theorem oc_62.of {g : Lay} {a : Nat} {e : va_E} (ht : g.tg a = 62) (h : oc g a e) : oc_62 g a e := by unfold oc at h; rw [ht] at h; exact h
theorem oc_63.mk {g : Lay} {a : Nat} {e : va_E} (ht : g.tg a = 63) (h : oc_63 g a e) : oc g a e := by unfold oc; rw [ht]; exact h
theorem oc_63.of {g : Lay} {a : Nat} {e : va_E} (ht : g.tg a = 63) (h : oc g a e) : oc_63 g a e := by unfold oc at h; rw [ht] at h; exact h
theorem oc_64.mk {g : Lay} {a : Nat} {e : va_E} (ht : g.tg a = 64) (h : oc_64 g a e) : oc g a e := by unfold oc; rw [ht]; exact h
theorem oc_64.of {g : Lay} {a : Nat} {e : va_E} (ht : g.tg a = 64) (h : oc g a e) : oc_64 g a e := by unfold oc at h; rw [ht] at h; exact h
theorem oc_65.mk {g : Lay} {a : Nat} {e : va_E} (ht : g.tg a = 65) (h : oc_65 g a e) : oc g a e := by unfold oc; rw [ht]; exact h
theorem oc_65.of {g : Lay} {a : Nat} {e : va_E} (ht : g.tg a = 65) (h : oc g a e) : oc_65 g a e := by unfold oc at h; rw [ht] at h; exact h
theorem oc_66.mk {g : Lay} {a : Nat} {e : va_E} (ht : g.tg a = 66) (h : oc_66 g a e) : oc g a e := by unfold oc; rw [ht]; exact h
theorem oc_66.of {g : Lay} {a : Nat} {e : va_E} (ht : g.tg a = 66) (h : oc g a e) : oc_66 g a e := by unfold oc at h; rw [ht] at h; exact h
def LO (g : Lay) : Prop := (∀ a, g.tg a ≠ 0 → a ∈ g.LP) ∧ (∀ a, g.tg a = 1 → g.tg (g.lk a 0) = 20) ∧ (∀ a, g.tg a = 1 → g.tg (g.lk a 2) = 8) ∧ (∀ a, g.tg a = 1 → g.tg (g.lk a 3) = 9) ∧ (∀ a, g.tg a = 2 → g.tg (g.lk a 0) = 21) ∧ (∀ a, g.tg a = 4 → g.tg (g.lk a 0) = 22) ∧ (∀ a, g.tg a = 4 → g.tg (g.lk a 1) = 22) ∧ (∀ a, g.tg a = 5 → g.tg (g.lk a 2) = 23) ∧ (∀ a, g.tg a = 6 → g.tg (g.lk a 3) = 3) ∧ (∀ a, g.tg a = 6 → g.tg (g.lk a 6) = 5) ∧ (∀ a, g.tg a = 7 → g.tg (g.lk a 0) = 24) ∧ (∀ a, g.tg a = 7 → g.tg (g.lk a 2) = 25) ∧ (∀ a, g.tg a = 7 → g.tg (g.lk a 4) = 26) ∧ (∀ a, g.tg a = 7 → g.tg (g.lk a 5) = 3) ∧ (∀ a, g.tg a = 9 → g.tg (g.lk a 1) = 2) ∧ (∀ a, g.tg a = 9 → g.tg (g.lk a 3) = 27) ∧ (∀ a, g.tg a = 9 → g.tg (g.lk a 4) = 28) ∧ (∀ a, g.tg a = 9 → g.tg (g.lk a 5) = 5) ∧ (∀ a, g.tg a = 9 → g.tg (g.lk a 6) = 4) ∧ (∀ a, g.tg a = 9 → g.tg (g.lk a 7) = 29) ∧ (∀ a, g.tg a = 11 → g.tg (g.lk a 1) = 40) ∧ (∀ a, g.tg a = 11 → g.tg (g.lk a 3) = 41) ∧ (∀ a, g.tg a = 11 → g.tg (g.lk a 4) = 42) ∧ (∀ a, g.tg a = 11 → g.tg (g.lk a 6) = 43) ∧ (∀ a, g.tg a = 11 → g.tg (g.lk a 7) = 44) ∧ (∀ a, g.tg a = 11 → g.tg (g.lk a 8) = 45) ∧ (∀ a, g.tg a = 11 → g.tg (g.lk a 12) = 46) ∧ (∀ a, g.tg a = 11 → g.tg (g.lk a 14) = 47) ∧ (∀ a, g.tg a = 11 → g.tg (g.lk a 15) = 48) ∧ (∀ a, g.tg a = 11 → g.tg (g.lk a 17) = 49) ∧ (∀ a, g.tg a = 11 → g.tg (g.lk a 18) = 50) ∧ (∀ a, g.tg a = 11 → g.tg (g.lk a 19) = 51) ∧ (∀ a, g.tg a = 11 → g.tg (g.lk a 20) = 52) ∧ (∀ a, g.tg a = 11 → g.tg (g.lk a 21) = 53) ∧ (∀ a, g.tg a = 11 → g.tg (g.lk a 22) = 54) ∧ (∀ a, g.tg a = 11 → g.tg (g.lk a 23) = 55) ∧ (∀ a, g.tg a = 11 → g.tg (g.lk a 24) = 56) ∧ (∀ a, g.tg a = 11 → g.tg (g.lk a 25) = 57) ∧ (∀ a, g.tg a = 11 → g.tg (g.lk a 26) = 58) ∧ (∀ a, g.tg a = 11 → g.tg (g.lk a 27) = 59) ∧ (∀ a, g.tg a = 11 → g.tg (g.lk a 28) = 60) ∧ (∀ a, g.tg a = 11 → g.tg (g.lk a 29) = 61) ∧ (∀ a, g.tg a = 11 → g.tg (g.lk a 30) = 62) ∧ (∀ a, g.tg a = 11 → g.tg (g.lk a 31) = 63) ∧ (∀ a, g.tg a = 11 → g.tg (g.lk a 33) = 64) ∧ (∀ a, g.tg a = 11 → g.tg (g.lk a 34) = 65) ∧ (∀ a, g.tg a = 11 → g.tg (g.lk a 35) = 66) ∧ (∀ a, g.tg a = 20 → g.tys[g.tn a]? = some (g.ac a, .char)) ∧ (∀ a, g.tg a = 21 → g.tys[g.tn a]? = some (g.ac a, .int)) ∧ (∀ a, g.tg a = 22 → g.tys[g.tn a]? = some (g.ac a, .int)) ∧ (∀ a, g.tg a = 23 → g.tys[g.tn a]? = some (g.ac a, .int)) ∧ (∀ a, g.tg a = 24 → ∀ i, i < 36 → g.tg (g.lk a i) = 10) ∧ (∀ a, g.tg a = 24 → g.tys[g.tn a]? = some (g.ac a, .object "BigRunner$Statement")) ∧ (∀ a, g.tg a = 25 → ∀ i, i < 72 → g.tg (g.lk a i) = 6) ∧ (∀ a, g.tg a = 25 → g.tys[g.tn a]? = some (g.ac a, .object "BigRunner$Node")) ∧ (∀ a, g.tg a = 26 → ∀ i, i < 10 → g.tg (g.lk a i) = 3) ∧ (∀ a, g.tg a = 26 → g.tys[g.tn a]? = some (g.ac a, .object "BigRunner$Interval")) ∧ (∀ a, g.tg a = 27 → g.tys[g.tn a]? = some (g.ac a, .long)) ∧ (∀ a, g.tg a = 28 → ∀ i, i < 10 → g.tg (g.lk a i) = 5) ∧ (∀ a, g.tg a = 28 → g.tys[g.tn a]? = some (g.ac a, .object "BigRunner$LongNumber")) ∧ (∀ a, g.tg a = 29 → ∀ i, i < 12 → g.tg (g.lk a i) = 5) ∧ (∀ a, g.tg a = 29 → g.tys[g.tn a]? = some (g.ac a, .object "BigRunner$LongNumber")) ∧ (∀ a, g.tg a = 40 → g.tys[g.tn a]? = some (g.ac a, .char)) ∧ (∀ a, g.tg a = 41 → g.tys[g.tn a]? = some (g.ac a, .int)) ∧ (∀ a, g.tg a = 42 → g.tys[g.tn a]? = some (g.ac a, .int)) ∧ (∀ a, g.tg a = 43 → g.tys[g.tn a]? = some (g.ac a, .int)) ∧ (∀ a, g.tg a = 44 → g.tys[g.tn a]? = some (g.ac a, .int)) ∧ (∀ a, g.tg a = 45 → g.tys[g.tn a]? = some (g.ac a, .boolean)) ∧ (∀ a, g.tg a = 46 → g.tys[g.tn a]? = some (g.ac a, .char)) ∧ (∀ a, g.tg a = 47 → g.tys[g.tn a]? = some (g.ac a, .int)) ∧ (∀ a, g.tg a = 48 → g.tys[g.tn a]? = some (g.ac a, .int)) ∧ (∀ a, g.tg a = 49 → g.tys[g.tn a]? = some (g.ac a, .long)) ∧ (∀ a, g.tg a = 50 → g.tys[g.tn a]? = some (g.ac a, .long)) ∧ (∀ a, g.tg a = 51 → g.tys[g.tn a]? = some (g.ac a, .boolean)) ∧ (∀ a, g.tg a = 52 → g.tys[g.tn a]? = some (g.ac a, .boolean)) ∧ (∀ a, g.tg a = 53 → g.tys[g.tn a]? = some (g.ac a, .long)) ∧ (∀ a, g.tg a = 54 → g.tys[g.tn a]? = some (g.ac a, .long)) ∧ (∀ a, g.tg a = 55 → g.tys[g.tn a]? = some (g.ac a, .boolean)) ∧ (∀ a, g.tg a = 56 → g.tys[g.tn a]? = some (g.ac a, .boolean)) ∧ (∀ a, g.tg a = 57 → g.tys[g.tn a]? = some (g.ac a, .boolean)) ∧ (∀ a, g.tg a = 58 → g.tys[g.tn a]? = some (g.ac a, .int)) ∧ (∀ a, g.tg a = 59 → g.tys[g.tn a]? = some (g.ac a, .int)) ∧ (∀ a, g.tg a = 60 → g.tys[g.tn a]? = some (g.ac a, .int)) ∧ (∀ a, g.tg a = 61 → g.tys[g.tn a]? = some (g.ac a, .int)) ∧ (∀ a, g.tg a = 62 → g.tys[g.tn a]? = some (g.ac a, .int)) ∧ (∀ a, g.tg a = 63 → g.tys[g.tn a]? = some (g.ac a, .int)) ∧ (∀ a, g.tg a = 64 → g.tys[g.tn a]? = some (g.ac a, .int)) ∧ (∀ a, g.tg a = 65 → g.tys[g.tn a]? = some (g.ac a, .int)) ∧ (∀ a, g.tg a = 66 → g.tys[g.tn a]? = some (g.ac a, .int)) ∧ (∀ a b, g.tg a = 5 → g.tg b = 5 → g.lk a 2 = g.lk b 2 → a = b) ∧ (∀ a b, g.tg a = 7 → g.tg b = 7 → g.lk a 0 = g.lk b 0 → a = b) ∧ (∀ a b i j, g.tg a = 24 → g.tg b = 24 → i < 36 → j < 36 → g.lk a i = g.lk b j → a = b ∧ i = j) ∧ (∀ a, g.tg a = 4 → g.lk a 0 ≠ g.lk a 1) ∧ (∀ a, g.tg a = 25 → ∀ i, i < 72 → g.tn (g.lk a i) = i) ∧ (∀ a, g.tg a = 6 → g.tn (g.lk a 6) = g.tn a) ∧ (∀ a, g.tg a = 28 → ∀ i, i < 10 → g.tn (g.lk a i) = 100 + i) ∧ (∀ a, g.tg a = 29 → ∀ i, i < 12 → g.tn (g.lk a i) = 120 + i) ∧ (∀ a, g.tg a = 9 → g.tn (g.lk a 5) = 140) ∧ (∀ a, g.tg a = 26 → ∀ i, i < 10 → g.tn (g.lk a i) = 100 + i) ∧ (∀ a, g.tg a = 6 → g.tn (g.lk a 3) = g.tn a) ∧ (∀ a, g.tg a = 7 → g.tn (g.lk a 5) = 120) ∧ (∀ a b, g.tg a = 7 → g.tg b = 7 → g.lk a 2 = g.lk b 2 → a = b) ∧ (∀ a b i j, g.tg a = 25 → g.tg b = 25 → i < 72 → j < 72 → g.lk a i = g.lk b j → a = b ∧ i = j)
theorem lo_mem {g : Lay} (h : LO g) : ∀ a, g.tg a ≠ 0 → a ∈ g.LP := h.1
theorem lo_k1_0 {g : Lay} (h : LO g) : ∀ a, g.tg a = 1 → g.tg (g.lk a 0) = 20 := h.2.1
theorem lo_k1_2 {g : Lay} (h : LO g) : ∀ a, g.tg a = 1 → g.tg (g.lk a 2) = 8 := h.2.2.1
theorem lo_k1_3 {g : Lay} (h : LO g) : ∀ a, g.tg a = 1 → g.tg (g.lk a 3) = 9 := h.2.2.2.1
theorem lo_k2_0 {g : Lay} (h : LO g) : ∀ a, g.tg a = 2 → g.tg (g.lk a 0) = 21 := h.2.2.2.2.1
theorem lo_k4_0 {g : Lay} (h : LO g) : ∀ a, g.tg a = 4 → g.tg (g.lk a 0) = 22 := h.2.2.2.2.2.1
theorem lo_k4_1 {g : Lay} (h : LO g) : ∀ a, g.tg a = 4 → g.tg (g.lk a 1) = 22 := h.2.2.2.2.2.2.1
theorem lo_k5_2 {g : Lay} (h : LO g) : ∀ a, g.tg a = 5 → g.tg (g.lk a 2) = 23 := h.2.2.2.2.2.2.2.1
theorem lo_k6_3 {g : Lay} (h : LO g) : ∀ a, g.tg a = 6 → g.tg (g.lk a 3) = 3 := h.2.2.2.2.2.2.2.2.1
theorem lo_k6_6 {g : Lay} (h : LO g) : ∀ a, g.tg a = 6 → g.tg (g.lk a 6) = 5 := h.2.2.2.2.2.2.2.2.2.1
theorem lo_k7_0 {g : Lay} (h : LO g) : ∀ a, g.tg a = 7 → g.tg (g.lk a 0) = 24 := h.2.2.2.2.2.2.2.2.2.2.1
theorem lo_k7_2 {g : Lay} (h : LO g) : ∀ a, g.tg a = 7 → g.tg (g.lk a 2) = 25 := h.2.2.2.2.2.2.2.2.2.2.2.1
theorem lo_k7_4 {g : Lay} (h : LO g) : ∀ a, g.tg a = 7 → g.tg (g.lk a 4) = 26 := h.2.2.2.2.2.2.2.2.2.2.2.2.1
theorem lo_k7_5 {g : Lay} (h : LO g) : ∀ a, g.tg a = 7 → g.tg (g.lk a 5) = 3 := h.2.2.2.2.2.2.2.2.2.2.2.2.2.1
theorem lo_k9_1 {g : Lay} (h : LO g) : ∀ a, g.tg a = 9 → g.tg (g.lk a 1) = 2 := h.2.2.2.2.2.2.2.2.2.2.2.2.2.2.1
theorem lo_k9_3 {g : Lay} (h : LO g) : ∀ a, g.tg a = 9 → g.tg (g.lk a 3) = 27 := h.2.2.2.2.2.2.2.2.2.2.2.2.2.2.2.1
theorem lo_k9_4 {g : Lay} (h : LO g) : ∀ a, g.tg a = 9 → g.tg (g.lk a 4) = 28 := h.2.2.2.2.2.2.2.2.2.2.2.2.2.2.2.2.1
theorem lo_k9_5 {g : Lay} (h : LO g) : ∀ a, g.tg a = 9 → g.tg (g.lk a 5) = 5 := h.2.2.2.2.2.2.2.2.2.2.2.2.2.2.2.2.2.1
theorem lo_k9_6 {g : Lay} (h : LO g) : ∀ a, g.tg a = 9 → g.tg (g.lk a 6) = 4 := h.2.2.2.2.2.2.2.2.2.2.2.2.2.2.2.2.2.2.1
theorem lo_k9_7 {g : Lay} (h : LO g) : ∀ a, g.tg a = 9 → g.tg (g.lk a 7) = 29 := h.2.2.2.2.2.2.2.2.2.2.2.2.2.2.2.2.2.2.2.1
theorem lo_k11_1 {g : Lay} (h : LO g) : ∀ a, g.tg a = 11 → g.tg (g.lk a 1) = 40 := h.2.2.2.2.2.2.2.2.2.2.2.2.2.2.2.2.2.2.2.2.1
theorem lo_k11_3 {g : Lay} (h : LO g) : ∀ a, g.tg a = 11 → g.tg (g.lk a 3) = 41 := h.2.2.2.2.2.2.2.2.2.2.2.2.2.2.2.2.2.2.2.2.2.1
theorem lo_k11_4 {g : Lay} (h : LO g) : ∀ a, g.tg a = 11 → g.tg (g.lk a 4) = 42 := h.2.2.2.2.2.2.2.2.2.2.2.2.2.2.2.2.2.2.2.2.2.2.1
theorem lo_k11_6 {g : Lay} (h : LO g) : ∀ a, g.tg a = 11 → g.tg (g.lk a 6) = 43 := h.2.2.2.2.2.2.2.2.2.2.2.2.2.2.2.2.2.2.2.2.2.2.2.1
theorem lo_k11_7 {g : Lay} (h : LO g) : ∀ a, g.tg a = 11 → g.tg (g.lk a 7) = 44 := h.2.2.2.2.2.2.2.2.2.2.2.2.2.2.2.2.2.2.2.2.2.2.2.2.1
theorem lo_k11_8 {g : Lay} (h : LO g) : ∀ a, g.tg a = 11 → g.tg (g.lk a 8) = 45 := h.2.2.2.2.2.2.2.2.2.2.2.2.2.2.2.2.2.2.2.2.2.2.2.2.2.1
theorem lo_k11_12 {g : Lay} (h : LO g) : ∀ a, g.tg a = 11 → g.tg (g.lk a 12) = 46 := h.2.2.2.2.2.2.2.2.2.2.2.2.2.2.2.2.2.2.2.2.2.2.2.2.2.2.1
theorem lo_k11_14 {g : Lay} (h : LO g) : ∀ a, g.tg a = 11 → g.tg (g.lk a 14) = 47 := h.2.2.2.2.2.2.2.2.2.2.2.2.2.2.2.2.2.2.2.2.2.2.2.2.2.2.2.1
theorem lo_k11_15 {g : Lay} (h : LO g) : ∀ a, g.tg a = 11 → g.tg (g.lk a 15) = 48 := h.2.2.2.2.2.2.2.2.2.2.2.2.2.2.2.2.2.2.2.2.2.2.2.2.2.2.2.2.1
theorem lo_k11_17 {g : Lay} (h : LO g) : ∀ a, g.tg a = 11 → g.tg (g.lk a 17) = 49 := h.2.2.2.2.2.2.2.2.2.2.2.2.2.2.2.2.2.2.2.2.2.2.2.2.2.2.2.2.2.1
theorem lo_k11_18 {g : Lay} (h : LO g) : ∀ a, g.tg a = 11 → g.tg (g.lk a 18) = 50 := h.2.2.2.2.2.2.2.2.2.2.2.2.2.2.2.2.2.2.2.2.2.2.2.2.2.2.2.2.2.2.1
theorem lo_k11_19 {g : Lay} (h : LO g) : ∀ a, g.tg a = 11 → g.tg (g.lk a 19) = 51 := h.2.2.2.2.2.2.2.2.2.2.2.2.2.2.2.2.2.2.2.2.2.2.2.2.2.2.2.2.2.2.2.1
theorem lo_k11_20 {g : Lay} (h : LO g) : ∀ a, g.tg a = 11 → g.tg (g.lk a 20) = 52 := h.2.2.2.2.2.2.2.2.2.2.2.2.2.2.2.2.2.2.2.2.2.2.2.2.2.2.2.2.2.2.2.2.1
theorem lo_k11_21 {g : Lay} (h : LO g) : ∀ a, g.tg a = 11 → g.tg (g.lk a 21) = 53 := h.2.2.2.2.2.2.2.2.2.2.2.2.2.2.2.2.2.2.2.2.2.2.2.2.2.2.2.2.2.2.2.2.2.1
theorem lo_k11_22 {g : Lay} (h : LO g) : ∀ a, g.tg a = 11 → g.tg (g.lk a 22) = 54 := h.2.2.2.2.2.2.2.2.2.2.2.2.2.2.2.2.2.2.2.2.2.2.2.2.2.2.2.2.2.2.2.2.2.2.1
theorem lo_k11_23 {g : Lay} (h : LO g) : ∀ a, g.tg a = 11 → g.tg (g.lk a 23) = 55 := h.2.2.2.2.2.2.2.2.2.2.2.2.2.2.2.2.2.2.2.2.2.2.2.2.2.2.2.2.2.2.2.2.2.2.2.1
theorem lo_k11_24 {g : Lay} (h : LO g) : ∀ a, g.tg a = 11 → g.tg (g.lk a 24) = 56 := h.2.2.2.2.2.2.2.2.2.2.2.2.2.2.2.2.2.2.2.2.2.2.2.2.2.2.2.2.2.2.2.2.2.2.2.2.1
theorem lo_k11_25 {g : Lay} (h : LO g) : ∀ a, g.tg a = 11 → g.tg (g.lk a 25) = 57 := h.2.2.2.2.2.2.2.2.2.2.2.2.2.2.2.2.2.2.2.2.2.2.2.2.2.2.2.2.2.2.2.2.2.2.2.2.2.1
theorem lo_k11_26 {g : Lay} (h : LO g) : ∀ a, g.tg a = 11 → g.tg (g.lk a 26) = 58 := h.2.2.2.2.2.2.2.2.2.2.2.2.2.2.2.2.2.2.2.2.2.2.2.2.2.2.2.2.2.2.2.2.2.2.2.2.2.2.1
theorem lo_k11_27 {g : Lay} (h : LO g) : ∀ a, g.tg a = 11 → g.tg (g.lk a 27) = 59 := h.2.2.2.2.2.2.2.2.2.2.2.2.2.2.2.2.2.2.2.2.2.2.2.2.2.2.2.2.2.2.2.2.2.2.2.2.2.2.2.1
theorem lo_k11_28 {g : Lay} (h : LO g) : ∀ a, g.tg a = 11 → g.tg (g.lk a 28) = 60 := h.2.2.2.2.2.2.2.2.2.2.2.2.2.2.2.2.2.2.2.2.2.2.2.2.2.2.2.2.2.2.2.2.2.2.2.2.2.2.2.2.1
theorem lo_k11_29 {g : Lay} (h : LO g) : ∀ a, g.tg a = 11 → g.tg (g.lk a 29) = 61 := h.2.2.2.2.2.2.2.2.2.2.2.2.2.2.2.2.2.2.2.2.2.2.2.2.2.2.2.2.2.2.2.2.2.2.2.2.2.2.2.2.2.1
theorem lo_k11_30 {g : Lay} (h : LO g) : ∀ a, g.tg a = 11 → g.tg (g.lk a 30) = 62 := h.2.2.2.2.2.2.2.2.2.2.2.2.2.2.2.2.2.2.2.2.2.2.2.2.2.2.2.2.2.2.2.2.2.2.2.2.2.2.2.2.2.2.1
theorem lo_k11_31 {g : Lay} (h : LO g) : ∀ a, g.tg a = 11 → g.tg (g.lk a 31) = 63 := h.2.2.2.2.2.2.2.2.2.2.2.2.2.2.2.2.2.2.2.2.2.2.2.2.2.2.2.2.2.2.2.2.2.2.2.2.2.2.2.2.2.2.2.1
theorem lo_k11_33 {g : Lay} (h : LO g) : ∀ a, g.tg a = 11 → g.tg (g.lk a 33) = 64 := h.2.2.2.2.2.2.2.2.2.2.2.2.2.2.2.2.2.2.2.2.2.2.2.2.2.2.2.2.2.2.2.2.2.2.2.2.2.2.2.2.2.2.2.2.1
theorem lo_k11_34 {g : Lay} (h : LO g) : ∀ a, g.tg a = 11 → g.tg (g.lk a 34) = 65 := h.2.2.2.2.2.2.2.2.2.2.2.2.2.2.2.2.2.2.2.2.2.2.2.2.2.2.2.2.2.2.2.2.2.2.2.2.2.2.2.2.2.2.2.2.2.1
theorem lo_k11_35 {g : Lay} (h : LO g) : ∀ a, g.tg a = 11 → g.tg (g.lk a 35) = 66 := h.2.2.2.2.2.2.2.2.2.2.2.2.2.2.2.2.2.2.2.2.2.2.2.2.2.2.2.2.2.2.2.2.2.2.2.2.2.2.2.2.2.2.2.2.2.2.1
theorem lo_t20 {g : Lay} (h : LO g) : ∀ a, g.tg a = 20 → g.tys[g.tn a]? = some (g.ac a, .char) := h.2.2.2.2.2.2.2.2.2.2.2.2.2.2.2.2.2.2.2.2.2.2.2.2.2.2.2.2.2.2.2.2.2.2.2.2.2.2.2.2.2.2.2.2.2.2.2.1
theorem lo_t21 {g : Lay} (h : LO g) : ∀ a, g.tg a = 21 → g.tys[g.tn a]? = some (g.ac a, .int) := h.2.2.2.2.2.2.2.2.2.2.2.2.2.2.2.2.2.2.2.2.2.2.2.2.2.2.2.2.2.2.2.2.2.2.2.2.2.2.2.2.2.2.2.2.2.2.2.2.1
theorem lo_t22 {g : Lay} (h : LO g) : ∀ a, g.tg a = 22 → g.tys[g.tn a]? = some (g.ac a, .int) := h.2.2.2.2.2.2.2.2.2.2.2.2.2.2.2.2.2.2.2.2.2.2.2.2.2.2.2.2.2.2.2.2.2.2.2.2.2.2.2.2.2.2.2.2.2.2.2.2.2.1
theorem lo_t23 {g : Lay} (h : LO g) : ∀ a, g.tg a = 23 → g.tys[g.tn a]? = some (g.ac a, .int) := h.2.2.2.2.2.2.2.2.2.2.2.2.2.2.2.2.2.2.2.2.2.2.2.2.2.2.2.2.2.2.2.2.2.2.2.2.2.2.2.2.2.2.2.2.2.2.2.2.2.2.1
theorem lo_e24 {g : Lay} (h : LO g) : ∀ a, g.tg a = 24 → ∀ i, i < 36 → g.tg (g.lk a i) = 10 := h.2.2.2.2.2.2.2.2.2.2.2.2.2.2.2.2.2.2.2.2.2.2.2.2.2.2.2.2.2.2.2.2.2.2.2.2.2.2.2.2.2.2.2.2.2.2.2.2.2.2.2.1
theorem lo_t24 {g : Lay} (h : LO g) : ∀ a, g.tg a = 24 → g.tys[g.tn a]? = some (g.ac a, .object "BigRunner$Statement") := h.2.2.2.2.2.2.2.2.2.2.2.2.2.2.2.2.2.2.2.2.2.2.2.2.2.2.2.2.2.2.2.2.2.2.2.2.2.2.2.2.2.2.2.2.2.2.2.2.2.2.2.2.1
theorem lo_e25 {g : Lay} (h : LO g) : ∀ a, g.tg a = 25 → ∀ i, i < 72 → g.tg (g.lk a i) = 6 := h.2.2.2.2.2.2.2.2.2.2.2.2.2.2.2.2.2.2.2.2.2.2.2.2.2.2.2.2.2.2.2.2.2.2.2.2.2.2.2.2.2.2.2.2.2.2.2.2.2.2.2.2.2.1
theorem lo_t25 {g : Lay} (h : LO g) : ∀ a, g.tg a = 25 → g.tys[g.tn a]? = some (g.ac a, .object "BigRunner$Node") := h.2.2.2.2.2.2.2.2.2.2.2.2.2.2.2.2.2.2.2.2.2.2.2.2.2.2.2.2.2.2.2.2.2.2.2.2.2.2.2.2.2.2.2.2.2.2.2.2.2.2.2.2.2.2.1
theorem lo_e26 {g : Lay} (h : LO g) : ∀ a, g.tg a = 26 → ∀ i, i < 10 → g.tg (g.lk a i) = 3 := h.2.2.2.2.2.2.2.2.2.2.2.2.2.2.2.2.2.2.2.2.2.2.2.2.2.2.2.2.2.2.2.2.2.2.2.2.2.2.2.2.2.2.2.2.2.2.2.2.2.2.2.2.2.2.2.1
theorem lo_t26 {g : Lay} (h : LO g) : ∀ a, g.tg a = 26 → g.tys[g.tn a]? = some (g.ac a, .object "BigRunner$Interval") := h.2.2.2.2.2.2.2.2.2.2.2.2.2.2.2.2.2.2.2.2.2.2.2.2.2.2.2.2.2.2.2.2.2.2.2.2.2.2.2.2.2.2.2.2.2.2.2.2.2.2.2.2.2.2.2.2.1
theorem lo_t27 {g : Lay} (h : LO g) : ∀ a, g.tg a = 27 → g.tys[g.tn a]? = some (g.ac a, .long) := h.2.2.2.2.2.2.2.2.2.2.2.2.2.2.2.2.2.2.2.2.2.2.2.2.2.2.2.2.2.2.2.2.2.2.2.2.2.2.2.2.2.2.2.2.2.2.2.2.2.2.2.2.2.2.2.2.2.1
theorem lo_e28 {g : Lay} (h : LO g) : ∀ a, g.tg a = 28 → ∀ i, i < 10 → g.tg (g.lk a i) = 5 := h.2.2.2.2.2.2.2.2.2.2.2.2.2.2.2.2.2.2.2.2.2.2.2.2.2.2.2.2.2.2.2.2.2.2.2.2.2.2.2.2.2.2.2.2.2.2.2.2.2.2.2.2.2.2.2.2.2.2.1
theorem lo_t28 {g : Lay} (h : LO g) : ∀ a, g.tg a = 28 → g.tys[g.tn a]? = some (g.ac a, .object "BigRunner$LongNumber") := h.2.2.2.2.2.2.2.2.2.2.2.2.2.2.2.2.2.2.2.2.2.2.2.2.2.2.2.2.2.2.2.2.2.2.2.2.2.2.2.2.2.2.2.2.2.2.2.2.2.2.2.2.2.2.2.2.2.2.2.1
theorem lo_e29 {g : Lay} (h : LO g) : ∀ a, g.tg a = 29 → ∀ i, i < 12 → g.tg (g.lk a i) = 5 := h.2.2.2.2.2.2.2.2.2.2.2.2.2.2.2.2.2.2.2.2.2.2.2.2.2.2.2.2.2.2.2.2.2.2.2.2.2.2.2.2.2.2.2.2.2.2.2.2.2.2.2.2.2.2.2.2.2.2.2.2.1
theorem lo_t29 {g : Lay} (h : LO g) : ∀ a, g.tg a = 29 → g.tys[g.tn a]? = some (g.ac a, .object "BigRunner$LongNumber") := h.2.2.2.2.2.2.2.2.2.2.2.2.2.2.2.2.2.2.2.2.2.2.2.2.2.2.2.2.2.2.2.2.2.2.2.2.2.2.2.2.2.2.2.2.2.2.2.2.2.2.2.2.2.2.2.2.2.2.2.2.2.1
theorem lo_t40 {g : Lay} (h : LO g) : ∀ a, g.tg a = 40 → g.tys[g.tn a]? = some (g.ac a, .char) := h.2.2.2.2.2.2.2.2.2.2.2.2.2.2.2.2.2.2.2.2.2.2.2.2.2.2.2.2.2.2.2.2.2.2.2.2.2.2.2.2.2.2.2.2.2.2.2.2.2.2.2.2.2.2.2.2.2.2.2.2.2.2.1
theorem lo_t41 {g : Lay} (h : LO g) : ∀ a, g.tg a = 41 → g.tys[g.tn a]? = some (g.ac a, .int) := h.2.2.2.2.2.2.2.2.2.2.2.2.2.2.2.2.2.2.2.2.2.2.2.2.2.2.2.2.2.2.2.2.2.2.2.2.2.2.2.2.2.2.2.2.2.2.2.2.2.2.2.2.2.2.2.2.2.2.2.2.2.2.2.1
theorem lo_t42 {g : Lay} (h : LO g) : ∀ a, g.tg a = 42 → g.tys[g.tn a]? = some (g.ac a, .int) := h.2.2.2.2.2.2.2.2.2.2.2.2.2.2.2.2.2.2.2.2.2.2.2.2.2.2.2.2.2.2.2.2.2.2.2.2.2.2.2.2.2.2.2.2.2.2.2.2.2.2.2.2.2.2.2.2.2.2.2.2.2.2.2.2.1
theorem lo_t43 {g : Lay} (h : LO g) : ∀ a, g.tg a = 43 → g.tys[g.tn a]? = some (g.ac a, .int) := h.2.2.2.2.2.2.2.2.2.2.2.2.2.2.2.2.2.2.2.2.2.2.2.2.2.2.2.2.2.2.2.2.2.2.2.2.2.2.2.2.2.2.2.2.2.2.2.2.2.2.2.2.2.2.2.2.2.2.2.2.2.2.2.2.2.1
theorem lo_t44 {g : Lay} (h : LO g) : ∀ a, g.tg a = 44 → g.tys[g.tn a]? = some (g.ac a, .int) := h.2.2.2.2.2.2.2.2.2.2.2.2.2.2.2.2.2.2.2.2.2.2.2.2.2.2.2.2.2.2.2.2.2.2.2.2.2.2.2.2.2.2.2.2.2.2.2.2.2.2.2.2.2.2.2.2.2.2.2.2.2.2.2.2.2.2.1
theorem lo_t45 {g : Lay} (h : LO g) : ∀ a, g.tg a = 45 → g.tys[g.tn a]? = some (g.ac a, .boolean) := h.2.2.2.2.2.2.2.2.2.2.2.2.2.2.2.2.2.2.2.2.2.2.2.2.2.2.2.2.2.2.2.2.2.2.2.2.2.2.2.2.2.2.2.2.2.2.2.2.2.2.2.2.2.2.2.2.2.2.2.2.2.2.2.2.2.2.2.1
theorem lo_t46 {g : Lay} (h : LO g) : ∀ a, g.tg a = 46 → g.tys[g.tn a]? = some (g.ac a, .char) := h.2.2.2.2.2.2.2.2.2.2.2.2.2.2.2.2.2.2.2.2.2.2.2.2.2.2.2.2.2.2.2.2.2.2.2.2.2.2.2.2.2.2.2.2.2.2.2.2.2.2.2.2.2.2.2.2.2.2.2.2.2.2.2.2.2.2.2.2.1
theorem lo_t47 {g : Lay} (h : LO g) : ∀ a, g.tg a = 47 → g.tys[g.tn a]? = some (g.ac a, .int) := h.2.2.2.2.2.2.2.2.2.2.2.2.2.2.2.2.2.2.2.2.2.2.2.2.2.2.2.2.2.2.2.2.2.2.2.2.2.2.2.2.2.2.2.2.2.2.2.2.2.2.2.2.2.2.2.2.2.2.2.2.2.2.2.2.2.2.2.2.2.1
theorem lo_t48 {g : Lay} (h : LO g) : ∀ a, g.tg a = 48 → g.tys[g.tn a]? = some (g.ac a, .int) := h.2.2.2.2.2.2.2.2.2.2.2.2.2.2.2.2.2.2.2.2.2.2.2.2.2.2.2.2.2.2.2.2.2.2.2.2.2.2.2.2.2.2.2.2.2.2.2.2.2.2.2.2.2.2.2.2.2.2.2.2.2.2.2.2.2.2.2.2.2.2.1
theorem lo_t49 {g : Lay} (h : LO g) : ∀ a, g.tg a = 49 → g.tys[g.tn a]? = some (g.ac a, .long) := h.2.2.2.2.2.2.2.2.2.2.2.2.2.2.2.2.2.2.2.2.2.2.2.2.2.2.2.2.2.2.2.2.2.2.2.2.2.2.2.2.2.2.2.2.2.2.2.2.2.2.2.2.2.2.2.2.2.2.2.2.2.2.2.2.2.2.2.2.2.2.2.1
theorem lo_t50 {g : Lay} (h : LO g) : ∀ a, g.tg a = 50 → g.tys[g.tn a]? = some (g.ac a, .long) := h.2.2.2.2.2.2.2.2.2.2.2.2.2.2.2.2.2.2.2.2.2.2.2.2.2.2.2.2.2.2.2.2.2.2.2.2.2.2.2.2.2.2.2.2.2.2.2.2.2.2.2.2.2.2.2.2.2.2.2.2.2.2.2.2.2.2.2.2.2.2.2.2.1
theorem lo_t51 {g : Lay} (h : LO g) : ∀ a, g.tg a = 51 → g.tys[g.tn a]? = some (g.ac a, .boolean) := h.2.2.2.2.2.2.2.2.2.2.2.2.2.2.2.2.2.2.2.2.2.2.2.2.2.2.2.2.2.2.2.2.2.2.2.2.2.2.2.2.2.2.2.2.2.2.2.2.2.2.2.2.2.2.2.2.2.2.2.2.2.2.2.2.2.2.2.2.2.2.2.2.2.1
theorem lo_t52 {g : Lay} (h : LO g) : ∀ a, g.tg a = 52 → g.tys[g.tn a]? = some (g.ac a, .boolean) := h.2.2.2.2.2.2.2.2.2.2.2.2.2.2.2.2.2.2.2.2.2.2.2.2.2.2.2.2.2.2.2.2.2.2.2.2.2.2.2.2.2.2.2.2.2.2.2.2.2.2.2.2.2.2.2.2.2.2.2.2.2.2.2.2.2.2.2.2.2.2.2.2.2.2.1
theorem lo_t53 {g : Lay} (h : LO g) : ∀ a, g.tg a = 53 → g.tys[g.tn a]? = some (g.ac a, .long) := h.2.2.2.2.2.2.2.2.2.2.2.2.2.2.2.2.2.2.2.2.2.2.2.2.2.2.2.2.2.2.2.2.2.2.2.2.2.2.2.2.2.2.2.2.2.2.2.2.2.2.2.2.2.2.2.2.2.2.2.2.2.2.2.2.2.2.2.2.2.2.2.2.2.2.2.1
theorem lo_t54 {g : Lay} (h : LO g) : ∀ a, g.tg a = 54 → g.tys[g.tn a]? = some (g.ac a, .long) := h.2.2.2.2.2.2.2.2.2.2.2.2.2.2.2.2.2.2.2.2.2.2.2.2.2.2.2.2.2.2.2.2.2.2.2.2.2.2.2.2.2.2.2.2.2.2.2.2.2.2.2.2.2.2.2.2.2.2.2.2.2.2.2.2.2.2.2.2.2.2.2.2.2.2.2.2.1
theorem lo_t55 {g : Lay} (h : LO g) : ∀ a, g.tg a = 55 → g.tys[g.tn a]? = some (g.ac a, .boolean) := h.2.2.2.2.2.2.2.2.2.2.2.2.2.2.2.2.2.2.2.2.2.2.2.2.2.2.2.2.2.2.2.2.2.2.2.2.2.2.2.2.2.2.2.2.2.2.2.2.2.2.2.2.2.2.2.2.2.2.2.2.2.2.2.2.2.2.2.2.2.2.2.2.2.2.2.2.2.1
theorem lo_t56 {g : Lay} (h : LO g) : ∀ a, g.tg a = 56 → g.tys[g.tn a]? = some (g.ac a, .boolean) := h.2.2.2.2.2.2.2.2.2.2.2.2.2.2.2.2.2.2.2.2.2.2.2.2.2.2.2.2.2.2.2.2.2.2.2.2.2.2.2.2.2.2.2.2.2.2.2.2.2.2.2.2.2.2.2.2.2.2.2.2.2.2.2.2.2.2.2.2.2.2.2.2.2.2.2.2.2.2.1
theorem lo_t57 {g : Lay} (h : LO g) : ∀ a, g.tg a = 57 → g.tys[g.tn a]? = some (g.ac a, .boolean) := h.2.2.2.2.2.2.2.2.2.2.2.2.2.2.2.2.2.2.2.2.2.2.2.2.2.2.2.2.2.2.2.2.2.2.2.2.2.2.2.2.2.2.2.2.2.2.2.2.2.2.2.2.2.2.2.2.2.2.2.2.2.2.2.2.2.2.2.2.2.2.2.2.2.2.2.2.2.2.2.1
theorem lo_t58 {g : Lay} (h : LO g) : ∀ a, g.tg a = 58 → g.tys[g.tn a]? = some (g.ac a, .int) := h.2.2.2.2.2.2.2.2.2.2.2.2.2.2.2.2.2.2.2.2.2.2.2.2.2.2.2.2.2.2.2.2.2.2.2.2.2.2.2.2.2.2.2.2.2.2.2.2.2.2.2.2.2.2.2.2.2.2.2.2.2.2.2.2.2.2.2.2.2.2.2.2.2.2.2.2.2.2.2.2.1
theorem lo_t59 {g : Lay} (h : LO g) : ∀ a, g.tg a = 59 → g.tys[g.tn a]? = some (g.ac a, .int) := h.2.2.2.2.2.2.2.2.2.2.2.2.2.2.2.2.2.2.2.2.2.2.2.2.2.2.2.2.2.2.2.2.2.2.2.2.2.2.2.2.2.2.2.2.2.2.2.2.2.2.2.2.2.2.2.2.2.2.2.2.2.2.2.2.2.2.2.2.2.2.2.2.2.2.2.2.2.2.2.2.2.1
theorem lo_t60 {g : Lay} (h : LO g) : ∀ a, g.tg a = 60 → g.tys[g.tn a]? = some (g.ac a, .int) := h.2.2.2.2.2.2.2.2.2.2.2.2.2.2.2.2.2.2.2.2.2.2.2.2.2.2.2.2.2.2.2.2.2.2.2.2.2.2.2.2.2.2.2.2.2.2.2.2.2.2.2.2.2.2.2.2.2.2.2.2.2.2.2.2.2.2.2.2.2.2.2.2.2.2.2.2.2.2.2.2.2.2.1
theorem lo_t61 {g : Lay} (h : LO g) : ∀ a, g.tg a = 61 → g.tys[g.tn a]? = some (g.ac a, .int) := h.2.2.2.2.2.2.2.2.2.2.2.2.2.2.2.2.2.2.2.2.2.2.2.2.2.2.2.2.2.2.2.2.2.2.2.2.2.2.2.2.2.2.2.2.2.2.2.2.2.2.2.2.2.2.2.2.2.2.2.2.2.2.2.2.2.2.2.2.2.2.2.2.2.2.2.2.2.2.2.2.2.2.2.1
theorem lo_t62 {g : Lay} (h : LO g) : ∀ a, g.tg a = 62 → g.tys[g.tn a]? = some (g.ac a, .int) := h.2.2.2.2.2.2.2.2.2.2.2.2.2.2.2.2.2.2.2.2.2.2.2.2.2.2.2.2.2.2.2.2.2.2.2.2.2.2.2.2.2.2.2.2.2.2.2.2.2.2.2.2.2.2.2.2.2.2.2.2.2.2.2.2.2.2.2.2.2.2.2.2.2.2.2.2.2.2.2.2.2.2.2.2.1
theorem lo_t63 {g : Lay} (h : LO g) : ∀ a, g.tg a = 63 → g.tys[g.tn a]? = some (g.ac a, .int) := h.2.2.2.2.2.2.2.2.2.2.2.2.2.2.2.2.2.2.2.2.2.2.2.2.2.2.2.2.2.2.2.2.2.2.2.2.2.2.2.2.2.2.2.2.2.2.2.2.2.2.2.2.2.2.2.2.2.2.2.2.2.2.2.2.2.2.2.2.2.2.2.2.2.2.2.2.2.2.2.2.2.2.2.2.2.1
theorem lo_t64 {g : Lay} (h : LO g) : ∀ a, g.tg a = 64 → g.tys[g.tn a]? = some (g.ac a, .int) := h.2.2.2.2.2.2.2.2.2.2.2.2.2.2.2.2.2.2.2.2.2.2.2.2.2.2.2.2.2.2.2.2.2.2.2.2.2.2.2.2.2.2.2.2.2.2.2.2.2.2.2.2.2.2.2.2.2.2.2.2.2.2.2.2.2.2.2.2.2.2.2.2.2.2.2.2.2.2.2.2.2.2.2.2.2.2.1
theorem lo_t65 {g : Lay} (h : LO g) : ∀ a, g.tg a = 65 → g.tys[g.tn a]? = some (g.ac a, .int) := h.2.2.2.2.2.2.2.2.2.2.2.2.2.2.2.2.2.2.2.2.2.2.2.2.2.2.2.2.2.2.2.2.2.2.2.2.2.2.2.2.2.2.2.2.2.2.2.2.2.2.2.2.2.2.2.2.2.2.2.2.2.2.2.2.2.2.2.2.2.2.2.2.2.2.2.2.2.2.2.2.2.2.2.2.2.2.2.1
theorem lo_t66 {g : Lay} (h : LO g) : ∀ a, g.tg a = 66 → g.tys[g.tn a]? = some (g.ac a, .int) := h.2.2.2.2.2.2.2.2.2.2.2.2.2.2.2.2.2.2.2.2.2.2.2.2.2.2.2.2.2.2.2.2.2.2.2.2.2.2.2.2.2.2.2.2.2.2.2.2.2.2.2.2.2.2.2.2.2.2.2.2.2.2.2.2.2.2.2.2.2.2.2.2.2.2.2.2.2.2.2.2.2.2.2.2.2.2.2.2.1
theorem lo_inj5 {g : Lay} (h : LO g) : ∀ a b, g.tg a = 5 → g.tg b = 5 → g.lk a 2 = g.lk b 2 → a = b := h.2.2.2.2.2.2.2.2.2.2.2.2.2.2.2.2.2.2.2.2.2.2.2.2.2.2.2.2.2.2.2.2.2.2.2.2.2.2.2.2.2.2.2.2.2.2.2.2.2.2.2.2.2.2.2.2.2.2.2.2.2.2.2.2.2.2.2.2.2.2.2.2.2.2.2.2.2.2.2.2.2.2.2.2.2.2.2.2.2.1
theorem lo_inj7 {g : Lay} (h : LO g) : ∀ a b, g.tg a = 7 → g.tg b = 7 → g.lk a 0 = g.lk b 0 → a = b := h.2.2.2.2.2.2.2.2.2.2.2.2.2.2.2.2.2.2.2.2.2.2.2.2.2.2.2.2.2.2.2.2.2.2.2.2.2.2.2.2.2.2.2.2.2.2.2.2.2.2.2.2.2.2.2.2.2.2.2.2.2.2.2.2.2.2.2.2.2.2.2.2.2.2.2.2.2.2.2.2.2.2.2.2.2.2.2.2.2.2.1
theorem lo_inj24 {g : Lay} (h : LO g) : ∀ a b i j, g.tg a = 24 → g.tg b = 24 → i < 36 → j < 36 → g.lk a i = g.lk b j → a = b ∧ i = j := h.2.2.2.2.2.2.2.2.2.2.2.2.2.2.2.2.2.2.2.2.2.2.2.2.2.2.2.2.2.2.2.2.2.2.2.2.2.2.2.2.2.2.2.2.2.2.2.2.2.2.2.2.2.2.2.2.2.2.2.2.2.2.2.2.2.2.2.2.2.2.2.2.2.2.2.2.2.2.2.2.2.2.2.2.2.2.2.2.2.2.2.1
theorem lo_ne4 {g : Lay} (h : LO g) : ∀ a, g.tg a = 4 → g.lk a 0 ≠ g.lk a 1 := h.2.2.2.2.2.2.2.2.2.2.2.2.2.2.2.2.2.2.2.2.2.2.2.2.2.2.2.2.2.2.2.2.2.2.2.2.2.2.2.2.2.2.2.2.2.2.2.2.2.2.2.2.2.2.2.2.2.2.2.2.2.2.2.2.2.2.2.2.2.2.2.2.2.2.2.2.2.2.2.2.2.2.2.2.2.2.2.2.2.2.2.2.1
theorem lo_n25 {g : Lay} (h : LO g) : ∀ a, g.tg a = 25 → ∀ i, i < 72 → g.tn (g.lk a i) = i := h.2.2.2.2.2.2.2.2.2.2.2.2.2.2.2.2.2.2.2.2.2.2.2.2.2.2.2.2.2.2.2.2.2.2.2.2.2.2.2.2.2.2.2.2.2.2.2.2.2.2.2.2.2.2.2.2.2.2.2.2.2.2.2.2.2.2.2.2.2.2.2.2.2.2.2.2.2.2.2.2.2.2.2.2.2.2.2.2.2.2.2.2.2.1
theorem lo_n6 {g : Lay} (h : LO g) : ∀ a, g.tg a = 6 → g.tn (g.lk a 6) = g.tn a := h.2.2.2.2.2.2.2.2.2.2.2.2.2.2.2.2.2.2.2.2.2.2.2.2.2.2.2.2.2.2.2.2.2.2.2.2.2.2.2.2.2.2.2.2.2.2.2.2.2.2.2.2.2.2.2.2.2.2.2.2.2.2.2.2.2.2.2.2.2.2.2.2.2.2.2.2.2.2.2.2.2.2.2.2.2.2.2.2.2.2.2.2.2.2.1
theorem lo_n28 {g : Lay} (h : LO g) : ∀ a, g.tg a = 28 → ∀ i, i < 10 → g.tn (g.lk a i) = 100 + i := h.2.2.2.2.2.2.2.2.2.2.2.2.2.2.2.2.2.2.2.2.2.2.2.2.2.2.2.2.2.2.2.2.2.2.2.2.2.2.2.2.2.2.2.2.2.2.2.2.2.2.2.2.2.2.2.2.2.2.2.2.2.2.2.2.2.2.2.2.2.2.2.2.2.2.2.2.2.2.2.2.2.2.2.2.2.2.2.2.2.2.2.2.2.2.2.1
theorem lo_n29 {g : Lay} (h : LO g) : ∀ a, g.tg a = 29 → ∀ i, i < 12 → g.tn (g.lk a i) = 120 + i := h.2.2.2.2.2.2.2.2.2.2.2.2.2.2.2.2.2.2.2.2.2.2.2.2.2.2.2.2.2.2.2.2.2.2.2.2.2.2.2.2.2.2.2.2.2.2.2.2.2.2.2.2.2.2.2.2.2.2.2.2.2.2.2.2.2.2.2.2.2.2.2.2.2.2.2.2.2.2.2.2.2.2.2.2.2.2.2.2.2.2.2.2.2.2.2.2.1
theorem lo_n9 {g : Lay} (h : LO g) : ∀ a, g.tg a = 9 → g.tn (g.lk a 5) = 140 := h.2.2.2.2.2.2.2.2.2.2.2.2.2.2.2.2.2.2.2.2.2.2.2.2.2.2.2.2.2.2.2.2.2.2.2.2.2.2.2.2.2.2.2.2.2.2.2.2.2.2.2.2.2.2.2.2.2.2.2.2.2.2.2.2.2.2.2.2.2.2.2.2.2.2.2.2.2.2.2.2.2.2.2.2.2.2.2.2.2.2.2.2.2.2.2.2.2.1
theorem lo_n26 {g : Lay} (h : LO g) : ∀ a, g.tg a = 26 → ∀ i, i < 10 → g.tn (g.lk a i) = 100 + i := h.2.2.2.2.2.2.2.2.2.2.2.2.2.2.2.2.2.2.2.2.2.2.2.2.2.2.2.2.2.2.2.2.2.2.2.2.2.2.2.2.2.2.2.2.2.2.2.2.2.2.2.2.2.2.2.2.2.2.2.2.2.2.2.2.2.2.2.2.2.2.2.2.2.2.2.2.2.2.2.2.2.2.2.2.2.2.2.2.2.2.2.2.2.2.2.2.2.2.1
theorem lo_n6i {g : Lay} (h : LO g) : ∀ a, g.tg a = 6 → g.tn (g.lk a 3) = g.tn a := h.2.2.2.2.2.2.2.2.2.2.2.2.2.2.2.2.2.2.2.2.2.2.2.2.2.2.2.2.2.2.2.2.2.2.2.2.2.2.2.2.2.2.2.2.2.2.2.2.2.2.2.2.2.2.2.2.2.2.2.2.2.2.2.2.2.2.2.2.2.2.2.2.2.2.2.2.2.2.2.2.2.2.2.2.2.2.2.2.2.2.2.2.2.2.2.2.2.2.2.1
theorem lo_n7i {g : Lay} (h : LO g) : ∀ a, g.tg a = 7 → g.tn (g.lk a 5) = 120 := h.2.2.2.2.2.2.2.2.2.2.2.2.2.2.2.2.2.2.2.2.2.2.2.2.2.2.2.2.2.2.2.2.2.2.2.2.2.2.2.2.2.2.2.2.2.2.2.2.2.2.2.2.2.2.2.2.2.2.2.2.2.2.2.2.2.2.2.2.2.2.2.2.2.2.2.2.2.2.2.2.2.2.2.2.2.2.2.2.2.2.2.2.2.2.2.2.2.2.2.2.1
theorem lo_inj7b {g : Lay} (h : LO g) : ∀ a b, g.tg a = 7 → g.tg b = 7 → g.lk a 2 = g.lk b 2 → a = b := h.2.2.2.2.2.2.2.2.2.2.2.2.2.2.2.2.2.2.2.2.2.2.2.2.2.2.2.2.2.2.2.2.2.2.2.2.2.2.2.2.2.2.2.2.2.2.2.2.2.2.2.2.2.2.2.2.2.2.2.2.2.2.2.2.2.2.2.2.2.2.2.2.2.2.2.2.2.2.2.2.2.2.2.2.2.2.2.2.2.2.2.2.2.2.2.2.2.2.2.2.2.1
theorem lo_inj25 {g : Lay} (h : LO g) : ∀ a b i j, g.tg a = 25 → g.tg b = 25 → i < 72 → j < 72 → g.lk a i = g.lk b j → a = b ∧ i = j := h.2.2.2.2.2.2.2.2.2.2.2.2.2.2.2.2.2.2.2.2.2.2.2.2.2.2.2.2.2.2.2.2.2.2.2.2.2.2.2.2.2.2.2.2.2.2.2.2.2.2.2.2.2.2.2.2.2.2.2.2.2.2.2.2.2.2.2.2.2.2.2.2.2.2.2.2.2.2.2.2.2.2.2.2.2.2.2.2.2.2.2.2.2.2.2.2.2.2.2.2.2.2
def nr (g : Lay) (f : Nat → va_E) (x : Nat) : Prop := ∀ (n : Nat) (sg : Int32) (h : Nat → Int32), f x = .inr (4, [.int sg, .int (nI n), .ref (g.lk x 2)]) → f (g.lk x 2) = .inl (g.ac (g.lk x 2), 15, .inl h) → n ≤ 15 → 0 < n → h (n - 1) ≠ nI 0
theorem nr_mk {g : Lay} {f : Nat → va_E} {x n : Nat} {sg : Int32} {h : Nat → Int32} (e1 : f x = .inr (4, [.int sg, .int (nI n), .ref (g.lk x 2)])) (e2 : f (g.lk x 2) = .inl (g.ac (g.lk x 2), 15, .inl h)) (hn : n ≤ 15) (hh : 0 < n → h (n - 1) ≠ nI 0) : nr g f x := by
  intro n' sg' h' q1 q2 q3 q4
  rw [e1] at q1
  rw [e2] at q2
  injection q1 with q1
  injection q1 with _ q1
  injection q1 with q5 q1
  injection q1 with q1 _
  injection q1 with q1
  injection q2 with q2
  injection q2 with _ q2
  injection q2 with _ q2
  injection q2 with q2
  have := (nI_eq (a := n) (b := n') (by omega) (by omega)).mp q1
  subst this
  subst q2
  exact hh q4
theorem nr_keep {g : Lay} {f f1 : Nat → va_E} {x : Nat} (h : nr g f x) (e1 : f1 x = f x) (e2 : f1 (g.lk x 2) = f (g.lk x 2)) : nr g f1 x := by
  intro n sg k q1 q2
  exact h n sg k (e1 ▸ q1) (e2 ▸ q2)
/-- the class's cells: each holds what it may, and no long number has a highest limb 0 -/
def IV (g : Lay) (f : Nat → va_E) : Prop := (∀ a, oc g a (f a)) ∧ ∀ x, g.tg x = 5 → nr g f x
/-- the same, but for the highest limb of the number at x -/
def IX (g : Lay) (x : Nat) (f : Nat → va_E) : Prop := (∀ a, oc g a (f a)) ∧ ∀ y, g.tg y = 5 → y ≠ x → nr g f y
theorem IV.ix {g : Lay} {f : Nat → va_E} (h : IV g f) (x : Nat) : IX g x f := ⟨h.1, fun y hy _ => h.2 y hy⟩
theorem IX.iv {g : Lay} {f : Nat → va_E} {x : Nat} (h : IX g x f) (hx : nr g f x) : IV g f := ⟨h.1, fun y hy => by
  by_cases q : y = x
  · rw [q]; exact hx
  · exact h.2 y hy q⟩
def OC (g : Lay) (f : Nat → va_E) : Prop := ∀ a, oc g a (f a)
/-- cells whose tag isn't in W are as they were -/
def un (W : List Nat) (g : Lay) (f f1 : Nat → va_E) : Prop := ∀ a, g.tg a ∉ W → f1 a = f a
theorem un.rf {W : List Nat} {g : Lay} {f : Nat → va_E} : un W g f f := fun _ _ => rfl
theorem un.st {W : List Nat} {g : Lay} {f f1 f2 : Nat → va_E} (h : un W g f f1) {x T : Nat} (hk : ∀ b, b ≠ x → f2 b = f1 b) (ht : g.tg x = T) (hT : T ∈ W) : un W g f f2 := fun a ha => (hk a (fun q => ha (by rw [q, ht]; exact hT))).trans (h a ha)
theorem un.tr {W V : List Nat} {g : Lay} {f f1 f2 : Nat → va_E} (h : un W g f f1) (h2 : un V g f1 f2) (hV : ∀ x ∈ V, x ∈ W) : un W g f f2 := fun a ha => (h2 a (fun q => ha (hV _ q))).trans (h a ha)
theorem un.at {W : List Nat} {g : Lay} {f f1 : Nat → va_E} (h : un W g f f1) {x T : Nat} (ht : g.tg x = T) (hT : T ∉ W) {e : va_E} (he : f x = e) : f1 x = e := (h x (by rw [ht]; exact hT)).trans he
theorem tg_ne {g : Lay} {a b S T : Nat} (ha : g.tg a = S) (hb : g.tg b = T) (h : S ≠ T) : a ≠ b := fun q => h (by rw [← ha, ← hb, q])
theorem iv_1 {g : Lay} {f f1 : Nat → va_E} (h : IV g f) {x T : Nat} (hL : LO g) (ht : g.tg x = T) (h5 : T ≠ 5 ∧ T ≠ 23) (hk : ∀ b, b ≠ x → f1 b = f b) (ho : oc g x (f1 x)) : IV g f1 := ⟨fun a => by
  by_cases q : a = x
  · rw [q]; exact ho
  · rw [hk a q]; exact h.1 a, fun y hy => nr_keep (h.2 y hy) (hk y (tg_ne hy ht (fun q => h5.1 q.symm))) (hk _ (tg_ne (lo_k5_2 hL y hy) ht (fun q => h5.2 q.symm)))⟩
theorem ix_1 {g : Lay} {f f1 : Nat → va_E} {z : Nat} (h : IX g z f) {x T : Nat} (hL : LO g) (ht : g.tg x = T) (h5 : T ≠ 5 ∧ T ≠ 23) (hk : ∀ b, b ≠ x → f1 b = f b) (ho : oc g x (f1 x)) : IX g z f1 := ⟨fun a => by
  by_cases q : a = x
  · rw [q]; exact ho
  · rw [hk a q]; exact h.1 a, fun y hy hz => nr_keep (h.2 y hy hz) (hk y (tg_ne hy ht (fun q => h5.1 q.symm))) (hk _ (tg_ne (lo_k5_2 hL y hy) ht (fun q => h5.2 q.symm)))⟩
/-- a write to the number x itself -/
theorem ix_5 {g : Lay} {f f1 : Nat → va_E} {x : Nat} (h : IX g x f) (hL : LO g) (ht : g.tg x = 5) (hk : ∀ b, b ≠ x → f1 b = f b) (ho : oc_5 g x (f1 x)) : IX g x f1 := ⟨fun a => by
  by_cases q : a = x
  · rw [q]; exact oc_5.mk ht ho
  · rw [hk a q]; exact h.1 a, fun y hy hz => nr_keep (h.2 y hy hz) (hk y hz) (hk _ (tg_ne (lo_k5_2 hL y hy) ht (by decide)))⟩
/-- a write to its limbs -/
theorem ix_23 {g : Lay} {f f1 : Nat → va_E} {x : Nat} (h : IX g x f) (hL : LO g) (ht : g.tg x = 5) (hk : ∀ b, b ≠ g.lk x 2 → f1 b = f b) (ho : oc_23 g (g.lk x 2) (f1 (g.lk x 2))) : IX g x f1 := ⟨fun a => by
  by_cases q : a = g.lk x 2
  · rw [q]; exact oc_23.mk (lo_k5_2 hL x ht) ho
  · rw [hk a q]; exact h.1 a, fun y hy hz => nr_keep (h.2 y hy hz) (hk y (tg_ne hy (lo_k5_2 hL x ht) (by decide))) (hk _ (fun q => hz (lo_inj5 hL y x hy ht q)))⟩
theorem lb_upd {n i v : Nat} {h : Nat → Int32} (c : ∀ j, j < n → ∃ k, k < 1000000000 ∧ h j = nI k) (hk : v < 1000000000) : ∀ j, j < n → ∃ k, k < 1000000000 ∧ upd h i (nI v) j = nI k := fun j hj => by
  by_cases q : j = i
  · exact ⟨v, hk, if_pos q⟩
  · obtain ⟨z, h1, h2⟩ := c j hj
    exact ⟨z, h1, (if_neg q).trans h2⟩
theorem nc_nc (x : Int32) : vp_nar .char (vp_nar .char x) = vp_nar .char x := by
  show x.toUInt32.toUInt16.toUInt32.toInt32.toUInt32.toUInt16.toUInt32.toInt32 = x.toUInt32.toUInt16.toUInt32.toInt32
  generalize x.toUInt32.toUInt16 = y
  have q : y.toUInt32.toInt32.toUInt32.toUInt16 = y := by simp
  rw [q]
theorem nc_upd {i : Nat} {x : Int32} {h : Nat → Int32} (c : ∀ j, j < 72 → vp_nar .char (h j) = h j) : ∀ j, j < 72 → vp_nar .char (upd h i (vp_nar .char x) j) = upd h i (vp_nar .char x) j := fun j hj => by
  by_cases q : j = i
  · rw [show upd h i (vp_nar .char x) j = vp_nar .char x from if_pos q]; exact nc_nc x
  · rw [show upd h i (vp_nar .char x) j = h j from if_neg q]; exact c j hj
theorem nc_nar {x : Int32} (c : vp_nar .char x = x) : narrow .char (.int x) = .int x := congrArg Value.int c
theorem nI_z : (0 : Int32) = nI 0 := nI_0.symm

