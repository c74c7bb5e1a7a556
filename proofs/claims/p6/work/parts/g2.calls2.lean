def THf (f : Nat → va_E) (M : Nat) (t : Int32) : Prop := ∃ fs, f M = .inr (10, .int t :: fs)
def OBv (g : Lay) (f : Nat → va_E) (ob : Nat) (x : Int64) : Prop := ∃ h : Nat → Int64, f ob = .inl (g.ac ob, 1, .inr (.inl h)) ∧ h 0 = x
theorem OBv.un {W : List Nat} {g : Lay} {f f1 : Nat → va_E} {ob : Nat} {x : Int64} (t : g.tg ob = 0) (h : OBv g f ob x) (hu : un W g f f1) (hW : 0 ∉ W) : OBv g f1 ob x := by
  obtain ⟨k, e, q⟩ := h
  exact ⟨k, hu.at t hW e, q⟩
theorem th_eq {f : Nat → va_E} {M : Nat} {t u : Int32} {fs : List Value} (e : f M = .inr (10, .int t :: fs)) (h : THf f M u) : t = u := by
  obtain ⟨fs2, e2⟩ := h
  rw [e] at e2
  injection e2 with e2
  injection e2 with _ e2
  injection e2 with e2 _
  injection e2
