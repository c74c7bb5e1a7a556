def vok (v : Int32) : Bool := decide (¬ v < 0) && decide (¬ nI 10 ≤ v)
def ME (g : Lay) (f : Nat → va_E) (M mst : Nat) : Option (Nat → IVL) → Prop
  | none => mst = 0
  | some en => mst ≠ 0 ∧ ∃ (lw1 hg1 : Nat → Int64) (un1 ov1 : Nat → Int32), f (g.lk M 17) = .inl (g.ac (g.lk M 17), 10, .inr (.inl lw1)) ∧ f (g.lk M 18) = .inl (g.ac (g.lk M 18), 10, .inr (.inl hg1)) ∧ f (g.lk M 19) = .inl (g.ac (g.lk M 19), 10, .inl un1) ∧ f (g.lk M 20) = .inl (g.ac (g.lk M 20), 10, .inl ov1) ∧ VR lw1 hg1 un1 ov1 en
theorem ME.un {g : Lay} {f f1 : Nat → va_E} {M mst : Nat} {sg : Option (Nat → IVL)} {W : List Nat} (h : ME g f M mst sg) (hL : LO g) (t : g.tg M = 11) (hu : un W g f f1) (hW : ∀ x ∈ [49, 50, 51, 52], x ∉ W) : ME g f1 M mst sg := by
  cases sg with
  | none => exact h
  | some en =>
    obtain ⟨h0, lw, hg, un, ov, e1, e2, e3, e4, hv⟩ := h
    exact ⟨h0, lw, hg, un, ov, hu.at (lo_k11_17 hL _ t) (hW 49 (by decide)) e1, hu.at (lo_k11_18 hL _ t) (hW 50 (by decide)) e2, hu.at (lo_k11_19 hL _ t) (hW 51 (by decide)) e3, hu.at (lo_k11_20 hL _ t) (hW 52 (by decide)) e4, hv⟩
