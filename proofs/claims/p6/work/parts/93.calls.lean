theorem upd_nar {hT : Nat → Int32} {n : Nat} {c : Int32} (cT : ∀ i, i < 72 → vp_nar .char (hT i) = hT i) : ∀ i, i < 72 → vp_nar .char (upd hT n (vp_nar .char c) i) = upd hT n (vp_nar .char c) i := fun i hi => by
  by_cases q : i = n
  · rw [q, upd_at]; exact nc_nc _
  · rw [upd_ne _ _ q]; exact cT i hi
