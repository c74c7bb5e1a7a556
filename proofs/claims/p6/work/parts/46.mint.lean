theorem ng_ne {v : Int64} (h : ¬ v = nL 0) : ¬ -v = 0 := fun q => h (by
  have e : v = -(-v) := (Int64.neg_neg).symm
  rw [e, q]
  rfl)
