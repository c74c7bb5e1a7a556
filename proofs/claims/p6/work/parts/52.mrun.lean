def PZ0 (dpf : Nat → Nat) (sz p : Nat) : Prop := p < sz → dpf p = 0
