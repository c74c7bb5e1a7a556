/-! ===== the layout seen without some of its cells: what a method doesn't reach, it keeps ===== -/
theorem pm_mono {l : Launch} {y : MethodName} {ws : List Cond} {rm : Room} {Pc : Array Value → State → Prop} {Qc Qc' : Array Value → State → Outcome → State → Prop} {mc ms : Nat} {free : Addr → Prop} (h : Met l y ws rm Pc Qc mc ms free) (hq : ∀ a st o t, Qc a st o t → Qc' a st o t) : Met l y ws rm Pc Qc' mc ms free := by
  intro p e ha hc hk s m args below hf hS hP hK
  obtain ⟨n, o, h1, h2, h3, h4, h5⟩ := h p e ha hc hk s m args below hf hS hP hK
  exact ⟨n, o, h1, h2, h3, hq _ _ _ _ h4, h5⟩
theorem ut_ab {g : Lay} {a b S T : Nat} (h : g.tg a = S) (q : a = b) (hb : g.tg b = T) (hd : S ≠ T) : False := hd (h.symm.trans ((congrArg g.tg q).trans hb))
