section th6
variable {p : Program} {l : Launch} {e : Env} {R : Room} {s : State} {m : MethodId} {args : Array Value} {below : List Frame} {meth : Method} {c : Code} {H : Heap} {locs : List Loc} {cells slots : Nat}
/-- ends of a method that may throw -/
theorem tw_mono {Q Q' : State → Prop} {g : JFrame} (h : W p l e R s m args below meth c H locs cells slots Q g) (hq : ∀ t, Q t → Q' t) : W p l e R s m args below meth c H locs cells slots Q' g := fun T hT X => by
  obtain ⟨t, h1, h2⟩ := h T hT X
  exact ⟨t, h1, hq t h2⟩
theorem tw_mq {Qc Qc' : Array Value → State → Outcome → State → Prop} {a : Array Value} {free : Addr → Prop} {mc ms : Nat} (hq : ∀ o t, Qc a s o t → Qc' a s o t) : ∀ t, MQ below Qc a s mc ms free t → tw_MQ below Qc' a s mc ms free t := fun t ⟨o, h1, h2, h3, L, h4, h5⟩ => ⟨o, h1, h2, hq o t h3, L, ⟨h4.2.1, h4.2.2⟩, h5⟩
end th6

