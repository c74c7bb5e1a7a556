section th6
variable {p : Program} {l : Launch} {e : Env} {R : Room} {s : State} {m : MethodId} {args : Array Value} {below : List Frame} {meth : Method} {c : Code} {H : Heap} {locs : List Loc} {cells slots : Nat}
/-- invokevirtual of a method that returns, or throws what one of the rows of the caller's table catches -/
theorem tw_callP {cc : ByteArray} {own C : String} {N : ExceptionTableEntry → String} {index pc nL n : Nat} {ls : Array Slot} {y : MethodName} {bytes : ByteArray} {maxL : Nat} {ret : Option FieldType} {rm : Room} {Pc : Array Value → State → Prop} {Qc : Array Value → State → Outcome → State → Prop} {mc ms : Nat} {free : Addr → Prop} {b : Addr} {As rest : List Value} {Q : State → Prop}
    (hx : p.tables.exec = Jvm.exec) (hb : c.code = cc) (hml : c.maxLocals = nL) (hown : s.vm.findClass own = some m.cls) (hM : tw_Met l y [Cond.code y bytes maxL ret] rm Pc Qc mc ms free)
    (hcode : (Cond.code y bytes maxL ret).before args s = true) (hini : (Cond.initialized y.cls).before args s = true) (hlk : (Cond.methodLink own index y).before args s = true) (hinst : (Cond.instanceMethod y).before args s = true) (hsel : (Cond.selects C y y).before args s = true)
    (hy : y.cls ≠ "java/lang/invoke/MethodHandle" ∧ y.cls ≠ "java/lang/invoke/VarHandle" ∧ (parseMethodDescriptor y.desc).map (fun d => d.parameters.length) = some n) (hR : rm.frames + 1 ≤ R.frames ∧ 8 + (maxL + 11) + rm.locals ≤ R.locals) (hrc : rm.cells = mc) (hrs : rm.slots = ms)
    (hp : PreV s H C b Pc As) (hn : As.length = n) (hsz : ls.size = nL) (hW : (rest.map fun v => v.category).sum ≤ 8) (hdg : decode cc pc = .ok (.invokevirtual index, 3)) (hf : cells + mc ≤ R.cells ∧ slots + ms ≤ R.slots)
    (hall : ∀ x ∈ c.exceptionTable.toList, covers x pc = true ∧ x.catchType ≠ 0 ∧ (Cond.classLink own x.catchType (N x)).before args s = true)
    (hth : ∀ a st x t, Qc a st (.threw x) t → ∃ ce Cn, t.heap[x]? = some ce ∧ st.vm.findClass Cn = some ce.cls ∧ ce.vm = .none ∧ ∃ r ∈ c.exceptionTable.toList, N r = Cn)
    (kr : ∀ (v : Option Value) (st t : State) (L : List Loc), st.heap = H → Qc (Value.ref b :: As).toArray st (.returned v) t → (∀ q ∈ L, free q.base) → s.WarmedH t.vm → W p l e R s m args below meth c t.heap (locs ++ L) (cells + mc) (slots + ms) Q (F0 m (pc + 3) ls (v.toList ++ rest)))
    (kt : ∀ (x : Addr) (st t : State) (L : List Loc) (r : ExceptionTableEntry), r ∈ c.exceptionTable.toList → st.heap = H → Qc (Value.ref b :: As).toArray st (.threw x) t → (∀ q ∈ L, free q.base) → s.WarmedH t.vm → W p l e R s m args below meth c t.heap (locs ++ L) (cells + mc) (slots + ms) Q (F0 m r.handlerPc ls [.ref x])) :
    W p l e R s m args below meth c H locs cells slots Q (F0 m pc ls (As.reverse ++ .ref b :: rest)) := by
  intro T hT X
  obtain ⟨hbl, ⟨cellB, hcB, hoB, hclB⟩, hPc⟩ := hp
  obtain ⟨mk, methM, hnamed, hmethM, hstM, habM⟩ := Cond.instanceMethod_spec hinst
  obtain ⟨methM', cM, hmethM', -, -, -, -, -, -, hsigM⟩ := Cond.code_spec hnamed hcode
  cases hmethM.symm.trans hmethM'
  obtain ⟨c2, r2, m2, q1, q2, q3, q4, kP, hkP, hkPi⟩ := Cond.selects_spec hsel
  cases hclB.symm.trans q1
  cases (State.methodFound?_of_named hnamed ⟨hy.1, hy.2.1⟩).symm.trans q2
  cases hnamed.symm.trans q3
  have hselP : selectMethod e.platform s.vm cellB.cls mk = .method mk := by rw [Launch.admits_selectMethod X.admits]; exact q4
  have hlen : As.length = methM.sig.parameters.length := by
    have h2 := hy.2.2
    rw [hsigM] at h2
    exact hn.trans (Option.some.inj h2).symm
  obtain ⟨vm₁, X₁, hstep₁⟩ := X.invokevirtual hx hown hlk hnamed hmethM hstM hkP hkPi ⟨hy.1, hy.2.1⟩ (a := b) (cell := cellB) (by rw [hT]; exact hcB)
    (fun z h => by rw [h] at hoB; cases hoB) hselP hmethM habM hkP hkPi (g := F0 m pc ls (As.reverse ++ .ref b :: rest)) rfl (argsL := As) (rest := rest) hlen rfl (by rw [hb]; exact hdg)
  obtain ⟨o, st, t, L, U', h1, h2, hq, hL, h3, h4, X', hs⟩ := tw_back2 hM hbl X₁ hrc hrs hR.1 hR.2 (fun a => word_at X₁.warmed (Or.inl rfl) hcode) (word_at X₁.warmed (Or.inl rfl) hini)
    (g := F0 m pc ls rest) rfl (hsz.trans hml.symm) (by rw [hb]; exact hdg) (by show 2 * 0 + (rest.map fun v => v.category).sum ≤ 8; omega) (X₁.named hnamed) (hPc (T.setVm vm₁) hT X₁.warmed) hf
  have hwt : s.WarmedH t.vm := by rw [← h4]; exact X'.warmed
  cases o with
  | threw x =>
    obtain ⟨ce, Cn, hce, hcc, hcv, hrow⟩ := hth _ _ _ _ hq
    obtain ⟨r, hr, vm₂, X₂, hs₂⟩ := tw_caughtN X' (g := F0 m pc ls rest) rfl (a := x) (cell := ce) (N := N) (Cn := Cn) hall hrow hown (by rw [h3]; exact hce) hcv (by rw [h2] at hcc; rw [← X₁.warmed.alike.findClass]; exact hcc)
    obtain ⟨tt, s1, s2⟩ := kt x st t L r hr (by rw [h1]; exact hT) hq hL hwt (U'.setVm vm₂) h3 X₂
    refine ⟨tt, hstep₁ _ (fun acts => ?_), s2⟩
    rw [doInvoke_state]
    exact Steps.trans hs (hs₂ _ s1)
  | returned v =>
    obtain ⟨tt, s1, s2⟩ := kr v st t L (by rw [h1]; exact hT) hq hL hwt U' h3 X'
    refine ⟨tt, hstep₁ _ (fun acts => ?_), s2⟩
    rw [doInvoke_state]
    exact Steps.trans hs s1
/-- ends of a method that may throw -/
theorem tw_mono {Q Q' : State → Prop} {g : JFrame} (h : W p l e R s m args below meth c H locs cells slots Q g) (hq : ∀ t, Q t → Q' t) : W p l e R s m args below meth c H locs cells slots Q' g := fun T hT X => by
  obtain ⟨t, h1, h2⟩ := h T hT X
  exact ⟨t, h1, hq t h2⟩
theorem tw_mq {Qc Qc' : Array Value → State → Outcome → State → Prop} {a : Array Value} {free : Addr → Prop} {mc ms : Nat} (hq : ∀ o t, Qc a s o t → Qc' a s o t) : ∀ t, MQ below Qc a s mc ms free t → tw_MQ below Qc' a s mc ms free t := fun t ⟨o, h1, h2, h3, L, h4, h5⟩ => ⟨o, h1, h2, hq o t h3, L, ⟨h4.2.1, h4.2.2⟩, h5⟩
end th6
