/-! ===== throws over the pool: the heap is as it was at the throw, but for the new object ===== -/
section th3
variable {p : Program} {l : Launch} {e : Env} {R : Room} {s : State} {m : MethodId} {args : Array Value} {below : List Frame} {meth : Method} {c : Code} {H : Heap} {locs : List Loc} {cells slots : Nat}
/-- the same stand, seen from the heap of now -/
theorem tw_rebase {T : State} (X : Stand p l e R s m args below meth c T locs 0 0) : Stand p l e R ({ s with heap := T.heap, slotsUsed := T.slotsUsed } : State) m args below meth c T [] 0 0 := by
  have hbk := X.book
  have hroom := X.room
  obtain ⟨q1, q2, q3, q4, q5, q6⟩ := X.same
  have z1 : T.heap.size = s.heap.size := Nat.le_antisymm q3 q2
  have z2 : T.slotsUsed = s.slotsUsed := by
    have h4 : T.slotsUsed = s.slotsUsed + ((T.heap.toList.drop s.heap.size).map (·.slots.size)).sum := q4
    have h5 : ((T.heap.toList.drop s.heap.size).map (·.slots.size)).sum ≤ 0 := q5
    omega
  refine ⟨X.admits, X.cas, X.clock, X.frames, ?_, X.hears, X.method, X.code, X.here, X.tail, X.warmed, X.limits, X.bytes, ?_⟩
  · simp only [State.hasRoom, Bool.and_eq_true, decide_eq_true_eq] at hroom ⊢
    obtain ⟨⟨⟨⟨r1, r2⟩, r3⟩, r4⟩, r5⟩ := hroom
    refine ⟨⟨⟨⟨r1, r2⟩, ?_⟩, ?_⟩, ?_⟩
    · show T.heap.size + R.cells ≤ _
      rw [z1]; exact r3
    · show T.slotsUsed + R.slots ≤ _
      rw [z2]; exact r4
    · exact hbk
  · refine ⟨?_, Nat.le_refl _, Nat.le_refl _, ?_, ?_, fun a c' hc => ⟨c', hc, rfl, rfl, fun i _ => rfl⟩⟩
    · exact q1
    · show T.slotsUsed = T.slotsUsed + ((T.heap.toList.drop T.heap.size).map (·.slots.size)).sum
      rw [List.drop_eq_nil_of_le (Nat.le_of_eq Array.length_toList)]; rfl
    · show ((T.heap.toList.drop T.heap.size).map (·.slots.size)).sum ≤ 0
      rw [List.drop_eq_nil_of_le (Nat.le_of_eq Array.length_toList)]; exact Nat.le_refl _
theorem tw_end2 {T U : State} {k n : Nat} (X : Stand p l e R s m args below meth c T locs 0 0) (h : ({ s with heap := T.heap, slotsUsed := T.slotsUsed } : State).sameButNew ({ U with vm := s.vm } : State) [] k n) : s.sameButNew ({ U with vm := s.vm } : State) locs k n := by
  have h1 : (T.setVm s.vm).sameButNew ({ U with vm := s.vm } : State) [] k n := by
    obtain ⟨a1, a2, a3, a4, a5, a6⟩ := h
    obtain ⟨q1, -⟩ := X.same
    refine ⟨?_, a2, a3, a4, a5, a6⟩
    have z : T.setVm s.vm = ({ s with heap := T.heap, slotsUsed := T.slotsUsed } : State).setFrames T.frames := q1
    refine a1.trans ?_
    rw [z, State.setFrames_setFrames]
  have h2 := X.same.trans h1
  rw [List.append_nil, Nat.zero_add, Nat.zero_add] at h2
  exact h2
/-- throw new X("text"), to the method's end: the heap is as it was, but for the object -/
theorem tw_throwP {cc : ByteArray} {own cls text : String} {ik is ic pc : Nat} {ls : Array Slot} {rest : List Value} {names : List String} {A : Nat → Prop} {Qc : Array Value → State → Outcome → State → Prop} {free : Addr → Prop}
    (hexec : p.tables.exec = Jvm.exec) (hb : c.code = cc) (hsz : ls.size = c.maxLocals) (hlocks : meth.locks = false) (hno : c.exceptionTable.isEmpty = true) (htr : l.stackTraces = false)
    (hown : s.vm.findClass own = some m.cls) (hfit : Bundle.fit cls = true) (hnames : ∀ n ∈ names, Bundle.fit n = true)
    (hws : ∀ U : State, U.vm = s.vm → U.heap = H → (Cond.classLink own ik cls).before args U = true ∧ (Cond.instantiable cls 6).before args U = true ∧ (Cond.initialized cls).before args U = true ∧ (Cond.stringRef own is text).before args U = true ∧ ∀ a ∈ Bundle.ownAtoms own ic cls names, a.before args U = true)
    (hS : va_S A s.heap H locs) (hf : ∀ q, A q → free q)
    (d0 : decode cc pc = .ok (.new ik, 3)) (d3 : decode cc (pc + 3) = .ok (.dup, 1)) (d4 : decode cc (pc + 4) = .ok (.ldc is, 2)) (d6 : decode cc (pc + 6) = .ok (.invokespecial ic, 3)) (d9 : decode cc (pc + 9) = .ok (.athrow, 1))
    (hRf : names.length + 3 < R.frames) (hRl : (rest.map fun v => v.category).sum + (13 * (names.length + 1) + 50) ≤ R.locals) (hRc : 1 ≤ R.cells) (hRs : 6 ≤ R.slots)
    (hq : ∀ (t : State) (a : Addr) (ce : Cell), t.heap[a]? = some ce → s.vm.findClass cls = some ce.cls → ce.vm = .none → s.WarmedH t.vm → H.size ≤ t.heap.size → (∀ q, q < H.size → t.heap[q]? = H[q]?) → Qc args s (.threw a) t) :
    W p l e R s m args below meth c H locs 0 0 (tw_MQ below Qc args s 1 6 free) (F0 m pc ls rest) := by
  intro T hT X
  subst hT
  have htr' : e.platform.stackTraces = false := by rw [X.admits.platform]; exact htr
  have Y := tw_rebase X
  obtain ⟨hcl, hins, hini, hstr, hat⟩ := hws ({ s with heap := T.heap, slotsUsed := T.slotsUsed } : State) rfl rfl
  have hown' : ({ s with heap := T.heap, slotsUsed := T.slotsUsed } : State).vm.findClass own = some m.cls := hown
  obtain ⟨vm₁, cX, kX, hfX, hkX, -, -, X₁, st1⟩ := Y.newCold hexec hown' hcl hins hini (g := F0 m pc ls rest) rfl (by rw [hb]; exact d0) hRc hRs
  generalize hT1 : (T.setVm vm₁).pushCell { cls := cX, slots := kX.instanceTypes.map defaultValue, vm := .none } = T1 at X₁ st1
  have hcellA : T1.heap[T.heap.size]? = some (freshCell cX kX) := by rw [← hT1]; exact State.heap_pushCell_size _ _
  obtain ⟨k, cf, i, sa, -, -, -, -, -, hev⟩ := Cond.stringRef_spec hown' hstr
  have st2 := X₁.ldcString hexec hown' hstr hev (g := F0 m (pc + 4) ls (.ref T.heap.size :: .ref T.heap.size :: rest)) rfl (by rw [hb]; exact d4)
  obtain ⟨U, hsteps, hrun, hend, hW, hsame, ce, hce, K⟩ := X₁.ctorThrowS hexec htr' (own := own) (cls := cls) (names := names) (ic := ic) hown' hfit hnames hat
    (fun x hx cell hc => by cases hx) hfX hkX hcellA (Nat.le_refl _) (msg := .ref sa) rfl
    (g := F0 m (pc + 6) ls (.ref sa :: .ref T.heap.size :: .ref T.heap.size :: rest)) rfl hsz rfl rfl (rest := rest) rfl (by rw [hb]; exact d6) (by rw [hb]; exact d9) (covers_of_empty hno _) hRf
    (by show 2 * 0 + (1 + (rest.map fun v => v.category).sum) + _ ≤ _; omega)
  have hF := tw_frame (A := fun _ => False) (st := ({ s with heap := T.heap, slotsUsed := T.slotsUsed } : State)) ⟨hW, hsame⟩ (fun q hq' => by cases hq')
  refine ⟨U, ?_, .threw T.heap.size, hrun, hend, hq U _ ce hce K.cls K.vm hW hF.1 (fun q hq' => hF.2 q hq' (fun z => z)), locs, ⟨hW, tw_end2 X hsame⟩, fun q hq' => hf _ (hS.2.2 q hq')⟩
  refine st1 _ ?_
  show Steps p.tables e below (T1.setTop (F0 m (pc + 3) ls (.ref T.heap.size :: rest))) _
  jvm_step X₁.here [X₁.here.top, hexec, hb, d3, Value.category]
  exact st2 _ hsteps
end th3

