/-! ===== a call of a method that may return or throw ===== -/
section th5
variable {p : Program} {l : Launch} {e : Env} {R : Room} {s : State} {m : MethodId} {args : Array Value} {below : List Frame} {meth : Method} {c : Code} {H : Heap} {locs : List Loc} {cells slots : Nat}
/-- where an invocation leads, by its outcome -/
def tw_to (p : Program) (e : Env) (below : List Frame) (S U' : State) (g : JFrame) (len : Nat) : Outcome → Prop
  | .threw x => Steps p.tables e below S ((U'.setTop g).pushFrame (.throwing x))
  | .returned v => Steps p.tables e below S (U'.setTop { g with pc := g.pc + len, stack := v.toList ++ g.stack })
theorem tw_back2 {y : MethodName} {bytes : ByteArray} {maxL : Nat} {ret : Option FieldType} {rm : Room} {Pc : Array Value → State → Prop} {Qc : Array Value → State → Outcome → State → Prop} {mc ms : Nat} {free : Addr → Prop} {U : State}
    (hM : tw_Met l y [Cond.code y bytes maxL ret] rm Pc Qc mc ms free) (hbl : FrameBlind Pc) (X : Stand p l e R s m args below meth c U locs cells slots)
    (hrc : rm.cells = mc) (hrs : rm.slots = ms) (hfr : rm.frames + 1 ≤ R.frames) (hlo : 8 + (maxL + 11) + rm.locals ≤ R.locals) (hcode : ∀ a, (Cond.code y bytes maxL ret).before a U = true) (hini : (Cond.initialized y.cls).before args U = true)
    {g : JFrame} (hg : g.method = m) (hsize : g.locals.size = c.maxLocals) {ig : Instr} {len : Nat} (hdg : decode c.code g.pc = .ok (ig, len)) (hW : 2 * g.monitorRoom + (g.stack.map fun v => v.category).sum ≤ 8) {mk : MethodId} (hn : U.methodNamed? y = some mk) {a : Array Value} (hp : Pc a U) (hf : cells + mc ≤ R.cells ∧ slots + ms ≤ R.slots) :
    ∃ (o : Outcome) (st t : State) (L : List Loc) (U' : State), st.heap = U.heap ∧ st.vm = U.vm ∧ Qc a st o t ∧ (∀ q ∈ L, free q.base) ∧ U'.heap = t.heap ∧ U'.vm = t.vm ∧ Stand p l e R s m args below meth c U' (locs ++ L) (cells + mc) (slots + ms) ∧ tw_to p e below (doInvoke e (U.setTop g) [] mk a).1 U' g len o := by
  subst hg
  subst hrc; subst hrs
  obtain ⟨mY, cY, hmY, hcY, -, hlY, -, -, -, -⟩ := Cond.code_spec hn (hcode a)
  obtain ⟨kY, hkY, -⟩ := className_of_methodNamed hn
  have hat : At U g.method c below := X.here
  have happ : (headSpec [Cond.code y bytes maxL ret] rm).appliesLoose y e.platform (U.calling g mk a) = true :=
    Spec.appliesLoose_calling (g := g) hat hdg hn hkY (Cond.initialized_spec (findClass_of_methodNamed hn) hkY hini)
      (X.room_calling (g := g) (R' := rm) hsize hmY hcY hfr (by rw [hlY]; omega) hf.1 hf.2) (atoms_intro (tb_one (hcode a)))
  obtain ⟨mid, hmid⟩ := hat.above
  have hfrm : (U.setTop g).frames = (.java g :: mid) ++ below := by rw [State.frames_setTop' g hat.top, hmid]; rfl
  obtain ⟨o, t, hsteps, -, hend, hq, L, ⟨hWt, e2, q2, q3, q4, q5, q6⟩, hL⟩ := Steps.callFree hM p X.admits X.cas X.clock (acts := []) hfrm happ (hbl _ _ _ _ hp) trivial
  rw [State.frames_setTop' g hat.top] at hend
  obtain ⟨g₀, hg0⟩ := Option.isSome_iff_exists.mp hat.top
  obtain ⟨r, hr⟩ := State.topJava?_eq_some.mp hg0
  have hWU : U.WarmedH t.vm := hWt
  have e2 : ({ t with vm := (U.calling g mk a).vm } : State) = { (U.calling g mk a).setFrames t.frames with heap := t.heap, slotsUsed := t.slotsUsed } := e2
  have e3 : t = ({ (U.calling g mk a).setFrames t.frames with heap := t.heap, slotsUsed := t.slotsUsed } : State).setVm t.vm := by
    have h1 : t = ({ t with vm := (U.calling g mk a).vm } : State).setVm t.vm := rfl
    rw [e2] at h1
    exact h1
  have hr' : (({ U with heap := t.heap, slotsUsed := t.slotsUsed } : State).setVm t.vm).frames = .java g₀ :: r := hr
  have hsame : U.sameButNew ({ U with heap := t.heap, slotsUsed := t.slotsUsed } : State) L rm.cells rm.slots := by
    refine ⟨?_, q2, q3, q4, q5, q6⟩
    obtain ⟨th, hth', -⟩ := State.frames_cons hr
    show ({ U with heap := t.heap, slotsUsed := t.slotsUsed } : State) = { U.setFrames U.frames with heap := t.heap, slotsUsed := t.slotsUsed }
    rw [State.setFrames_self hth']
  have hat' : At (({ U with heap := t.heap, slotsUsed := t.slotsUsed } : State).setVm t.vm) g.method c below := (X.here.setHeapUsed t.heap t.slotsUsed).setVm hWU.alike
  refine ⟨o, U.calling g mk a, t, L, (({ U with heap := t.heap, slotsUsed := t.slotsUsed } : State).setVm t.vm), rfl, rfl, hq, hL, rfl, rfl,
    ⟨X.admits, X.cas, X.clock, X.frames, X.room, X.hears, X.method, X.code, hat', X.tail, State.WarmedH.trans X.warmed hWU, X.limits, X.bytes, X.same.trans (hsame.setVm s.vm)⟩, ?_⟩
  cases o with
  | threw x =>
    have hft : t.frames = .throwing x :: .java g :: U.frames.tail := hend
    have ht : t = ((({ U with heap := t.heap, slotsUsed := t.slotsUsed } : State).setVm t.vm).setTop g).pushFrame (.throwing x) := by
      refine e3.trans ?_
      rw [hft, State.calling_eq hat.top, State.setFrames_setFrames, State.pushFrame, State.frames_setTop _ hr', State.setTop_of_frames _ hr', State.setFrames_setFrames, hr]
      rfl
    show Steps p.tables e below _ _
    rw [← ht]
    exact hsteps
  | returned v =>
    obtain ⟨c', i', len', hc', hd', hft⟩ := hend
    have hcc : t.code? g.method = some c := hat'.code
    cases hcc.symm.trans hc'
    cases hdg.symm.trans hd'
    have ht : t = (({ U with heap := t.heap, slotsUsed := t.slotsUsed } : State).setVm t.vm).setTop { g with pc := g.pc + len, stack := v.toList ++ g.stack } := by
      refine e3.trans ?_
      rw [hft, State.calling_eq hat.top, State.setFrames_setFrames, State.setTop_of_frames _ hr', hr]
      rfl
    show Steps p.tables e below _ _
    rw [← ht]
    exact hsteps
end th5

