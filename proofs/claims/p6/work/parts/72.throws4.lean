/-! ===== a throw that is caught by one of several rows ===== -/
section th4
variable {p : Program} {l : Launch} {e : Env} {R : Room} {s : State} {m : MethodId} {args : Array Value} {below : List Frame} {meth : Method} {c : Code} {H : Heap} {locs : List Loc} {cells slots : Nat}
theorem tw_gono {S : State} {E : CtlPost} {d : Bool} {acts : List Action} {f : JFrame} {a : Addr} {Q : Handler → Pre} {x : ExceptionTableEntry} {t : List ExceptionTableEntry} {cC : ClassId} {cell : Cell} {vm' : Vm} (hx : covers x f.pc = true) (h0 : x.catchType ≠ 0)
    (hg : (Jvm.resolveClass f.method.cls x.catchType).Gives e.toSetting S.vm (.ok cC) vm') (hsz : vm'.classes.size ≤ S.vm.classes.size) (hcell : S.heap[a]? = some cell) (hobj : ∀ k, cell.vm ≠ .statics k)
    (hk : ∃ k, vm'.classes[cell.cls]? = some k) (hc : ∃ k, vm'.classes[cC]? = some k) (hfit : vm'.assignable cell.cls cC = false) :
    wp (findHandler.go f a (x :: t)) Q E e d acts S ↔ wp (findHandler.go f a t) Q E e d acts (S.setVm vm') := by
  simp only [covers] at hx
  obtain ⟨ha, ht⟩ := hg.op (op := VmOp.resolveClass f.method.cls x.catchType) rfl
  have hcell' : (S.setVm vm').heap[a]? = some cell := hcell
  have hk' : ∃ k, (S.setVm vm').vm.classes[cell.cls]? = some k := hk
  have hc' : ∃ k, (S.setVm vm').vm.classes[cC]? = some k := hc
  have hfit' : (S.setVm vm').vm.assignable cell.cls cC = false := hfit
  simp [findHandler.go, hx, h0, ha, ht, hsz, hcell, hcell', hobj, hk, hc, hk', hc', hfit, hfit', VmOp.dirties, VmOp.acts]
theorem tw_search {own Cn : String} {N : ExceptionTableEntry → String} {cell : Cell} {f : JFrame} {a : Addr} (hpl : e.platform.magicAccessors = ({} : Platform).magicAccessors) (hown : s.vm.findClass own = some f.method.cls) (hcls : s.vm.findClass Cn = some cell.cls) (hvm : cell.vm = .none) :
    ∀ (tbl : List ExceptionTableEntry), (∀ x ∈ tbl, covers x f.pc = true ∧ x.catchType ≠ 0 ∧ (Cond.classLink own x.catchType (N x)).before args s = true) → (∃ x ∈ tbl, N x = Cn) →
    ∀ S : State, s.WarmedH S.vm → S.heap[a]? = some cell → ∃ x ∈ tbl, ∃ vm', s.WarmedH vm' ∧ ∀ (Q : Handler → Pre) (E : CtlPost) (d : Bool) (acts : List Action), wp (findHandler.go f a tbl) Q E e d acts S ↔ Q (.found x.handlerPc) d acts (S.setVm vm') := by
  intro tbl
  induction tbl with
  | nil => intro _ h; obtain ⟨x, hx, -⟩ := h; cases hx
  | cons x t ih =>
    intro hall hone S hwm hcell
    obtain ⟨hcov, h0, hlk⟩ := hall x List.mem_cons_self
    obtain ⟨cK, hfcc, hcl⟩ := Cond.classLink_spec hown hlk e.platform hpl
    obtain ⟨hg₁, hwarm₁, hready₁⟩ := State.classEntry (e := e) hwm hcl
    have hsz : (S.vm.noted f.method.cls x.catchType (.cls cK)).classes.size ≤ S.vm.classes.size := by no_record
    generalize hvm1 : S.vm.noted f.method.cls x.catchType (.cls cK) = vm₁ at hg₁ hwarm₁ hready₁ hsz
    obtain ⟨k0, hk0⟩ := Vm.classAt_of_findClass hcls
    obtain ⟨k1, hk1, -⟩ := hwarm₁.alike.2.2 _ _ hk0
    obtain ⟨k2, hk2⟩ := Vm.classAt_of_findClass hfcc
    obtain ⟨k3, hk3, -⟩ := hwarm₁.alike.2.2 _ _ hk2
    cases has : vm₁.assignable cell.cls cK with
    | true => exact ⟨x, List.mem_cons_self, vm₁, hwarm₁, fun Q E d acts => tw_go hcov h0 hg₁ hsz hcell (fun k => by rw [hvm]; intro h; cases h) ⟨k1, hk1⟩ ⟨k3, hk3⟩ has⟩
    | false =>
      have hone' : ∃ x ∈ t, N x = Cn := by
        obtain ⟨y, hy, hly⟩ := hone
        rcases List.mem_cons.mp hy with q | q
        · subst q
          rw [hly] at hfcc
          cases hcls.symm.trans hfcc
          rw [va_asg] at has
          cases has
        · exact ⟨y, q, hly⟩
      obtain ⟨y, hy, vm', hw', hiff⟩ := ih (fun z hz => hall z (List.mem_cons_of_mem _ hz)) hone' (S.setVm vm₁) hwarm₁ hcell
      refine ⟨y, List.mem_cons_of_mem _ hy, vm', hw', fun Q E d acts => ?_⟩
      rw [tw_gono hcov h0 hg₁ hsz hcell (fun k => by rw [hvm]; intro h; cases h) ⟨k1, hk1⟩ ⟨k3, hk3⟩ has]
      exact hiff Q E d acts
theorem tw_caughtN {T : State} (X : Stand p l e R s m args below meth c T locs cells slots) {g : JFrame} (hg : g.method = m) {a : Addr} {cell : Cell} {own Cn : String} {N : ExceptionTableEntry → String} (hall : ∀ x ∈ c.exceptionTable.toList, covers x g.pc = true ∧ x.catchType ≠ 0 ∧ (Cond.classLink own x.catchType (N x)).before args s = true) (hone : ∃ x ∈ c.exceptionTable.toList, N x = Cn)
    (hown : s.vm.findClass own = some m.cls) (hcell : T.heap[a]? = some cell) (hvm : cell.vm = .none) (hcls : s.vm.findClass Cn = some cell.cls) :
    ∃ x ∈ c.exceptionTable.toList, ∃ vm', Stand p l e R s m args below meth c (T.setVm vm') locs cells slots ∧ ∀ target, Steps p.tables e below ((T.setVm vm').setTop { g with pc := x.handlerPc, stack := [.ref a] }) target → Steps p.tables e below ((T.setTop g).pushFrame (.throwing a)) target := by
  subst hg
  have hpl : e.platform.magicAccessors = ({} : Platform).magicAccessors := by rw [X.admits.platform]
  have hat : At T g.method c below := X.here
  obtain ⟨x, hx, vm₁, hwarm₁, hiff⟩ := tw_search (e := e) (args := args) (f := g) (a := a) hpl hown hcls hvm c.exceptionTable.toList hall hone ((T.setTop g).pushFrame (.throwing a)) (by rw [Stand.throwing_vm]; exact X.warmed) (by rw [Stand.throwing_heap]; exact hcell)
  have hfind : ∀ (Q : Handler → Pre) (E : CtlPost) (d : Bool) (acts : List Action), wp (findHandler g a) Q E e d acts ((T.setTop g).pushFrame (.throwing a)) ↔ Q (.found x.handlerPc) d acts (((T.setTop g).pushFrame (.throwing a)).setVm vm₁) := by
    intro Q E d acts
    rw [W.findHandler_eq (meth := meth) (code := c) (by rw [Stand.throwing_vm]; exact X.method') X.code]
    exact hiff Q E d acts
  refine ⟨x, hx, vm₁, X.noted hwarm₁, fun target hrest => ?_⟩
  obtain ⟨hgo, hw⟩ := hat.throwing a
  refine Steps.head hgo hw ?_
  rw [stepThread_throwing (frames_entered hat.top _), (tw_step hfind).1]
  obtain ⟨g₀, hg0⟩ := Option.isSome_iff_exists.mp hat.top
  obtain ⟨r, hr⟩ := State.topJava?_eq_some.mp hg0
  have hr' : (T.setVm vm₁).frames = .java g₀ :: r := hr
  rw [State.setTop_of_frames _ hr'] at hrest
  have e1 : (((T.setTop g).pushFrame (.throwing a)).setVm vm₁) = ((T.setVm vm₁).setFrames (.throwing a :: .java g :: r)) := by
    rw [State.pushFrame, State.frames_setTop _ hr, State.setTop_of_frames _ hr, State.setFrames_setFrames]
    rfl
  rw [e1, State.setFrames_setFrames, hr]
  exact hrest
end th4
