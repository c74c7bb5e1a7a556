section th7
variable {p : Program} {l : Launch} {e : Env} {R : Room} {s : State} {m : MethodId} {args : Array Value} {below : List Frame} {meth : Method} {c : Code} {H : Heap} {locs : List Loc} {cells slots : Nat}
theorem tw_search2 {own Cn : String} {N : ExceptionTableEntry → String} {cell : Cell} {f : JFrame} {a : Addr} (hpl : e.platform.magicAccessors = ({} : Platform).magicAccessors) (hown : s.vm.findClass own = some f.method.cls) (hcls : s.vm.findClass Cn = some cell.cls) (hvm : cell.vm = .none) :
    ∀ (tbl : List ExceptionTableEntry), (∀ x ∈ tbl, covers x f.pc = true ∧ x.catchType ≠ 0 ∧ (Cond.classLink own x.catchType (N x)).before args s = true) → (∃ x ∈ tbl, N x = Cn) → (∀ x ∈ tbl, N x ≠ Cn → ∀ b, s.vm.findClass (N x) = some b → s.vm.assignable cell.cls b = false) →
    ∀ S : State, s.WarmedH S.vm → S.heap[a]? = some cell → ∃ x ∈ tbl, N x = Cn ∧ ∃ vm', s.WarmedH vm' ∧ ∀ (Q : Handler → Pre) (E : CtlPost) (d : Bool) (acts : List Action), wp (findHandler.go f a tbl) Q E e d acts S ↔ Q (.found x.handlerPc) d acts (S.setVm vm') := by
  intro tbl
  induction tbl with
  | nil => intro _ h; obtain ⟨x, hx, -⟩ := h; cases hx
  | cons x t ih =>
    intro hall hone hnc S hwm hcell
    obtain ⟨hcov, h0, hlk⟩ := hall x List.mem_cons_self
    obtain ⟨cK, hfcc, hcl⟩ := Cond.classLink_spec hown hlk e.platform hpl
    obtain ⟨hg₁, hwarm₁, hready₁⟩ := State.classEntry (e := e) hwm hcl
    have hsz : (S.vm.noted f.method.cls x.catchType (.cls cK)).classes.size ≤ S.vm.classes.size := by no_record
    generalize hvm1 : S.vm.noted f.method.cls x.catchType (.cls cK) = vm₁ at hg₁ hwarm₁ hready₁ hsz
    obtain ⟨k0, hk0⟩ := Vm.classAt_of_findClass hcls
    obtain ⟨k1, hk1, -⟩ := hwarm₁.alike.2.2 _ _ hk0
    obtain ⟨k2, hk2⟩ := Vm.classAt_of_findClass hfcc
    obtain ⟨k3, hk3, -⟩ := hwarm₁.alike.2.2 _ _ hk2
    cases has : vm₁.assignable cell.cls cK with
    | true =>
      have hq : N x = Cn := by
        by_cases q : N x = Cn
        · exact q
        · have z := hnc x List.mem_cons_self q cK hfcc
          rw [← hwarm₁.alike.assignable, has] at z
          cases z
      exact ⟨x, List.mem_cons_self, hq, vm₁, hwarm₁, fun Q E d acts => tw_go hcov h0 hg₁ hsz hcell (fun k => by rw [hvm]; intro h; cases h) ⟨k1, hk1⟩ ⟨k3, hk3⟩ has⟩
    | false =>
      have hone' : ∃ x ∈ t, N x = Cn := by
        obtain ⟨y, hy, hly⟩ := hone
        rcases List.mem_cons.mp hy with q | q
        · subst q
          rw [hly] at hfcc
          cases hcls.symm.trans hfcc
          rw [va_asg] at has
          cases has
        · exact ⟨y, q, hly⟩
      obtain ⟨y, hy, hyq, vm', hw', hiff⟩ := ih (fun z hz => hall z (List.mem_cons_of_mem _ hz)) hone' (fun z hz => hnc z (List.mem_cons_of_mem _ hz)) (S.setVm vm₁) hwarm₁ hcell
      refine ⟨y, List.mem_cons_of_mem _ hy, hyq, vm', hw', fun Q E d acts => ?_⟩
      rw [tw_gono hcov h0 hg₁ hsz hcell (fun k => by rw [hvm]; intro h; cases h) ⟨k1, hk1⟩ ⟨k3, hk3⟩ has]
      exact hiff Q E d acts
theorem tw_caughtN2 {T : State} (X : Stand p l e R s m args below meth c T locs cells slots) {g : JFrame} (hg : g.method = m) {a : Addr} {cell : Cell} {own Cn : String} {N : ExceptionTableEntry → String} (hall : ∀ x ∈ c.exceptionTable.toList, covers x g.pc = true ∧ x.catchType ≠ 0 ∧ (Cond.classLink own x.catchType (N x)).before args s = true) (hone : ∃ x ∈ c.exceptionTable.toList, N x = Cn) (hnc : ∀ x ∈ c.exceptionTable.toList, N x ≠ Cn → ∀ b, s.vm.findClass (N x) = some b → s.vm.assignable cell.cls b = false)
    (hown : s.vm.findClass own = some m.cls) (hcell : T.heap[a]? = some cell) (hvm : cell.vm = .none) (hcls : s.vm.findClass Cn = some cell.cls) :
    ∃ x ∈ c.exceptionTable.toList, N x = Cn ∧ ∃ vm', Stand p l e R s m args below meth c (T.setVm vm') locs cells slots ∧ ∀ target, Steps p.tables e below ((T.setVm vm').setTop { g with pc := x.handlerPc, stack := [.ref a] }) target → Steps p.tables e below ((T.setTop g).pushFrame (.throwing a)) target := by
  subst hg
  have hpl : e.platform.magicAccessors = ({} : Platform).magicAccessors := by rw [X.admits.platform]
  have hat : At T g.method c below := X.here
  obtain ⟨x, hx, hxq, vm₁, hwarm₁, hiff⟩ := tw_search2 (e := e) (args := args) (f := g) (a := a) hpl hown hcls hvm c.exceptionTable.toList hall hone hnc ((T.setTop g).pushFrame (.throwing a)) (by rw [Stand.throwing_vm]; exact X.warmed) (by rw [Stand.throwing_heap]; exact hcell)
  have hfind : ∀ (Q : Handler → Pre) (E : CtlPost) (d : Bool) (acts : List Action), wp (findHandler g a) Q E e d acts ((T.setTop g).pushFrame (.throwing a)) ↔ Q (.found x.handlerPc) d acts (((T.setTop g).pushFrame (.throwing a)).setVm vm₁) := by
    intro Q E d acts
    rw [W.findHandler_eq (meth := meth) (code := c) (by rw [Stand.throwing_vm]; exact X.method') X.code]
    exact hiff Q E d acts
  refine ⟨x, hx, hxq, vm₁, X.noted hwarm₁, fun target hrest => ?_⟩
  obtain ⟨hgo, hw⟩ := hat.throwing a
  refine Steps.head hgo hw ?_
  rw [stepThread_throwing (frames_entered hat.top _), (tw_step hfind).1]
  obtain ⟨g₀, hg0⟩ := Option.isSome_iff_exists.mp hat.top
  obtain ⟨r, hr⟩ := State.topJava?_eq_some.mp hg0
  have hr' : (T.setVm vm₁).frames = .java g₀ :: r := hr
  rw [State.setTop_of_frames _ hr'] at hrest
  have e1 : (((T.setTop g).pushFrame (.throwing a)).setVm vm₁) = ((T.setVm vm₁).setFrames (.throwing a :: .java g :: r)) := by
    rw [State.pushFrame, State.frames_setTop _ hr, State.setTop_of_frames _ hr, State.setFrames_setFrames]
    rfl
  rw [e1, State.setFrames_setFrames, hr]
  exact hrest
end th7
section th8
variable {p : Program} {l : Launch} {e : Env} {R : Room} {s : State} {m : MethodId} {args : Array Value} {below : List Frame} {meth : Method} {c : Code} {H : Heap} {locs : List Loc} {cells slots : Nat}
theorem tw_callP2 {cc : ByteArray} {own C : String} {N : ExceptionTableEntry → String} {index pc nL n : Nat} {ls : Array Slot} {y : MethodName} {bytes : ByteArray} {maxL : Nat} {ret : Option FieldType} {rm : Room} {Pc : Array Value → State → Prop} {Qc : Array Value → State → Outcome → State → Prop} {mc ms : Nat} {free : Addr → Prop} {b : Addr} {As rest : List Value} {Tq : Array Value → State → Addr → State → String → Prop} {Q : State → Prop}
    (hx : p.tables.exec = Jvm.exec) (hb : c.code = cc) (hml : c.maxLocals = nL) (hown : s.vm.findClass own = some m.cls) (hM : tw_Met l y [Cond.code y bytes maxL ret] rm Pc Qc mc ms free)
    (hcode : (Cond.code y bytes maxL ret).before args s = true) (hini : (Cond.initialized y.cls).before args s = true) (hlk : (Cond.methodLink own index y).before args s = true) (hinst : (Cond.instanceMethod y).before args s = true) (hsel : (Cond.selects C y y).before args s = true)
    (hy : y.cls ≠ "java/lang/invoke/MethodHandle" ∧ y.cls ≠ "java/lang/invoke/VarHandle" ∧ (parseMethodDescriptor y.desc).map (fun d => d.parameters.length) = some n) (hR : rm.frames + 1 ≤ R.frames ∧ 8 + (maxL + 11) + rm.locals ≤ R.locals) (hrc : rm.cells = mc) (hrs : rm.slots = ms)
    (hp : PreV s H C b Pc As) (hn : As.length = n) (hsz : ls.size = nL) (hW : (rest.map fun v => v.category).sum ≤ 8) (hdg : decode cc pc = .ok (.invokevirtual index, 3)) (hf : cells + mc ≤ R.cells ∧ slots + ms ≤ R.slots)
    (hall : ∀ x ∈ c.exceptionTable.toList, covers x pc = true ∧ x.catchType ≠ 0 ∧ (Cond.classLink own x.catchType (N x)).before args s = true)
    (hth : ∀ a st x t, Qc a st (.threw x) t → ∃ ce Cn, Tq a st x t Cn ∧ t.heap[x]? = some ce ∧ st.vm.findClass Cn = some ce.cls ∧ ce.vm = .none ∧ (∃ r ∈ c.exceptionTable.toList, N r = Cn) ∧ ∀ r ∈ c.exceptionTable.toList, N r ≠ Cn → (Cn, N r) ∈ ncl) (hNC : NCs s)
    (kr : ∀ (v : Option Value) (st t : State) (L : List Loc), st.heap = H → Qc (Value.ref b :: As).toArray st (.returned v) t → (∀ q ∈ L, free q.base) → s.WarmedH t.vm → W p l e R s m args below meth c t.heap (locs ++ L) (cells + mc) (slots + ms) Q (F0 m (pc + 3) ls (v.toList ++ rest)))
    (kt : ∀ (x : Addr) (st t : State) (L : List Loc) (r : ExceptionTableEntry) (Cn : String), r ∈ c.exceptionTable.toList → N r = Cn → st.heap = H → Tq (Value.ref b :: As).toArray st x t Cn → (∀ q ∈ L, free q.base) → s.WarmedH t.vm → W p l e R s m args below meth c t.heap (locs ++ L) (cells + mc) (slots + ms) Q (F0 m r.handlerPc ls [.ref x])) :
    W p l e R s m args below meth c H locs cells slots Q (F0 m pc ls (As.reverse ++ .ref b :: rest)) := by
  intro T hT X
  obtain ⟨hbl, ⟨cellB, hcB, hoB, hclB⟩, hPc⟩ := hp
  obtain ⟨mk, methM, hnamed, hmethM, hstM, habM⟩ := Cond.instanceMethod_spec hinst
  obtain ⟨methM', cM, hmethM', -, -, -, -, -, -, hsigM⟩ := Cond.code_spec hnamed hcode
  cases hmethM.symm.trans hmethM'
  obtain ⟨c2, r2, m2, q1, q2, q3, q4, kP, hkP, hkPi⟩ := Cond.selects_spec hsel
  cases hclB.symm.trans q1
  cases (State.methodFound?_of_named hnamed ⟨hy.1, hy.2.1⟩).symm.trans q2
  cases hnamed.symm.trans q3
  have hselP : selectMethod e.platform s.vm cellB.cls mk = .method mk := by rw [Launch.admits_selectMethod X.admits]; exact q4
  have hlen : As.length = methM.sig.parameters.length := by
    have h2 := hy.2.2
    rw [hsigM] at h2
    exact hn.trans (Option.some.inj h2).symm
  obtain ⟨vm₁, X₁, hstep₁⟩ := X.invokevirtual hx hown hlk hnamed hmethM hstM hkP hkPi ⟨hy.1, hy.2.1⟩ (a := b) (cell := cellB) (by rw [hT]; exact hcB)
    (fun z h => by rw [h] at hoB; cases hoB) hselP hmethM habM hkP hkPi (g := F0 m pc ls (As.reverse ++ .ref b :: rest)) rfl (argsL := As) (rest := rest) hlen rfl (by rw [hb]; exact hdg)
  obtain ⟨o, st, t, L, U', h1, h2, hq, hL, h3, h4, X', hs⟩ := tw_back2 hM hbl X₁ hrc hrs hR.1 hR.2 (fun a => word_at X₁.warmed (Or.inl rfl) hcode) (word_at X₁.warmed (Or.inl rfl) hini)
    (g := F0 m pc ls rest) rfl (hsz.trans hml.symm) (by rw [hb]; exact hdg) (by show 2 * 0 + (rest.map fun v => v.category).sum ≤ 8; omega) (X₁.named hnamed) (hPc (T.setVm vm₁) hT X₁.warmed) hf
  have hwt : s.WarmedH t.vm := by rw [← h4]; exact X'.warmed
  cases o with
  | threw x =>
    obtain ⟨ce, Cn, hTq, hce, hcc, hcv, hrow, hncl⟩ := hth _ _ _ _ hq
    have hcs : s.vm.findClass Cn = some ce.cls := by rw [h2] at hcc; rw [← X₁.warmed.alike.findClass]; exact hcc
    obtain ⟨r, hr, hrq, vm₂, X₂, hs₂⟩ := tw_caughtN2 X' (g := F0 m pc ls rest) rfl (a := x) (cell := ce) (N := N) (Cn := Cn) hall hrow (fun y hy hny d hd => hNC (Cn, N y) (hncl y hy hny) ce.cls d hcs hd) hown (by rw [h3]; exact hce) hcv hcs
    obtain ⟨tt, s1, s2⟩ := kt x st t L r Cn hr hrq (by rw [h1]; exact hT) hTq hL hwt (U'.setVm vm₂) h3 X₂
    refine ⟨tt, hstep₁ _ (fun acts => ?_), s2⟩
    rw [doInvoke_state]
    exact Steps.trans hs (hs₂ _ s1)
  | returned v =>
    obtain ⟨tt, s1, s2⟩ := kr v st t L (by rw [h1]; exact hT) hq hL hwt U' h3 X'
    refine ⟨tt, hstep₁ _ (fun acts => ?_), s2⟩
    rw [doInvoke_state]
    exact Steps.trans hs s1
end th8
section hp2
variable {p : Program} {l : Launch} {e : Env} {R : Room} {s : State} {m : MethodId} {args : Array Value} {below : List Frame} {meth : Method} {c : Code} {H : Heap} {locs : List Loc} {Q : State → Prop}
variable {cc : ByteArray} {pc : Nat} {ls : Array Slot} {rest st0 : List Value} {g : Lay} {f : Nat → va_E} {cells slots : Nat}
theorem hp_call2 {own C : String} {N : ExceptionTableEntry → String} {index nL n : Nat} {y : MethodName} {bytes : ByteArray} {maxL : Nat} {ret : Option FieldType} {rm : Room} {b : Addr} {As : List Value} {post : Option Value → (Nat → va_E) → Prop} {thr : String → (Nat → va_E) → Prop}
    (hx : p.tables.exec = Jvm.exec) (hb : c.code = cc) (hml : c.maxLocals = nL) (hown : s.vm.findClass own = some m.cls) (hM : tw_Met l y [Cond.code y bytes maxL ret] rm (va_Pc (.ref b :: As) (pt_in g H.size f)) (tq post thr g H.size) 1 6 (pc_A g H.size))
    (hcode : (Cond.code y bytes maxL ret).before args s = true) (hini : (Cond.initialized y.cls).before args s = true) (hlk : (Cond.methodLink own index y).before args s = true) (hinst : (Cond.instanceMethod y).before args s = true) (hsel : (Cond.selects C y y).before args s = true)
    (hy : y.cls ≠ "java/lang/invoke/MethodHandle" ∧ y.cls ≠ "java/lang/invoke/VarHandle" ∧ (parseMethodDescriptor y.desc).map (fun d => d.parameters.length) = some n) (hR : rm.frames + 1 ≤ R.frames ∧ 8 + (maxL + 11) + rm.locals ≤ R.locals) (hrc : rm.cells = 1) (hrs : rm.slots = 6)
    (hp : PreV s H C b (va_Pc (.ref b :: As) (pt_in g H.size f)) As) (hn : As.length = n) (hsz : ls.size = nL) (hW : (rest.map fun v => v.category).sum ≤ 8) (hdg : decode cc pc = .ok (.invokevirtual index, 3)) (hf : 0 + 1 ≤ R.cells ∧ 0 + 6 ≤ R.slots)
    (hall : ∀ x ∈ c.exceptionTable.toList, covers x pc = true ∧ x.catchType ≠ 0 ∧ (Cond.classLink own x.catchType (N x)).before args s = true)
    (hrow : ∀ C9 f1, thr C9 f1 → (∃ r ∈ c.exceptionTable.toList, N r = C9) ∧ ∀ r ∈ c.exceptionTable.toList, N r ≠ C9 → (C9, N r) ∈ ncl) (hNC : NCs s) (hS : va_S (pc_A g s.heap.size) s.heap H locs)
    (kr : ∀ (v : Option Value) (f1 : Nat → va_E) (H1 : Heap) (locs1 : List Loc), post v f1 → va_P g.D vcl (va_pl g.LP f1) H1 → va_D (pc_A g s.heap.size) (va_pl g.LP f1) → va_S (pc_A g s.heap.size) s.heap H1 locs1 → W p l e R s m args below meth c H1 locs1 1 6 Q (F0 m (pc + 3) ls (v.toList ++ rest)))
    (kt : ∀ (x : Addr) (C9 : String) (f1 : Nat → va_E) (H1 : Heap) (locs1 : List Loc) (r : ExceptionTableEntry), r ∈ c.exceptionTable.toList → N r = C9 → thr C9 f1 → va_P g.D vcl (va_pl g.LP f1) H1 → va_D (pc_A g s.heap.size) (va_pl g.LP f1) → va_S (pc_A g s.heap.size) s.heap H1 locs1 → W p l e R s m args below meth c H1 locs1 1 6 Q (F0 m r.handlerPc ls [.ref x])) :
    W p l e R s m args below meth c H locs 0 0 Q (F0 m pc ls (As.reverse ++ .ref b :: rest)) := by
  have hSS : ∀ (st t : State) (L : List Loc), st.heap = H → va_F (pc_A g H.size) st t → (∀ q ∈ L, pc_A g H.size q.base) → va_S (pc_A g s.heap.size) s.heap t.heap (locs ++ L) := by
    intro st t L h1 hF hL
    refine ⟨Nat.le_trans hS.1 (by rw [← h1]; exact hF.1), fun q z1 z2 => ?_, fun q hq => ?_⟩
    · rw [hF.2 q (by rw [h1]; exact Nat.lt_of_lt_of_le z1 hS.1) (fun z => z2 (pe_A hS rfl q z)), h1]
      exact hS.2.1 q z1 z2
    · rcases List.mem_append.mp hq with z | z
      · exact hS.2.2 q z
      · exact pe_A hS rfl _ (hL q z)
  refine tw_callP2 (Tq := fun _ st _ t Cn => ∃ f1, pc_out g H.size f1 t ∧ va_F (pc_A g H.size) st t ∧ thr Cn f1) hx hb hml hown hM hcode hini hlk hinst hsel hy hR hrc hrs hp hn hsz hW hdg hf hall ?_ hNC ?_ ?_
  · rintro a st x t ⟨f1, p1, p2, h | ⟨x', ce, C9, h1, h2, h3, h4, h5⟩⟩
    · obtain ⟨v, hv, -⟩ := h
      cases hv
    · cases h1
      exact ⟨ce, C9, ⟨f1, p1, p2, h5⟩, h2, h3, h4, (hrow C9 f1 h5).1, (hrow C9 f1 h5).2⟩
  · rintro v st t L h1 ⟨f1, ⟨hP1, hK1, hD1⟩, hF, h | ⟨x', ce, C9, h2, -⟩⟩ hL -
    · obtain ⟨v', hv, hq⟩ := h
      cases hv
      exact kr v f1 t.heap (locs ++ L) hq hP1 (hD1.weaken (fun _ _ _ z => pe_A hS rfl _ z)) (hSS st t L h1 hF hL)
    · cases h2
  · rintro x st t L r Cn hr hrq h1 ⟨f1, ⟨hP1, hK1, hD1⟩, hF, h6⟩ hL -
    exact kt x Cn f1 t.heap (locs ++ L) r hr hrq h6 hP1 (hD1.weaken (fun _ _ _ z => pe_A hS rfl _ z)) (hSS st t L h1 hF hL)
end hp2

