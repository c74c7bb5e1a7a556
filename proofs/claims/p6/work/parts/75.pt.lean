/-! ===== contracts over the pool of methods that may throw ===== -/
def PZ (A : Nat → Prop) (U : State) (H : Heap) : Prop := ∃ (t : Nat) (p9 : Nat → Nat), (∀ j, j < 9 → 0 < p9 j ∧ p9 j ≤ 100000000 ∧ p9 j = 10 ^ j) ∧ va_Z "BigRunner$LongNumber" "POWERS" "[I" (.ref t) A U H ∧ va_T .int t 9 (fun j => .int (nI (p9 j))) A U H
def ncl : List (String × String) := [("java/lang/IllegalArgumentException", "java/lang/IllegalStateException"), ("java/lang/ArithmeticException", "java/lang/IllegalStateException"), ("java/lang/UnsupportedOperationException", "java/lang/IllegalStateException"), ("java/lang/ArithmeticException", "java/lang/IllegalArgumentException"), ("java/lang/UnsupportedOperationException", "java/lang/IllegalArgumentException"), ("java/lang/UnsupportedOperationException", "java/lang/ArithmeticException"), ("java/lang/UnsupportedOperationException", "java/lang/IndexOutOfBoundsException"), ("java/lang/IllegalStateException", "java/lang/IllegalArgumentException"), ("java/lang/IllegalStateException", "java/lang/ArithmeticException"), ("java/lang/IllegalStateException", "java/lang/UnsupportedOperationException"), ("java/lang/IllegalArgumentException", "java/lang/ArithmeticException"), ("java/lang/IllegalArgumentException", "java/lang/UnsupportedOperationException"), ("java/lang/ArithmeticException", "java/lang/UnsupportedOperationException"), ("java/lang/IndexOutOfBoundsException", "java/lang/UnsupportedOperationException")]
/-- of these classes none can be cast to the other -/
def NCs (U : State) : Prop := ∀ x, x ∈ ncl → ∀ a b, U.vm.findClass x.1 = some a → U.vm.findClass x.2 = some b → U.vm.assignable a b = false
theorem NCs.moved {s U : State} (h : NCs s) (hv : s.vm.Alike U.vm) : NCs U := fun x hx a b h1 h2 => by
  rw [hv.assignable]
  exact h x hx a b (by rw [← hv.findClass]; exact h1) (by rw [← hv.findClass]; exact h2)
theorem NCs.one {A B : String} {args : Array Value} {s : State} (h : (Cond.not (Cond.castable A B)).before args s = true) : ∀ a b, s.vm.findClass A = some a → s.vm.findClass B = some b → s.vm.assignable a b = false := by
  intro a b h1 h2
  simp only [Cond.before, Cond.holds, Cond.value] at h
  simp [h1, h2] at h
  exact h
def TZ (A : Nat → Prop) (U : State) (H : Heap) : Prop := th_Z "UNASSIGNED_STACK" "[Ljava/lang/StackTraceElement;" A U H ∧ (th_Z "SUPPRESSED_SENTINEL" "Ljava/util/List;" A U H ∧ NCs U) ∧ PZ A U H
theorem TZ.th {A : Nat → Prop} {s U : State} {H : Heap} {locs : List Loc} (h : TZ A s s.heap) (hS : va_S A s.heap H locs) (hv : s.vm.Alike U.vm) (hh : U.heap = H) : TH U := by
  have h1 := ((h.1.kept (fun a z1 z2 => hS.2.1 a z1 z2)).narrow (B := fun _ => False) (fun _ z => z.elim)).moved hv
  have h2 := ((h.2.1.1.kept (fun a z1 z2 => hS.2.1 a z1 z2)).narrow (B := fun _ => False) (fun _ z => z.elim)).moved hv
  unfold TH
  rw [hh]
  exact ⟨h1, h2⟩
theorem TZ.at {A B : Nat → Prop} {s U : State} {H : Heap} {locs : List Loc} (h : TZ A s s.heap) (hS : va_S A s.heap H locs) (hv : s.vm.Alike U.vm) (hAB : ∀ q, B q → A q) : TZ B U H := by
  obtain ⟨h1, ⟨h2, hn⟩, t, p9, h3, h4, h5⟩ := h
  exact ⟨((h1.kept (fun a z1 z2 => hS.2.1 a z1 z2)).narrow hAB).moved hv, ⟨((h2.kept (fun a z1 z2 => hS.2.1 a z1 z2)).narrow hAB).moved hv, hn.moved hv⟩, t, p9, h3, ((h4.kept (fun a z1 z2 => hS.2.1 a z1 z2)).narrow hAB).moved hv, ((h5.kept (fun a z1 z2 => hS.2.1 a z1 z2)).narrow hAB).moved hv⟩
def pt_in (g : Lay) (sz : Nat) (f : Nat → va_E) : State → Prop := fun U => TZ (pc_A g sz) U U.heap ∧ pc_in g sz f U
def tq (post : Option Value → (Nat → va_E) → Prop) (thr : String → (Nat → va_E) → Prop) (g : Lay) (sz : Nat) : Array Value → State → Outcome → State → Prop := fun _ st o t => ∃ f1, pc_out g sz f1 t ∧ va_F (pc_A g sz) st t ∧ ((∃ v, o = .returned v ∧ post v f1) ∨ (∃ x ce C, o = .threw x ∧ t.heap[x]? = some ce ∧ st.vm.findClass C = some ce.cls ∧ ce.vm = .none ∧ thr C f1))
section pt
variable {p : Program} {l : Launch} {e : Env} {R : Room} {s : State} {m : MethodId} {args : Array Value} {below : List Frame} {meth : Method} {c : Code} {H : Heap} {locs : List Loc} {Q : State → Prop}
variable {cc : ByteArray} {pc : Nat} {ls : Array Slot} {rest st0 : List Value} {g : Lay} {f : Nat → va_E}
theorem pt_ofW {y : MethodName} {rm : Room} {sz : Nat} {av : List Value} {Qc : Array Value → State → Outcome → State → Prop} {maxL : Nat} {ret : Option FieldType} {lv : List (Nat × Value)} (hy : plainName y.cls = true) (hn : (lg_sl av).length ≤ maxL) (hlv : lv_args 0 av = lv)
    (body : ∀ (p : Program) (e : Env) (s : State) (m : MethodId) (args : Array Value) (below : List Frame) (meth : Method) (c : Code) (ls : Array Slot), p.tables.exec = Jvm.exec → c.code = cc → meth.sig.returnType = ret → c.maxLocals = maxL → meth.locks = false → s.vm.findClass y.cls = some m.cls → TB s → va_P g.D vcl (va_pl g.LP f) s.heap → va_K g.D vcl g.tys s → va_D (pc_A g s.heap.size) (va_pl g.LP f) → sz = s.heap.size → va_S (pc_A g s.heap.size) s.heap s.heap [] → lv_has ls maxL lv → c.exceptionTable.isEmpty = true → TZ (pc_A g s.heap.size) s s.heap → W p l e rm s m args below meth c s.heap [] 0 0 (tw_MQ below Qc args s 1 6 (pc_A g sz)) (F0 m 0 ls [])) :
    tw_Met l y [Cond.code y cc maxL ret] rm (va_Pc av (pt_in g sz f)) Qc 1 6 (pc_A g sz) := by
  refine tw_ofW (cc := cc) (maxL := maxL) (ret := ret) hy rfl ?_
  intro p e s m args below meth c s₁ B hml hno hv
  obtain ⟨rfl, hTZ, hsz, hB, hP, hK, hD0⟩ := hv
  have hl := lv_entry av (n := maxL) hn
  rw [hlv] at hl
  rw [lg_entry_eq]
  generalize (lg_sl av ++ List.replicate (maxL - (lg_sl av).length) Slot.unset).toArray = ls at hl ⊢
  exact body p e s m _ below meth c ls B.exec B.bytes B.returns hml B.notSynchronized (findClass_of_methodNamed B.named) hB hP hK (pc_D hD0) hsz.symm va_S.rf hl hno (by rw [hsz]; exact hTZ)
/-- a method that throws nothing, with the word on statics -/
theorem pt_ofM {y : MethodName} {rm : Room} {sz : Nat} {av : List Value} {Qc : Array Value → State → Outcome → State → Prop} {maxL : Nat} {ret : Option FieldType} {lv : List (Nat × Value)} (hy : plainName y.cls = true) (hn : (lg_sl av).length ≤ maxL) (hlv : lv_args 0 av = lv)
    (body : ∀ (p : Program) (e : Env) (s : State) (m : MethodId) (args : Array Value) (below : List Frame) (meth : Method) (c : Code) (ls : Array Slot), p.tables.exec = Jvm.exec → c.code = cc → meth.sig.returnType = ret → c.maxLocals = maxL → meth.locks = false → s.vm.findClass y.cls = some m.cls → TB s → va_P g.D vcl (va_pl g.LP f) s.heap → va_K g.D vcl g.tys s → va_D (pc_A g s.heap.size) (va_pl g.LP f) → sz = s.heap.size → va_S (pc_A g s.heap.size) s.heap s.heap [] → lv_has ls maxL lv → TZ (pc_A g s.heap.size) s s.heap → W p l e rm s m args below meth c s.heap [] 0 0 (MQ below Qc args s 0 0 (pc_A g sz)) (F0 m 0 ls [])) :
    Met l y [Cond.code y cc maxL ret] rm (va_Pc av (pt_in g sz f)) Qc 0 0 (pc_A g sz) := by
  refine Met.ofW (cc := cc) (maxL := maxL) (ret := ret) hy rfl ?_
  intro p e s m args below meth c s₁ B hml hv
  obtain ⟨rfl, hTZ, hsz, hB, hP, hK, hD0⟩ := hv
  have hl := lv_entry av (n := maxL) hn
  rw [hlv] at hl
  rw [lg_entry_eq]
  generalize (lg_sl av ++ List.replicate (maxL - (lg_sl av).length) Slot.unset).toArray = ls at hl ⊢
  exact body p e s m _ below meth c ls B.exec B.bytes B.returns hml B.notSynchronized (findClass_of_methodNamed B.named) hB hP hK (pc_D hD0) hsz.symm va_S.rf hl (by rw [hsz]; exact hTZ)
theorem pt_pre {av : List Value} (hTZ : TZ (pc_A g s.heap.size) s s.heap) (hS : va_S (pc_A g s.heap.size) s.heap H locs) (hB : TB s) (hK : va_K g.D vcl g.tys s) (hP : va_P g.D vcl (va_pl g.LP f) H) {A : Nat → Prop} (hD : va_D A (va_pl g.LP f)) : ∀ U : State, U.heap = H → s.WarmedH U.vm → va_Pc av (pt_in g H.size f) av.toArray U := fun U hU hW => ⟨rfl, by rw [hU]; exact hTZ.at hS hW.alike (fun q h => pe_A hS rfl q h), by rw [hU], hB.moved hW, by rw [hU]; exact hP, va_K.moved hW.alike hK, hD.weaken (fun _ _ _ _ => trivial)⟩
theorem pt_bl {av : List Value} {sz : Nat} : ∀ (a : Array Value) (U : State) (gg : JFrame) (mk : MethodId), va_Pc av (pt_in g sz f) a U → va_Pc av (pt_in g sz f) a (U.calling gg mk a) := fun a U gg mk q => by
  obtain ⟨q0, qT, q1, qB, qP, qK, qD⟩ := q
  exact ⟨q0, TZ.at (locs := []) (U := U.calling gg mk a) qT va_S.rf (Vm.Alike.refl U.vm) (fun _ h => h), q1, TB.same (s := U) (U := U.calling gg mk a) rfl qB, qP, va_K.moved (u := U) (U := U.calling gg mk a) (Vm.Alike.refl U.vm) qK, qD⟩
variable {post : Option Value → (Nat → va_E) → Prop} {thr : String → (Nat → va_E) → Prop}
theorem pt_iret {v : Int32} (hx : p.tables.exec = Jvm.exec) (hb : c.code = cc) (hr : meth.sig.returnType = some .int) (hlocks : meth.locks = false) (hK : va_K g.D vcl g.tys s) (hP : va_P g.D vcl (va_pl g.LP f) H) (hD : va_D (pc_A g s.heap.size) (va_pl g.LP f)) (hS : va_S (pc_A g s.heap.size) s.heap H locs) (hdg : decode cc pc = .ok (.ireturn, 1)) (hq : post (some (.int v)) f) :
    W p l e R s m args below meth c H locs 0 0 (tw_MQ below (tq post thr g s.heap.size) args s 1 6 (pc_A g s.heap.size)) (F0 m pc ls [.int v]) := by
  refine W.widen (k := 1) (n := 6) (by omega) (by omega) ?_
  exact tw_mono (W.iret (Qc := tq post thr g s.heap.size) hx hb hr (fun t ht hW => ⟨f, ⟨by rw [ht]; exact hP, va_K.moved hW.alike hK, hD⟩, hS.F ht, Or.inl ⟨_, rfl, hq⟩⟩) hS.2.2 hdg hlocks) (tw_mq (fun _ _ h => h))
theorem pt_lret {v : Int64} (hx : p.tables.exec = Jvm.exec) (hb : c.code = cc) (hr : meth.sig.returnType = some .long) (hlocks : meth.locks = false) (hK : va_K g.D vcl g.tys s) (hP : va_P g.D vcl (va_pl g.LP f) H) (hD : va_D (pc_A g s.heap.size) (va_pl g.LP f)) (hS : va_S (pc_A g s.heap.size) s.heap H locs) (hdg : decode cc pc = .ok (.lreturn, 1)) (hq : post (some (.long v)) f) :
    W p l e R s m args below meth c H locs 0 0 (tw_MQ below (tq post thr g s.heap.size) args s 1 6 (pc_A g s.heap.size)) (F0 m pc ls [.long v]) := by
  refine W.widen (k := 1) (n := 6) (by omega) (by omega) ?_
  exact tw_mono (W.lret (Qc := tq post thr g s.heap.size) hx hb hr (fun t ht hW => ⟨f, ⟨by rw [ht]; exact hP, va_K.moved hW.alike hK, hD⟩, hS.F ht, Or.inl ⟨_, rfl, hq⟩⟩) hS.2.2 hdg hlocks) (tw_mq (fun _ _ h => h))
theorem pt_throw {own cls text : String} {ik is ic : Nat} {names : List String} (hexec : p.tables.exec = Jvm.exec) (hb : c.code = cc) (hsz : ls.size = c.maxLocals) (hlocks : meth.locks = false) (hno : c.exceptionTable.isEmpty = true) (htr : l.stackTraces = false)
    (hown : s.vm.findClass own = some m.cls) (hfit : Bundle.fit cls = true) (hnames : ∀ n ∈ names, Bundle.fit n = true) (hB : TB s) (hTZ : TZ (pc_A g s.heap.size) s s.heap)
    (hws : ∀ U : State, TB U → TH U → (Cond.classLink own ik cls).before args U = true ∧ (Cond.instantiable cls 6).before args U = true ∧ (Cond.initialized cls).before args U = true ∧ (Cond.stringRef own is text).before args U = true ∧ ∀ a ∈ Bundle.ownAtoms own ic cls names, a.before args U = true)
    (hK : va_K g.D vcl g.tys s) (hP : va_P g.D vcl (va_pl g.LP f) H) (hD : va_D (pc_A g s.heap.size) (va_pl g.LP f)) (hS : va_S (pc_A g s.heap.size) s.heap H locs)
    (d0 : decode cc pc = .ok (.new ik, 3)) (d3 : decode cc (pc + 3) = .ok (.dup, 1)) (d4 : decode cc (pc + 4) = .ok (.ldc is, 2)) (d6 : decode cc (pc + 6) = .ok (.invokespecial ic, 3)) (d9 : decode cc (pc + 9) = .ok (.athrow, 1))
    (hRf : names.length + 3 < R.frames) (hRl : (rest.map fun v => v.category).sum + (13 * (names.length + 1) + 50) ≤ R.locals) (hRc : 1 ≤ R.cells) (hRs : 6 ≤ R.slots) (hq : thr cls f) :
    W p l e R s m args below meth c H locs 0 0 (tw_MQ below (tq post thr g s.heap.size) args s 1 6 (pc_A g s.heap.size)) (F0 m pc ls rest) := by
  refine tw_throwP hexec hb hsz hlocks hno htr hown hfit hnames (fun U hv hh => hws U (TB.same hv hB) (hTZ.th hS (by rw [hv]; exact Vm.Alike.refl _) hh)) hS (fun _ h => h) d0 d3 d4 d6 d9 hRf hRl hRc hRs (fun t a ce h1 h2 h3 hW hs hh => ?_)
  refine ⟨f, ⟨hP.kept (fun k q hk => hh q.1 ((hP k q hk).lt)), va_K.moved hW.alike hK, hD⟩, ⟨Nat.le_trans hS.1 hs, fun q z1 z2 => (hh q (Nat.lt_of_lt_of_le z1 hS.1)).trans (hS.2.1 q z1 z2)⟩, Or.inr ⟨a, ce, cls, rfl, h1, h2, h3, hq⟩⟩
end pt

