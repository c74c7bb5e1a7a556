/-! ===== a throw that is caught by one of several rows ===== -/
section th4
variable {p : Program} {l : Launch} {e : Env} {R : Room} {s : State} {m : MethodId} {args : Array Value} {below : List Frame} {meth : Method} {c : Code} {H : Heap} {locs : List Loc} {cells slots : Nat}
theorem tw_gono {S : State} {E : CtlPost} {d : Bool} {acts : List Action} {f : JFrame} {a : Addr} {Q : Handler → Pre} {x : ExceptionTableEntry} {t : List ExceptionTableEntry} {cC : ClassId} {cell : Cell} {vm' : Vm} (hx : covers x f.pc = true) (h0 : x.catchType ≠ 0)
    (hg : (Jvm.resolveClass f.method.cls x.catchType).Gives e.toSetting S.vm (.ok cC) vm') (hsz : vm'.classes.size ≤ S.vm.classes.size) (hcell : S.heap[a]? = some cell) (hobj : ∀ k, cell.vm ≠ .statics k)
    (hk : ∃ k, vm'.classes[cell.cls]? = some k) (hc : ∃ k, vm'.classes[cC]? = some k) (hfit : vm'.assignable cell.cls cC = false) :
    wp (findHandler.go f a (x :: t)) Q E e d acts S ↔ wp (findHandler.go f a t) Q E e d acts (S.setVm vm') := by
  simp only [covers] at hx
  obtain ⟨ha, ht⟩ := hg.op (op := VmOp.resolveClass f.method.cls x.catchType) rfl
  have hcell' : (S.setVm vm').heap[a]? = some cell := hcell
  have hk' : ∃ k, (S.setVm vm').vm.classes[cell.cls]? = some k := hk
  have hc' : ∃ k, (S.setVm vm').vm.classes[cC]? = some k := hc
  have hfit' : (S.setVm vm').vm.assignable cell.cls cC = false := hfit
  simp [findHandler.go, hx, h0, ha, ht, hsz, hcell, hcell', hobj, hk, hc, hk', hc', hfit, hfit', VmOp.dirties, VmOp.acts]
end th4

