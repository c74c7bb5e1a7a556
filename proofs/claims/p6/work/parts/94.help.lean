/-! ===== the law's own methods, with handlers; the law's calls ===== -/
/-- the law's long[1] -/
def OB (g : Lay) (f : Nat → va_E) (ob : Nat) : Prop := ∃ h : Nat → Int64, f ob = .inl (g.ac ob, 1, .inr (.inl h))
theorem OB.un {W : List Nat} {g : Lay} {f f1 : Nat → va_E} {ob : Nat} (t : g.tg ob = 0) (h : OB g f ob) (hu : un W g f f1) (hW : 0 ∉ W) : OB g f1 ob := by
  obtain ⟨k, e⟩ := h
  exact ⟨k, hu.at t hW e⟩
theorem un_w0 {g : Lay} {f f1 : Nat → va_E} {ob : Nat} (t : g.tg ob = 0) (k : ∀ b, b ≠ ob → f1 b = f b) : un [0] g f f1 := fun a ha => k a (fun z => ha (by rw [z, t]; exact List.mem_singleton.mpr rfl))
section hp
variable {p : Program} {l : Launch} {e : Env} {R : Room} {s : State} {m : MethodId} {args : Array Value} {below : List Frame} {meth : Method} {c : Code} {H : Heap} {locs : List Loc} {Q : State → Prop}
variable {cc : ByteArray} {pc : Nat} {ls : Array Slot} {rest st0 : List Value} {g : Lay} {f : Nat → va_E} {cells slots : Nat}
theorem hp_ofW {y : MethodName} {rm : Room} {sz : Nat} {av : List Value} {Qc : Array Value → State → Outcome → State → Prop} {maxL : Nat} {ret : Option FieldType} {lv : List (Nat × Value)} {hs : List (Nat × Nat × Nat × Nat)} (hy : plainName y.cls = true) (hn : (lg_sl av).length ≤ maxL) (hlv : lv_args 0 av = lv)
    (body : ∀ (p : Program) (e : Env) (s : State) (m : MethodId) (args : Array Value) (below : List Frame) (meth : Method) (c : Code) (ls : Array Slot), p.tables.exec = Jvm.exec → c.code = cc → meth.sig.returnType = ret → c.maxLocals = maxL → meth.locks = false → s.vm.findClass y.cls = some m.cls → TB s → va_P g.D vcl (va_pl g.LP f) s.heap → va_K g.D vcl g.tys s → va_D (pc_A g s.heap.size) (va_pl g.LP f) → sz = s.heap.size → va_S (pc_A g s.heap.size) s.heap s.heap [] → lv_has ls maxL lv → c.exceptionTable.toList = tableOf hs → TZ (pc_A g s.heap.size) s s.heap → W p l e rm s m args below meth c s.heap [] 0 0 (MQ below Qc args s 1 6 (pc_A g sz)) (F0 m 0 ls [])) :
    Met l y [Cond.codeWith y cc maxL ret hs] rm (va_Pc av (pt_in g sz f)) Qc 1 6 (pc_A g sz) := by
  refine tw_ofWith hy ?_
  intro p e s m args below meth c s₁ B hml htab hv
  obtain ⟨rfl, hTZ, hsz, hB, hP, hK, hD0⟩ := hv
  have hl := lv_entry av (n := maxL) hn
  rw [hlv] at hl
  rw [lg_entry_eq]
  generalize (lg_sl av ++ List.replicate (maxL - (lg_sl av).length) Slot.unset).toArray = ls at hl ⊢
  exact body p e s m _ below meth c ls B.exec B.bytes B.returns hml B.notSynchronized (findClass_of_methodNamed B.named) hB hP hK (pc_D hD0) hsz.symm va_S.rf hl htab (by rw [hsz]; exact hTZ)
theorem hp_iret {post : Int32 → (Nat → va_E) → Prop} {v : Int32} (hx : p.tables.exec = Jvm.exec) (hb : c.code = cc) (hr : meth.sig.returnType = some .int) (hlocks : meth.locks = false) (hK : va_K g.D vcl g.tys s) (hP : va_P g.D vcl (va_pl g.LP f) H) (hD : va_D (pc_A g s.heap.size) (va_pl g.LP f)) (hS : va_S (pc_A g s.heap.size) s.heap H locs) (hdg : decode cc pc = .ok (.ireturn, 1)) (hq : post v f) :
    W p l e R s m args below meth c H locs 1 6 (MQ below (va_Qi post (pc_out g s.heap.size) (pc_A g s.heap.size)) args s 1 6 (pc_A g s.heap.size)) (F0 m pc ls [.int v]) :=
  W.iret hx hb hr (fun t ht hW => ⟨⟨v, f, rfl, hq, by rw [ht]; exact hP, va_K.moved hW.alike hK, hD⟩, hS.F ht⟩) hS.2.2 hdg hlocks
end hp
section lp
variable {p : Program} {l : Launch} {e : Env} {R : Room} {s : State} {m : MethodId} {args : Array Value} {below : List Frame} {meth : Method} {c : Code} {H : Heap} {locs : List Loc} {Q : State → Prop}
variable {cc : ByteArray} {pc : Nat} {ls : Array Slot} {rest st0 : List Value} {g : Lay} {f : Nat → va_E} {cells slots mc ms : Nat} {A : Nat → Prop} {a : Array Value}
theorem lp_pre {av : List Value} (hTZ : TZ A s s.heap) (hA : ∀ q, s.heap.size ≤ q → A q) (hS : va_S A s.heap H locs) (hB : TB s) (hK : va_K g.D vcl g.tys s) (hP : va_P g.D vcl (va_pl g.LP f) H) (hD : va_D A (va_pl g.LP f)) : ∀ U : State, U.heap = H → s.WarmedH U.vm → va_Pc av (pt_in g H.size f) av.toArray U := fun U hU hW => ⟨rfl, by rw [hU]; exact hTZ.at hS hW.alike (gw_A hA hD hS), by rw [hU], hB.moved hW, by rw [hU]; exact hP, va_K.moved hW.alike hK, hD.weaken (fun _ _ _ _ => trivial)⟩
theorem lp_i {post : Int32 → (Nat → va_E) → Prop} (hr : va_Run p l e R s m args below meth c H locs cells slots mc ms (F0 m pc ls st0) rest (va_Qi post (pc_out g H.size) (pc_A g H.size) a) (pc_A g H.size)) (hA : ∀ q, s.heap.size ≤ q → A q) (hD : va_D A (va_pl g.LP f)) (hS : va_S A s.heap H locs)
    (kk : ∀ (r : Int32) (f1 : Nat → va_E) (H1 : Heap) (locs1 : List Loc), post r f1 → va_P g.D vcl (va_pl g.LP f1) H1 → va_D A (va_pl g.LP f1) → va_S A s.heap H1 locs1 → W p l e R s m args below meth c H1 locs1 (cells + mc) (slots + ms) Q (F0 m (pc + 3) ls (.int r :: rest))) : W p l e R s m args below meth c H locs cells slots Q (F0 m pc ls st0) :=
  va_calli hr hS (fun q _ h => gw_A hA hD hS q h) (fun q h => gw_A hA hD hS q h) (fun r u t H1 locs1 ht hvm hq hb _ _ hS1 => kk r u H1 locs1 hq (by rw [← ht]; exact hb.1) (hb.2.2.weaken (fun _ _ _ h => gw_A hA hD hS _ h)) hS1)
theorem lp_l {post : Int64 → (Nat → va_E) → Prop} (hr : va_Run p l e R s m args below meth c H locs cells slots mc ms (F0 m pc ls st0) rest (va_Ql post (pc_out g H.size) (pc_A g H.size) a) (pc_A g H.size)) (hA : ∀ q, s.heap.size ≤ q → A q) (hD : va_D A (va_pl g.LP f)) (hS : va_S A s.heap H locs)
    (kk : ∀ (r : Int64) (f1 : Nat → va_E) (H1 : Heap) (locs1 : List Loc), post r f1 → va_P g.D vcl (va_pl g.LP f1) H1 → va_D A (va_pl g.LP f1) → va_S A s.heap H1 locs1 → W p l e R s m args below meth c H1 locs1 (cells + mc) (slots + ms) Q (F0 m (pc + 3) ls (.long r :: rest))) : W p l e R s m args below meth c H locs cells slots Q (F0 m pc ls st0) :=
  va_calll hr hS (fun q _ h => gw_A hA hD hS q h) (fun q h => gw_A hA hD hS q h) (fun r u t H1 locs1 ht hvm hq hb _ _ hS1 => kk r u H1 locs1 hq (by rw [← ht]; exact hb.1) (hb.2.2.weaken (fun _ _ _ h => gw_A hA hD hS _ h)) hS1)
theorem lp_v {post : (Nat → va_E) → Prop} (hr : va_Run p l e R s m args below meth c H locs cells slots mc ms (F0 m pc ls st0) rest (va_Qv post (pc_out g H.size) (pc_A g H.size) a) (pc_A g H.size)) (hA : ∀ q, s.heap.size ≤ q → A q) (hD : va_D A (va_pl g.LP f)) (hS : va_S A s.heap H locs)
    (kk : ∀ (f1 : Nat → va_E) (H1 : Heap) (locs1 : List Loc), post f1 → va_P g.D vcl (va_pl g.LP f1) H1 → va_D A (va_pl g.LP f1) → va_S A s.heap H1 locs1 → W p l e R s m args below meth c H1 locs1 (cells + mc) (slots + ms) Q (F0 m (pc + 3) ls rest)) : W p l e R s m args below meth c H locs cells slots Q (F0 m pc ls st0) :=
  va_callv hr hS (fun q _ h => gw_A hA hD hS q h) (fun q h => gw_A hA hD hS q h) (fun u t H1 locs1 ht hvm hq hb _ _ hS1 => kk u H1 locs1 hq (by rw [← ht]; exact hb.1) (hb.2.2.weaken (fun _ _ _ h => gw_A hA hD hS _ h)) hS1)
end lp

