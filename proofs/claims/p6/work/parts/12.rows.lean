/-! ===== small rows for the walks ===== -/
theorem lo_in {g : Lay} (hL : LO g) {a T : Nat} (ht : g.tg a = T) (h : T ≠ 0) : a ∈ g.LP := lo_mem hL a (by rw [ht]; exact h)
theorem pl_gt {x y : Int64} : nI 0 < lg_cmp x y ↔ y < x := by
  unfold lg_cmp
  by_cases h1 : x > y
  · rw [if_pos h1]; exact ⟨fun _ => h1, fun _ => by decide⟩
  · rw [if_neg h1]
    by_cases h2 : x = y
    · rw [if_pos h2]; exact ⟨fun h => absurd h (by decide), fun h => absurd h h1⟩
    · rw [if_neg h2]; exact ⟨fun h => absurd h (by decide), fun h => absurd h h1⟩
theorem pl_eq {x y : Int64} : lg_cmp x y = nI 0 ↔ x = y := by
  unfold lg_cmp
  by_cases h1 : x > y
  · rw [if_pos h1]; exact ⟨fun h => absurd h (by decide), fun h => absurd h1 (by rw [h]; exact Int64.lt_irrefl)⟩
  · rw [if_neg h1]
    by_cases h2 : x = y
    · rw [if_pos h2]; exact ⟨fun _ => h2, fun _ => by decide⟩
    · rw [if_neg h2]; exact ⟨fun h => absurd h (by decide), fun h => absurd h h2⟩
theorem pl_lt {x y : Int64} : lg_cmp x y < nI 0 ↔ x < y := by
  unfold lg_cmp
  by_cases h1 : x > y
  · rw [if_pos h1]; exact ⟨fun h => absurd h (by decide), fun h => absurd (Int64.lt_trans h h1) Int64.lt_irrefl⟩
  · rw [if_neg h1]
    by_cases h2 : x = y
    · rw [if_pos h2]; exact ⟨fun h => absurd h (by decide), fun h => absurd h (by rw [h2]; exact Int64.lt_irrefl)⟩
    · rw [if_neg h2]; exact ⟨fun _ => Int64.lt_of_le_of_ne (Int64.not_lt.mp h1) h2, fun _ => by decide⟩
theorem pl_ge {x y : Int64} : nI 0 ≤ lg_cmp x y ↔ y ≤ x := by
  rw [← Int64.not_lt, ← pl_lt, Int32.not_lt]
theorem pl_le {x y : Int64} : lg_cmp x y ≤ nI 0 ↔ x ≤ y := by
  rw [← Int64.not_lt, ← pl_gt, Int32.not_lt]
section pcp
variable {p : Program} {l : Launch} {e : Env} {R : Room} {s : State} {m : MethodId} {args : Array Value} {below : List Frame} {meth : Method} {c : Code} {H : Heap} {locs : List Loc} {cells slots : Nat} {Q : State → Prop}
variable {cc : ByteArray} {pc : Nat} {ls : Array Slot} {rest : List Value} {g : Lay} {f : Nat → va_E} {A : Nat → Prop} {H0 : Heap} {a a0 : Nat}
theorem pf_copyi (hexec : p.tables.exec = Jvm.exec) (hb : c.code = cc) (hml : c.maxLocals = ls.size) {own : String} {index : Nat} (hown : s.vm.findClass own = some m.cls) (hlink : (Cond.methodLink own index arraycopyName).before args s = true) (hnat : (Cond.native arraycopyName).before args s = true) (hstat : (Cond.static arraycopyName).before args s = true) (hini : (Cond.initialized "java/lang/System").before args s = true)
    (hK : va_K g.D vcl g.tys s) (hP : va_P g.D vcl (va_pl g.LP f) H) (hD : va_D A (va_pl g.LP f)) (hS : va_S A H0 H locs) (ha0 : a0 ∈ g.LP) (ha : a ∈ g.LP) {n0 n1 : Nat} {h0 h1 : Nat → Int32} (e0 : f a0 = .inl (g.ac a0, n0, .inl h0)) (e1 : f a = .inl (g.ac a, n1, .inl h1)) (t0 : g.tys[g.tn a0]? = some (g.ac a0, .int)) (t1 : g.tys[g.tn a]? = some (g.ac a, .int))
    {sp dp n : Nat} (h4 : sp + n ≤ n0) (h5 : dp + n ≤ n1) (hn0 : n0 < 2 ^ 31) (hn1 : n1 < 2 ^ 31)
    (hframes : 1 ≤ R.frames) (hlocals : (rest.map fun v => v.category).sum + (nativeFrameWords "java/lang/System" "arraycopy" 5 + 11) ≤ R.locals) (hdg : decode cc pc = .ok (.invokestatic index, 3))
    (kk : ∀ (f1 : Nat → va_E) (H1 : Heap) (locs1 : List Loc), f1 a = .inl (g.ac a, n1, .inl (va_cpy h0 h1 sp dp n)) → (∀ b, b ≠ a → f1 b = f b) → va_P g.D vcl (va_pl g.LP f1) H1 → va_D A (va_pl g.LP f1) → va_S A H0 H1 locs1 → W p l e R s m args below meth c H1 locs1 cells slots Q (F0 m (pc + 3) ls rest)) : W p l e R s m args below meth c H locs cells slots Q (F0 m pc ls (.int (nI n) :: .int (nI dp) :: .ref a :: .int (nI sp) :: .ref a0 :: rest)) := by
  obtain ⟨q0, hq0⟩ := pg_at ha0 e0
  obtain ⟨q1, hq1⟩ := pg_at ha e1
  have c1 : (nI n).toNatClampNeg = n := nI_clamp (by omega)
  have c2 : (nI sp).toNatClampNeg = sp := nI_clamp (by omega)
  have c3 : (nI dp).toNatClampNeg = dp := nI_clamp (by omega)
  refine va_copyi hexec hb hml hown hlink hnat hstat hini hK hP hD hS q0 q1 (g.tn a0) (g.tn a) hq0 hq1 t0 t1 rfl (nI_pos (by omega)) (nI_pos (by omega)) (nI_pos (by omega)) (by omega) (by omega) (fun _ _ => rfl) hframes hlocals hdg (fun H1 locs1 h1 h2 h3 => kk _ H1 locs1 pf_up.1 pf_up.2 ?_ ?_ h3)
  · rw [c1, c2, c3] at h1; rw [← pg_up hD ha e1 hq1]; exact h1
  · rw [c1, c2, c3] at h2; rw [← pg_up hD ha e1 hq1]; exact h2
end pcp
section plw
variable {p : Program} {l : Launch} {e : Env} {R : Room} {s : State} {m : MethodId} {args : Array Value} {below : List Frame} {meth : Method} {c : Code} {H : Heap} {locs : List Loc} {cells slots : Nat} {Q : State → Prop}
variable {cc : ByteArray} {pc : Nat} {ls : Array Slot} {rest : List Value}
theorem nL_ne0 {n : Nat} (h0 : 0 < n) (h : n < 2 ^ 63) : ¬ nL n = 0 := fun q => by
  have := (nL_eq (a := n) (b := 0) h (by decide)).mp q
  omega
theorem pf_laddN (hexec : p.tables.exec = Jvm.exec) (hb : c.code = cc) {x y : Nat} (hdg : decode cc pc = .ok (.ladd, 1)) (kk : W p l e R s m args below meth c H locs cells slots Q (F0 m (pc + 1) ls (.long (nL (x + y)) :: rest))) : W p l e R s m args below meth c H locs cells slots Q (F0 m pc ls (.long (nL y) :: .long (nL x) :: rest)) := lv_ladd hexec hb hdg (by rw [nL_add]; exact kk)
theorem pf_lsubN (hexec : p.tables.exec = Jvm.exec) (hb : c.code = cc) {x y : Nat} (hle : y ≤ x) (hdg : decode cc pc = .ok (.lsub, 1)) (kk : W p l e R s m args below meth c H locs cells slots Q (F0 m (pc + 1) ls (.long (nL (x - y)) :: rest))) : W p l e R s m args below meth c H locs cells slots Q (F0 m pc ls (.long (nL y) :: .long (nL x) :: rest)) := lv_lsub hexec hb hdg (by rw [nL_sub hle]; exact kk)
theorem pf_lmulN (hexec : p.tables.exec = Jvm.exec) (hb : c.code = cc) {x y : Nat} (hdg : decode cc pc = .ok (.lmul, 1)) (kk : W p l e R s m args below meth c H locs cells slots Q (F0 m (pc + 1) ls (.long (nL (x * y)) :: rest))) : W p l e R s m args below meth c H locs cells slots Q (F0 m pc ls (.long (nL y) :: .long (nL x) :: rest)) := lv_lmul hexec hb hdg (by rw [nL_mul]; exact kk)
theorem pf_ldivN (hexec : p.tables.exec = Jvm.exec) (hb : c.code = cc) {x y : Nat} (hx : x < 2 ^ 63) (h0 : 0 < y) (hy : y < 2 ^ 63) (hdg : decode cc pc = .ok (.ldiv, 1)) (kk : W p l e R s m args below meth c H locs cells slots Q (F0 m (pc + 1) ls (.long (nL (x / y)) :: rest))) : W p l e R s m args below meth c H locs cells slots Q (F0 m pc ls (.long (nL y) :: .long (nL x) :: rest)) := lv_ldiv hexec hb hdg (nL_ne0 h0 hy) (by rw [nL_div hx hy]; exact kk)
theorem pf_lremN (hexec : p.tables.exec = Jvm.exec) (hb : c.code = cc) {x y : Nat} (hx : x < 2 ^ 63) (h0 : 0 < y) (hy : y < 2 ^ 63) (hdg : decode cc pc = .ok (.lrem, 1)) (kk : W p l e R s m args below meth c H locs cells slots Q (F0 m (pc + 1) ls (.long (nL (x % y)) :: rest))) : W p l e R s m args below meth c H locs cells slots Q (F0 m pc ls (.long (nL y) :: .long (nL x) :: rest)) := lv_lrem hexec hb hdg (nL_ne0 h0 hy) (by rw [nL_rem hx hy]; exact kk)
theorem pf_i2lN (hexec : p.tables.exec = Jvm.exec) (hb : c.code = cc) {x : Nat} (hx : x < 2 ^ 31) (hdg : decode cc pc = .ok (.i2l, 1)) (kk : W p l e R s m args below meth c H locs cells slots Q (F0 m (pc + 1) ls (.long (nL x) :: rest))) : W p l e R s m args below meth c H locs cells slots Q (F0 m pc ls (.int (nI x) :: rest)) := lv_i2l hexec hb hdg (nI_nL hx) kk
theorem pf_l2iN (hexec : p.tables.exec = Jvm.exec) (hb : c.code = cc) {x : Nat} (hdg : decode cc pc = .ok (.l2i, 1)) (kk : W p l e R s m args below meth c H locs cells slots Q (F0 m (pc + 1) ls (.int (nI x) :: rest))) : W p l e R s m args below meth c H locs cells slots Q (F0 m pc ls (.long (nL x) :: rest)) := lv_l2i hexec hb hdg (nL_i x) kk
end plw
theorem tn_ne {g : Lay} {a b m n : Nat} (ha : g.tn a = m) (hb : g.tn b = n) (h : m ≠ n) : a ≠ b := fun q => h (by rw [← ha, ← hb, q])
theorem mi_min {a b : Nat} (ha : a < 2 ^ 31) (hb : b < 2 ^ 31) : (if nI b < nI a then nI b else nI a) = nI (min a b) := by
  by_cases h : b < a
  · rw [if_pos ((nI_ltI hb ha).mpr h), Nat.min_eq_right (Nat.le_of_lt h)]
  · rw [if_neg (mt (nI_ltI hb ha).mp h), Nat.min_eq_left (Nat.le_of_not_lt h)]
theorem mi_max {a b : Nat} (ha : a < 2 ^ 31) (hb : b < 2 ^ 31) : (if nI a < nI b then nI b else nI a) = nI (max a b) := by
  by_cases h : a < b
  · rw [if_pos ((nI_ltI ha hb).mpr h), Nat.max_eq_right (Nat.le_of_lt h)]
  · rw [if_neg (mt (nI_ltI ha hb).mp h), Nat.max_eq_left (Nat.le_of_not_lt h)]
theorem nI_ss (a b c : Nat) : nI a - nI b - nI c = nI a - nI (b + c) := by
  rw [← nI_add]
  generalize nI a = x
  generalize nI b = y
  generalize nI c = z
  simp only [Int32.sub_eq_add_neg, Int32.neg_add, Int32.add_assoc]
theorem nI_pr1 (n : Nat) : nI (n + 1) - nI 1 = nI n := by rw [← nI_add, Int32.add_sub_cancel]
theorem lb_cpy {n0 n1 sp dp m : Nat} {h0 h1 : Nat → Int32} (c0 : ∀ j, j < n0 → ∃ k, k < 1000000000 ∧ h0 j = nI k) (c1 : ∀ j, j < n1 → ∃ k, k < 1000000000 ∧ h1 j = nI k) (hs : sp + m ≤ n0) (_ : dp + m ≤ n1) : ∀ j, j < n1 → ∃ k, k < 1000000000 ∧ va_cpy h0 h1 sp dp m j = nI k := fun j hj => by
  unfold va_cpy
  by_cases q : dp ≤ j ∧ j < dp + m
  · rw [if_pos q]; exact c0 _ (by omega)
  · rw [if_neg q]; exact c1 j hj
theorem upd_at (h : Nat → Int32) (i : Nat) (x : Int32) : upd h i x i = x := if_pos rfl
theorem upd_ne (h : Nat → Int32) {i j : Nat} (x : Int32) (q : j ≠ i) : upd h i x j = h j := if_neg q
theorem ab_ne {v z : Int64} (h : ¬ v = nL 0) (e : z = if 0 < v then v else -v) : ¬ z = 0 := by
  intro q
  rw [q] at e
  by_cases p : 0 < v
  · rw [if_pos p] at e; exact h (e.symm.trans rfl)
  · rw [if_neg p] at e
    apply h
    have : v = -(-v) := by rw [Int64.neg_neg]
    rw [this, ← e]
    rfl
theorem bl_1 {r : Int32} (h : r = nI 0 ∨ r = nI 1) (n : ¬ r = 0) : r = nI 1 := h.resolve_left n
theorem nz {y : Int64} (h : ¬ y = nL 0) : ¬ y = 0 := h
theorem nI_n1 {j : Nat} (h : j < 2 ^ 31) : nI j ≠ (-1) := fun q => by
  have h1 := nI_toInt h
  rw [q, show (-1 : Int32).toInt = -1 by decide] at h1
  omega

