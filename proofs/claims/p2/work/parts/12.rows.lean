/-! ===== small rows for the walks ===== -/
theorem lo_in {g : Lay} (hL : LO g) {a T : Nat} (ht : g.tg a = T) (h : T ≠ 0) : a ∈ g.LP := lo_mem hL a (by rw [ht]; exact h)
theorem pl_gt {x y : Int64} : nI 0 < lg_cmp x y ↔ y < x := by
  unfold lg_cmp
  by_cases h1 : y < x
  · simp only [h1, if_true]; exact ⟨fun _ => trivial, fun _ => by decide⟩
  · by_cases h2 : x = y
    · simp only [h1, h2, if_true, if_false]; exact ⟨fun h => absurd h (by decide), fun h => absurd h (by simpa [h2] using h1)⟩
    · simp only [h1, h2, if_false]; exact ⟨fun h => absurd h (by decide), fun h => absurd h (by simp)⟩
theorem pl_eq {x y : Int64} : lg_cmp x y = nI 0 ↔ x = y := by
  unfold lg_cmp
  by_cases h1 : y < x
  · simp only [h1, if_true]; exact ⟨fun h => absurd h (by decide), fun h => absurd h1 (by rw [h]; exact Int64.lt_irrefl)⟩
  · by_cases h2 : x = y
    · simp only [h1, h2, if_true, if_false]; exact ⟨fun _ => trivial, fun _ => by first | rfl | (split <;> first | rfl | (rename_i q; exact absurd q Int64.lt_irrefl))⟩
    · simp only [h1, h2, if_false]; exact ⟨fun h => absurd h (by decide), fun h => absurd h (by simp)⟩
theorem pl_lt {x y : Int64} : lg_cmp x y < nI 0 ↔ x < y := by
  unfold lg_cmp
  by_cases h1 : y < x
  · simp only [h1, if_true]; exact ⟨fun h => absurd h (by decide), fun h => absurd (Int64.lt_trans h h1) Int64.lt_irrefl⟩
  · by_cases h2 : x = y
    · subst h2; simp only [h1, if_true, if_false]; exact ⟨fun h => absurd h (by decide), fun h => absurd h (by simp)⟩
    · simp only [h1, h2, if_false]; exact ⟨fun _ => Int64.lt_of_le_of_ne (Int64.not_lt.mp h1) h2, fun _ => by decide⟩
theorem pl_ge {x y : Int64} : nI 0 ≤ lg_cmp x y ↔ y ≤ x := by
  rw [← Int64.not_lt, ← pl_lt, Int32.not_lt]
theorem pl_le {x y : Int64} : lg_cmp x y ≤ nI 0 ↔ x ≤ y := by
  rw [← Int64.not_lt, ← pl_gt, Int32.not_lt]
section pcp
variable {p : Program} {l : Launch} {e : Env} {R : Room} {s : State} {m : MethodId} {args : Array Value} {below : List Frame} {meth : Method} {c : Code} {H : Heap} {locs : List Loc} {cells slots : Nat} {Q : State → Prop}
variable {cc : ByteArray} {pc : Nat} {ls : Array Slot} {rest : List Value} {g : Lay} {f : Nat → va_E} {A : Nat → Prop} {H0 : Heap} {a a0 : Nat}
theorem pf_copyi (hexec : p.tables.exec = Jvm.exec) (hb : c.code = cc) (hml : c.maxLocals = ls.size) {own : String} {index : Nat} (hown : s.vm.findClass own = some m.cls) (hlink : (Cond.methodLink own index arraycopyName).before args s = true) (hnat : (Cond.native arraycopyName).before args s = true) (hstat : (Cond.static arraycopyName).before args s = true) (hini : (Cond.initialized "java/lang/System").before args s = true)
    (hK : va_K g.D vcl g.tys s) (hP : va_P g.D vcl (va_pl g.LP f) H) (hD : va_D A (va_pl g.LP f)) (hS : va_S A H0 H locs) (ha0 : a0 ∈ g.LP) (ha : a ∈ g.LP) {n0 n1 : Nat} {h0 h1 : Nat → Int32} (e0 : f a0 = .inl (g.ac a0, n0, .inl h0)) (e1 : f a = .inl (g.ac a, n1, .inl h1)) (t0 : g.tys[g.tn a0]? = some (g.ac a0, .int)) (t1 : g.tys[g.tn a]? = some (g.ac a, .int))
    {sp dp n : Nat} (h4 : sp + n ≤ n0) (h5 : dp + n ≤ n1) (hn0 : n0 < 2 ^ 31) (hn1 : n1 < 2 ^ 31)
    (hframes : 1 ≤ R.frames) (hlocals : (rest.map fun v => v.category).sum + (nativeFrameWords "java/lang/System" "arraycopy" 5 + 11) ≤ R.locals) (hdg : decode cc pc = .ok (.invokestatic index, 3))
    (kk : ∀ (f1 : Nat → va_E) (H1 : Heap) (locs1 : List Loc), f1 a = .inl (g.ac a, n1, .inl (va_cpy h0 h1 sp dp n)) → (∀ b, b ≠ a → f1 b = f b) → va_P g.D vcl (va_pl g.LP f1) H1 → va_D A (va_pl g.LP f1) → va_S A H0 H1 locs1 → W p l e R s m args below meth c H1 locs1 cells slots Q (F0 m (pc + 3) ls rest)) : W p l e R s m args below meth c H locs cells slots Q (F0 m pc ls (.int (nI n) :: .int (nI dp) :: .ref a :: .int (nI sp) :: .ref a0 :: rest)) := by
  obtain ⟨q0, hq0⟩ := pg_at ha0 e0
  obtain ⟨q1, hq1⟩ := pg_at ha e1
  have c1 : (nI n).toNatClampNeg = n := nI_clamp (by omega)
  have c2 : (nI sp).toNatClampNeg = sp := nI_clamp (by omega)
  have c3 : (nI dp).toNatClampNeg = dp := nI_clamp (by omega)
  refine va_copyi hexec hb hml hown hlink hnat hstat hini hK hP hD hS q0 q1 (g.tn a0) (g.tn a) hq0 hq1 t0 t1 rfl (nI_pos (by omega)) (nI_pos (by omega)) (nI_pos (by omega)) (by omega) (by omega) (fun _ _ => rfl) hframes hlocals hdg (fun H1 locs1 h1 h2 h3 => kk _ H1 locs1 pf_up.1 pf_up.2 ?_ ?_ h3)
  · rw [c1, c2, c3] at h1; rw [← pg_up hD ha e1 hq1]; exact h1
  · rw [c1, c2, c3] at h2; rw [← pg_up hD ha e1 hq1]; exact h2
end pcp
