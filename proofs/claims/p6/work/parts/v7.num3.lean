/-! ===== division, with what comes out of it ===== -/
theorem dm_of {U V g R : Nat} (e : U = g * V + R) (h : R < V) : U / V = g ∧ U % V = R := by
  subst e
  refine ⟨?_, ?_⟩
  · rw [Nat.add_comm, Nat.add_mul_div_right _ _ (by omega), Nat.div_eq_of_lt h, Nat.zero_add]
  · rw [Nat.add_comm, Nat.add_mul_mod_self_right, Nat.mod_eq_of_lt h]
theorem ta_f1 {U U1 V P g c t : Nat} (h : U1 + g * V = U + c * P) (hV : V < P) (h1 : U + t * P < (g + 1) * V) (hc : c ≤ t) : U + t * P = g * V + U1 := by
  obtain ⟨d, rfl⟩ : ∃ d, t = c + d := ⟨t - c, by omega⟩
  rw [Nat.add_mul] at h1 ⊢
  rw [Nat.add_mul] at h1
  rcases Nat.eq_zero_or_pos d with q | q
  · subst q; omega
  · have := Nat.mul_le_mul_right P q
    omega
theorem ta_f2 {U U1 U2 V P g c t k : Nat} (h : U1 + g * V = U + c * P) (hU1 : U1 < P) (hU2 : U2 < P) (hV : V < P) (h2 : g * V < U + t * P + V) (hc : t < c) (hb : U2 + k * P = U1 + V) (hk : k ≤ 1) (hg : 0 < g) : U + t * P = (g - 1) * V + U2 := by
  obtain ⟨d, rfl⟩ : ∃ d, c = t + d := ⟨c - t, by omega⟩
  obtain ⟨e, rfl⟩ : ∃ e, g = e + 1 := ⟨g - 1, by omega⟩
  rw [Nat.add_mul] at h
  rw [Nat.add_sub_cancel]
  rw [Nat.add_mul] at h h2
  have hd : d = 1 := by
    rcases Nat.lt_or_ge d 2 with q | q
    · omega
    · have := Nat.mul_le_mul_right P q
      omega
  subst hd
  have hk1 : k = 1 := by
    rcases Nat.eq_zero_or_pos k with q | q
    · subst q; omega
    · omega
  subst hk1
  omega
theorem rd_step {h hU : Nat → Int32} {j m sc lf : Nat} (hb : (lf * 1000000000 + dg hU j) / sc < 2147483648) (e : kv (fun i => dg h (j + 1 + i)) m * sc + lf = kv (fun i => dg hU (j + 1 + i)) m) : kv (fun i => dg (upd h j (nI ((lf * 1000000000 + dg hU j) / sc))) (j + i)) (m + 1) * sc + (lf * 1000000000 + dg hU j) % sc = kv (fun i => dg hU (j + i)) (m + 1) := by
  have hd := Nat.div_add_mod (lf * 1000000000 + dg hU j) sc
  have e1 : kv (fun i => dg (upd h j (nI ((lf * 1000000000 + dg hU j) / sc))) (j + (i + 1))) m = kv (fun i => dg h (j + 1 + i)) m := kv_eq (fun i _ => by rw [dg_ne (by omega), Nat.add_assoc, Nat.add_comm 1 i])
  have e2 : kv (fun i => dg hU (j + (i + 1))) m = kv (fun i => dg hU (j + 1 + i)) m := kv_eq (fun i _ => by rw [Nat.add_assoc, Nat.add_comm 1 i])
  rw [kv_sh, kv_sh, e1, e2]
  show (dg (upd h j _) (j + 0) + _) * sc + _ = dg hU (j + 0) + _
  rw [Nat.add_zero, dg_at hb, ← e]
  generalize (lf * 1000000000 + dg hU j) / sc = q at *
  generalize (lf * 1000000000 + dg hU j) % sc = r at *
  generalize kv (fun i => dg h (j + 1 + i)) m = K at *
  rw [Nat.add_mul, Nat.mul_assoc, Nat.mul_add, Nat.mul_comm q]
  omega
theorem rd_end {h hU : Nat → Int32} {n sc lf : Nat} (hl : lf < sc) (e : kv (fun i => dg h (0 + i)) n * sc + lf = kv (fun i => dg hU (0 + i)) n) : kv (dg h) n = kv (dg hU) n / sc := by
  have e1 : kv (fun i => dg h (0 + i)) n = kv (dg h) n := kv_eq (fun i _ => by rw [Nat.zero_add])
  have e2 : kv (fun i => dg hU (0 + i)) n = kv (dg hU) n := kv_eq (fun i _ => by rw [Nat.zero_add])
  rw [e1, e2] at e
  exact (dm_of e.symm hl).1.symm
/-- one place of the division -/
theorem dv_step {h hU h1 : Nat → Int32} {j m n V k S : Nat} (hk : k < 2147483648) (hq : k = kv (fun i => dg hU (j + i)) (n + 1) / V) (hr : kv (fun i => dg h1 (j + i)) n = kv (fun i => dg hU (j + i)) (n + 1) % V) (hs : ∀ i, ¬ (j ≤ i ∧ i < j + n) → h1 i = hU i) (e : S = kv (fun i => dg h (j + 1 + i)) m * V * 1000000000 ^ (j + 1) + kv (dg hU) (j + 1 + n)) : S = kv (fun i => dg (upd h j (nI k)) (j + i)) (m + 1) * V * 1000000000 ^ j + kv (dg h1) (j + n) := by
  have e1 : kv (fun i => dg (upd h j (nI k)) (j + (i + 1))) m = kv (fun i => dg h (j + 1 + i)) m := kv_eq (fun i _ => by rw [dg_ne (by omega), Nat.add_assoc, Nat.add_comm 1 i])
  have e2 : kv (dg hU) (j + 1 + n) = kv (dg hU) j + kv (fun i => dg hU (j + i)) (n + 1) * 1000000000 ^ j := by rw [show j + 1 + n = j + (n + 1) by omega, kv_sp]
  have e3 : kv (dg h1) (j + n) = kv (dg hU) j + kv (fun i => dg h1 (j + i)) n * 1000000000 ^ j := by
    rw [kv_sp, kv_eq (h := dg h1) (k := dg hU) (n := j) (fun i hi => by unfold dg; rw [hs i (by omega)])]
  have hd := Nat.div_add_mod (kv (fun i => dg hU (j + i)) (n + 1)) V
  rw [kv_sh, e1, e3, hr, e, e2, kn_s]
  show _ = (dg (upd h j (nI k)) (j + 0) + _) * V * _ + _
  rw [Nat.add_zero j, dg_at hk]
  rw [← hq] at hd
  generalize kv (fun i => dg hU (j + i)) (n + 1) % V = r at *
  generalize kv (fun i => dg hU (j + i)) (n + 1) = UU at *
  generalize kv (fun i => dg h (j + 1 + i)) m = K at *
  generalize kv (dg hU) j = L at *
  generalize 1000000000 ^ j = P at *
  subst hd
  have f1 : K * V * (1000000000 * P) = 1000000000 * K * V * P := by rw [← Nat.mul_assoc, Nat.mul_comm (K * V) 1000000000, ← Nat.mul_assoc 1000000000]
  rw [Nat.add_mul, Nat.add_mul, Nat.add_mul (k * V), Nat.mul_comm V k, f1]
  omega
theorem dv_fin {X Y sc Q R V S : Nat} (hs : 0 < sc) (e : S = Q * V + R) (hR : R < V) (eS : S = sc * X) (eV : V = sc * Y) : Q = X / Y ∧ R / sc = X % Y := by
  subst eV
  have hX : Q * Y ≤ X := by
    rcases Nat.lt_or_ge X (Q * Y) with q | q
    · have := Nat.mul_le_mul_left sc q
      have e2 : Q * (sc * Y) = sc * (Q * Y) := by rw [← Nat.mul_assoc, Nat.mul_comm Q, Nat.mul_assoc]
      rw [Nat.mul_succ] at this
      omega
    · exact q
  obtain ⟨r, rfl⟩ : ∃ r, X = Q * Y + r := ⟨X - Q * Y, by omega⟩
  have e2 : Q * (sc * Y) = sc * (Q * Y) := by rw [← Nat.mul_assoc, Nat.mul_comm Q, Nat.mul_assoc]
  have hr : R = sc * r := by rw [Nat.mul_add] at eS; omega
  have hlt : r < Y := Nat.lt_of_mul_lt_mul_left (a := sc) (by omega)
  obtain ⟨h1, h2⟩ := dm_of (U := Q * Y + r) rfl hlt
  refine ⟨h1.symm, ?_⟩
  rw [h2, hr, Nat.mul_div_cancel_left _ hs]
theorem LS_nz {sg : Int32} {n : Nat} (h : LSg sg n) (hn : 0 < n) : sg = nI 1 ∨ sg = -1 := by
  rcases h with ⟨z, -⟩ | ⟨-, z⟩
  · omega
  · exact z
theorem td_q {a b : Int32} {m n : Nat} (ha : LSg a m) (hb : LSg b n) (hm : 0 < m) (hn : 0 < n) (X Y : Nat) : (a * b).toInt * ((X / Y : Nat) : Int) = Int.tdiv (a.toInt * (X : Int)) (b.toInt * (Y : Int)) := by
  rcases LS_nz ha hm with rfl | rfl <;> rcases LS_nz hb hn with rfl | rfl
  · rw [show (nI 1 * nI 1).toInt = 1 by decide, ti_1, Int.one_mul, Int.one_mul, Int.one_mul]; rfl
  · rw [show (nI 1 * (-1)).toInt = -1 by decide, ti_1, ti_m, Int.one_mul, Int.neg_mul, Int.one_mul, Int.neg_mul, Int.one_mul, Int.tdiv_neg]; rfl
  · rw [show ((-1) * nI 1).toInt = -1 by decide, ti_1, ti_m, Int.one_mul, Int.neg_mul, Int.one_mul, Int.neg_mul, Int.one_mul, Int.neg_tdiv]; rfl
  · rw [show ((-1 : Int32) * (-1)).toInt = 1 by decide, ti_m, Int.one_mul, Int.neg_mul, Int.one_mul, Int.neg_mul, Int.one_mul, Int.neg_tdiv_neg]; rfl
theorem td_r {a b : Int32} {m n : Nat} (ha : LSg a m) (hb : LSg b n) (hm : 0 < m) (hn : 0 < n) (X Y : Nat) : a.toInt * ((X % Y : Nat) : Int) = Int.tmod (a.toInt * (X : Int)) (b.toInt * (Y : Int)) := by
  rcases LS_nz ha hm with rfl | rfl <;> rcases LS_nz hb hn with rfl | rfl
  · rw [ti_1, Int.one_mul, Int.one_mul, Int.one_mul]; rfl
  · rw [ti_1, ti_m, Int.one_mul, Int.one_mul, Int.neg_mul, Int.one_mul, Int.tmod_neg]; rfl
  · rw [ti_1, ti_m, Int.one_mul, Int.neg_mul, Int.one_mul, Int.neg_mul, Int.one_mul, Int.neg_tmod]; rfl
  · rw [ti_m, Int.neg_mul, Int.one_mul, Int.neg_mul, Int.one_mul, Int.neg_mul, Int.one_mul, Int.neg_tmod, Int.tmod_neg]; rfl
theorem td_abs (x y : Int) : (Int.tdiv x y).natAbs = x.natAbs / y.natAbs ∧ (Int.tmod x y).natAbs = x.natAbs % y.natAbs := ⟨Int.natAbs_tdiv x y, Int.natAbs_tmod x y⟩
theorem td_lt {x y : Int} (h : x.natAbs < y.natAbs) : Int.tdiv x y = 0 ∧ Int.tmod x y = x := by
  have h1 := (td_abs x y).1
  rw [Nat.div_eq_of_lt h] at h1
  have h2 : Int.tdiv x y = 0 := by omega
  refine ⟨h2, ?_⟩
  have := Int.tmod_add_mul_tdiv x y
  rw [h2] at this
  simpa using this
theorem td_le {x y : Int} {T : Nat} (h : x.natAbs < T) : (Int.tdiv x y).natAbs < T ∧ (Int.tmod x y).natAbs < T := by
  have h1 := td_abs x y
  have h2 := Nat.div_le_self x.natAbs y.natAbs
  have h3 := Nat.mod_le x.natAbs y.natAbs
  omega
theorem LNV_nlt {sx sy : Int32} {nx ny : Nat} {hx hy : Nat → Int32} {vx vy : Int} (qx : LNV sx nx hx vx) (qy : LNV sy ny hy vy) (h : nx < ny) : vx.natAbs < vy.natAbs := by
  rw [LNV_abs qx, LNV_abs qy]
  exact kv_more (CB_lt qx.2.1 qx.1) h (qy.2.2.2.1 (by omega))
theorem LS_qs {a b : Int32} {m n : Nat} (ha : LSg a m) (hb : LSg b n) (hm : 0 < m) (hn : 0 < n) : LSg (a * b) 1 := by
  rcases LS_nz ha hm with rfl | rfl <;> rcases LS_nz hb hn with rfl | rfl
  · exact Or.inr ⟨by decide, Or.inl (by decide)⟩
  · exact Or.inr ⟨by decide, Or.inr (by decide)⟩
  · exact Or.inr ⟨by decide, Or.inr (by decide)⟩
  · exact Or.inr ⟨by decide, Or.inl (by decide)⟩
theorem dv_z0 {h hU : Nat → Int32} {P V n S : Nat} (e : S = kv (fun i => dg h (0 + i)) (P - 0) * V * 1000000000 ^ 0 + kv (dg hU) (0 + n)) (hR : kv (fun i => dg hU (0 + i)) n < V) : S = kv (dg h) P * V + kv (dg hU) n ∧ kv (dg hU) n < V := by
  have e1 : kv (fun i => dg h (0 + i)) P = kv (dg h) P := kv_eq (fun i _ => by rw [Nat.zero_add])
  have e2 : kv (fun i => dg hU (0 + i)) n = kv (dg hU) n := kv_eq (fun i _ => by rw [Nat.zero_add])
  rw [Nat.pow_zero, Nat.mul_one, Nat.zero_add, Nat.sub_zero, e1] at e
  rw [e2] at hR
  exact ⟨e, hR⟩

