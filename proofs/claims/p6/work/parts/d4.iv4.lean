/-! ===== the reference's ROUNDS ===== -/
theorem MR_pop {ua : Nat → Int32} {a : Nat → Int64} {ub : Nat → Int32} {b : Nat → Int64} {n : Nat} {S : List IVL} (h : MR ua a ub b n S) (hn : 1 ≤ n) : ∃ X S', S = X :: S' ∧ RO (ua (n - 1)) (a (n - 1)) X.1 ∧ RO (ub (n - 1)) (b (n - 1)) X.2 ∧ MR ua a ub b (n - 1) S' := by
  obtain ⟨k, rfl⟩ : ∃ k, n = k + 1 := ⟨n - 1, by omega⟩
  exact h
theorem MR_v {ua : Nat → Int32} {a : Nat → Int64} {ub : Nat → Int32} {b : Nat → Int64} {k n : Nat} {S : List IVL} {x z : Int32} {y w : Int64} {o : IVL} (hn : n = k + 1) (h : MR ua a ub b k S) (h1 : RO x y o.1) (h2 : RO z w o.2) : MR (upd ua k x) (vp_updL a k y) (upd ub k z) (vp_updL b k w) n (o :: S) := by
  subst hn
  exact MR_u h h1 h2
theorem r_in1 : RO (bI (mU false (-1000000000))) (mV false (-1000000000)) inI.1 := RO_iv (fun q => by cases q) (fun _ => by decide)
theorem r_in2 : RO (bI (mU false (nL 1000000000))) (mV false (nL 1000000000)) inI.2 := RO_iv (fun q => by cases q) (fun _ => by decide)
def LB (x : Nat × Nat) : Prop := x.1 ≤ 12 ∧ (x.1 < 2 → x.2 < 1000000000) ∧ (x.1 = 8 ∨ x.1 = 9 → x.2 < 2147483648)
def CZ4 (mv wd : Bool) (m n : Nat) : Prop := m ≤ n ∧ (mv = true → wd = true → m < n)
theorem cz_jd {un : Nat → Int32} {v : Nat} {dn x : Bool} (hv : v < 10) (h : dn = true → un v = nI 0) : cz (if dn = true then upd un v (bI x) else un) 10 ≤ cz un 10 ∧ (dn = true → x = true → cz (if dn = true then upd un v (bI x) else un) 10 < cz un 10) := by
  cases dn with
  | false => rw [if_neg (by decide)]; exact ⟨Nat.le_refl _, fun q => by cases q⟩
  | true =>
    rw [if_pos rfl]
    have h0 := h rfl
    cases x with
    | true => have := cz_1 (x := bI true) (h0.trans nI_z.symm) (by decide) 10 hv; exact ⟨by omega, fun _ _ => by omega⟩
    | false => have := cz_0 (x := bI false) (h0.trans nI_z.symm) (by decide) 10; exact ⟨by omega, fun _ q => by cases q⟩
theorem jdn_0 {un ua : Int32} {lw a : Int64} (h : jdn un ua lw a = true) : un = nI 0 := by
  unfold jdn at h
  rw [Bool.and_eq_true, decide_eq_true_iff] at h
  exact h.1
theorem jup_0 {un ua : Int32} {lw a : Int64} (h : jup un ua lw a = true) : un = nI 0 := by
  unfold jup at h
  rw [Bool.and_eq_true, decide_eq_true_iff] at h
  exact h.1
theorem cz_j {un ov : Nat → Int32} {v : Nat} {dn up x y wd mv : Bool} {N : Nat} (hv : v < 10) (h : dn = true → un v = nI 0) (k : up = true → ov v = nI 0) (hc : CZ4 mv wd (cz un 10 + cz ov 10) N) : CZ4 ((dn || up) || mv) wd (cz (if dn = true then upd un v (bI (x || wd)) else un) 10 + cz (if up = true then upd ov v (bI (y || wd)) else ov) 10) N := by
  have a := cz_jd (x := x || wd) hv h
  have b := cz_jd (x := y || wd) hv k
  have c := hc.1
  refine ⟨by omega, fun q w => ?_⟩
  have e : ∀ z : Bool, (z || wd) = true := fun z => by rw [w, Bool.or_true]
  rw [Bool.or_eq_true, Bool.or_eq_true] at q
  rcases q with (q | q) | q
  · have := a.2 q (e x); omega
  · have := b.2 q (e y); omega
  · have := hc.2 q w; omega
theorem VR_j {lw hg : Nat → Int64} {un ov : Nat → Int32} {en : Nat → IVL} {v : Nat} {ua ub : Int32} {a b : Int64} {o : IVL} {wd : Bool} (h : VR lw hg un ov en) (hv : v < 10) (h1 : RO ua a o.1) (h2 : RO ub b o.2) (ho : iK o) : VR (if jdn (un v) ua (lw v) a = true then vp_updL lw v a else lw) (if jup (ov v) ub (hg v) b = true then vp_updL hg v b else hg) (if jdn (un v) ua (lw v) a = true then upd un v (bI (nzf ua || wd)) else un) (if jup (ov v) ub (hg v) b = true then upd ov v (bI (nzf ub || wd)) else ov) (enu en v (jnI wd (en v) o)) := by
  refine ⟨enK_u h.1 (iK_jn ho (h.1 v)), fun u hu => ?_⟩
  rw [j_dn (h.2 v hv).1 h1, j_up (h.2 v hv).2 h2]
  by_cases q : u = v
  · subst q
    rw [show enu en u (jnI wd (en u) o) u = jnI wd (en u) o from if_pos rfl]
    refine ⟨?_, ?_⟩
    · show RV _ _ (jnL wd (en u).1 o.1)
      unfold jnL
      by_cases z : lwL o.1 (en u).1 = true
      · rw [if_pos z, if_pos z, if_pos z, upd_at, updL_at]
        exact j_rv (un := ua) (lw := a) h1
      · rw [if_neg z, if_neg z, if_neg z]; exact (h.2 u hu).1
    · show RV _ _ (jnH wd (en u).2 o.2)
      unfold jnH
      by_cases z : lwH o.2 (en u).2 = true
      · rw [if_pos z, if_pos z, if_pos z, upd_at, updL_at]
        exact j_rv (un := ua) (lw := a) h2
      · rw [if_neg z, if_neg z, if_neg z]; exact (h.2 u hu).2
  · rw [show enu en v (jnI wd (en v) o) u = en u from if_neg q]
    refine ⟨?_, ?_⟩
    · by_cases z : lwL o.1 (en v).1 = true
      · rw [if_pos z, if_pos z, upd_ne _ _ q, updL_ne _ _ q]; exact (h.2 u hu).1
      · rw [if_neg z, if_neg z]; exact (h.2 u hu).1
    · by_cases z : lwH o.2 (en v).2 = true
      · rw [if_pos z, if_pos z, upd_ne _ _ q, updL_ne _ _ q]; exact (h.2 u hu).2
      · rw [if_neg z, if_neg z]; exact (h.2 u hu).2
theorem mv_j {lw hg : Nat → Int64} {un ov : Nat → Int32} {en : Nat → IVL} {v : Nat} {ua ub : Int32} {a b : Int64} {o : IVL} (h : VR lw hg un ov en) (hv : v < 10) (h1 : RO ua a o.1) (h2 : RO ub b o.2) : (jdn (un v) ua (lw v) a || jup (ov v) ub (hg v) b) = mvI (en v) o := by
  rw [j_dn (h.2 v hv).1 h1, j_up (h.2 v hv).2 h2]
  rfl
theorem VR_z {lw hg : Nat → Int64} {un ov : Nat → Int32} (h : ∀ v, v < 10 → lw v = nL 0 ∧ hg v = nL 0 ∧ un v = nI 0 ∧ ov v = nI 0) : VR lw hg un ov (fun _ => zI) := ⟨fun _ => iK_z, fun v hv => by
  obtain ⟨a, b, c, d⟩ := h v hv
  rw [a, b, c, d]
  exact ⟨⟨fun q => (by cases q), fun x q => by cases q; decide⟩, ⟨fun q => (by cases q), fun x q => by cases q; decide⟩⟩⟩
theorem w_eq {h : Nat → Int32} {p w w2 : Nat} (e : h p = nI w) (e2 : h p = nI w2) (hw : w < 2147483648) (hw2 : w2 < 2147483648) : w = w2 := (nI_eq (by omega) (by omega)).mp (e.symm.trans e2)
theorem DS_nil_len {L : List (Nat × Nat)} (h : L.length = 0) : L = [] := List.eq_nil_of_length_eq_zero h
theorem nv_lt2 {v : Nat → Nat} (d i : Nat) (h : ∀ j, j < d → v (i + j) - 48 < 10) : nv v d i < 10 ^ d := by
  induction d with
  | zero => exact (by decide : 0 < 1)
  | succ d ih =>
    have := ih (fun j hj => h j (by omega))
    have := h d (Nat.lt_succ_self d)
    show 10 * nv v d i + (v (i + d) - 48) < _
    rw [Nat.pow_succ]
    omega
theorem ox_e_n (k v : Nat → Nat) (h6 : ∀ i, k i = 6 → v i - 97 < 10) (h7 : ∀ i, k i = 7 → v i - 48 < 10) : ∀ f t d i x, x ∈ ox_e k v f t d i → x.1 < 2 → x.2 < 1000000000 := by
  intro f
  induction f with
  | zero => intro t d i x h; cases h
  | succ f ih =>
    intro t d i x h
    have ok := fun c => (okd_2 c).1
    match t with
    | 0 =>
      rw [ox_e0] at h
      by_cases h2 : k i = 2
      · rw [if_pos h2] at h
        rcases List.mem_append.mp h with q | q
        · exact ih _ _ _ _ q
        · cases List.mem_singleton.mp q; intro z; exact absurd z (by decide)
      rw [if_neg h2] at h
      by_cases h4 : k i = 4
      · rw [if_pos h4] at h; exact ih _ _ _ _ h
      rw [if_neg h4] at h
      by_cases hk6 : k i = 6
      · rw [if_pos hk6] at h; cases List.mem_singleton.mp h; intro _; have := h6 i hk6; show v i - 97 < 1000000000; omega
      · rw [if_neg hk6] at h
        cases List.mem_singleton.mp h
        intro _
        have := nv_lt2 (v := v) (px_dg k 9 i) i (fun j hj => h7 _ (px_dg_in k 9 i j hj))
        exact Nat.lt_of_lt_of_le this (Nat.pow_le_pow_right (n := 10) (j := 9) (by decide) (px_dg_le k 9 i))
    | 1 => rw [ox_e1] at h; exact (List.mem_append.mp h).elim (ih _ _ _ _) (ih _ _ _ _)
    | 2 => rw [ox_e2] at h; exact (List.mem_append.mp h).elim (ih _ _ _ _) (ih _ _ _ _)
    | 3 =>
      rw [ox_e3] at h
      by_cases h2 : k i = 1 ∨ k i = 2
      · rw [if_pos h2] at h
        rcases List.mem_append.mp h with q | q
        · exact ih _ _ _ _ q
        · rcases List.mem_cons.mp q with rfl | q
          · intro z; have := ok (v i); have : okd (v i) < 2 := z; omega
          · exact ih _ _ _ _ q
      · rw [if_neg h2] at h; cases h
    | 4 =>
      rw [ox_e4] at h
      by_cases h2 : k i = 3
      · rw [if_pos h2] at h
        rcases List.mem_append.mp h with q | q
        · exact ih _ _ _ _ q
        · rcases List.mem_cons.mp q with rfl | q
          · intro z; have := ok (v i); have : okd (v i) < 2 := z; omega
          · exact ih _ _ _ _ q
      · rw [if_neg h2] at h; cases h
    | t + 5 => cases h
theorem ox_s_n (k v : Nat → Nat) (h6 : ∀ i, k i = 6 → v i - 97 < 10) (h7 : ∀ i, k i = 7 → v i - 48 < 10) : ∀ f t d i p x, x ∈ ox_s k v f t d i p → x.1 < 2 → x.2 < 1000000000 := by
  have oe := ox_e_n k v h6 h7
  have no : ∀ w a : Nat, 8 ≤ w → ((w, a) : Nat × Nat).1 < 2 → ((w, a) : Nat × Nat).2 < 1000000000 := fun w a h z => by have : w < 2 := z; omega
  intro f
  induction f with
  | zero => intro t d i p x h; cases h
  | succ f ih =>
    intro t d i p x h
    match t with
    | 0 =>
      rw [ox_s0] at h
      by_cases h8 : k i = 8
      · rw [if_pos h8] at h; cases List.mem_singleton.mp h; exact no _ _ (by decide)
      rw [if_neg h8] at h
      by_cases h9 : k i = 9
      · rw [if_pos h9] at h
        rcases List.mem_append.mp h with q | q
        · exact oe _ _ _ _ _ q
        · cases List.mem_singleton.mp q; exact no _ _ (by decide)
      rw [if_neg h9] at h
      by_cases h10 : k i = 10
      · rw [if_pos h10] at h
        unfold oxl at h
        rcases List.mem_append.mp h with q | q
        · exact oe _ _ _ _ _ q
        · rcases List.mem_cons.mp q with rfl | q
          · exact no _ _ (by decide)
          · rcases List.mem_append.mp q with q | q
            · exact ih _ _ _ _ _ q
            · cases List.mem_singleton.mp q; exact no _ _ (by decide)
      rw [if_neg h10] at h
      by_cases h12 : k i = 12
      · rw [if_pos h12] at h
        unfold oxc at h
        rcases List.mem_append.mp h with q | q
        · exact oe _ _ _ _ _ q
        · rcases List.mem_cons.mp q with rfl | q
          · exact no _ _ (by decide)
          · rcases List.mem_append.mp q with q | q
            · exact ih _ _ _ _ _ q
            · rcases List.mem_cons.mp q with rfl | q
              · exact no _ _ (by decide)
              · exact ih _ _ _ _ _ q
      rw [if_neg h12] at h
      rcases List.mem_append.mp h with q | q
      · exact oe _ _ _ _ _ q
      · cases List.mem_singleton.mp q; exact no _ _ (by decide)
    | 1 =>
      rw [ox_s1] at h
      rcases List.mem_append.mp h with q | q
      · exact ih _ _ _ _ _ q
      · by_cases h16 : k ((px_s k f 0 d i).getD 0) = 16
        · rw [if_pos h16] at q; exact ih _ _ _ _ _ q
        · rw [if_neg h16] at q; cases q
    | t + 2 => cases h
theorem tk_67 (h : Nat → Int32) (n : Nat) : (∀ i, tk h n i = 6 → vc h n i - 97 < 10) ∧ ∀ i, tk h n i = 7 → vc h n i - 48 < 10 := by
  refine ⟨fun i q => ?_, fun i q => ?_⟩
  · obtain ⟨h1, h2⟩ := kc_6.mp q
    obtain ⟨k, hk, e⟩ := nm_of h1 h2
    have := vc_nm h1 h2 hk e
    unfold vc
    omega
  · obtain ⟨h1, h2⟩ := kc_7.mp q
    exact (vc_dg h1 h2).2
theorem ox_LB {h : Nat → Int32} {n f t d i p : Nat} : ∀ x, x ∈ ox_s (tk h n) (vc h n) f t d i p → LB x := fun x q => ⟨ox_s_b.1 x q, ox_s_n _ _ (tk_67 h n).1 (tk_67 h n).2 _ _ _ _ _ x q, ox_s_b.2 x q⟩

