/-! ===== the reference's stack of numbers ===== -/
def SVS (hl hs : Nat → Int32) : List Int → Prop
  | [] => True
  | v :: V => SV hl hs V.length v ∧ SVS hl hs V
theorem SVS_SF {k : Nat} {h h1 s s1 : Nat → Int32} (e : SF k h h1) (es : ∀ j, j ≠ k → s1 j = s j) : ∀ V : List Int, V.length ≤ k → SVS h s V → SVS h1 s1 V := by
  intro V
  induction V with
  | nil => intros; trivial
  | cons v V ih =>
    intro hk q
    have hk : V.length + 1 ≤ k := hk
    exact ⟨SV_SF q.1 e es (by omega), ih (by omega) q.2⟩
def VRS (hl hs : Nat → Int32) (vr : Nat → Int) : Prop := ∀ u, u < 10 → SV hl hs u (vr u)
theorem SV_cp {h hV s sV : Nat → Int32} {k u : Nat} {v : Int} (q : SV hV sV u v) (e : ∀ i, i < 20 → dg h (20 * k + i) = dg hV (20 * u + i)) (es : s k = sV u) : SV h s k v := by
  refine ⟨es.trans q.1, ?_⟩
  rw [← q.2]
  unfold sl
  exact kw_eq (fun i hi => by unfold l6; rw [if_pos hi, if_pos hi]; exact e i hi)
theorem SV_neg {h s : Nat → Int32} {k : Nat} {v : Int} (q : SV h s k v) : SV h (upd s k (-(s k))) k (-v) := by
  refine ⟨?_, by rw [Int.natAbs_neg]; exact q.2⟩
  rw [upd_at, q.1, ← sgI_neg]
  rcases sgI_3 v with ⟨-, e⟩ | ⟨-, e⟩ | ⟨-, e⟩ <;> rw [e] <;> decide
theorem SF_rf {k : Nat} {h : Nat → Int32} : SF k h h := fun _ _ => rfl
theorem SV_lt {N k : Nat} {h s : Nat → Int32} {v : Int} (c : C6 N h) (hk : 20 * k + 20 ≤ N) (q : SV h s k v) : v.natAbs < T12 := by rw [← q.2]; exact sl_lt c hk
theorem SV_0 {h s : Nat → Int32} {k : Nat} {v : Int} (q : SV h s k v) : s k = nI 0 ↔ v = 0 := by
  rw [q.1]
  rcases sgI_3 v with ⟨h, e⟩ | ⟨h, e⟩ | ⟨h, e⟩
  · rw [e]; exact ⟨fun z => absurd z (by decide), fun z => by omega⟩
  · rw [e]; exact ⟨fun _ => by omega, fun _ => rfl⟩
  · rw [e]; exact ⟨fun z => absurd z (by decide), fun z => by omega⟩
theorem dgt_fit {d N : Nat} (h : DGT d N) : 120 < d ↔ T12 ≤ N := by
  unfold T12
  rcases h with ⟨h1, h2⟩ | ⟨h0, h1, h2⟩
  · rw [h1, h2]
    exact ⟨fun z => absurd z (by decide), fun z => absurd z (by have := Nat.pow_pos (n := 120) (show 0 < 10 by decide); omega)⟩
  · constructor
    · intro z
      exact Nat.le_trans (Nat.pow_le_pow_right (by decide) (by omega)) h1
    · intro z
      rcases Nat.lt_or_ge 120 d with y | y
      · exact y
      · have := Nat.pow_le_pow_right (n := 10) (by decide) y
        omega
theorem sg_q {x y : Int} (hx : x.natAbs < T12) (h : Int.tdiv x y ≠ 0) : sgI x * sgI y = sgI (Int.tdiv x y) := by
  have hx0 : x ≠ 0 := fun z => h (by rw [z, Int.zero_tdiv])
  have hy0 : y ≠ 0 := fun z => h (by rw [z, Int.tdiv_zero])
  rcases Int.lt_or_gt_of_ne hx0 with a | a <;> rcases Int.lt_or_gt_of_ne hy0 with b | b
  · have q : 0 ≤ Int.tdiv x y := Int.tdiv_nonneg_of_nonpos_of_nonpos (by omega) (by omega)
    rw [sgI_n a, sgI_n b, sgI_p (by omega)]; decide
  · have q : 0 ≤ Int.tdiv (-x) y := Int.tdiv_nonneg (by omega) (by omega)
    rw [Int.neg_tdiv] at q
    rw [sgI_n a, sgI_p b, sgI_n (by omega)]; decide
  · have q : Int.tdiv x y ≤ 0 := Int.tdiv_nonpos_of_nonneg_of_nonpos (by omega) (by omega)
    rw [sgI_p a, sgI_n b, sgI_n (by omega)]; decide
  · have q : 0 ≤ Int.tdiv x y := Int.tdiv_nonneg (by omega) (by omega)
    rw [sgI_p a, sgI_p b, sgI_p (by omega)]; decide
theorem sg_r {x y : Int} (h : Int.tmod x y ≠ 0) : sgI x = sgI (Int.tmod x y) := by
  have hx0 : x ≠ 0 := fun z => h (by rw [z, Int.zero_tmod])
  rcases Int.lt_or_gt_of_ne hx0 with a | a
  · have q : Int.tmod x y ≤ 0 := by
      have := tmod_s (x := -x) y (by omega)
      rw [Int.neg_tmod] at this
      omega
    rw [sgI_n a, sgI_n (by omega)]
  · have q := tmod_s (x := x) y (by omega)
    rw [sgI_p a, sgI_p (by omega)]
theorem SR_q {x y : Int} {N : Nat} {h s : Nat → Int32} {a b : Nat} (hx : SV h s a x) (hy : SV h s b y) (hl : x.natAbs < T12) (e : N = sl h a / sl h b) : SR (s a * s b) N (Int.tdiv x y) := ⟨by rw [e, hx.2, hy.2, (td_abs x y).1], fun z => by rw [hx.1, hy.1]; exact sg_q hl z⟩
theorem SR_r {x y : Int} {N : Nat} {h s : Nat → Int32} {a b : Nat} (hx : SV h s a x) (hy : SV h s b y) (e : N = sl h a % sl h b) : SR (s a) N (Int.tmod x y) := ⟨by rw [e, hx.2, hy.2, (td_abs x y).2], fun z => by rw [hx.1]; exact sg_r z⟩
theorem cp_rest {h h1 hq : Nat → Int32} (c : C6 44 hq) (hz : ∀ k, 20 ≤ k → k < 44 → dg h1 k = 0) (e : ∀ k, k < 44 → dg h k = if k < 20 then dg hq k else dg h1 k) (hf : kw (dg hq) 22 < T12) : kw (dg h) 44 = kw (dg hq) 22 := by
  have a : kw (dg h) 44 = kw (dg h) 20 := kw_up (by decide) (fun k q1 q2 => by rw [e k q2, if_neg (by omega)]; exact hz k q1 q2)
  have b : kw (dg hq) 22 = kw (dg hq) 20 := by
    have e2 : kw (dg hq) 22 = kw (dg hq) 20 + kw (fun i => dg hq (20 + i)) 2 * 1000000 ^ 20 := kw_sp (dg hq) 20 2
    have : kw (fun i => dg hq (20 + i)) 2 = 0 := by
      rcases Nat.eq_zero_or_pos (kw (fun i => dg hq (20 + i)) 2) with q | q
      · exact q
      · have h1 := Nat.mul_le_mul_right (1000000 ^ 20) q
        have h2 := pw_20
        rw [h2] at h1 e2
        omega
    rw [this, Nat.zero_mul, Nat.add_zero] at e2
    exact e2
  rw [a, b]
  exact kw_eq (fun k hk => by rw [e k (by omega), if_pos hk])
