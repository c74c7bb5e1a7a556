/-! ===== runs ===== -/
section pr
variable {L : List (Nat × Nat)} {s : PS} {n : Nat}
theorem pr_stop (h : s.tr ≠ 0 ∨ s.pc = L.length) : prun L n s = (0, s) := by
  cases n with
  | zero => rfl
  | succ n => exact if_pos h
theorem pr_wait (h3 : s.sp ≠ 3000) (h : (at_ L s.pc).1 = 9 ∧ s.ins = []) : prun L n s = (0, s) := by
  cases n with
  | zero => rfl
  | succ n =>
    by_cases q : s.tr ≠ 0 ∨ s.pc = L.length
    · exact if_pos q
    · exact (if_neg q).trans ((if_neg h3).trans (if_pos h))
theorem pr_step (h : ¬ (s.tr ≠ 0 ∨ s.pc = L.length)) (h3 : s.sp ≠ 3000) (h9 : ¬ ((at_ L s.pc).1 = 9 ∧ s.ins = [])) : prun L (n + 1) s = ((prun L n (pstep L s)).1 + 1, (prun L n (pstep L s)).2) := (if_neg h).trans ((if_neg h3).trans (if_neg h9))
theorem pr_3 (h : ¬ (s.tr ≠ 0 ∨ s.pc = L.length)) (h3 : s.sp = 3000) : prun L (n + 1) s = (0, PS.mk s.vr s.ins s.outs s.pc s.sp 3) := (if_neg h).trans (if_pos h3)
theorem stp3_p (h3 : s.sp ≠ 3000) : stp3 L s = pstep L s := if_neg h3
theorem stp3_3 (h3 : s.sp = 3000) : stp3 L s = PS.mk s.vr s.ins s.outs s.pc s.sp 3 := if_pos h3
theorem pr_go (h : ¬ (s.tr ≠ 0 ∨ s.pc = L.length)) (h9 : s.sp ≠ 3000 → ¬ ((at_ L s.pc).1 = 9 ∧ s.ins = [])) : (prun L (n + 1) s).2 = (prun L n (stp3 L s)).2 ∧ ((stp3 L s).tr = 0 → (prun L (n + 1) s).1 = (prun L n (stp3 L s)).1 + 1) := by
  by_cases h3 : s.sp = 3000
  · rw [pr_3 h h3, stp3_3 h3, pr_stop (Or.inl (by show 3 ≠ 0; decide))]
    exact ⟨rfl, fun z => absurd z (by show ¬ 3 = 0; decide)⟩
  · rw [pr_step h h3 (h9 h3), stp3_p h3]
    exact ⟨rfl, fun _ => rfl⟩
variable {k : Int}
theorem prA_1 (h : s.tr ≠ 0 ∨ s.pc = L.length) : prunA L k s = (1, 0, s) := if_pos h
theorem prA_2 (h : ¬ (s.tr ≠ 0 ∨ s.pc = L.length)) (hk : k < 1 ∨ 200 < k) : prunA L k s = (2, 0, s) := (if_neg h).trans (if_pos hk)
theorem prA_0 (h : ¬ (s.tr ≠ 0 ∨ s.pc = L.length)) (hk : ¬ (k < 1 ∨ 200 < k)) (h0 : (prun L k.toNat s).2.tr = 0) : prunA L k s = (0, (prun L k.toNat s).1, (prun L k.toNat s).2) := (if_neg h).trans ((if_neg hk).trans (if_pos h0))
theorem prA_t (h : ¬ (s.tr ≠ 0 ∨ s.pc = L.length)) (hk : ¬ (k < 1 ∨ 200 < k)) (h0 : (prun L k.toNat s).2.tr ≠ 0) : prunA L k s = (if (prun L k.toNat s).2.tr = 1 then 3 else 4, 0, (prun L k.toNat s).2) := (if_neg h).trans ((if_neg hk).trans (if_neg h0))
end pr
def excn (t : Nat) : String := if t = 1 then "java/lang/IllegalStateException" else if t = 2 then "java/lang/IllegalArgumentException" else if t = 3 then "java/lang/ArithmeticException" else "java/lang/UnsupportedOperationException"
theorem PT_9 {T : TT} {nb : Nat → Nat} {sn nn : Nat} {en : Nat → IVL} {L : List (Nat × Nat)} (h : PT T nb sn nn en L) {i : Nat} (hi : i < sn) : T 5 i = 1 ↔ (at_ L (i + nb i)).1 = 9 := by
  obtain ⟨E, w, a, B, e, e8, -, w8, w12, ts, -, hE, -⟩ := h.2.2.2.2.2.1 i hi
  obtain ⟨t8, t9, t10, t11, t12, -, ta⟩ := ts
  refine ⟨fun q => ?_, fun q => ?_⟩
  · have hw : w = 9 := by
      rcases (show w = 8 ∨ w = 9 ∨ w = 10 ∨ w = 11 ∨ w = 12 by omega) with z | z | z | z | z
      · have := t8 z; omega
      · exact z
      · have := t10 z; omega
      · have := t11 z; omega
      · have := t12 z; omega
    have hE0 := hE (Or.inl hw)
    subst hE0
    have z := st_at e
    rw [show i + nb i + ([] : List (Nat × Nat)).length = i + nb i from rfl] at z
    rw [z]; exact hw
  · by_cases hw : w = 9
    · exact (t9 hw).1
    · exact absurd q (st_n9 e e8 hw)
theorem RNS_end {g : Lay} {f : Nat → va_E} {X pr sn nn ix os st tr : Nat} {T : TT} {nb : Nat → Nat} {en : Nat → IVL} {L : List (Nat × Nat)} {s : PS} (hP : PT T nb sn nn en L) (h : RNS g f X pr T nb sn en ix os st tr s) : (s.tr ≠ 0 ∨ s.pc = L.length) ↔ (tr ≠ 0 ∨ sn ≤ ix) := by
  obtain ⟨-, -, -, -, -, -, -, -, -, h1, h2, h3, -⟩ := h
  rw [h1, h3]
  have q := PT_lt hP h2
  constructor
  · rintro (z | z)
    · exact Or.inl z
    · rcases Nat.lt_or_ge ix sn with y | y
      · have := q.2 y; omega
      · exact Or.inr y
  · rintro (z | z)
    · exact Or.inl z
    · right
      have e : ix = sn := by omega
      rw [e, hP.2.2.2.2.1, hP.2.2.1]
/-- the class's object over the pure machine -/
def CVS (g : Lay) (f : Nat → va_E) (X pr sn nn ix os st tr : Nat) (ld : Int32) : Option (List (Nat × Nat)) → PS → Prop
  | none, s => ld = nI 0 ∧ os = 0 ∧ INS g f X s.ins ∧ s.outs = []
  | some L, s => ld = nI 1 ∧ ∃ (T : TT) (nb : Nat → Nat) (en : Nat → IVL), PT T nb sn nn en L ∧ RNS g f X pr T nb sn en ix os st tr s
theorem CVS_ins {g : Lay} {f : Nat → va_E} {X pr sn nn ix os st tr : Nat} {ld : Int32} {o : Option (List (Nat × Nat))} {s : PS} (h : CVS g f X pr sn nn ix os st tr ld o s) : INS g f X s.ins ∧ s.outs.length = os := by
  cases o with
  | none => exact ⟨h.2.2.1, by rw [h.2.2.2, h.2.1]; rfl⟩
  | some L =>
    obtain ⟨-, T, nb, en, -, -, -, -, -, -, h1, -, h2, -⟩ := h
    exact ⟨h1, h2⟩
theorem RNS_un {g : Lay} {f f1 : Nat → va_E} {X pr sn ix os st tr : Nat} {T : TT} {nb : Nat → Nat} {en : Nat → IVL} {s : PS} {W : List Nat} (hL : LO g) (hX : g.tg X = 9) (hP : g.tg pr = 7) (h : RNS g f X pr T nb sn en ix os st tr s) (hu : un W g f f1) (hW : ∀ x ∈ [2, 3, 5, 6, 10, 21, 23, 27], x ∉ W) : RNS g f1 X pr T nb sn en ix os st tr s := by
  obtain ⟨h1, h2, h3, h4, h5, h6, h7, h8⟩ := h
  exact ⟨TPN_un hL hP h1 hu (hW 6 (by decide)), TPS_un hL hP h2 hu (hW 10 (by decide)), EV_un hL hP h3 hu (hW 3 (by decide)), VARS_un hL hX h4 hu (hW 5 (by decide)) (hW 23 (by decide)) (hW 27 (by decide)), h5, INS_un hL hX h6 hu (hW 2 (by decide)) (hW 21 (by decide)), OUTS_un hL hX h7 hu (hW 5 (by decide)) (hW 23 (by decide)), h8⟩
theorem CVS_un {g : Lay} {f f1 : Nat → va_E} {X pr sn nn ix os st tr : Nat} {ld : Int32} {o : Option (List (Nat × Nat))} {s : PS} {W : List Nat} (hL : LO g) (hX : g.tg X = 9) (hP : g.tg pr = 7) (h : CVS g f X pr sn nn ix os st tr ld o s) (hu : un W g f f1) (hW : ∀ x ∈ [2, 3, 5, 6, 10, 21, 23, 27], x ∉ W) : CVS g f1 X pr sn nn ix os st tr ld o s := by
  cases o with
  | none => exact ⟨h.1, h.2.1, INS_un hL hX h.2.2.1 hu (hW 2 (by decide)) (hW 21 (by decide)), h.2.2.2⟩
  | some L =>
    obtain ⟨h0, T, nb, en, h1, h2⟩ := h
    exact ⟨h0, T, nb, en, h1, RNS_un hL hX hP h2 hu hW⟩

