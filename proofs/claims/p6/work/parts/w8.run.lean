/-! ===== a step of the class against a step of the pure machine ===== -/
theorem bdd_k {X : IVL} (h : iK X) : kB (cL X.1) (cH X.2) = true ↔ bdd X := by
  rw [kB_RP (RP_L h.1) (RP_H h.2)]
  unfold bdd
  obtain ⟨a, b⟩ := X
  cases a <;> cases b <;> simp
theorem bdd_n {X : IVL} (h : iK X) : kB (cL X.1) (cH X.2) = false ↔ ¬ bdd X := by
  rw [← bdd_k h, Bool.not_eq_true]
/-- only numbers of the variables were written -/
def FV (g : Lay) (f f1 : Nat → va_E) (X : Nat) : Prop := ∀ x, g.tg x = 5 → (∀ v, v < 10 → x ≠ g.lk (g.lk X 4) v) → f1 x = f x ∧ f1 (g.lk x 2) = f (g.lk x 2)
theorem FV_27 {g : Lay} {f f1 : Nat → va_E} {X : Nat} (hL : LO g) (h : un [27] g f f1) : FV g f f1 X := fun x hx _ => ⟨h x (by rw [hx]; decide), h _ (by rw [lo_k5_2 hL x hx]; decide)⟩
theorem FV_5 {g : Lay} {f f1 : Nat → va_E} {X i : Nat} (hL : LO g) (hX : g.tg X = 9) (hi : i < 10) (h : ∀ b, b ≠ g.lk (g.lk X 4) i → b ≠ g.lk (g.lk (g.lk X 4) i) 2 → f1 b = f b) : FV g f f1 X := fun x hx hn => by
  have t5 := lo_e28 hL _ (lo_k9_4 hL X hX) i hi
  have t23 := lo_k5_2 hL x hx
  exact ⟨h x (hn i hi) (tg_ne hx (lo_k5_2 hL _ t5) (by decide)), h _ (tg_ne t23 t5 (by decide)) (fun q => hn i hi (lo_inj5 hL _ _ hx t5 q))⟩
section vars
variable {g : Lay} {f f1 : Nat → va_E} {X i : Nat} {en : Nat → IVL} {vr : Nat → Int} {hM : Nat → Int64} {v : Int64} {V : Int}
theorem wv_ne (hL : LO g) (hX : g.tg X = 9) {u i : Nat} (hu : u < 10) (hi : i < 10) (h : u ≠ i) : g.lk (g.lk X 4) u ≠ g.lk (g.lk X 4) i := fun q => h (by
  have h1 := lo_n28 hL _ (lo_k9_4 hL X hX) u hu
  rw [q, lo_n28 hL _ (lo_k9_4 hL X hX) i hi] at h1
  omega)
theorem VARS_s (hL : LO g) (hX : g.tg X = 9) (hi : i < 10) (hva : ∀ v, v < 10 → (bdd (en v) → (hM v).toInt = vr v) ∧ (¬ bdd (en v) → LV g f (g.lk (g.lk X 4) v) (vr v))) (hb : bdd (en i)) (hv : v.toInt = V) (e : f1 (g.lk X 3) = .inl (g.ac (g.lk X 3), 10, .inr (.inl (vp_updL hM i v)))) (hu : un [27] g f f1) : VARS g f1 X en (uI vr i V) := by
  refine ⟨_, e, fun u hu10 => ?_⟩
  have t5 := lo_e28 hL _ (lo_k9_4 hL X hX) u hu10
  by_cases q : u = i
  · subst q
    rw [updL_at, show uI vr u V u = V from if_pos rfl]
    exact ⟨fun _ => hv, fun z => absurd hb z⟩
  · rw [updL_ne hM v q, show uI vr i V u = vr u from if_neg q]
    exact ⟨(hva u hu10).1, fun z => LV_eq ((hva u hu10).2 z) ⟨hu _ (by rw [t5]; decide), hu _ (by rw [lo_k5_2 hL _ t5]; decide)⟩⟩
theorem VARS_l (hL : LO g) (hX : g.tg X = 9) (hi : i < 10) (hva : ∀ v, v < 10 → (bdd (en v) → (hM v).toInt = vr v) ∧ (¬ bdd (en v) → LV g f (g.lk (g.lk X 4) v) (vr v))) (hb : ¬ bdd (en i)) (hv : LV g f1 (g.lk (g.lk X 4) i) V) (e : f1 (g.lk X 3) = .inl (g.ac (g.lk X 3), 10, .inr (.inl hM))) (hk : ∀ b, b ≠ g.lk (g.lk X 4) i → b ≠ g.lk (g.lk (g.lk X 4) i) 2 → f1 b = f b) : VARS g f1 X en (uI vr i V) := by
  refine ⟨_, e, fun u hu10 => ?_⟩
  have t5 := lo_e28 hL _ (lo_k9_4 hL X hX) u hu10
  have t5i := lo_e28 hL _ (lo_k9_4 hL X hX) i hi
  by_cases q : u = i
  · subst q
    rw [show uI vr u V u = V from if_pos rfl]
    exact ⟨fun z => absurd z hb, fun _ => hv⟩
  · rw [show uI vr i V u = vr u from if_neg q]
    have ne := wv_ne hL hX hu10 hi q
    exact ⟨(hva u hu10).1, fun z => LV_eq ((hva u hu10).2 z) ⟨hk _ ne (tg_ne t5 (lo_k5_2 hL _ t5i) (by decide)), hk _ (tg_ne (lo_k5_2 hL _ t5) t5i (by decide)) (fun z => ne (lo_inj5 hL _ _ t5 t5i z))⟩⟩
end vars
/-- the inputs that wait, in the ring -/
def INS (g : Lay) (f : Nat → va_E) (X : Nat) (ins : List Int) : Prop := ∃ (fi wa : Nat) (hR : Nat → Int32), f (g.lk X 1) = .inr (1, [.ref (g.lk (g.lk X 1) 0), .int (nI fi), .int (nI wa)]) ∧ f (g.lk (g.lk X 1) 0) = .inl (g.ac (g.lk (g.lk X 1) 0), 20, .inl hR) ∧ fi < 20 ∧ wa = ins.length ∧ wa ≤ 20 ∧ ∀ k, k < wa → (hR ((fi + k) % 20)).toInt = ins.getD k 0 ∧ (ins.getD k 0).natAbs ≤ 1000000000
theorem INS_un {g : Lay} {f f1 : Nat → va_E} {X : Nat} {ins : List Int} {W : List Nat} (hL : LO g) (hX : g.tg X = 9) (h : INS g f X ins) (hu : un W g f f1) (h2 : 2 ∉ W) (h21 : 21 ∉ W) : INS g f1 X ins := by
  obtain ⟨fi, wa, hR, e1, e2, q⟩ := h
  exact ⟨fi, wa, hR, hu.at (lo_k9_1 hL X hX) h2 e1, hu.at (lo_k2_0 hL _ (lo_k9_1 hL X hX)) h21 e2, q⟩
theorem ring_mod {fi k : Nat} : ((fi + 1) % 20 + k) % 20 = (fi + (k + 1)) % 20 := by omega
/-- what is due at a STATEMENT -/
theorem dr_at {L : List (Nat × Nat)} {p k : Nat} : (L.drop p).getD k (0, 0) = at_ L (p + k) := by
  unfold at_
  rw [List.getD_eq_getElem?_getD, List.getD_eq_getElem?_getD, List.getElem?_drop]
section stf
variable {L E B : List (Nat × Nat)} {p w a : Nat}
theorem st_at (h : L.drop p = E ++ (w, a) :: B) : at_ L (p + E.length) = (w, a) := by
  rw [← dr_at, h, List.getD_eq_getElem?_getD, List.getElem?_append_right (Nat.le_refl _), Nat.sub_self]
  rfl
theorem st_seg (h : L.drop p = E ++ (w, a) :: B) (h8 : ∀ x, x ∈ E → x.1 < 8) (hw : 8 ≤ w) : seg L p = E := by
  unfold seg
  rw [h]
  clear h
  induction E with
  | nil =>
    show List.takeWhile _ ((w, a) :: B) = []
    rw [List.takeWhile_cons_of_neg (by simp; omega)]
  | cons x E ih =>
    show List.takeWhile _ (x :: (E ++ (w, a) :: B)) = x :: E
    rw [List.takeWhile_cons_of_pos (by simp; exact h8 x List.mem_cons_self), ih (fun y q => h8 y (List.mem_cons_of_mem _ q))]
theorem st_n9 (h : L.drop p = E ++ (w, a) :: B) (h8 : ∀ x, x ∈ E → x.1 < 8) (hw : w ≠ 9) : (at_ L p).1 ≠ 9 := by
  have e : at_ L p = (E ++ (w, a) :: B).getD 0 (0, 0) := by rw [← h, dr_at, Nat.add_zero]
  rw [e]
  cases E with
  | nil => exact hw
  | cons x E =>
    have := h8 x List.mem_cons_self
    show x.1 ≠ 9
    omega
variable {s : PS}
theorem ps_9 (h : L.drop s.pc = [] ++ (9, a) :: B) : pstep L s = PS.mk (uI s.vr a (s.ins.headD 0)) s.ins.tail s.outs (jmp L (s.pc + 1)) (s.sp + 1) 0 := by
  have e : at_ L s.pc = (9, a) := st_at h
  unfold pstep
  rw [e]
  exact if_pos rfl
theorem ps_t (h : L.drop s.pc = E ++ (w, a) :: B) (h8 : ∀ x, x ∈ E → x.1 < 8) (hw : 8 ≤ w) (h9 : w ≠ 9) (ht : (evs s.vr E []).1 ≠ 0) : pstep L s = PS.mk s.vr s.ins s.outs s.pc (s.sp + 1) (evs s.vr E []).1 := by
  unfold pstep
  rw [if_neg (st_n9 h h8 h9), st_seg h h8 hw, if_neg ht]
theorem ps_8 (h : L.drop s.pc = E ++ (8, a) :: B) (h8 : ∀ x, x ∈ E → x.1 < 8) (ht : (evs s.vr E []).1 = 0) : pstep L s = PS.mk (uI s.vr a ((evs s.vr E []).2.headD 0)) s.ins s.outs (jmp L (s.pc + E.length + 1)) (s.sp + 1) 0 := by
  unfold pstep
  rw [if_neg (st_n9 h h8 (by decide)), st_seg h h8 (by decide), if_pos ht, st_at h, if_pos rfl]
theorem ps_10 (h : L.drop s.pc = E ++ (10, a) :: B) (h8 : ∀ x, x ∈ E → x.1 < 8) (ht : (evs s.vr E []).1 = 0) : pstep L s = PS.mk s.vr s.ins (s.outs ++ [(evs s.vr E []).2.headD 0]) (jmp L (s.pc + E.length + 1)) (s.sp + 1) 0 := by
  unfold pstep
  rw [if_neg (st_n9 h h8 (by decide)), st_seg h h8 (by decide), if_pos ht, st_at h, if_neg (show ¬ (10 = 8) by decide), if_pos rfl]
theorem ps_11 (h : L.drop s.pc = E ++ (11, a) :: B) (h8 : ∀ x, x ∈ E → x.1 < 8) (ht : (evs s.vr E []).1 = 0) : pstep L s = PS.mk s.vr s.ins s.outs (jmp L (if (evs s.vr E []).2.headD 0 ≤ 0 then a else s.pc + E.length + 1)) (s.sp + 1) 0 := by
  unfold pstep
  rw [if_neg (st_n9 h h8 (by decide)), st_seg h h8 (by decide), if_pos ht, st_at h, if_neg (show ¬ (11 = 8) by decide), if_neg (show ¬ (11 = 10) by decide)]
end stf
theorem VIN_u {en : Nat → IVL} {vr : Nat → Int} {a : Nat} {v : Int} (h : VIN en vr) (h1 : ivin v (en a)) (h2 : v.natAbs < T12) : VIN en (uI vr a v) := fun u hu => by
  by_cases q : u = a
  · subst q; rw [show uI vr u v u = v from if_pos rfl]; exact ⟨h1, h2⟩
  · rw [show uI vr a v u = vr u from if_neg q]; exact h u hu
theorem ivin_inp {x : Int} (h : x.natAbs ≤ 1000000000) : ivin x inI := ⟨fun a q => by cases q; omega, fun a q => by cases q; omega⟩
section pt
variable {T : TT} {nb : Nat → Nat} {sn nn : Nat} {en : Nat → IVL} {L : List (Nat × Nat)}
theorem PT_mono (h : PT T nb sn nn en L) : ∀ j i, i + j ≤ sn → nb i ≤ nb (i + j) := by
  intro j
  induction j with
  | zero => intro i _; exact Nat.le_refl _
  | succ j ih =>
    intro i hi
    obtain ⟨E, w, a, B, -, -, -, -, -, -, e, -⟩ := h.2.2.2.2.2.1 (i + j) (by omega)
    have := ih i (by omega)
    rw [show i + (j + 1) = i + j + 1 by omega, e]
    omega
theorem PT_lt (h : PT T nb sn nn en L) {i : Nat} (hi : i ≤ sn) : i + nb i ≤ L.length ∧ (i < sn → i + nb i < L.length) := by
  have m := PT_mono h (sn - i) i (by omega)
  rw [show i + (sn - i) = sn by omega, h.2.2.2.2.1] at m
  have l := h.2.2.1
  exact ⟨by omega, fun _ => by omega⟩
/-- one JUMP -/
theorem PT_j (h : PT T nb sn nn en L) {i : Nat} (hi : i < sn) : (T 5 i = 5 → at_ L (i + nb i) = (12, T 9 i + nb (T 9 i))) ∧ (T 5 i < 5 → (at_ L (i + nb i)).1 ≠ 12) := by
  obtain ⟨E, w, a, B, e, e8, -, w8, w12, ts, -, hE, -⟩ := h.2.2.2.2.2.1 i hi
  obtain ⟨t8, t9, t10, t11, t12, -, ta⟩ := ts
  refine ⟨fun q => ?_, fun q => ?_⟩
  · have hw : w = 12 := by
      rcases (show w = 8 ∨ w = 9 ∨ w = 10 ∨ w = 11 ∨ w = 12 by omega) with z | z | z | z | z
      · have := t8 z; omega
      · have := t9 z; omega
      · have := t10 z; omega
      · have := t11 z; omega
      · exact z
    have := hE (Or.inr hw)
    subst this
    have := st_at e
    rw [show i + nb i + ([] : List (Nat × Nat)).length = i + nb i from rfl] at this
    rw [this, hw, ta (by omega)]
  · have hw : w ≠ 12 := fun z => by have := t12 z; omega
    have e' : at_ L (i + nb i) = (E ++ (w, a) :: B).getD 0 (0, 0) := by rw [← e, dr_at, Nat.add_zero]
    rw [e']
    cases E with
    | nil => exact hw
    | cons x E =>
      have := e8 x List.mem_cons_self
      show x.1 ≠ 12
      omega
theorem PT_stop (h : PT T nb sn nn en L) {i : Nat} (hi : i ≤ sn) (hs : i < sn → T 5 i < 5) : stop L (i + nb i) := fun ⟨q1, q2⟩ => by
  rcases Nat.lt_or_ge i sn with z | z
  · exact (PT_j h z).2 (hs z) q2
  · have e : i = sn := by omega
    subst e
    have := h.2.2.2.2.1
    have := h.2.2.1
    omega
theorem PT_jf (h : PT T nb sn nn en L) {i : Nat} (hi : i < sn) (h5 : T 5 i = 5) {k p : Nat} (e : jmpf L k p = i + nb i) : jmpf L (k + 1) p = T 9 i + nb (T 9 i) := by
  have q := (PT_j h hi).1 h5
  have l := (PT_lt h (Nat.le_of_lt hi)).2 hi
  have g : ∀ k p, jmpf L k p = i + nb i → jmpf L (k + 1) p = T 9 i + nb (T 9 i) := by
    intro k
    induction k with
    | zero =>
      intro p e
      have e : p = i + nb i := e
      subst e
      show (if i + nb i < L.length ∧ (at_ L (i + nb i)).1 = 12 then jmpf L 0 (at_ L (i + nb i)).2 else i + nb i) = _
      rw [if_pos ⟨l, by rw [q]⟩, q]
      rfl
    | succ k ih =>
      intro p e
      show (if p < L.length ∧ (at_ L p).1 = 12 then jmpf L (k + 1) (at_ L p).2 else p) = _
      have e2 : (if p < L.length ∧ (at_ L p).1 = 12 then jmpf L k (at_ L p).2 else p) = i + nb i := e
      by_cases z : p < L.length ∧ (at_ L p).1 = 12
      · rw [if_pos z] at e2 ⊢
        exact ih _ e2
      · rw [if_neg z] at e2
        exact absurd ⟨by rw [e2]; exact l, by rw [e2, q]⟩ z
  exact g k p e
end pt
/-- the class's runner stands where the pure machine stands -/
def RNS (g : Lay) (f : Nat → va_E) (X pr : Nat) (T : TT) (nb : Nat → Nat) (sn : Nat) (en : Nat → IVL) (ix os st tr : Nat) (s : PS) : Prop := TPN g f pr T ∧ TPS g f pr T ∧ EV g f pr en ∧ VARS g f X en s.vr ∧ VIN en s.vr ∧ INS g f X s.ins ∧ OUTS g f X s.outs ∧ s.outs.length = os ∧ s.sp = st ∧ s.tr = tr ∧ ix ≤ sn ∧ s.pc = ix + nb ix ∧ (ix < sn → T 5 ix < 5)
section un6
variable {g : Lay} {f f1 : Nat → va_E} {X P : Nat} {T : TT} {W : List Nat} {en : Nat → IVL} {vr : Nat → Int} {outs : List Int}
theorem TPN_un (hL : LO g) (hP : g.tg P = 7) (h : TPN g f P T) (hu : un W g f f1) (h6 : 6 ∉ W) : TPN g f1 P T := fun j hj => by
  obtain ⟨mv, e, q⟩ := h j hj
  exact ⟨mv, hu.at (lo_e25 hL _ (lo_k7_2 hL P hP) j hj) h6 e, q⟩
theorem TPS_un (hL : LO g) (hP : g.tg P = 7) (h : TPS g f P T) (hu : un W g f f1) (h10 : 10 ∉ W) : TPS g f1 P T := fun s hs => by
  obtain ⟨la, e, q⟩ := h s hs
  exact ⟨la, hu.at (lo_e24 hL _ (lo_k7_0 hL P hP) s hs) h10 e, q⟩
theorem EV_un (hL : LO g) (hP : g.tg P = 7) (h : EV g f P en) (hu : un W g f f1) (h3 : 3 ∉ W) : EV g f1 P en := EV_fr hL hP h (fun v hv => hu _ (by rw [lo_e26 hL _ (lo_k7_4 hL P hP) v hv]; exact h3))
theorem FW_un (hL : LO g) (hu : un W g f f1) (h5 : 5 ∉ W) (h23 : 23 ∉ W) : FW g f f1 := fun x hx _ => ⟨hu x (by rw [hx]; exact h5), hu _ (by rw [lo_k5_2 hL x hx]; exact h23)⟩
theorem VARS_un (hL : LO g) (hX : g.tg X = 9) (h : VARS g f X en vr) (hu : un W g f f1) (h5 : 5 ∉ W) (h23 : 23 ∉ W) (h27 : 27 ∉ W) : VARS g f1 X en vr := VARS_fw hL hX h (FW_un hL hu h5 h23) (hu _ (by rw [lo_k9_3 hL X hX]; exact h27))
theorem OUTS_un (hL : LO g) (hX : g.tg X = 9) (h : OUTS g f X outs) (hu : un W g f f1) (h5 : 5 ∉ W) (h23 : 23 ∉ W) : OUTS g f1 X outs := OUTS_fw hL hX h (FW_un hL hu h5 h23)
theorem OUTS_fv (hL : LO g) (hX : g.tg X = 9) (h : OUTS g f X outs) (k : FV g f f1 X) : OUTS g f1 X outs := fun i hi h2 => ⟨LV_eq (h i hi h2).1 (k _ (lo_e29 hL _ (lo_k9_7 hL X hX) i hi) (fun v hv q => by
  have e := lo_n29 hL _ (lo_k9_7 hL X hX) i hi
  rw [q, lo_n28 hL _ (lo_k9_4 hL X hX) v hv] at e
  omega)), (h i hi h2).2⟩
theorem VARS_of (hL : LO g) (hX : g.tg X = 9) (h : VARS g f X en vr) (k : ∀ x, g.tg x = 5 → 100 ≤ g.tn x → g.tn x < 120 → f1 x = f x ∧ f1 (g.lk x 2) = f (g.lk x 2)) (e : f1 (g.lk X 3) = f (g.lk X 3)) : VARS g f1 X en vr := by
  obtain ⟨hM, e1, q⟩ := h
  have t28 := lo_k9_4 hL X hX
  exact ⟨hM, e.trans e1, fun v hv => ⟨(q v hv).1, fun z => LV_eq ((q v hv).2 z) (k _ (lo_e28 hL _ t28 v hv) (by rw [lo_n28 hL _ t28 v hv]; omega) (by rw [lo_n28 hL _ t28 v hv]; omega))⟩⟩
theorem VL_un (hL : LO g) (hP : g.tg P = 7) {sm j : Nat} {v : Int} (hj : j < 72) (h : VL g f P sm j v) (hu : un W g f f1) (h6 : 6 ∉ W) (h5 : 5 ∉ W) (h23 : 23 ∉ W) : VL g f1 P sm j v := by
  obtain ⟨kd, le, ri, mv, e, h1, h0, h12⟩ := h
  exact ⟨kd, le, ri, mv, hu.at (lo_e25 hL _ (lo_k7_2 hL P hP) j hj) h6 e, h1, fun z => LV_eq (h0 z) ⟨hu _ (by rw [nw_5 hL hP hj]; exact h5), hu _ (by rw [nw_23 hL hP hj]; exact h23)⟩, h12⟩
end un6
theorem un_1 {g : Lay} {f f1 : Nat → va_E} {x T : Nat} (h : ∀ b, b ≠ x → f1 b = f b) (ht : g.tg x = T) : un [T] g f f1 := fun a ha => h a (fun q => ha (by rw [q, ht]; exact List.mem_cons_self))
theorem i64_of (r : Int32) : r.toInt64.toInt = r.toInt := Int32.toInt_toInt64 r
def stp3 (L : List (Nat × Nat)) (s : PS) : PS := if s.sp = 3000 then PS.mk s.vr s.ins s.outs s.pc s.sp 3 else pstep L s

