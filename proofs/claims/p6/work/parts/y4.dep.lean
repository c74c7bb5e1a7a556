/-! ===== how deep the stack is: at the end of an EXPR it holds one number ===== -/
def dst (n w : Nat) : Nat := if w < 2 then n + 1 else if w = 7 then n else n - 1
def dl : Nat → List (Nat × Nat) → Nat
  | n, [] => n
  | n, (w, _) :: E => dl (dst n w) E
theorem dl_app (A B : List (Nat × Nat)) : ∀ n, dl n (A ++ B) = dl (dl n A) B := by
  induction A with
  | nil => intro n; rfl
  | cons x A ih => intro n; exact ih _
theorem dst_o {n c : Nat} (h : 2 ≤ c) (h6 : c ≤ 6) : dst (n + 2) c = n + 1 := by
  unfold dst
  rw [if_neg (by omega), if_neg (by omega)]
  omega
theorem ox_e_d (k v : Nat → Nat) : ∀ f, (∀ d i a n, px_e k f 0 d i = some a → dl n (ox_e k v f 0 d i) = n + 1) ∧ (∀ d i a n, px_e k f 1 d i = some a → dl n (ox_e k v f 1 d i) = n + 1) ∧ (∀ d i a n, px_e k f 2 d i = some a → dl n (ox_e k v f 2 d i) = n + 1) ∧ (∀ d i a n, px_e k f 3 d i = some a → dl (n + 1) (ox_e k v f 3 d i) = n + 1) ∧ (∀ d i a n, px_e k f 4 d i = some a → dl (n + 1) (ox_e k v f 4 d i) = n + 1) := by
  intro f
  induction f with
  | zero => exact ⟨fun d i a n h => (by cases h), fun d i a n h => (by cases h), fun d i a n h => (by cases h), fun d i a n h => (by cases h), fun d i a n h => (by cases h)⟩
  | succ f ih =>
    obtain ⟨i0, i1, i2, i3, i4⟩ := ih
    have ok := okd_2
    refine ⟨fun d i a n h => ?_, fun d i a n h => ?_, fun d i a n h => ?_, fun d i a n h => ?_, fun d i a n h => ?_⟩
    · rw [ox_e0]
      have h : (if 10 < d then none else if k i = 2 then px_e k f 0 (d + 1) (i + 1) else if k i = 4 then (px_e k f 1 (d + 1) (i + 1)).bind (fun a => if k a = 5 then some (a + 1) else none) else if k i = 6 then some (i + 1) else if px_dg k 9 i = 0 then none else some (i + px_dg k 9 i)) = some a := h
      by_cases hd : 10 < d
      · rw [if_pos hd] at h; cases h
      rw [if_neg hd] at h
      by_cases h2 : k i = 2
      · rw [if_pos h2] at h ⊢
        rw [dl_app, i0 _ _ _ _ h]
        rfl
      rw [if_neg h2] at h ⊢
      by_cases h4 : k i = 4
      · rw [if_pos h4] at h ⊢
        cases hb : px_e k f 1 (d + 1) (i + 1) with
        | none => rw [hb] at h; cases h
        | some b => exact i1 _ _ _ _ hb
      rw [if_neg h4] at h ⊢
      by_cases h6 : k i = 6
      · rw [if_pos h6]; rfl
      · rw [if_neg h6]; rfl
    · rw [ox_e1]
      have h : (px_e k f 2 d i).bind (fun a => px_e k f 3 d a) = some a := h
      cases hb : px_e k f 2 d i with
      | none => rw [hb] at h; cases h
      | some b =>
        rw [hb] at h
        rw [dl_app, i2 _ _ _ _ hb]
        exact i3 d b a n h
    · rw [ox_e2]
      have h : (px_e k f 0 d i).bind (fun a => px_e k f 4 d a) = some a := h
      cases hb : px_e k f 0 d i with
      | none => rw [hb] at h; cases h
      | some b =>
        rw [hb] at h
        rw [dl_app, i0 _ _ _ _ hb]
        exact i4 d b a n h
    · rw [ox_e3]
      have h : (if k i = 1 ∨ k i = 2 then (px_e k f 2 d (i + 1)).bind (fun a => px_e k f 3 d a) else some i) = some a := h
      by_cases q : k i = 1 ∨ k i = 2
      · rw [if_pos q] at h ⊢
        cases hb : px_e k f 2 d (i + 1) with
        | none => rw [hb] at h; cases h
        | some b =>
          rw [hb] at h
          rw [dl_app, i2 _ _ _ _ hb]
          show dl (dst (n + 2) (okd (v i))) (ox_e k v f 3 d b) = n + 1
          rw [dst_o (ok _).1 (ok _).2]
          exact i3 d b a n h
      · rw [if_neg q]; rfl
    · rw [ox_e4]
      have h : (if k i = 3 then (px_e k f 0 d (i + 1)).bind (fun a => px_e k f 4 d a) else some i) = some a := h
      by_cases q : k i = 3
      · rw [if_pos q] at h ⊢
        cases hb : px_e k f 0 d (i + 1) with
        | none => rw [hb] at h; cases h
        | some b =>
          rw [hb] at h
          rw [dl_app, i0 _ _ _ _ hb]
          show dl (dst (n + 2) (okd (v i))) (ox_e k v f 4 d b) = n + 1
          rw [dst_o (ok _).1 (ok _).2]
          exact i4 d b a n h
      · rw [if_neg q]; rfl
def ckd : Nat → List (Nat × Nat) → Bool
  | _, [] => true
  | n, (w, _) :: L => if w < 8 then ckd (dst n w) L else ((if w = 8 ∨ w = 10 ∨ w = 11 then decide (n = 1) else true) && ckd 0 L)
def CKD (A : List (Nat × Nat)) : Prop := ∀ B, ckd 0 B = true → ckd 0 (A ++ B) = true
theorem ckd_e : ∀ (E : List (Nat × Nat)) (n : Nat) (B : List (Nat × Nat)), (∀ x, x ∈ E → x.1 < 8) → ckd n (E ++ B) = ckd (dl n E) B := by
  intro E
  induction E with
  | nil => intro n B _; rfl
  | cons x E ih =>
    intro n B h
    obtain ⟨w, a⟩ := x
    have hw : w < 8 := h (w, a) List.mem_cons_self
    show (if w < 8 then ckd (dst n w) (E ++ B) else _) = _
    rw [if_pos hw]
    exact ih _ _ (fun y q => h y (List.mem_cons_of_mem _ q))
theorem CKD_nil : CKD [] := fun _ h => h
theorem CKD_app {A B : List (Nat × Nat)} (h : CKD A) (k : CKD B) : CKD (A ++ B) := fun C q => by rw [List.append_assoc]; exact h _ (k C q)
theorem CKD_st {E A : List (Nat × Nat)} {w a : Nat} (h8 : ∀ x, x ∈ E → x.1 < 8) (hd : dl 0 E = 1) (hw : 8 ≤ w) (k : CKD A) : CKD (E ++ (w, a) :: A) := fun C q => by
  rw [List.append_assoc, ckd_e E 0 _ h8, hd]
  show (if w < 8 then _ else ((if w = 8 ∨ w = 10 ∨ w = 11 then decide (1 = 1) else true) && ckd 0 (A ++ C))) = true
  rw [if_neg (by omega), decide_eq_true rfl, ite_self, Bool.true_and]
  exact k C q
theorem CKD_j {A : List (Nat × Nat)} {w a : Nat} (hw : 8 ≤ w) (h1 : w ≠ 8) (h2 : w ≠ 10) (h3 : w ≠ 11) (k : CKD A) : CKD ((w, a) :: A) := fun C q => by
  show (if w < 8 then _ else ((if w = 8 ∨ w = 10 ∨ w = 11 then decide (0 = 1) else true) && ckd 0 (A ++ C))) = true
  rw [if_neg (by omega), if_neg (by omega), Bool.true_and]
  exact k C q
theorem ox_s_d (k v : Nat → Nat) : ∀ f, (∀ d i a p, px_s k f 0 d i = some a → CKD (ox_s k v f 0 d i p)) ∧ (∀ d i a p, px_s k f 1 d i = some a → CKD (ox_s k v f 1 d i p)) := by
  intro f
  induction f with
  | zero => exact ⟨fun d i a p h => (by cases h), fun d i a p h => (by cases h)⟩
  | succ f ih =>
    obtain ⟨i0, i1⟩ := ih
    have he : ∀ d i x, x ∈ ox_e k v 400 1 d i → x.1 < 8 := fun d i x q => by have := ox_e_m k v 400 1 d i x q; omega
    have hd : ∀ d i a, px_e k 400 1 d i = some a → dl 0 (ox_e k v 400 1 d i) = 1 := fun d i a q => (ox_e_d k v 400).2.1 d i a 0 q
    refine ⟨fun d i a p h => ?_, fun d i a p h => ?_⟩
    · rw [ox_s0]
      have h : (if k i = 8 then (if k (i + 1) = 6 then some (i + 2) else none) else if k i = 9 then px_e k 400 1 d (i + 1) else if k i = 10 then (px_e k 400 1 d (i + 1)).bind (fun a => if k a = 15 then (px_s k f 1 (d + 1) (a + 1)).bind (fun b => if k b = 11 then some (b + 1) else none) else none) else if k i = 12 then (px_e k 400 1 d (i + 1)).bind (fun a => if k a = 15 then (px_s k f 1 (d + 1) (a + 1)).bind (fun b => if k b = 14 then (px_s k f 1 (d + 1) (b + 1)).bind (fun g => if k g = 13 then some (g + 1) else none) else none) else none) else if k i = 6 ∧ k (i + 1) = 17 then px_e k 400 1 d (i + 2) else none) = some a := h
      by_cases h8 : k i = 8
      · rw [if_pos h8]; exact CKD_j (by decide) (by decide) (by decide) (by decide) CKD_nil
      rw [if_neg h8] at h ⊢
      by_cases h9 : k i = 9
      · rw [if_pos h9] at h ⊢; exact CKD_st (he _ _) (hd _ _ _ h) (by decide) CKD_nil
      rw [if_neg h9] at h ⊢
      by_cases h10 : k i = 10
      · rw [if_pos h10] at h ⊢
        cases hb : px_e k 400 1 d (i + 1) with
        | none => rw [hb] at h; cases h
        | some b =>
          rw [hb] at h
          have h : (if k b = 15 then (px_s k f 1 (d + 1) (b + 1)).bind (fun b => if k b = 11 then some (b + 1) else none) else none) = some a := h
          by_cases h15 : k b = 15
          · rw [if_pos h15] at h
            cases hc : px_s k f 1 (d + 1) (b + 1) with
            | none => rw [hc] at h; cases h
            | some c =>
              unfold oxl
              exact CKD_st (he _ _) (hd _ _ _ hb) (by decide) (CKD_app (i1 _ _ _ _ hc) (CKD_j (by decide) (by decide) (by decide) (by decide) CKD_nil))
          · rw [if_neg h15] at h; cases h
      rw [if_neg h10] at h ⊢
      by_cases h12 : k i = 12
      · rw [if_pos h12] at h ⊢
        cases hb : px_e k 400 1 d (i + 1) with
        | none => rw [hb] at h; cases h
        | some b =>
          rw [hb] at h
          have h : (if k b = 15 then (px_s k f 1 (d + 1) (b + 1)).bind (fun b => if k b = 14 then (px_s k f 1 (d + 1) (b + 1)).bind (fun g => if k g = 13 then some (g + 1) else none) else none) else none) = some a := h
          by_cases h15 : k b = 15
          · rw [if_pos h15] at h
            cases hc : px_s k f 1 (d + 1) (b + 1) with
            | none => rw [hc] at h; cases h
            | some c =>
              rw [hc] at h
              have h : (if k c = 14 then (px_s k f 1 (d + 1) (c + 1)).bind (fun g => if k g = 13 then some (g + 1) else none) else none) = some a := h
              by_cases h14 : k c = 14
              · rw [if_pos h14] at h
                cases hg : px_s k f 1 (d + 1) (c + 1) with
                | none => rw [hg] at h; cases h
                | some g =>
                  have e1 : (some b : Option Nat).getD 0 = b := rfl
                  have e2 : (some c : Option Nat).getD 0 = c := rfl
                  unfold oxc
                  rw [e1, hc, e2]
                  exact CKD_st (he _ _) (hd _ _ _ hb) (by decide) (CKD_app (i1 _ _ _ _ hc) (CKD_j (by decide) (by decide) (by decide) (by decide) (i1 _ _ _ _ hg)))
              · rw [if_neg h14] at h; cases h
          · rw [if_neg h15] at h; cases h
      rw [if_neg h12] at h ⊢
      by_cases h6 : k i = 6 ∧ k (i + 1) = 17
      · rw [if_pos h6] at h; exact CKD_st (he _ _) (hd _ _ _ h) (by decide) CKD_nil
      · rw [if_neg h6] at h; cases h
    · rw [ox_s1]
      have h : (if 10 < d then none else (px_s k f 0 d i).bind (fun a => if k a = 16 then px_s k f 1 d (a + 1) else some a)) = some a := h
      by_cases hd' : 10 < d
      · rw [if_pos hd'] at h; cases h
      rw [if_neg hd'] at h
      cases hb : px_s k f 0 d i with
      | none => rw [hb] at h; cases h
      | some b =>
        rw [hb] at h
        have h : (if k b = 16 then px_s k f 1 d (b + 1) else some b) = some a := h
        refine CKD_app (i0 _ _ _ _ hb) ?_
        show CKD (if k b = 16 then ox_s k v f 1 d (b + 1) _ else [])
        by_cases h16 : k b = 16
        · rw [if_pos h16] at h ⊢; exact i1 _ _ _ _ h
        · rw [if_neg h16]; exact CKD_nil
/-- the reference's code and arguments hold what was put down -/
def CLc (hC hA : Nat → Int32) (L : List (Nat × Nat)) : Prop := ∀ p, p < L.length → hC p = nI (at_ L p).1 ∧ hA p = nI (at_ L p).2
theorem at_d {L : List (Nat × Nat)} {p : Nat} (h : p < L.length) : L.drop p = at_ L p :: L.drop (p + 1) := by
  rw [List.drop_eq_getElem_cons h]
  unfold at_
  rw [List.getD_eq_getElem?_getD, List.getElem?_eq_getElem h]
  rfl
theorem CLc_of {hC hA : Nat → Int32} : ∀ (L : List (Nat × Nat)) (n : Nat), DS hC hA n L → ∀ p, p < L.length → hC (n + p) = nI (at_ L p).1 ∧ hA (n + p) = nI (at_ L p).2 := by
  intro L
  induction L with
  | nil => intro n _ p h; exact absurd h (by show ¬ p < 0; omega)
  | cons x L ih =>
    intro n h p hp
    obtain ⟨w, a⟩ := x
    obtain ⟨h1, h2, h3⟩ := h
    cases p with
    | zero => exact ⟨h1, h2⟩
    | succ p =>
      have hp : p + 1 < L.length + 1 := hp
      have := ih (n + 1) h3 p (by omega)
      rw [show n + 1 + p = n + (p + 1) by omega] at this
      exact this
theorem dp_1 {hC hA : Nat → Int32} {dpf : Nat → Nat} {sz : Nat} {L : List (Nat × Nat)} (hW : WF hC hA dpf sz) (hl : L.length = sz) (hc : CLc hC hA L) (h12 : ∀ x, x ∈ L → x.1 ≤ 12) (hk : ckd 0 L = true) : ∀ p, p < sz → (hC p = nI 8 ∨ hC p = nI 10 ∨ hC p = nI 11) → dpf p = 1 := by
  have hmem : ∀ p, p < sz → (at_ L p).1 ≤ 12 := fun p hp => h12 _ (by
    unfold at_
    rw [List.getD_eq_getElem?_getD, List.getElem?_eq_getElem (by omega)]
    exact List.getElem_mem _)
  have hcode : ∀ p, p < sz → ∀ w v, WO hC hA dpf sz p w v → (at_ L p).1 = w := fun p hp w v q => (nI_eq (by have := hmem p hp; omega) (by have := wo_12 q; omega)).mp ((hc p (by omega)).1.symm.trans (wo_c q))
  have g : ∀ p, p ≤ sz → ckd (dpf p) (L.drop p) = true := by
    intro p
    induction p with
    | zero => intro _; rw [hW.2.1]; exact hk
    | succ p ih =>
      intro hp
      have q := ih (by omega)
      obtain ⟨w, v, hwo⟩ := hW.2.2 p (by omega)
      have e := hcode p (by omega) w v hwo
      rw [at_d (by omega)] at q
      generalize hx : at_ L p = x at *
      obtain ⟨w', a'⟩ := x
      have e : w' = w := e
      subst e
      have q : (if w' < 8 then ckd (dst (dpf p) w') (L.drop (p + 1)) else ((if w' = 8 ∨ w' = 10 ∨ w' = 11 then decide (dpf p = 1) else true) && ckd 0 (L.drop (p + 1)))) = true := q
      obtain ⟨-, -, -, -, -, -, q7, q8, q9, q10, -⟩ := hwo
      by_cases h8 : w' < 8
      · rw [if_pos h8] at q
        have : dpf (p + 1) = dst (dpf p) w' := by
          unfold dst
          by_cases h2 : w' < 2
          · rw [if_pos h2]; exact q7 h2
          · rw [if_neg h2]
            by_cases h7 : w' = 7
            · rw [if_pos h7]; exact (q8 h7).2
            · rw [if_neg h7]; have := q9 (by omega) (by omega); omega
        rw [this]; exact q
      · rw [if_neg h8, Bool.and_eq_true] at q
        rw [q10 (by omega)]; exact q.2
  intro p hp h
  have q := g p (by omega)
  rw [at_d (by omega)] at q
  have hcp := (hc p (by omega)).1
  have hm := hmem p hp
  generalize hx : at_ L p = x at *
  obtain ⟨w', a'⟩ := x
  have q : (if w' < 8 then ckd (dst (dpf p) w') (L.drop (p + 1)) else ((if w' = 8 ∨ w' = 10 ∨ w' = 11 then decide (dpf p = 1) else true) && ckd 0 (L.drop (p + 1)))) = true := q
  have hcp : hC p = nI w' := hcp
  have hm : w' ≤ 12 := hm
  have hw : w' = 8 ∨ w' = 10 ∨ w' = 11 := by
    rcases h with z | z | z
    · exact Or.inl ((nI_eq (by omega) (by decide)).mp (hcp.symm.trans z))
    · exact Or.inr (Or.inl ((nI_eq (by omega) (by decide)).mp (hcp.symm.trans z)))
    · exact Or.inr (Or.inr ((nI_eq (by omega) (by decide)).mp (hcp.symm.trans z)))
  rw [if_neg (by omega), Bool.and_eq_true, if_pos hw] at q
  exact of_decide_eq_true q.1
/-- the EXPR at a place, one instruction after the other -/
theorem seg_c {L : List (Nat × Nat)} {p : Nat} (h : p < L.length) (h8 : (at_ L p).1 < 8) : seg L p = at_ L p :: seg L (p + 1) := by
  unfold seg
  rw [at_d h, List.takeWhile_cons_of_pos (by simp; exact h8)]
theorem seg_n {L : List (Nat × Nat)} {p : Nat} (h : p < L.length) (h8 : ¬ (at_ L p).1 < 8) : seg L p = [] := by
  unfold seg
  rw [at_d h, List.takeWhile_cons_of_neg (by simp; omega)]

