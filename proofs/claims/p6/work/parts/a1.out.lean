/-! ===== what the two readers put down of an EXPR: 0 a number, 1 a name, 2 .. 6 the signs + - * / %, 7 a sign before a factor; v says which character stands at a place ===== -/
def okd (c : Nat) : Nat := if c = 43 then 2 else if c = 45 then 3 else if c = 42 then 4 else if c = 47 then 5 else 6
/-- the number that d digits make -/
def nv (v : Nat → Nat) : Nat → Nat → Nat
  | 0, _ => 0
  | d + 1, i => 10 * nv v d i + (v (i + d) - 48)
def ox_e (k v : Nat → Nat) : Nat → Nat → Nat → Nat → List (Nat × Nat)
  | 0, _, _, _ => []
  | f + 1, 0, d, i => if k i = 2 then ox_e k v f 0 (d + 1) (i + 1) ++ [(7, 0)] else if k i = 4 then ox_e k v f 1 (d + 1) (i + 1) else if k i = 6 then [(1, v i - 97)] else [(0, nv v (px_dg k 9 i) i)]
  | f + 1, 1, d, i => ox_e k v f 2 d i ++ ox_e k v f 3 d ((px_e k f 2 d i).getD 0)
  | f + 1, 2, d, i => ox_e k v f 0 d i ++ ox_e k v f 4 d ((px_e k f 0 d i).getD 0)
  | f + 1, 3, d, i => if k i = 1 ∨ k i = 2 then ox_e k v f 2 d (i + 1) ++ (okd (v i), 0) :: ox_e k v f 3 d ((px_e k f 2 d (i + 1)).getD 0) else []
  | f + 1, 4, d, i => if k i = 3 then ox_e k v f 0 d (i + 1) ++ (okd (v i), 0) :: ox_e k v f 4 d ((px_e k f 0 d (i + 1)).getD 0) else []
  | _ + 1, _ + 5, _, _ => []
/-- the reference's row of waiting signs, by their kinds: 8 a sign before a factor, 9 an open bracket -/
def ty_neg : List Nat → List Nat
  | [] => []
  | x :: T => if x = 8 then ty_neg T else x :: T
def oy_neg : List Nat → List (Nat × Nat)
  | [] => []
  | x :: T => if x = 8 then (7, 0) :: oy_neg T else []
def rb (x : Nat) : Nat := if 4 ≤ x ∧ x ≤ 6 then 2 else 1
def ty_rel (b : Nat) : List Nat → List Nat
  | [] => []
  | x :: T => if x ≠ 9 ∧ b ≤ rb x then ty_rel b T else x :: T
def oy_rel (b : Nat) : List Nat → List (Nat × Nat)
  | [] => []
  | x :: T => if x ≠ 9 ∧ b ≤ rb x then (x, 0) :: oy_rel b T else []
def oy_e (k v : Nat → Nat) : Nat → Nat → List Nat → Bool → List (Nat × Nat)
  | 0, _, _, _ => []
  | f + 1, i, T, true =>
    if k i = 2 ∨ k i = 4 then oy_e k v f (i + 1) ((if k i = 2 then 8 else 9) :: T) true
    else if k i = 6 then (1, v i - 97) :: (oy_neg T ++ oy_e k v f (i + 1) (ty_neg T) false)
    else if k i = 7 then (0, nv v (px_dg k 10 i) i) :: (oy_neg T ++ oy_e k v f (i + px_dg k 10 i) (ty_neg T) false)
    else []
  | f + 1, i, T, false =>
    if k i = 1 ∨ k i = 2 then oy_rel 1 T ++ oy_e k v f (i + 1) (okd (v i) :: ty_rel 1 T) true
    else if k i = 3 then oy_rel 2 T ++ oy_e k v f (i + 1) (okd (v i) :: ty_rel 2 T) true
    else if k i = 5 ∧ ty_rel 1 T ≠ [] then oy_rel 1 T ++ (oy_neg (ty_rel 1 T).tail ++ oy_e k v f (i + 1) (ty_neg (ty_rel 1 T).tail) false)
    else oy_rel 1 T
theorem ox_e0 (k v : Nat → Nat) (f d i : Nat) : ox_e k v (f + 1) 0 d i = (if k i = 2 then ox_e k v f 0 (d + 1) (i + 1) ++ [(7, 0)] else if k i = 4 then ox_e k v f 1 (d + 1) (i + 1) else if k i = 6 then [(1, v i - 97)] else [(0, nv v (px_dg k 9 i) i)]) := rfl
theorem ox_e1 (k v : Nat → Nat) (f d i : Nat) : ox_e k v (f + 1) 1 d i = ox_e k v f 2 d i ++ ox_e k v f 3 d ((px_e k f 2 d i).getD 0) := rfl
theorem ox_e2 (k v : Nat → Nat) (f d i : Nat) : ox_e k v (f + 1) 2 d i = ox_e k v f 0 d i ++ ox_e k v f 4 d ((px_e k f 0 d i).getD 0) := rfl
theorem ox_e3 (k v : Nat → Nat) (f d i : Nat) : ox_e k v (f + 1) 3 d i = (if k i = 1 ∨ k i = 2 then ox_e k v f 2 d (i + 1) ++ (okd (v i), 0) :: ox_e k v f 3 d ((px_e k f 2 d (i + 1)).getD 0) else []) := rfl
theorem ox_e4 (k v : Nat → Nat) (f d i : Nat) : ox_e k v (f + 1) 4 d i = (if k i = 3 then ox_e k v f 0 d (i + 1) ++ (okd (v i), 0) :: ox_e k v f 4 d ((px_e k f 0 d (i + 1)).getD 0) else []) := rfl
theorem oy_eT (k v : Nat → Nat) (f i : Nat) (T : List Nat) : oy_e k v (f + 1) i T true = (if k i = 2 ∨ k i = 4 then oy_e k v f (i + 1) ((if k i = 2 then 8 else 9) :: T) true
    else if k i = 6 then (1, v i - 97) :: (oy_neg T ++ oy_e k v f (i + 1) (ty_neg T) false)
    else if k i = 7 then (0, nv v (px_dg k 10 i) i) :: (oy_neg T ++ oy_e k v f (i + px_dg k 10 i) (ty_neg T) false)
    else []) := rfl
theorem oy_eF (k v : Nat → Nat) (f i : Nat) (T : List Nat) : oy_e k v (f + 1) i T false = (if k i = 1 ∨ k i = 2 then oy_rel 1 T ++ oy_e k v f (i + 1) (okd (v i) :: ty_rel 1 T) true
    else if k i = 3 then oy_rel 2 T ++ oy_e k v f (i + 1) (okd (v i) :: ty_rel 2 T) true
    else if k i = 5 ∧ ty_rel 1 T ≠ [] then oy_rel 1 T ++ (oy_neg (ty_rel 1 T).tail ++ oy_e k v f (i + 1) (ty_neg (ty_rel 1 T).tail) false)
    else oy_rel 1 T) := rfl
theorem okd_2 (c : Nat) : 2 ≤ okd c ∧ okd c ≤ 6 := by unfold okd; split <;> first | omega | (split <;> first | omega | (split <;> first | omega | (split <;> omega)))
/-- characters and their classes -/
def vk (k v : Nat → Nat) : Prop := ∀ i, (k i = 1 ∨ k i = 2 → okd (v i) ≤ 3) ∧ (k i = 3 → 4 ≤ okd (v i))
theorem oy_neg_r (T0 : List Nat) (h : T0.head? ≠ some 8) : ∀ j, oy_neg (List.replicate j 8 ++ T0) = List.replicate j (7, 0) ∧ ty_neg (List.replicate j 8 ++ T0) = T0 := by
  intro j
  induction j with
  | zero =>
    cases T0 with
    | nil => exact ⟨rfl, rfl⟩
    | cons x T =>
      have hx : x ≠ 8 := fun q => h (by rw [q]; rfl)
      exact ⟨if_neg hx, if_neg hx⟩
  | succ j ih =>
    refine ⟨?_, ?_⟩
    · show (if (8 : Nat) = 8 then (7, 0) :: oy_neg (List.replicate j 8 ++ T0) else []) = (7, 0) :: List.replicate j (7, 0)
      rw [if_pos rfl, ih.1]
    · show (if (8 : Nat) = 8 then ty_neg (List.replicate j 8 ++ T0) else _) = _
      rw [if_pos rfl, ih.2]
theorem rel_id (b : Nat) : ∀ T, ty_rel b (ty_rel b T) = ty_rel b T ∧ oy_rel b (ty_rel b T) = [] := by
  intro T
  induction T with
  | nil => exact ⟨rfl, rfl⟩
  | cons x T ih =>
    by_cases h : x ≠ 9 ∧ b ≤ rb x
    · rw [show ty_rel b (x :: T) = ty_rel b T from if_pos h]; exact ih
    · rw [show ty_rel b (x :: T) = x :: T from if_neg h]; exact ⟨if_neg h, if_neg h⟩
theorem rel_12 : ∀ T, ty_rel 1 (ty_rel 2 T) = ty_rel 1 T ∧ oy_rel 1 T = oy_rel 2 T ++ oy_rel 1 (ty_rel 2 T) := by
  intro T
  induction T with
  | nil => exact ⟨rfl, rfl⟩
  | cons x T ih =>
    by_cases h : x ≠ 9 ∧ 2 ≤ rb x
    · have h1 : x ≠ 9 ∧ 1 ≤ rb x := ⟨h.1, by omega⟩
      rw [show ty_rel 2 (x :: T) = ty_rel 2 T from if_pos h, show ty_rel 1 (x :: T) = ty_rel 1 T from if_pos h1, show oy_rel 1 (x :: T) = (x, 0) :: oy_rel 1 T from if_pos h1, show oy_rel 2 (x :: T) = (x, 0) :: oy_rel 2 T from if_pos h]
      exact ⟨ih.1, by rw [ih.2]; rfl⟩
    · rw [show ty_rel 2 (x :: T) = x :: T from if_neg h, show oy_rel 2 (x :: T) = [] from if_neg h]; exact ⟨rfl, rfl⟩
theorem rel_top (b x : Nat) (T : List Nat) (h : x ≠ 9) (hb : b ≤ rb x) : ty_rel b (x :: T) = ty_rel b T ∧ oy_rel b (x :: T) = (x, 0) :: oy_rel b T := ⟨if_pos ⟨h, hb⟩, if_pos ⟨h, hb⟩⟩
theorem rb_lo {x : Nat} (h : x ≤ 3) : rb x = 1 := if_neg (by omega)
theorem rb_hi {x : Nat} (h : 4 ≤ x) (h6 : x ≤ 6) : rb x = 2 := if_pos ⟨h, h6⟩
def oy_to (k v : Nat → Nat) (i : Nat) (T : List Nat) (b : Bool) (o : List (Nat × Nat)) (i' : Nat) (T' : List Nat) (b' : Bool) : Prop := ∃ K, ∀ f, oy_e k v (f + K) i T b = o ++ oy_e k v f i' T' b'
theorem oy_to.tr {k v : Nat → Nat} {i i1 i2 : Nat} {T T1 T2 : List Nat} {b b1 b2 : Bool} {o o1 : List (Nat × Nat)} (h : oy_to k v i T b o i1 T1 b1) (h2 : oy_to k v i1 T1 b1 o1 i2 T2 b2) : oy_to k v i T b (o ++ o1) i2 T2 b2 := by
  obtain ⟨K, hK⟩ := h
  obtain ⟨K2, hK2⟩ := h2
  exact ⟨K2 + K, fun f => by rw [← Nat.add_assoc, hK, hK2, List.append_assoc]⟩
theorem oy_to.rf {k v : Nat → Nat} {i : Nat} {T : List Nat} {b : Bool} : oy_to k v i T b [] i T b := ⟨0, fun _ => rfl⟩
theorem oy_f1 (k v : Nat → Nat) {i : Nat} {T : List Nat} (h : k i = 2 ∨ k i = 4) : oy_to k v i T true [] (i + 1) ((if k i = 2 then 8 else 9) :: T) true := ⟨1, fun f => by rw [oy_eT, if_pos h]; rfl⟩
theorem oy_f6 (k v : Nat → Nat) {i : Nat} {T : List Nat} (h : k i = 6) : oy_to k v i T true ((1, v i - 97) :: oy_neg T) (i + 1) (ty_neg T) false := ⟨1, fun f => by rw [oy_eT, if_neg (by omega), if_pos h]; rfl⟩
theorem oy_f7 (k v : Nat → Nat) {i : Nat} {T : List Nat} (h : k i = 7) : oy_to k v i T true ((0, nv v (px_dg k 10 i) i) :: oy_neg T) (i + px_dg k 10 i) (ty_neg T) false := ⟨1, fun f => by rw [oy_eT, if_neg (by omega), if_neg (by omega), if_pos h]; rfl⟩
theorem oy_o1 (k v : Nat → Nat) {i : Nat} {T : List Nat} (h : k i = 1 ∨ k i = 2) : oy_to k v i T false (oy_rel 1 T) (i + 1) (okd (v i) :: ty_rel 1 T) true := ⟨1, fun f => by rw [oy_eF, if_pos h]⟩
theorem oy_o3 (k v : Nat → Nat) {i : Nat} {T : List Nat} (h : k i = 3) : oy_to k v i T false (oy_rel 2 T) (i + 1) (okd (v i) :: ty_rel 2 T) true := ⟨1, fun f => by rw [oy_eF, if_neg (by omega), if_pos h]⟩
theorem oy_o5 (k v : Nat → Nat) {i : Nat} {T : List Nat} (h : k i = 5) (hT : ty_rel 1 T ≠ []) : oy_to k v i T false (oy_rel 1 T ++ oy_neg (ty_rel 1 T).tail) (i + 1) (ty_neg (ty_rel 1 T).tail) false := ⟨1, fun f => by rw [oy_eF, if_neg (by omega), if_neg (by omega), if_pos ⟨h, hT⟩, List.append_assoc]⟩
theorem ob_some {α β : Type} {o : Option α} {F : α → Option β} {b : β} (h : o.bind F = some b) : ∃ a, o = some a ∧ F a = some b := by
  cases o with
  | none => cases h
  | some a => exact ⟨a, rfl, h⟩
/-- what is said of the five tags together -/
theorem ox_sim (k v : Nat → Nat) (hv : vk k v) : ∀ f,
    (∀ d i a, px_e k f 0 d i = some a → k a ≠ 7 → ∀ j T0, T0.head? ≠ some 8 → oy_to k v i (List.replicate j 8 ++ T0) true (ox_e k v f 0 d i ++ List.replicate j (7, 0)) a T0 false) ∧
    (∀ d i a, px_e k f 1 d i = some a → k a ≠ 7 → (k a ≠ 1 ∧ k a ≠ 2 ∧ k a ≠ 3) ∧ ∀ T, T.head? ≠ some 8 → ty_rel 1 T = T → ∃ o T', oy_to k v i T true o a T' false ∧ o ++ oy_rel 1 T' = ox_e k v f 1 d i ∧ ty_rel 1 T' = T) ∧
    (∀ d i a, px_e k f 2 d i = some a → k a ≠ 7 → k a ≠ 3 ∧ ∀ T, T.head? ≠ some 8 → ty_rel 2 T = T → ∃ o T', oy_to k v i T true o a T' false ∧ o ++ oy_rel 2 T' = ox_e k v f 2 d i ∧ ty_rel 2 T' = T) ∧
    (∀ d i a, px_e k f 3 d i = some a → k a ≠ 7 → (k i ≠ 3 → k a ≠ 1 ∧ k a ≠ 2 ∧ k a ≠ 3) ∧ ∀ T, ∃ o T', oy_to k v i T false o a T' false ∧ o ++ oy_rel 1 T' = oy_rel 1 T ++ ox_e k v f 3 d i ∧ ty_rel 1 T' = ty_rel 1 T) ∧
    (∀ d i a, px_e k f 4 d i = some a → k a ≠ 7 → k a ≠ 3 ∧ ∀ T, ∃ o T', oy_to k v i T false o a T' false ∧ o ++ oy_rel 2 T' = oy_rel 2 T ++ ox_e k v f 4 d i ∧ ty_rel 2 T' = ty_rel 2 T) := by
  intro f
  induction f with
  | zero => exact ⟨fun _ _ _ h => (by cases h), fun _ _ _ h => (by cases h), fun _ _ _ h => (by cases h), fun _ _ _ h => (by cases h), fun _ _ _ h => (by cases h)⟩
  | succ f ih =>
    obtain ⟨i0, i1, i2, i3, i4⟩ := ih
    refine ⟨?_, ?_, ?_, ?_, ?_⟩
    · intro d i a h h7 j T0 hT0
      rw [px_e] at h
      by_cases hd : 10 < d
      · rw [if_pos hd] at h; cases h
      rw [if_neg hd] at h
      rw [ox_e0]
      by_cases h2 : k i = 2
      · rw [if_pos h2] at h ⊢
        have e := i0 (d + 1) (i + 1) a h h7 (j + 1) T0 hT0
        have e1 := oy_f1 k v (T := List.replicate j 8 ++ T0) (Or.inl h2)
        rw [if_pos h2] at e1
        have e2 := e1.tr e
        rw [show ([] : List (Nat × Nat)) ++ (ox_e k v f 0 (d + 1) (i + 1) ++ List.replicate (j + 1) (7, 0)) = (ox_e k v f 0 (d + 1) (i + 1) ++ [(7, 0)]) ++ List.replicate j (7, 0) by simp [List.replicate_succ]] at e2
        exact e2
      rw [if_neg h2] at h ⊢
      by_cases h4 : k i = 4
      · rw [if_pos h4] at h ⊢
        obtain ⟨b, hb, hc⟩ := ob_some h
        by_cases h5 : k b = 5
        · rw [if_pos h5] at hc
          cases hc
          obtain ⟨-, e⟩ := i1 (d + 1) (i + 1) b hb (by omega)
          obtain ⟨o, T', e1, e2, e3⟩ := e (9 :: (List.replicate j 8 ++ T0)) (by simp) (if_neg (fun q => q.1 rfl))
          have e0 := oy_f1 k v (T := List.replicate j 8 ++ T0) (Or.inr h4)
          rw [if_neg h2] at e0
          have e4 := oy_o5 k v (T := T') h5 (by rw [e3]; simp)
          rw [e3] at e4
          rw [List.tail_cons, (oy_neg_r T0 hT0 j).1, (oy_neg_r T0 hT0 j).2] at e4
          have e5 := (e0.tr e1).tr e4
          rw [List.nil_append, ← List.append_assoc, e2] at e5
          exact e5
        · rw [if_neg h5] at hc; cases hc
      rw [if_neg h4] at h ⊢
      by_cases h6 : k i = 6
      · rw [if_pos h6] at h ⊢
        cases h
        have e := oy_f6 k v (T := List.replicate j 8 ++ T0) h6
        rw [(oy_neg_r T0 hT0 j).1, (oy_neg_r T0 hT0 j).2] at e
        exact e
      rw [if_neg h6] at h ⊢
      by_cases h0 : px_dg k 9 i = 0
      · rw [if_pos h0] at h; cases h
      rw [if_neg h0] at h
      cases h
      have hk7 : k i = 7 := by
        have := px_dg_in k 9 i 0 (by omega)
        exact this
      have hs : px_dg k 10 i = if px_dg k 9 i = 9 ∧ k (i + 9) = 7 then 9 + 1 else px_dg k 9 i := px_dg_succ k 9 i
      rw [if_neg (fun q => h7 (by rw [q.1]; exact q.2))] at hs
      have e := oy_f7 k v (T := List.replicate j 8 ++ T0) hk7
      rw [(oy_neg_r T0 hT0 j).1, (oy_neg_r T0 hT0 j).2, hs] at e
      exact e
    · intro d i a h h7
      rw [px_e] at h
      obtain ⟨b, hb, hc⟩ := ob_some h
      have hb7 : k b ≠ 7 := by
        obtain ⟨f', rfl⟩ : ∃ f', f = f' + 1 := by cases f with
          | zero => cases hc
          | succ n => exact ⟨n, rfl⟩
        rw [px_e] at hc
        by_cases h12 : k b = 1 ∨ k b = 2
        · omega
        · rw [if_neg h12] at hc; cases hc; exact h7
      obtain ⟨n3, e⟩ := i2 d i b hb hb7
      obtain ⟨n4, e'⟩ := i3 d b a hc h7
      refine ⟨n4 n3, fun T hT hr => ?_⟩
      have hr2 : ty_rel 2 T = T := by
        cases T with
        | nil => rfl
        | cons x T =>
          by_cases q : x ≠ 9 ∧ 1 ≤ rb x
          · rw [show ty_rel 1 (x :: T) = ty_rel 1 T from if_pos q] at hr
            exfalso
            have : ∀ T, (ty_rel 1 T).length ≤ T.length := by
              intro T
              induction T with
              | nil => exact Nat.le_refl _
              | cons y T ih2 =>
                by_cases q : y ≠ 9 ∧ 1 ≤ rb y
                · rw [show ty_rel 1 (y :: T) = ty_rel 1 T from if_pos q]; exact Nat.le_succ_of_le ih2
                · rw [show ty_rel 1 (y :: T) = y :: T from if_neg q]; exact Nat.le_refl _
            have h1 := this T
            rw [hr] at h1
            simp at h1
            omega
          · exact if_neg (fun z => q ⟨z.1, by omega⟩)
      obtain ⟨o, T2, e1, e2, e3⟩ := e T hT hr2
      obtain ⟨o2, T', e4, e5, e6⟩ := e' T2
      refine ⟨o ++ o2, T', e1.tr e4, ?_, ?_⟩
      · rw [ox_e1, hb, Option.getD_some, List.append_assoc, e5, (rel_12 T2).2, e3, show oy_rel 1 T = [] by have := (rel_id 1 T).2; rw [hr] at this; exact this, List.append_nil, ← List.append_assoc, e2]
      · rw [e6, ← (rel_12 T2).1, e3, hr]
    · intro d i a h h7
      rw [px_e] at h
      obtain ⟨b, hb, hc⟩ := ob_some h
      have hb7 : k b ≠ 7 := by
        obtain ⟨f', rfl⟩ : ∃ f', f = f' + 1 := by cases f with
          | zero => cases hc
          | succ n => exact ⟨n, rfl⟩
        rw [px_e] at hc
        by_cases h12 : k b = 3
        · omega
        · rw [if_neg h12] at hc; cases hc; exact h7
      obtain ⟨n3, e'⟩ := i4 d b a hc h7
      refine ⟨n3, fun T hT hr => ?_⟩
      have e := i0 d i b hb hb7 0 T hT
      rw [show List.replicate 0 8 ++ T = T from rfl, show ox_e k v f 0 d i ++ List.replicate 0 (7, 0) = ox_e k v f 0 d i by simp] at e
      obtain ⟨o2, T', e4, e5, e6⟩ := e' T
      refine ⟨ox_e k v f 0 d i ++ o2, T', e.tr e4, ?_, ?_⟩
      · rw [ox_e2, hb, Option.getD_some, List.append_assoc, e5, show oy_rel 2 T = [] by have := (rel_id 2 T).2; rw [hr] at this; exact this, List.nil_append]
      · rw [e6, hr]
    · intro d i a h h7
      rw [px_e] at h
      by_cases h12 : k i = 1 ∨ k i = 2
      · rw [if_pos h12] at h
        obtain ⟨b, hb, hc⟩ := ob_some h
        have hb7 : k b ≠ 7 := by
          obtain ⟨f', rfl⟩ : ∃ f', f = f' + 1 := by cases f with
            | zero => cases hc
            | succ n => exact ⟨n, rfl⟩
          rw [px_e] at hc
          by_cases h12 : k b = 1 ∨ k b = 2
          · omega
          · rw [if_neg h12] at hc; cases hc; exact h7
        obtain ⟨n3, e⟩ := i2 d (i + 1) b hb hb7
        obtain ⟨n4, e'⟩ := i3 d b a hc h7
        refine ⟨fun _ => n4 n3, fun T => ?_⟩
        have hlo := (hv i).1 h12
        have ho2 := okd_2 (v i)
        obtain ⟨o, T2, e1, e2, e3⟩ := e (okd (v i) :: ty_rel 1 T) (by simp; omega) (if_neg (fun q => by have := rb_lo hlo; omega))
        obtain ⟨o2, T', e4, e5, e6⟩ := e' T2
        have t := rel_top 1 (okd (v i)) (ty_rel 1 T) (by omega) (by rw [rb_lo hlo]; omega)
        refine ⟨oy_rel 1 T ++ (o ++ o2), T', (oy_o1 k v h12).tr (e1.tr e4), ?_, ?_⟩
        · rw [ox_e3, if_pos h12, hb, Option.getD_some, List.append_assoc, List.append_assoc, e5, (rel_12 T2).2, e3, t.2, (rel_id 1 T).2, ← e2]
          simp
        · rw [e6, ← (rel_12 T2).1, e3, t.1, (rel_id 1 T).1]
      · rw [if_neg h12] at h
        cases h
        refine ⟨fun h3 => ⟨fun q => h12 (Or.inl q), fun q => h12 (Or.inr q), h3⟩, fun T => ⟨[], T, oy_to.rf, ?_, rfl⟩⟩
        rw [ox_e3, if_neg h12]; simp
    · intro d i a h h7
      rw [px_e] at h
      by_cases h3 : k i = 3
      · rw [if_pos h3] at h
        obtain ⟨b, hb, hc⟩ := ob_some h
        have hb7 : k b ≠ 7 := by
          obtain ⟨f', rfl⟩ : ∃ f', f = f' + 1 := by cases f with
            | zero => cases hc
            | succ n => exact ⟨n, rfl⟩
          rw [px_e] at hc
          by_cases h12 : k b = 3
          · omega
          · rw [if_neg h12] at hc; cases hc; exact h7
        obtain ⟨n3, e'⟩ := i4 d b a hc h7
        refine ⟨n3, fun T => ?_⟩
        have hhi := (hv i).2 h3
        have ho2 := okd_2 (v i)
        have e := i0 d (i + 1) b hb hb7 0 (okd (v i) :: ty_rel 2 T) (by simp; omega)
        rw [show List.replicate 0 8 ++ (okd (v i) :: ty_rel 2 T) = okd (v i) :: ty_rel 2 T from rfl, show ox_e k v f 0 d (i + 1) ++ List.replicate 0 (7, 0) = ox_e k v f 0 d (i + 1) by simp] at e
        obtain ⟨o2, T', e4, e5, e6⟩ := e' (okd (v i) :: ty_rel 2 T)
        have t := rel_top 2 (okd (v i)) (ty_rel 2 T) (by omega) (by rw [rb_hi hhi ho2.2]; omega)
        refine ⟨oy_rel 2 T ++ (ox_e k v f 0 d (i + 1) ++ o2), T', (oy_o3 k v h3).tr (e.tr e4), ?_, ?_⟩
        · rw [ox_e4, if_pos h3, hb, Option.getD_some, List.append_assoc, List.append_assoc, e5, t.2, (rel_id 2 T).2]
          simp
        · rw [e6, t.1, (rel_id 2 T).1]
      · rw [if_neg h3] at h
        cases h
        refine ⟨h3, fun T => ⟨[], T, oy_to.rf, ?_, rfl⟩⟩
        rw [ox_e4, if_neg h3]; simp
theorem oy_stable (k v : Nat → Nat) (N : Nat) (hN : ∀ i, N ≤ i → k i = 0) : ∀ f i T b, 1 ≤ f → N < i + f → oy_e k v (f + 1) i T b = oy_e k v f i T b := by
  intro f
  induction f with
  | zero => intro i T b h; exact absurd h (by omega)
  | succ f ih =>
    intro i T b _ hf
    by_cases hi : N ≤ i
    · have h0 := hN i hi
      cases b
      · rw [oy_eF k v (f + 1) i T, oy_eF k v f i T]
        simp only [h0]
        simp
      · rw [oy_eT k v (f + 1) i T, oy_eT k v f i T]
        simp only [h0]
        simp
    · have e : ∀ i' T' b', i < i' → oy_e k v (f + 1) i' T' b' = oy_e k v f i' T' b' := fun i' T' b' h => ih i' T' b' (by omega) (by omega)
      cases b
      · rw [oy_eF k v (f + 1) i T, oy_eF k v f i T, e (i + 1) _ true (by omega), e (i + 1) (okd (v i) :: ty_rel 2 T) true (by omega), e (i + 1) _ false (by omega)]
      · rw [oy_eT k v (f + 1) i T, oy_eT k v f i T, e (i + 1) _ true (by omega), e (i + 1) _ false (by omega)]
        by_cases h7 : k i = 7
        · have h1 : 1 ≤ px_dg k 10 i := by rw [show px_dg k 10 i = px_dg k 9 (i + 1) + 1 from if_pos h7]; omega
          rw [e (i + px_dg k 10 i) _ _ (by omega)]
        · rw [if_neg h7, if_neg h7]
/-- an EXPR: both put down the same -/
theorem ox_expr (k v : Nat → Nat) (hv : vk k v) (N : Nat) (hN : ∀ i, N ≤ i → k i = 0) (hN2 : N ≤ 72) {d i a : Nat} (h : px_e k 400 1 d i = some a) (h7 : k a ≠ 7) : oy_e k v 400 i [] true = ox_e k v 400 1 d i := by
  obtain ⟨n, e⟩ := (ox_sim k v hv 400).2.1 d i a h h7
  obtain ⟨o, T', ⟨K, hK⟩, e2, e3⟩ := e [] (by simp) rfl
  have h1 : ∀ n, oy_e k v (400 + n) i [] true = oy_e k v 400 i [] true := by
    intro n
    induction n with
    | zero => rfl
    | succ n ih => rw [← Nat.add_assoc, oy_stable k v N hN (400 + n) i [] true (by omega) (by omega), ih]
  rw [← h1 (K + 1), show 400 + (K + 1) = 401 + K by omega, hK 401, oy_eF, if_neg (by omega), if_neg n.2.2, if_neg (fun q => q.2 e3), e2]

