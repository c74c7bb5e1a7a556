/-! ===== the reference's drafts against what was put down ===== -/
def wkk (c : Int32) : Nat := if c = nI 40 then 9 else if c = nI 117 then 8 else okd c.toNatClampNeg
def wlk (h : Nat → Int32) : Nat → List Nat
  | 0 => []
  | n + 1 => wkk (h n) :: wlk h n
theorem wlk_eq {h k : Nat → Int32} {n : Nat} (e : ∀ i, i < n → h i = k i) : wlk h n = wlk k n := by
  induction n with
  | zero => rfl
  | succ n ih => unfold wlk; rw [ih (fun i hi => e i (by omega)), e n (by omega)]
theorem wlk_s (h : Nat → Int32) {n : Nat} (hn : 0 < n) : wlk h n = wkk (h (n - 1)) :: wlk h (n - 1) := by
  obtain ⟨k, rfl⟩ : ∃ k, n = k + 1 := ⟨n - 1, by omega⟩
  rfl
theorem wlk_upd (h : Nat → Int32) (n : Nat) (x : Int32) : wlk (upd h n x) (n + 1) = wkk x :: wlk h n := by
  show wkk (upd h n x n) :: wlk (upd h n x) n = _
  rw [upd_at, wlk_eq (k := h) (fun i hi => upd_ne _ _ (by omega))]
theorem wkk_8 {c : Int32} (h : wkk c = 8) : c = nI 117 := by
  unfold wkk at h
  by_cases h1 : c = nI 40
  · rw [if_pos h1] at h; omega
  · rw [if_neg h1] at h
    by_cases h2 : c = nI 117
    · exact h2
    · rw [if_neg h2] at h
      have := okd_2 c.toNatClampNeg
      omega
theorem wkk_o {c : Int32} (h1 : c ≠ nI 40) (h2 : c ≠ nI 117) : wkk c = okd c.toNatClampNeg := by unfold wkk; rw [if_neg h1, if_neg h2]
theorem oyn_8 (T : List Nat) : oy_neg (8 :: T) = (7, 0) :: oy_neg T := rfl
theorem tyn_8 (T : List Nat) : ty_neg (8 :: T) = ty_neg T := rfl
theorem oyn_n {x : Nat} {T : List Nat} (h : x ≠ 8) : oy_neg (x :: T) = [] ∧ ty_neg (x :: T) = x :: T := ⟨if_neg h, if_neg h⟩
/-- the drafts from n on are L -/
def DS (d g : Nat → Int32) : Nat → List (Nat × Nat) → Prop
  | _, [] => True
  | n, (w, a) :: L => d n = nI w ∧ g n = nI a ∧ DS d g (n + 1) L
theorem DS_app {d g : Nat → Int32} (A B : List (Nat × Nat)) : ∀ n, DS d g n A → DS d g (n + A.length) B → DS d g n (A ++ B) := by
  induction A with
  | nil => intro n _ h; exact h
  | cons x A ih =>
    intro n h q
    obtain ⟨w, a⟩ := x
    rw [List.length_cons, show n + (A.length + 1) = n + 1 + A.length by omega] at q
    exact ⟨h.1, h.2.1, ih _ h.2.2 q⟩
theorem DS_eq {d g d1 g1 : Nat → Int32} (L : List (Nat × Nat)) : ∀ n, DS d g n L → (∀ i, n ≤ i → i < n + L.length → d1 i = d i ∧ g1 i = g i) → DS d1 g1 n L := by
  induction L with
  | nil => intro n _ _; trivial
  | cons x L ih =>
    intro n h e
    obtain ⟨w, a⟩ := x
    rw [List.length_cons] at e
    have e0 := e n (Nat.le_refl _) (by omega)
    exact ⟨e0.1.trans h.1, e0.2.trans h.2.1, ih _ h.2.2 (fun i h1 h2 => e i (by omega) (by omega))⟩
theorem DS_smd {d g d1 g1 : Nat → Int32} {n m : Nat} {L : List (Nat × Nat)} (h : DS d g n L) (e : smd m d1 d) (eg : smd m g1 g) (hm : n + L.length ≤ m) : DS d1 g1 n L := DS_eq L n h (fun i _ h2 => ⟨e i (by omega), eg i (by omega)⟩)
theorem DS_put {d g : Nat → Int32} {n r w a : Nat} {L : List (Nat × Nat)} (h : DS d g n L) (hr : r = n + L.length) : DS (upd d r (nI w)) (upd g r (nI a)) n (L ++ [(w, a)]) := by
  refine DS_app L _ n (DS_eq L n h (fun i h1 h2 => ⟨upd_ne _ _ (by omega), upd_ne _ _ (by omega)⟩)) ?_
  rw [← hr]
  exact ⟨upd_at _ _ _, upd_at _ _ _, trivial⟩
theorem DS_cat {d g d1 g1 : Nat → Int32} {n r : Nat} {A B : List (Nat × Nat)} (h : DS d g n A) (hr : r = n + A.length) (e : smd r d1 d) (eg : smd r g1 g) (q : DS d1 g1 r B) : DS d1 g1 n (A ++ B) := DS_app A B n (DS_smd h e eg (by omega)) (by rw [← hr]; exact q)
theorem DS_at {d g : Nat → Int32} (L : List (Nat × Nat)) : ∀ n t, DS d g n L → t < L.length → d (n + t) = nI (L.getD t (0, 0)).1 ∧ g (n + t) = nI (L.getD t (0, 0)).2 := by
  induction L with
  | nil => intro n t _ h; exact absurd h (Nat.not_lt_zero _)
  | cons x L ih =>
    intro n t h q
    obtain ⟨w, a⟩ := x
    cases t with
    | zero => exact ⟨h.1, h.2.1⟩
    | succ t =>
      have := ih (n + 1) t h.2.2 (by rw [List.length_cons] at q; omega)
      rw [show n + (t + 1) = n + 1 + t by omega]
      exact this
theorem DS_set {d g : Nat → Int32} (L : List (Nat × Nat)) : ∀ n t w m, DS d g n L → t < L.length → d (n + t) = nI w → DS d (upd g (n + t) (nI m)) n (L.set t (w, m)) := by
  induction L with
  | nil => intro n t w m _ h; exact absurd h (Nat.not_lt_zero _)
  | cons x L ih =>
    intro n t w m h q e
    obtain ⟨w0, a⟩ := x
    cases t with
    | zero => exact ⟨e, upd_at _ _ _, DS_eq L _ h.2.2 (fun i h1 h2 => ⟨rfl, upd_ne _ _ (by omega)⟩)⟩
    | succ t =>
      refine ⟨h.1, (upd_ne _ _ (by omega)).trans h.2.1, ?_⟩
      have := ih (n + 1) t w m h.2.2 (by rw [List.length_cons] at q; omega) (by rw [show n + 1 + t = n + (t + 1) by omega]; exact e)
      rw [show n + (t + 1) = n + 1 + t by omega]
      exact this
theorem DS_opt {d g : Nat → Int32} {t m : Nat} {L : List (Nat × Nat)} (h : DS d g 0 L) (ht : t < L.length) : DS d (upd g t (nI m)) 0 (opt L t m) := by
  have e := (DS_at L 0 t h ht).1
  have := DS_set L 0 t _ m h ht e
  rw [Nat.zero_add] at this
  exact this
theorem opt_len (D : List (Nat × Nat)) (t n : Nat) : (opt D t n).length = D.length := List.length_set
def KO2 (c : Int32) (k : Nat) : Prop := k = 0 ∨ k = okd c.toNatClampNeg
theorem top_k2 {c : Int32} {k : Nat} (hk : KO c k) (h40 : c ≠ nI 40) (h8 : wcc c ≠ 8) (hok : c = nI 40 ∨ c = nI 117 ∨ kc c = 1 ∨ kc c = 2 ∨ kc c = 3) (h2 : KO2 c k) : wkk c = k ∧ rb (wkk c) = (if 3 < k then 2 else 1) ∧ wkk c ≠ 9 := by
  obtain ⟨a1, a2, -, -⟩ := top_k hk h40 h8 hok
  have h117 : c ≠ nI 117 := fun q => h8 (by rw [q]; decide)
  have e : wkk c = k := by
    rw [wkk_o h40 h117]
    unfold KO2 at h2
    omega
  refine ⟨e, ?_, by omega⟩
  rw [e]
  unfold rb
  by_cases q : 3 < k
  · rw [if_pos q, if_pos (by omega)]
  · rw [if_neg q, if_neg (by omega)]
theorem ryl_go {b : Nat} {h : Nat → Int32} {n m : Nat} (hn : 0 < n) (h9 : wkk (h (n - 1)) ≠ 9) (e : rb (wkk (h (n - 1))) = m) (hb : b ≤ m) : ty_rel b (wlk h n) = ty_rel b (wlk h (n - 1)) ∧ oy_rel b (wlk h n) = (wkk (h (n - 1)), 0) :: oy_rel b (wlk h (n - 1)) := by
  rw [wlk_s h hn]
  exact rel_top b _ _ h9 (by rw [e]; exact hb)
theorem ryl_st {b : Nat} {h : Nat → Int32} {n m : Nat} (hn : 0 < n) (e : rb (wkk (h (n - 1))) = m) (hb : m < b) : ty_rel b (wlk h n) = wlk h n ∧ oy_rel b (wlk h n) = [] := by
  rw [wlk_s h hn]
  exact ⟨if_neg (fun q => by have := q.2; rw [e] at this; omega), if_neg (fun q => by have := q.2; rw [e] at this; omega)⟩
theorem ryl_40 {b : Nat} {h : Nat → Int32} {n : Nat} (hn : 0 < n) (e : h (n - 1) = nI 40) : ty_rel b (wlk h n) = wlk h n ∧ oy_rel b (wlk h n) = [] := by
  rw [wlk_s h hn]
  have : wkk (h (n - 1)) = 9 := by rw [e]; decide
  exact ⟨if_neg (fun q => q.1 this), if_neg (fun q => q.1 this)⟩
theorem vcm {h : Nat → Int32} {n i : Nat} (hi : i < n) : vc h n i = (nxm h n i).toNatClampNeg := by unfold vc nxm nx; rw [if_pos hi, if_pos hi]
/-- what is open: signs and places -/
def klx (k b : Nat → Int32) : Nat → List (Nat × Nat)
  | 0 => []
  | n + 1 => (kc (k n), (b n).toNatClampNeg) :: klx k b n
theorem klx_eq {k b k1 b1 : Nat → Int32} {n : Nat} (e : ∀ i, i < n → k1 i = k i ∧ b1 i = b i) : klx k1 b1 n = klx k b n := by
  induction n with
  | zero => rfl
  | succ n ih => unfold klx; rw [ih (fun i hi => e i (by omega)), (e n (by omega)).1, (e n (by omega)).2]
theorem klx_s (k b : Nat → Int32) {n : Nat} (hn : 0 < n) : klx k b n = (kc (k (n - 1)), (b (n - 1)).toNatClampNeg) :: klx k b (n - 1) := by
  obtain ⟨m, rfl⟩ : ∃ m, n = m + 1 := ⟨n - 1, by omega⟩
  rfl
theorem klx_upd (k b : Nat → Int32) (n : Nat) (x y : Int32) : klx (upd k n x) (upd b n y) (n + 1) = (kc x, y.toNatClampNeg) :: klx k b n := by
  show (kc (upd k n x n), (upd b n y n).toNatClampNeg) :: klx (upd k n x) (upd b n y) n = _
  rw [upd_at, upd_at, klx_eq (fun i hi => ⟨upd_ne _ _ (by omega), upd_ne _ _ (by omega)⟩)]

