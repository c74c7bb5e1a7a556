/-! ===== the class's intervals against the pure ones ===== -/
theorem bI_0 {b : Bool} (h : bI b = nI 0) : b = false := by
  cases b with
  | false => rfl
  | true => exact absurd h (by decide)
theorem bI_1 {b : Bool} (h : ¬ bI b = nI 0) : b = true := by
  cases b with
  | false => exact absurd rfl h
  | true => rfl
theorem bI_or (a b : Bool) : bI a ||| bI b = bI (a || b) := by cases a <;> cases b <;> decide
theorem bI_bo (b : Bool) : bI b = nI 0 ∨ bI b = nI 1 := by cases b <;> decide
def ISt (g : Lay) (f : Nat → va_E) (P n : Nat) : List Nat → List IVL → Prop
  | [], S => S = []
  | j :: st, S => ∃ X S', S = X :: S' ∧ j < n ∧ f (g.lk (g.lk (g.lk P 2) j) 3) = .inr (2, [.long (cL X.1), .long (cH X.2)]) ∧ iK X ∧ ISt g f P n st S'
def EV (g : Lay) (f : Nat → va_E) (P : Nat) (en : Nat → IVL) : Prop := enK en ∧ ∀ v, v < 10 → f (g.lk (g.lk P 4) v) = .inr (2, [.long (cL (en v).1), .long (cH (en v).2)])
section rep3
variable {g : Lay} {f f1 : Nat → va_E} {P : Nat} {nb : Nat → Nat}
theorem ni_tn (hL : LO g) (hP : g.tg P = 7) {j : Nat} (hj : j < 72) : g.tn (g.lk (g.lk (g.lk P 2) j) 3) = j := (lo_n6i hL _ (lo_e25 hL _ (lo_k7_2 hL P hP) j hj)).trans (lo_n25 hL _ (lo_k7_2 hL P hP) j hj)
theorem ni_ne (hL : LO g) (hP : g.tg P = 7) {i j : Nat} (hi : i < 72) (hj : j < 72) (h : i ≠ j) : g.lk (g.lk (g.lk P 2) i) 3 ≠ g.lk (g.lk (g.lk P 2) j) 3 := fun q => h (by rw [← ni_tn hL hP hi, q, ni_tn hL hP hj])
theorem ni_vn (hL : LO g) (hP : g.tg P = 7) {Q : Nat} (hQ : g.tg Q = 7) {v j : Nat} (hv : v < 10) (hj : j < 72) : g.lk (g.lk Q 4) v ≠ g.lk (g.lk (g.lk P 2) j) 3 := fun q => by
  have h1 := lo_n26 hL _ (lo_k7_4 hL Q hQ) v hv
  rw [q, ni_tn hL hP hj] at h1
  omega
theorem ni_in (hL : LO g) (hP : g.tg P = 7) {Q : Nat} (hQ : g.tg Q = 7) {j : Nat} (hj : j < 72) : g.lk Q 5 ≠ g.lk (g.lk (g.lk P 2) j) 3 := fun q => by
  have h1 := lo_n7i hL Q hQ
  rw [q, ni_tn hL hP hj] at h1
  omega
theorem vn_in (hL : LO g) (hP : g.tg P = 7) {Q : Nat} (hQ : g.tg Q = 7) {v : Nat} (hv : v < 10) : g.lk Q 5 ≠ g.lk (g.lk P 4) v := fun q => by
  have h1 := lo_n7i hL Q hQ
  rw [q, lo_n26 hL _ (lo_k7_4 hL P hP) v hv] at h1
  omega
theorem vn_ne (hL : LO g) (hP : g.tg P = 7) {v u : Nat} (hv : v < 10) (hu : u < 10) (h : v ≠ u) : g.lk (g.lk P 4) v ≠ g.lk (g.lk P 4) u := fun q => by
  have h1 := lo_n26 hL _ (lo_k7_4 hL P hP) v hv
  rw [q, lo_n26 hL _ (lo_k7_4 hL P hP) u hu] at h1
  omega
theorem ISt_k (hL : LO g) (hP : g.tg P = 7) {n : Nat} (hn : n < 72) (hk : ∀ b, b ≠ g.lk (g.lk (g.lk P 2) n) 3 → f1 b = f b) : ∀ (st : List Nat) (S : List IVL), ISt g f P n st S → ISt g f1 P (n + 1) st S := by
  intro st
  induction st with
  | nil => intro S h; exact h
  | cons j st ih =>
    intro S h
    obtain ⟨X, S', e, h1, h2, h3, h4⟩ := h
    exact ⟨X, S', e, by omega, (hk _ (ni_ne hL hP (by omega) hn (by omega))).trans h2, h3, ih S' h4⟩
theorem EV_fr (hL : LO g) (hP : g.tg P = 7) {en : Nat → IVL} (h : EV g f P en) (hk : ∀ v, v < 10 → f1 (g.lk (g.lk P 4) v) = f (g.lk (g.lk P 4) v)) : EV g f1 P en := ⟨h.1, fun v hv => (hk v hv).trans (h.2 v hv)⟩
theorem EV_u (hL : LO g) (hP : g.tg P = 7) {en : Nat → IVL} {a : Nat} {x : IVL} (ha : a < 10) (h : EV g f P en) (hx : iK x) (hk : ∀ b, b ≠ g.lk (g.lk P 4) a → f1 b = f b) (e : f1 (g.lk (g.lk P 4) a) = .inr (2, [.long (cL x.1), .long (cH x.2)])) : EV g f1 P (enu en a x) := ⟨enK_u h.1 hx, fun v hv => by
  by_cases q : v = a
  · subst q
    rw [show enu en v x v = x from if_pos rfl]
    exact e
  · rw [show enu en a x v = en v from if_neg q]
    exact (hk _ (vn_ne hL hP hv ha q)).trans (h.2 v hv)⟩
theorem NR_8 (E : List (Nat × Nat)) : ∀ (st : List Nat) (n : Nat), NR g f P st n E → ∀ x, x ∈ E → x.1 < 8 := by
  induction E with
  | nil => intro st n _ x q; cases q
  | cons y E ih =>
    intro st n h x q
    obtain ⟨w, a⟩ := y
    rcases List.mem_cons.mp q with rfl | q
    · obtain ⟨-, -, -, -, -, z, -⟩ := h.1; exact z
    · exact ih _ _ h.2 x q
theorem pst_hd (E : List (Nat × Nat)) : ∀ (st : List Nat) (n : Nat), 0 < E.length → ∃ r, pst st n E = (n + E.length - 1) :: r := by
  induction E with
  | nil => intro st n h; exact absurd h (by decide)
  | cons x E ih =>
    intro st n _
    obtain ⟨w, a⟩ := x
    cases E with
    | nil =>
      show ∃ r, stp st n w = _
      unfold stp
      by_cases h2 : w < 2
      · exact ⟨st, by rw [if_pos h2]; rfl⟩
      · by_cases h7 : w = 7
        · exact ⟨st.tail, by rw [if_neg h2, if_pos h7]; rfl⟩
        · exact ⟨st.tail.tail, by rw [if_neg h2, if_neg h7]; rfl⟩
    | cons y E =>
      obtain ⟨r, e⟩ := ih (stp st n w) (n + 1) (by simp)
      refine ⟨r, ?_⟩
      show pst (stp st n w) (n + 1) (y :: E) = _
      rw [e]
      simp only [List.length_cons]
      rw [show n + 1 + (E.length + 1) - 1 = n + (E.length + 1 + 1) - 1 by omega]
/-- the next STATEMENT of what was put down -/
theorem PRS_step (L : List (Nat × Nat)) : ∀ (s n b : Nat) (st : List Nat) (s1 n1 b1 : Nat) (st1 : List Nat), ren s n b st L = (s1, n1, b1, st1) → PRS g f P nb s n b st L → s < s1 → ∃ E w a L', L = E ++ (w, a) :: L' ∧ NR g f P st n E ∧ 8 ≤ w ∧ STM g f P nb s w a b (n + E.length) ∧ PRS g f P nb (s + 1) (n + E.length) (n + E.length) [] L' ∧ ren (s + 1) (n + E.length) (n + E.length) [] L' = (s1, n1, b1, st1) := by
  induction L with
  | nil => intro s n b st s1 n1 b1 st1 h _ q; cases h; exact absurd q (Nat.lt_irrefl _)
  | cons x L ih =>
    intro s n b st s1 n1 b1 st1 h p q
    obtain ⟨w, a⟩ := x
    unfold PRS at p
    by_cases hw : w < 8
    · rw [if_pos hw] at p
      have h' : ren s (n + 1) b (stp st n w) L = (s1, n1, b1, st1) := (if_pos hw).symm.trans h
      obtain ⟨E, w', a', L', e1, e2, e3, e4, e5, e6⟩ := ih _ _ _ _ _ _ _ _ h' p.2 q
      refine ⟨(w, a) :: E, w', a', L', by rw [e1]; rfl, ⟨p.1, e2⟩, e3, ?_⟩
      rw [List.length_cons, show n + (E.length + 1) = n + 1 + E.length by omega]
      exact ⟨e4, e5, e6⟩
    · rw [if_neg hw] at p
      have h' : ren (s + 1) n n [] L = (s1, n1, b1, st1) := (if_neg hw).symm.trans h
      exact ⟨[], w, a, L, rfl, trivial, by omega, p.1, p.2, h'⟩
theorem ren_le (L : List (Nat × Nat)) : ∀ (s n b : Nat) (st : List Nat) (s1 n1 b1 : Nat) (st1 : List Nat), ren s n b st L = (s1, n1, b1, st1) → s ≤ s1 ∧ n ≤ n1 ∧ (s1 = s → b1 = b ∧ n1 = n + L.length) := by
  induction L with
  | nil => intro s n b st s1 n1 b1 st1 h; cases h; exact ⟨Nat.le_refl _, Nat.le_refl _, fun _ => ⟨rfl, rfl⟩⟩
  | cons x L ih =>
    intro s n b st s1 n1 b1 st1 h
    obtain ⟨w, a⟩ := x
    rw [List.length_cons]
    by_cases hw : w < 8
    · obtain ⟨e1, e2, e3⟩ := ih _ _ _ _ _ _ _ _ ((if_pos hw).symm.trans h)
      exact ⟨e1, by omega, fun z => ⟨(e3 z).1, by have := (e3 z).2; omega⟩⟩
    · obtain ⟨e1, e2, e3⟩ := ih _ _ _ _ _ _ _ _ ((if_neg hw).symm.trans h)
      exact ⟨by omega, e2, fun z => absurd z (by omega)⟩
theorem ren_end {L : List (Nat × Nat)} {s n n1 : Nat} (h : ren s n n [] L = (s, n1, n1, [])) : L = [] := by
  have := (ren_le L _ _ _ _ _ _ _ _ h).2.2 rfl
  exact List.eq_nil_of_length_eq_zero (by omega)
/-- how many nodes stand before a STATEMENT: there is such a row -/
def nbm : Nat → Nat → Nat → List (Nat × Nat) → Nat → Nat
  | _, _, b, [] => fun _ => b
  | s, n, b, (w, _) :: L => if w < 8 then nbm s (n + 1) b L else fun j => if j ≤ s then b else nbm (s + 1) n n L j
theorem NBA_cg (L : List (Nat × Nat)) : ∀ (s n b : Nat) (nb nb2 : Nat → Nat), (∀ j, s ≤ j → nb2 j = nb j) → NBA nb s n b L → NBA nb2 s n b L := by
  induction L with
  | nil => intro s n b nb nb2 e h; exact (e s (Nat.le_refl _)).trans h
  | cons x L ih =>
    intro s n b nb nb2 e h
    obtain ⟨w, a⟩ := x
    refine ⟨(e s (Nat.le_refl _)).trans h.1, ?_⟩
    have h2 := h.2
    by_cases hw : w < 8
    · rw [if_pos hw] at h2 ⊢
      exact ih _ _ _ nb nb2 e h2
    · rw [if_neg hw] at h2 ⊢
      exact ih _ _ _ nb nb2 (fun j hj => e j (by omega)) h2
theorem NBA_ex (L : List (Nat × Nat)) : ∀ (s n b : Nat), NBA (nbm s n b L) s n b L := by
  induction L with
  | nil => intro s n b; rfl
  | cons x L ih =>
    intro s n b
    obtain ⟨w, a⟩ := x
    by_cases hw : w < 8
    · have e : nbm s n b ((w, a) :: L) = nbm s (n + 1) b L := if_pos hw
      rw [e]
      refine ⟨NBA_0 (ih s (n + 1) b), ?_⟩
      rw [if_pos hw]
      exact ih _ _ _
    · have e : nbm s n b ((w, a) :: L) = fun j => if j ≤ s then b else nbm (s + 1) n n L j := if_neg hw
      rw [e]
      refine ⟨if_pos (Nat.le_refl _), ?_⟩
      rw [if_neg hw]
      exact NBA_cg L _ _ _ (nbm (s + 1) n n L) _ (fun j hj => if_neg (by omega)) (ih _ _ _)
theorem PRS_10 {sn : Nat} (hS : SG g f P 0 sn) (L : List (Nat × Nat)) : ∀ (s n b : Nat) (st : List Nat) (s1 n1 b1 : Nat) (st1 : List Nat), (∀ x, x ∈ L → x.1 = 8 ∨ x.1 = 9 → x.2 < 2147483648) → ren s n b st L = (s1, n1, b1, st1) → s1 ≤ sn → PRS g f P nb s n b st L → ∀ x, x ∈ L → x.1 = 8 ∨ x.1 = 9 → x.2 < 10 := by
  induction L with
  | nil => intro s n b st s1 n1 b1 st1 _ _ _ _ x q; cases q
  | cons y L ih =>
    intro s n b st s1 n1 b1 st1 hb h hs p x q hx
    obtain ⟨w, a⟩ := y
    unfold PRS at p
    by_cases hw : w < 8
    · rw [if_pos hw] at p
      rcases List.mem_cons.mp q with rfl | q
      · exact absurd hw (by show ¬ w < 8; rcases hx with z | z <;> (have : w = _ := z; omega))
      · exact ih _ _ _ _ _ _ _ _ (fun x q => hb x (List.mem_cons_of_mem _ q)) ((if_pos hw).symm.trans h) hs p.2 x q hx
    · rw [if_neg hw] at p
      have h' : ren (s + 1) n n [] L = (s1, n1, b1, st1) := (if_neg hw).symm.trans h
      rcases List.mem_cons.mp q with rfl | q
      · have hlt := (ren_le L _ _ _ _ _ _ _ _ h').1
        obtain ⟨kd, nm, fn, la, ta, e, z8, z9, -⟩ := p.1
        obtain ⟨kd2, nm2, fn2, la2, ta2, e2, -, y2, -⟩ := hS s (Nat.zero_le _) (by omega)
        rw [e] at e2
        injection e2 with e2
        injection e2 with _ e2
        injection e2 with _ e2
        injection e2 with e2 _
        injection e2 with e2
        have hna : nm = a := by
          rcases hx with z | z
          · exact (z8 z).2
          · exact (z9 z).2
        show a < 10
        rw [← hna]
        have hb2 : a < 2147483648 := hb (w, a) (List.mem_cons_self) hx
        have := (nI_eq (a := nm) (b := nm2) (by omega) (by omega)).mp e2
        omega
      · exact ih _ _ _ _ _ _ _ _ (fun x q => hb x (List.mem_cons_of_mem _ q)) h' hs p.2 x q hx
end rep3
theorem ox_e_m (k v : Nat → Nat) : ∀ f t d i x, x ∈ ox_e k v f t d i → x.1 ≤ 7 := by
  intro f
  induction f with
  | zero => intro t d i x h; cases h
  | succ f ih =>
    intro t d i x h
    have ok := fun c => (okd_2 c).2
    match t with
    | 0 =>
      rw [ox_e0] at h
      by_cases h2 : k i = 2
      · rw [if_pos h2] at h
        rcases List.mem_append.mp h with q | q
        · exact ih _ _ _ _ q
        · cases List.mem_singleton.mp q; decide
      rw [if_neg h2] at h
      by_cases h4 : k i = 4
      · rw [if_pos h4] at h; exact ih _ _ _ _ h
      rw [if_neg h4] at h
      by_cases h6 : k i = 6
      · rw [if_pos h6] at h; cases List.mem_singleton.mp h; exact (by decide : 1 ≤ 7)
      · rw [if_neg h6] at h; cases List.mem_singleton.mp h; exact (by decide : 0 ≤ 7)
    | 1 => rw [ox_e1] at h; exact (List.mem_append.mp h).elim (ih _ _ _ _) (ih _ _ _ _)
    | 2 => rw [ox_e2] at h; exact (List.mem_append.mp h).elim (ih _ _ _ _) (ih _ _ _ _)
    | 3 =>
      rw [ox_e3] at h
      by_cases h2 : k i = 1 ∨ k i = 2
      · rw [if_pos h2] at h
        rcases List.mem_append.mp h with q | q
        · exact ih _ _ _ _ q
        · rcases List.mem_cons.mp q with rfl | q
          · have := ok (v i); show okd (v i) ≤ 7; omega
          · exact ih _ _ _ _ q
      · rw [if_neg h2] at h; cases h
    | 4 =>
      rw [ox_e4] at h
      by_cases h2 : k i = 3
      · rw [if_pos h2] at h
        rcases List.mem_append.mp h with q | q
        · exact ih _ _ _ _ q
        · rcases List.mem_cons.mp q with rfl | q
          · have := ok (v i); show okd (v i) ≤ 7; omega
          · exact ih _ _ _ _ q
      · rw [if_neg h2] at h; cases h
    | t + 5 => cases h
def om (v : Nat → Nat) (x : Nat × Nat) : Prop := x.1 ≤ 12 ∧ (x.1 = 8 ∨ x.1 = 9 → ∃ j, x.2 = v j - 97)
theorem om_e {k v : Nat → Nat} {f t d i : Nat} {x : Nat × Nat} (h : x ∈ ox_e k v f t d i) : om v x := by
  have := ox_e_m k v f t d i x h
  exact ⟨by omega, fun z => by omega⟩
theorem om_w {v : Nat → Nat} {w a : Nat} (h : 10 ≤ w) (h2 : w ≤ 12) : om v (w, a) := ⟨h2, fun z => by rcases z with z | z <;> (have : w = _ := z; omega)⟩
theorem ox_s_m (k v : Nat → Nat) : ∀ f t d i p x, x ∈ ox_s k v f t d i p → om v x := by
  intro f
  induction f with
  | zero => intro t d i p x h; cases h
  | succ f ih =>
    intro t d i p x h
    match t with
    | 0 =>
      rw [ox_s0] at h
      by_cases h8 : k i = 8
      · rw [if_pos h8] at h; cases List.mem_singleton.mp h; exact ⟨(by decide : 9 ≤ 12), fun _ => ⟨i + 1, rfl⟩⟩
      rw [if_neg h8] at h
      by_cases h9 : k i = 9
      · rw [if_pos h9] at h
        rcases List.mem_append.mp h with q | q
        · exact om_e q
        · cases List.mem_singleton.mp q; exact om_w (by decide) (by decide)
      rw [if_neg h9] at h
      by_cases h10 : k i = 10
      · rw [if_pos h10] at h
        unfold oxl at h
        rcases List.mem_append.mp h with q | q
        · exact om_e q
        · rcases List.mem_cons.mp q with rfl | q
          · exact om_w (by decide) (by decide)
          · rcases List.mem_append.mp q with q | q
            · exact ih _ _ _ _ _ q
            · cases List.mem_singleton.mp q; exact om_w (by decide) (by decide)
      rw [if_neg h10] at h
      by_cases h12 : k i = 12
      · rw [if_pos h12] at h
        unfold oxc at h
        rcases List.mem_append.mp h with q | q
        · exact om_e q
        · rcases List.mem_cons.mp q with rfl | q
          · exact om_w (by decide) (by decide)
          · rcases List.mem_append.mp q with q | q
            · exact ih _ _ _ _ _ q
            · rcases List.mem_cons.mp q with rfl | q
              · exact om_w (by decide) (by decide)
              · exact ih _ _ _ _ _ q
      rw [if_neg h12] at h
      rcases List.mem_append.mp h with q | q
      · exact om_e q
      · cases List.mem_singleton.mp q; exact ⟨(by decide : 8 ≤ 12), fun _ => ⟨i, rfl⟩⟩
    | 1 =>
      rw [ox_s1] at h
      rcases List.mem_append.mp h with q | q
      · exact ih _ _ _ _ _ q
      · by_cases h16 : k ((px_s k f 0 d i).getD 0) = 16
        · rw [if_pos h16] at q; exact ih _ _ _ _ _ q
        · rw [if_neg h16] at q; cases q
    | t + 2 => cases h
theorem vc_lt (h : Nat → Int32) (n i : Nat) : vc h n i < 2147483648 := by
  unfold vc
  have := (nx h n i).toInt_lt
  rw [show (nx h n i).toNatClampNeg = (nx h n i).toInt.toNat from rfl]
  omega
theorem ox_s_b {h : Nat → Int32} {n : Nat} {k : Nat → Nat} {f t d i p : Nat} : (∀ x, x ∈ ox_s k (vc h n) f t d i p → x.1 ≤ 12) ∧ ∀ x, x ∈ ox_s k (vc h n) f t d i p → x.1 = 8 ∨ x.1 = 9 → x.2 < 2147483648 := by
  refine ⟨fun x q => (ox_s_m k _ _ _ _ _ _ x q).1, fun x q z => ?_⟩
  obtain ⟨j, e⟩ := (ox_s_m k _ _ _ _ _ _ x q).2 z
  have := vc_lt h n j
  omega

