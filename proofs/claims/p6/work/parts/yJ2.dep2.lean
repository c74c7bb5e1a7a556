/-- where nothing stands behind a sign -/
theorem ox_e_z (k v : Nat → Nat) : ∀ f t d i x, x ∈ ox_e k v f t d i → 2 ≤ x.1 → x.2 = 0 := by
  intro f
  induction f with
  | zero => intro t d i x h; cases h
  | succ f ih =>
    intro t d i x h h2x
    match t with
    | 0 =>
      rw [ox_e0] at h
      by_cases h2 : k i = 2
      · rw [if_pos h2] at h
        rcases List.mem_append.mp h with q | q
        · exact ih _ _ _ _ q h2x
        · cases List.mem_singleton.mp q; rfl
      rw [if_neg h2] at h
      by_cases h4 : k i = 4
      · rw [if_pos h4] at h; exact ih _ _ _ _ h h2x
      rw [if_neg h4] at h
      by_cases h6 : k i = 6
      · rw [if_pos h6] at h; cases List.mem_singleton.mp h; exact absurd (show 2 ≤ 1 from h2x) (by decide)
      · rw [if_neg h6] at h; cases List.mem_singleton.mp h; exact absurd (show 2 ≤ 0 from h2x) (by decide)
    | 1 => rw [ox_e1] at h; exact (List.mem_append.mp h).elim (fun q => ih _ _ _ _ q h2x) (fun q => ih _ _ _ _ q h2x)
    | 2 => rw [ox_e2] at h; exact (List.mem_append.mp h).elim (fun q => ih _ _ _ _ q h2x) (fun q => ih _ _ _ _ q h2x)
    | 3 =>
      rw [ox_e3] at h
      by_cases h2 : k i = 1 ∨ k i = 2
      · rw [if_pos h2] at h
        rcases List.mem_append.mp h with q | q
        · exact ih _ _ _ _ q h2x
        · rcases List.mem_cons.mp q with rfl | q
          · rfl
          · exact ih _ _ _ _ q h2x
      · rw [if_neg h2] at h; cases h
    | 4 =>
      rw [ox_e4] at h
      by_cases h2 : k i = 3
      · rw [if_pos h2] at h
        rcases List.mem_append.mp h with q | q
        · exact ih _ _ _ _ q h2x
        · rcases List.mem_cons.mp q with rfl | q
          · rfl
          · exact ih _ _ _ _ q h2x
      · rw [if_neg h2] at h; cases h
    | t + 5 => cases h
def oz (x : Nat × Nat) : Prop := (2 ≤ x.1 ∧ x.1 < 8) ∨ x.1 = 10 → x.2 = 0
theorem oz_e {k v : Nat → Nat} {f t d i : Nat} {x : Nat × Nat} (h : x ∈ ox_e k v f t d i) : oz x := fun z => by
  have := ox_e_m k v f t d i x h
  exact ox_e_z k v f t d i x h (by omega)
theorem oz_w {w a : Nat} (h8 : 8 ≤ w) (h : w ≠ 10) : oz (w, a) := fun z => by
  have z : (2 ≤ w ∧ w < 8) ∨ w = 10 := z
  omega
theorem ox_s_z (k v : Nat → Nat) : ∀ f t d i p x, x ∈ ox_s k v f t d i p → oz x := by
  intro f
  induction f with
  | zero => intro t d i p x h; cases h
  | succ f ih =>
    intro t d i p x h
    match t with
    | 0 =>
      rw [ox_s0] at h
      by_cases h8 : k i = 8
      · rw [if_pos h8] at h; cases List.mem_singleton.mp h; exact oz_w (by decide) (by decide)
      rw [if_neg h8] at h
      by_cases h9 : k i = 9
      · rw [if_pos h9] at h
        rcases List.mem_append.mp h with q | q
        · exact oz_e q
        · cases List.mem_singleton.mp q; exact fun _ => rfl
      rw [if_neg h9] at h
      by_cases h10 : k i = 10
      · rw [if_pos h10] at h
        unfold oxl at h
        rcases List.mem_append.mp h with q | q
        · exact oz_e q
        · rcases List.mem_cons.mp q with rfl | q
          · exact oz_w (by decide) (by decide)
          · rcases List.mem_append.mp q with q | q
            · exact ih _ _ _ _ _ q
            · cases List.mem_singleton.mp q; exact oz_w (by decide) (by decide)
      rw [if_neg h10] at h
      by_cases h12 : k i = 12
      · rw [if_pos h12] at h
        unfold oxc at h
        rcases List.mem_append.mp h with q | q
        · exact oz_e q
        · rcases List.mem_cons.mp q with rfl | q
          · exact oz_w (by decide) (by decide)
          · rcases List.mem_append.mp q with q | q
            · exact ih _ _ _ _ _ q
            · rcases List.mem_cons.mp q with rfl | q
              · exact oz_w (by decide) (by decide)
              · exact ih _ _ _ _ _ q
      rw [if_neg h12] at h
      rcases List.mem_append.mp h with q | q
      · exact oz_e q
      · cases List.mem_singleton.mp q; exact oz_w (by decide) (by decide)
    | 1 =>
      rw [ox_s1] at h
      rcases List.mem_append.mp h with q | q
      · exact ih _ _ _ _ _ q
      · by_cases h16 : k ((px_s k f 0 d i).getD 0) = 16
        · rw [if_pos h16] at q; exact ih _ _ _ _ _ q
        · rw [if_neg h16] at q; cases q
    | t + 2 => cases h

