theorem tb_args {w : Cond} (hw : tb_rides w = true) {s : State} {args : Array Value} (h : w.before args s = true) : w.before #[] s = true := by
  cases w with
  | fieldLinkNest a i b n d q => exact va_Nw.of rfl h
  | methodLinkNest a i x q => exact va_Nw.of rfl h
  | castable a b => exact va_Nw.of rfl h
  | declares x => exact va_Nw.of rfl h
  | arrayClass ty => exact word_at (State.WarmedH.refl s) (Or.inr ⟨ty, rfl⟩) h
  | stringRef a i t => exact h
  | arrayOver ty =>
    cases ty with
    | object n => exact va_AO.of h
    | _ => exact word_at (State.WarmedH.refl s) (Or.inl hw) h
  | _ => exact word_at (State.WarmedH.refl s) (Or.inl hw) h
theorem lk_K {s : State} (hB : TB s) : ∃ (dC : Nat → ClassId) (dI : Nat → Nat → Nat), va_K (dC, dI) vcl [] s := by
  obtain ⟨c0, i0, h0⟩ := u_known (hw0 hB #[]) (fun _ h => h) (wd_96 hB #[])
  obtain ⟨c1, i1, h1⟩ := u_known (hw1 hB #[]) (fun _ h => h) (wd_293 hB #[])
  obtain ⟨c2, i2, h2⟩ := u_known (hw2 hB #[]) (fun _ h => h) (wd_121 hB #[])
  obtain ⟨c3, i3, h3⟩ := u_known (hw3 hB #[]) (fun _ h => h) (wd_314 hB #[])
  obtain ⟨c4, i4, h4⟩ := u_known (hw4 hB #[]) (fun _ h => h) (wd_181 hB #[])
  obtain ⟨c5, i5, h5⟩ := u_known (hw5 hB #[]) (fun _ h => h) (wd_173 hB #[])
  obtain ⟨c6, i6, h6⟩ := u_known (hw6 hB #[]) (fun _ h => h) (wd_110 hB #[])
  obtain ⟨c7, i7, h7⟩ := u_known (hw7 hB #[]) (fun _ h => h) (wd_104 hB #[])
  obtain ⟨c8, i8, h8⟩ := u_known (hw8 hB #[]) (fun _ h => h) (wd_285 hB #[])
  obtain ⟨c9, i9, h9⟩ := u_known (hw9 hB #[]) (fun _ h => h) (wd_138 hB #[])
  obtain ⟨c10, i10, h10⟩ := u_known (hw10 hB #[]) (fun _ h => h) (wd_942 hB #[])
  refine ⟨fun k => [c0, c1, c2, c3, c4, c5, c6, c7, c8, c9, c10].getD k 0, fun k => [i0, i1, i2, i3, i4, i5, i6, i7, i8, i9, i10].getD k (fun _ => 0), ?_, fun k q h => by simp at h⟩
  intro c q hq
  match c, hq with
  | 0, hq => cases hq; exact h0
  | 1, hq => cases hq; exact h1
  | 2, hq => cases hq; exact h2
  | 3, hq => cases hq; exact h3
  | 4, hq => cases hq; exact h4
  | 5, hq => cases hq; exact h5
  | 6, hq => cases hq; exact h6
  | 7, hq => cases hq; exact h7
  | 8, hq => cases hq; exact h8
  | 9, hq => cases hq; exact h9
  | 10, hq => cases hq; exact h10
  | k + 11, hq => simp at hq
theorem lo0 {g : Lay} (h : ∀ a, g.tg a = 0) : LO g := ⟨fun a ha => absurd (h a) ha,
  fun a ha => absurd ((h a).symm.trans ha) (by decide),
  fun a ha => absurd ((h a).symm.trans ha) (by decide),
  fun a ha => absurd ((h a).symm.trans ha) (by decide),
  fun a ha => absurd ((h a).symm.trans ha) (by decide),
  fun a ha => absurd ((h a).symm.trans ha) (by decide),
  fun a ha => absurd ((h a).symm.trans ha) (by decide),
  fun a ha => absurd ((h a).symm.trans ha) (by decide),
  fun a ha => absurd ((h a).symm.trans ha) (by decide),
  fun a ha => absurd ((h a).symm.trans ha) (by decide),
  fun a ha => absurd ((h a).symm.trans ha) (by decide),
  fun a ha => absurd ((h a).symm.trans ha) (by decide),
  fun a ha => absurd ((h a).symm.trans ha) (by decide),
  fun a ha => absurd ((h a).symm.trans ha) (by decide),
  fun a ha => absurd ((h a).symm.trans ha) (by decide),
  fun a ha => absurd ((h a).symm.trans ha) (by decide),
  fun a ha => absurd ((h a).symm.trans ha) (by decide),
  fun a ha => absurd ((h a).symm.trans ha) (by decide),
  fun a ha => absurd ((h a).symm.trans ha) (by decide),
  fun a ha => absurd ((h a).symm.trans ha) (by decide),
  fun a ha => absurd ((h a).symm.trans ha) (by decide),
  fun a ha => absurd ((h a).symm.trans ha) (by decide),
  fun a ha => absurd ((h a).symm.trans ha) (by decide),
  fun a ha => absurd ((h a).symm.trans ha) (by decide),
  fun a ha => absurd ((h a).symm.trans ha) (by decide),
  fun a ha => absurd ((h a).symm.trans ha) (by decide),
  fun a ha => absurd ((h a).symm.trans ha) (by decide),
  fun a ha => absurd ((h a).symm.trans ha) (by decide),
  fun a ha => absurd ((h a).symm.trans ha) (by decide),
  fun a ha => absurd ((h a).symm.trans ha) (by decide),
  fun a ha => absurd ((h a).symm.trans ha) (by decide),
  fun a ha => absurd ((h a).symm.trans ha) (by decide),
  fun a ha => absurd ((h a).symm.trans ha) (by decide),
  fun a ha => absurd ((h a).symm.trans ha) (by decide),
  fun a ha => absurd ((h a).symm.trans ha) (by decide),
  fun a ha => absurd ((h a).symm.trans ha) (by decide),
  fun a ha => absurd ((h a).symm.trans ha) (by decide),
  fun a ha => absurd ((h a).symm.trans ha) (by decide),
  fun a ha => absurd ((h a).symm.trans ha) (by decide),
  fun a ha => absurd ((h a).symm.trans ha) (by decide),
  fun a ha => absurd ((h a).symm.trans ha) (by decide),
  fun a ha => absurd ((h a).symm.trans ha) (by decide),
  fun a ha => absurd ((h a).symm.trans ha) (by decide),
  fun a ha => absurd ((h a).symm.trans ha) (by decide),
  fun a ha => absurd ((h a).symm.trans ha) (by decide),
  fun a ha => absurd ((h a).symm.trans ha) (by decide),
  fun a ha => absurd ((h a).symm.trans ha) (by decide),
  fun a ha => absurd ((h a).symm.trans ha) (by decide),
  fun a ha => absurd ((h a).symm.trans ha) (by decide),
  fun a ha => absurd ((h a).symm.trans ha) (by decide),
  fun a ha => absurd ((h a).symm.trans ha) (by decide),
  fun a ha => absurd ((h a).symm.trans ha) (by decide),
  fun a ha => absurd ((h a).symm.trans ha) (by decide),
  fun a ha => absurd ((h a).symm.trans ha) (by decide),
  fun a ha => absurd ((h a).symm.trans ha) (by decide),
  fun a ha => absurd ((h a).symm.trans ha) (by decide),
  fun a ha => absurd ((h a).symm.trans ha) (by decide),
  fun a ha => absurd ((h a).symm.trans ha) (by decide),
  fun a ha => absurd ((h a).symm.trans ha) (by decide),
  fun a ha => absurd ((h a).symm.trans ha) (by decide),
  fun a ha => absurd ((h a).symm.trans ha) (by decide),
  fun a ha => absurd ((h a).symm.trans ha) (by decide),
  fun a ha => absurd ((h a).symm.trans ha) (by decide),
  fun a ha => absurd ((h a).symm.trans ha) (by decide),
  fun a ha => absurd ((h a).symm.trans ha) (by decide),
  fun a ha => absurd ((h a).symm.trans ha) (by decide),
  fun a ha => absurd ((h a).symm.trans ha) (by decide),
  fun a ha => absurd ((h a).symm.trans ha) (by decide),
  fun a ha => absurd ((h a).symm.trans ha) (by decide),
  fun a ha => absurd ((h a).symm.trans ha) (by decide),
  fun a ha => absurd ((h a).symm.trans ha) (by decide),
  fun a ha => absurd ((h a).symm.trans ha) (by decide),
  fun a ha => absurd ((h a).symm.trans ha) (by decide),
  fun a ha => absurd ((h a).symm.trans ha) (by decide),
  fun a ha => absurd ((h a).symm.trans ha) (by decide),
  fun a ha => absurd ((h a).symm.trans ha) (by decide),
  fun a ha => absurd ((h a).symm.trans ha) (by decide),
  fun a ha => absurd ((h a).symm.trans ha) (by decide),
  fun a ha => absurd ((h a).symm.trans ha) (by decide),
  fun a ha => absurd ((h a).symm.trans ha) (by decide),
  fun a ha => absurd ((h a).symm.trans ha) (by decide),
  fun a ha => absurd ((h a).symm.trans ha) (by decide),
  fun a ha => absurd ((h a).symm.trans ha) (by decide),
  fun a ha => absurd ((h a).symm.trans ha) (by decide),
  fun a ha => absurd ((h a).symm.trans ha) (by decide),
  fun a ha => absurd ((h a).symm.trans ha) (by decide),
  fun a ha => absurd ((h a).symm.trans ha) (by decide),
  fun a ha => absurd ((h a).symm.trans ha) (by decide),
  fun a ha => absurd ((h a).symm.trans ha) (by decide),
  fun a b ha => absurd ((h a).symm.trans ha) (by decide),
  fun a b ha => absurd ((h a).symm.trans ha) (by decide),
  fun a b i j ha => absurd ((h a).symm.trans ha) (by decide),
  fun a ha => absurd ((h a).symm.trans ha) (by decide),
  fun a ha => absurd ((h a).symm.trans ha) (by decide),
  fun a ha => absurd ((h a).symm.trans ha) (by decide),
  fun a ha => absurd ((h a).symm.trans ha) (by decide),
  fun a ha => absurd ((h a).symm.trans ha) (by decide),
  fun a ha => absurd ((h a).symm.trans ha) (by decide),
  fun a ha => absurd ((h a).symm.trans ha) (by decide),
  fun a ha => absurd ((h a).symm.trans ha) (by decide),
  fun a ha => absurd ((h a).symm.trans ha) (by decide),
  fun a b ha => absurd ((h a).symm.trans ha) (by decide),
  fun a b i j ha => absurd ((h a).symm.trans ha) (by decide)⟩
theorem iv0 {g : Lay} (h : ∀ a, g.tg a = 0) (f : Nat → va_E) : IV g f := ⟨fun a => by unfold oc; rw [h a]; trivial, fun x hx => absurd ((h x).symm.trans hx) (by decide)⟩
theorem lay0 (D : va_G) : ∃ g : Lay, (∀ a, g.tg a = 0) ∧ g.LP = [] ∧ g.tys = [] ∧ g.D = D := ⟨(fun _ => 0, fun _ _ => 0, fun _ => 0, fun _ => 0, [], [], D), fun _ => rfl, rfl, rfl, rfl⟩
theorem lw_cmp {i L : Nat} (hi : i ≤ 2000) (hL : L ≤ 1536) : (Int32.ofNat L - nI 3 < nI i) ↔ L < i + 3 := by
  have h1 : (Int32.ofNat L).toInt = (L : Int) := Int32.toInt_ofNat_of_lt (by omega)
  have h2 : (nI 3).toInt = 3 := by decide
  have h3 : (nI i).toInt = (i : Int) := nI_toInt (by omega)
  rw [Int32.lt_iff_toInt_lt, Int32.toInt_sub, h1, h2, h3, Int.bmod_eq_of_le (by omega) (by omega)]
  omega

