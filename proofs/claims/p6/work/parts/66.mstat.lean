theorem upd_upd (h : Nat → Int32) (n : Nat) (x y : Int32) : upd (upd h n x) n y = upd h n y := by
  funext j
  show (if j = n then y else if j = n then x else h j) = if j = n then y else h j
  by_cases q : j = n
  · rw [if_pos q, if_pos q]
  · rw [if_neg q, if_neg q, if_neg q]
/-- an EXPR and what ends its STATEMENT, behind whole drafts -/
theorem DI_st {hD hG hB hK d g : Nat → Int32} {n n1 op w v : Nat} (h : DI hD hG hB hK n op) (e : smd n d hD) (eg : smd n g hG) (hgc : GC d g n n1) (h1 : n < n1) (hn1 : n1 < 100) (h72 : n1 ≤ n + 79) (hd1 : dpc d n1 = 1) (hw : w = 8 ∨ w = 10) (hv : v < 10) : DI (upd d n1 (nI w)) (upd g n1 (nI v)) hB hK (n1 + 1) op := by
  have E : smd n1 (upd d n1 (nI w)) d := fun i hi => upd_ne _ _ (by omega)
  have EG : smd n1 (upd g n1 (nI v)) g := fun i hi => upd_ne _ _ (by omega)
  have gc2 := GC_smd hgc E EG
  have h0 : dpc (upd d n1 (nI w)) n = 0 := (dpc_eq (fun i hi => (E i (by omega)).trans (e i hi))).trans h.2.1
  obtain ⟨w0, v0, f1, f2, f3, -⟩ := gc2 n (Nat.le_refl n) h1
  refine DI_ext h (smd_tr (smd_le E (by omega)) e) (smd_tr (smd_le EG (by omega)) eg) (by omega) (by omega) (dpc_end (upd_at _ _ _) (by omega) (by omega)) (fun z => Or.inr ?_) (fun p p1 p2 => ?_)
  · subst z; rw [f1]; exact fun q => by have := (nI_eq (by omega) (by decide)).mp q; omega
  · rcases Nat.lt_or_ge p n1 with q | q
    · obtain ⟨w, v, z, -⟩ := GC_WO (n := n1 + 1) gc2 h0 p1 q (by omega) h72
      exact ⟨w, v, z⟩
    · obtain rfl : p = n1 := by omega
      exact ⟨w, v, WO_end (upd_at _ _ _) (upd_at _ _ _) (by omega) (by omega) (by omega) (fun _ => hv) (fun z => by omega) (by rw [dpc_u (Nat.le_refl _)]; omega) (fun z => by omega)⟩
theorem DI_in {hD hG hB hK : Nat → Int32} {n op v : Nat} (h : DI hD hG hB hK n op) (hn : n < 100) (hv : v < 10) : DI (upd hD n (nI 9)) (upd hG n (nI v)) hB hK (n + 1) op := by
  refine DI_ext h (fun i hi => upd_ne _ _ (by omega)) (fun i hi => upd_ne _ _ (by omega)) (by omega) (by omega) (dpc_end (upd_at _ _ _) (by decide) (by decide)) (fun z => Or.inr ?_) (fun p p1 p2 => ?_)
  · subst z; rw [upd_at]; decide
  · obtain rfl : p = n := by omega
    exact ⟨9, v, WO_end (upd_at _ _ _) (upd_at _ _ _) (by decide) (by decide) (by omega) (fun _ => hv) (fun _ => by rw [dpc_u (Nat.le_refl _)]; exact h.2.1) (by rw [dpc_u (Nat.le_refl _), h.2.1]; omega) (fun z => by omega)⟩
