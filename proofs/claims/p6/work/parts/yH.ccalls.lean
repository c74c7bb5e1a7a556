theorem CV.un {g : Lay} {B n : Nat} {hT : Nat → Int32} {o : Option (List (Nat × Nat))} {s9 : PS} {f f1 : Nat → va_E} (hL : LO g) (t_B : g.tg B = 1) {W : List Nat} (h : CV g B f n hT o s9) (hu : un W g f f1) (hW : ∀ x ∈ [1, 2, 3, 5, 6, 7, 8, 9, 10, 20, 21, 23, 27], x ∉ W) : CV g B f1 n hT o s9 := by
  obtain ⟨ld, tx, ln0, ax0, PR, pr, ix, os, st, mo, lo, tr, sn, nn, t_PR, t_pr, eB, hn, hld, eT, cT, eR, hl0, ha0, eX, hix, hos, hst, htr, hPR, eP, hsn, hnn, hSG, hnj, hi1, hi2, hcv⟩ := h
  exact ⟨ld, tx, ln0, ax0, PR, pr, ix, os, st, mo, lo, tr, sn, nn, t_PR, t_pr, hu.at t_B (hW 1 (by decide)) eB, hn, hld, hu.at (lo_k1_0 hL _ t_B) (hW 20 (by decide)) eT, cT, hu.at (lo_k1_2 hL _ t_B) (hW 8 (by decide)) eR, hl0, ha0, hu.at (lo_k1_3 hL _ t_B) (hW 9 (by decide)) eX, hix, hos, hst, htr, hPR, hu.at t_pr (hW 7 (by decide)) eP, hsn, hnn, SG_un hSG hL t_pr hsn hu (hW 10 (by decide)), (by rcases Nat.lt_or_ge ix sn with q | q; exact Or.inr (nj_un (hnj.resolve_left (by omega)) hL t_pr (by omega) hu (hW 10 (by decide))); exact Or.inl q), hi1.un hL t_PR hu (hW 3 (by decide)), hi2.un hL t_pr hu (hW 3 (by decide)), CVS_un hL (lo_k1_3 hL _ t_B) t_pr hcv hu (fun x hx => hW x (by revert x; decide))⟩
theorem CV2.un {g : Lay} {B n : Nat} {hT : Nat → Int32} {sg : GS} {f f1 : Nat → va_E} (hL : LO g) (t_B : g.tg B = 1) {W : List Nat} (h : CV2 g B f n hT sg) (hu : un W g f f1) (hW : ∀ x ∈ [1, 2, 3, 5, 6, 7, 8, 9, 10, 20, 21, 23, 27], x ∉ W) : CV2 g B f1 n hT sg := CV.un hL t_B h hu hW
set_option maxHeartbeats 4000000 in
set_option maxRecDepth 100000 in
theorem k6_ctype (l : Launch) (g : Lay) (sz : Nat) (f : Nat → va_E) (B : Nat) (n : Nat) (hT : Nat → Int32) (sg : GS) (c9 : Int32) (hL : LO g) (t_B : g.tg B = 1) (hI : IV g f) (hJ : CV2 g B f n hT sg) : Met l ⟨"BigRunner", "type", "(C)Z"⟩ [Cond.code ⟨"BigRunner", "type", "(C)Z"⟩ prog_1_method_2_code 2 (some .boolean)] ({ frames := 0, cells := 0, slots := 0, locals := 0 }) (va_Pc [.ref B, .int c9] (pc_in g sz f)) (va_Qi (fun r f1 => ((r = nI 0 ∧ ¬ (nI 33 ≤ c9 ∧ c9 ≤ nI 126 ∧ n < 72) ∧ CV2 g B f1 n hT sg) ∨ (r = nI 1 ∧ (nI 33 ≤ c9 ∧ c9 ≤ nI 126 ∧ n < 72) ∧ CV2 g B f1 (n + 1) (upd hT n (vp_nar .char c9)) sg)) ∧ (IV g f1) ∧ (un [1, 2, 3, 4, 5, 6, 7, 8, 9, 10, 20, 21, 22, 23, 24, 25, 26, 27, 28, 29] g f f1)) (pc_out g sz) (pc_A g sz)) 0 0 (pc_A g sz) := by
  have hJ0 := hJ
  obtain ⟨ld, tx, ln0, ax0, PR, pr, ix, os, st, mo, lo, tr, sn, nn, t_PR, t_pr, eB, hn, hld, eT, cT, eR, hl0, ha0, eX, hix, hos, hst, htr, hPR, eP, hsn, hnn, hSG, hnj, hi1, hi2, hcv⟩ := hJ
  refine pm_mono (c_type l g sz f B n ld hT c9 hL t_B hI eB hn hld eT cT) ?_
  rintro a9 st9 o9 t9 ⟨⟨r, f1, q1, ⟨hq, hI1, hu⟩, q5⟩, q6⟩
  have hq9 : (r = nI 0 ∧ ¬ (nI 33 ≤ c9 ∧ c9 ≤ nI 126 ∧ n < 72) ∧ CV2 g B f1 n hT sg) ∨ (r = nI 1 ∧ (nI 33 ≤ c9 ∧ c9 ≤ nI 126 ∧ n < 72) ∧ CV2 g B f1 (n + 1) (upd hT n (vp_nar .char c9)) sg) := by
    rcases hq with ⟨z1, z2, eB1, eT1⟩ | ⟨z1, z2, eB1, eT1⟩
    · exact Or.inl ⟨z1, z2, ⟨ld, tx, ln0, ax0, PR, pr, ix, os, st, mo, lo, tr, sn, nn, t_PR, t_pr, eB1, hn, hld, eT1, cT, hu.at (lo_k1_2 hL _ t_B) (by decide) eR, hl0, ha0, hu.at (lo_k1_3 hL _ t_B) (by decide) eX, hix, hos, hst, htr, hPR, hu.at t_pr (by decide) eP, hsn, hnn, SG_un hSG hL t_pr hsn hu (by decide), (by rcases Nat.lt_or_ge ix sn with q | q; exact Or.inr (nj_un (hnj.resolve_left (by omega)) hL t_pr (by omega) hu (by decide)); exact Or.inl q), hi1.un hL t_PR hu (by decide), hi2.un hL t_pr hu (by decide), CVS_un hL (lo_k1_3 hL _ t_B) t_pr hcv hu (by decide)⟩⟩
    · have z3 := z2.2.2
      exact Or.inr ⟨z1, z2, ⟨ld, tx, ln0, ax0, PR, pr, ix, os, st, mo, lo, tr, sn, nn, t_PR, t_pr, eB1, by omega, hld, eT1, upd_nar cT, hu.at (lo_k1_2 hL _ t_B) (by decide) eR, hl0, ha0, hu.at (lo_k1_3 hL _ t_B) (by decide) eX, hix, hos, hst, htr, hPR, hu.at t_pr (by decide) eP, hsn, hnn, SG_un hSG hL t_pr hsn hu (by decide), (by rcases Nat.lt_or_ge ix sn with q | q; exact Or.inr (nj_un (hnj.resolve_left (by omega)) hL t_pr (by omega) hu (by decide)); exact Or.inl q), hi1.un hL t_PR hu (by decide), hi2.un hL t_pr hu (by decide), CVS_un hL (lo_k1_3 hL _ t_B) t_pr hcv hu (by decide)⟩⟩
  exact ⟨⟨r, f1, q1, ⟨hq9, hI1, hu.wd (by decide)⟩, q5⟩, q6⟩
set_option maxHeartbeats 4000000 in
set_option maxRecDepth 100000 in
theorem k6_cwipe (l : Launch) (g : Lay) (sz : Nat) (f : Nat → va_E) (B : Nat) (n : Nat) (hT : Nat → Int32) (sg : GS) (hL : LO g) (t_B : g.tg B = 1) (hI : IV g f) (hJ : CV2 g B f n hT sg) : Met l ⟨"BigRunner", "wipe", "()V"⟩ [Cond.code ⟨"BigRunner", "wipe", "()V"⟩ prog_1_method_3_code 1 none] ({ frames := 0, cells := 0, slots := 0, locals := 0 }) (va_Pc [.ref B] (pc_in g sz f)) (va_Qv (fun f1 => (CV2 g B f1 0 hT sg) ∧ (IV g f1) ∧ (un [1, 2, 3, 4, 5, 6, 7, 8, 9, 10, 20, 21, 22, 23, 24, 25, 26, 27, 28, 29] g f f1)) (pc_out g sz) (pc_A g sz)) 0 0 (pc_A g sz) := by
  have hJ0 := hJ
  obtain ⟨ld, tx, ln0, ax0, PR, pr, ix, os, st, mo, lo, tr, sn, nn, t_PR, t_pr, eB, hn, hld, eT, cT, eR, hl0, ha0, eX, hix, hos, hst, htr, hPR, eP, hsn, hnn, hSG, hnj, hi1, hi2, hcv⟩ := hJ
  refine pm_mono (c_wipe l g sz f B n ld hL t_B hI eB hn hld) ?_
  rintro a9 st9 o9 t9 ⟨⟨f1, q1, ⟨eB1, hI1, hu⟩, q5⟩, q6⟩
  exact ⟨⟨f1, q1, ⟨⟨ld, tx, ln0, ax0, PR, pr, ix, os, st, mo, lo, tr, sn, nn, t_PR, t_pr, eB1, by omega, hld, hu.at (lo_k1_0 hL _ t_B) (by decide) eT, cT, hu.at (lo_k1_2 hL _ t_B) (by decide) eR, hl0, ha0, hu.at (lo_k1_3 hL _ t_B) (by decide) eX, hix, hos, hst, htr, hPR, hu.at t_pr (by decide) eP, hsn, hnn, SG_un hSG hL t_pr hsn hu (by decide), (by rcases Nat.lt_or_ge ix sn with q | q; exact Or.inr (nj_un (hnj.resolve_left (by omega)) hL t_pr (by omega) hu (by decide)); exact Or.inl q), hi1.un hL t_PR hu (by decide), hi2.un hL t_pr hu (by decide), CVS_un hL (lo_k1_3 hL _ t_B) t_pr hcv hu (by decide)⟩, hI1, hu.wd (by decide)⟩, q5⟩, q6⟩
set_option maxHeartbeats 4000000 in
set_option maxRecDepth 100000 in
theorem k6_clook (l : Launch) (g : Lay) (sz : Nat) (f : Nat → va_E) (B : Nat) (n : Nat) (hT : Nat → Int32) (sg : GS) (v : Int32) (hL : LO g) (t_B : g.tg B = 1) (hI : IV g f) (hJ : CV2 g B f n hT sg) : Met l ⟨"BigRunner", "look", "(I)I"⟩ [Cond.code ⟨"BigRunner", "look", "(I)I"⟩ prog_1_method_7_code 2 (some .int)] ({ frames := 3, cells := 0, slots := 0, locals := 60 }) (va_Pc [.ref B, .int v] (pc_in g sz f)) (va_Qi (fun r f1 => (CV2 g B f1 n hT sg) ∧ (IV g f1) ∧ (un [1, 2, 3, 4, 5, 6, 7, 8, 9, 10, 20, 21, 22, 23, 24, 25, 26, 27, 28, 29] g f f1)) (pc_out g sz) (pc_A g sz)) 0 0 (pc_A g sz) := by
  have hJ0 := hJ
  obtain ⟨ld, tx, ln0, ax0, PR, pr, ix, os, st, mo, lo, tr, sn, nn, t_PR, t_pr, eB, hn, hld, eT, cT, eR, hl0, ha0, eX, hix, hos, hst, htr, hPR, eP, hsn, hnn, hSG, hnj, hi1, hi2, hcv⟩ := hJ
  refine pm_mono (c_look l g sz f B v hL t_B hI.1) ?_
  rintro a9 st9 o9 t9 ⟨⟨r, f1, q1, rfl, q5⟩, q6⟩
  exact ⟨⟨r, f, q1, ⟨hJ0, hI, un.rf⟩, q5⟩, q6⟩
set_option maxHeartbeats 4000000 in
set_option maxRecDepth 100000 in
theorem k6_cgive (l : Launch) (g : Lay) (sz : Nat) (f : Nat → va_E) (B : Nat) (n : Nat) (hT : Nat → Int32) (sg : GS) (v : Int32) (hL : LO g) (t_B : g.tg B = 1) (hI : IV g f) (hJ : CV2 g B f n hT sg) : Met l ⟨"BigRunner", "give", "(I)Z"⟩ [Cond.code ⟨"BigRunner", "give", "(I)Z"⟩ prog_1_method_5_code 2 (some .boolean)] ({ frames := 1, cells := 0, slots := 0, locals := 21 }) (va_Pc [.ref B, .int v] (pc_in g sz f)) (va_Qi (fun r f1 => ((r = nI 0 ∨ r = nI 1) ∧ (r = nI 1 ↔ GOK v sg.2.ins) ∧ CV2 g B f1 n hT (gvG sg v)) ∧ (IV g f1) ∧ (un [1, 2, 3, 4, 5, 6, 7, 8, 9, 10, 20, 21, 22, 23, 24, 25, 26, 27, 28, 29] g f f1)) (pc_out g sz) (pc_A g sz)) 0 0 (pc_A g sz) := by
  have hJ0 := hJ
  obtain ⟨ld, tx, ln0, ax0, PR, pr, ix, os, st, mo, lo, tr, sn, nn, t_PR, t_pr, eB, hn, hld, eT, cT, eR, hl0, ha0, eX, hix, hos, hst, htr, hPR, eP, hsn, hnn, hSG, hnj, hi1, hi2, hcv⟩ := hJ
  refine pm_mono (v_give l g sz f B v sg.2.ins hL t_B hI (CVS_ins hcv).1) ?_
  rintro a9 st9 o9 t9 ⟨⟨r, f1, q1, ⟨hq, hI1, hu⟩, q5⟩, q6⟩
  have hq9 : (r = nI 0 ∨ r = nI 1) ∧ (r = nI 1 ↔ GOK v sg.2.ins) ∧ CV2 g B f1 n hT (gvG sg v) := by
    rcases hq with ⟨z1, z2, z3⟩ | ⟨z1, z2, z3⟩
    · rw [gv_y z2]
      exact ⟨Or.inr z1, ⟨fun _ => z2, fun _ => z1⟩, ⟨ld, tx, ln0, ax0, PR, pr, ix, os, st, mo, lo, tr, sn, nn, t_PR, t_pr, hu.at t_B (by decide) eB, hn, hld, hu.at (lo_k1_0 hL _ t_B) (by decide) eT, cT, hu.at (lo_k1_2 hL _ t_B) (by decide) eR, hl0, ha0, hu.at (lo_k1_3 hL _ t_B) (by decide) eX, hix, hos, hst, htr, hPR, hu.at t_pr (by decide) eP, hsn, hnn, SG_un hSG hL t_pr hsn hu (by decide), (by rcases Nat.lt_or_ge ix sn with q | q; exact Or.inr (nj_un (hnj.resolve_left (by omega)) hL t_pr (by omega) hu (by decide)); exact Or.inl q), hi1.un hL t_PR hu (by decide), hi2.un hL t_pr hu (by decide), CVS_in hL (lo_k1_3 hL _ t_B) t_pr hcv hu z3⟩⟩
    · rw [gv_n z2]
      exact ⟨Or.inl z1, ⟨fun z => absurd (z1.symm.trans z) (by decide), fun z => absurd z z2⟩, ⟨ld, tx, ln0, ax0, PR, pr, ix, os, st, mo, lo, tr, sn, nn, t_PR, t_pr, hu.at t_B (by decide) eB, hn, hld, hu.at (lo_k1_0 hL _ t_B) (by decide) eT, cT, hu.at (lo_k1_2 hL _ t_B) (by decide) eR, hl0, ha0, hu.at (lo_k1_3 hL _ t_B) (by decide) eX, hix, hos, hst, htr, hPR, hu.at t_pr (by decide) eP, hsn, hnn, SG_un hSG hL t_pr hsn hu (by decide), (by rcases Nat.lt_or_ge ix sn with q | q; exact Or.inr (nj_un (hnj.resolve_left (by omega)) hL t_pr (by omega) hu (by decide)); exact Or.inl q), hi1.un hL t_PR hu (by decide), hi2.un hL t_pr hu (by decide), CVS_in0 hL (lo_k1_3 hL _ t_B) t_pr hcv hu z3⟩⟩
  exact ⟨⟨r, f1, q1, ⟨hq9, hI1, hu.wd (by decide)⟩, q5⟩, q6⟩
set_option maxHeartbeats 4000000 in
set_option maxRecDepth 100000 in
theorem k6_csmall (l : Launch) (g : Lay) (sz : Nat) (f : Nat → va_E) (B : Nat) (n : Nat) (hT : Nat → Int32) (sg : GS) (v : Int32) (hL : LO g) (t_B : g.tg B = 1) (hI : IV g f) (hJ : CV2 g B f n hT sg) : Met l ⟨"BigRunner", "small", "(I)Z"⟩ [Cond.code ⟨"BigRunner", "small", "(I)Z"⟩ prog_1_method_9_code 2 (some .boolean)] ({ frames := 2, cells := 0, slots := 0, locals := 41 }) (va_Pc [.ref B, .int v] (pc_in g sz f)) (va_Qi (fun r f1 => (CV2 g B f1 n hT sg) ∧ (IV g f1) ∧ (un [1, 2, 3, 4, 5, 6, 7, 8, 9, 10, 20, 21, 22, 23, 24, 25, 26, 27, 28, 29] g f f1)) (pc_out g sz) (pc_A g sz)) 0 0 (pc_A g sz) := by
  have hJ0 := hJ
  obtain ⟨ld, tx, ln0, ax0, PR, pr, ix, os, st, mo, lo, tr, sn, nn, t_PR, t_pr, eB, hn, hld, eT, cT, eR, hl0, ha0, eX, hix, hos, hst, htr, hPR, eP, hsn, hnn, hSG, hnj, hi1, hi2, hcv⟩ := hJ
  refine pm_mono (c_small l g sz f B v hL t_B hI.1) ?_
  rintro a9 st9 o9 t9 ⟨⟨r, f1, q1, ⟨-, rfl⟩, q5⟩, q6⟩
  exact ⟨⟨r, f, q1, ⟨hJ0, hI, un.rf⟩, q5⟩, q6⟩

