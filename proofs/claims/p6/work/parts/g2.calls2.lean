def THf (f : Nat → va_E) (M : Nat) (t : Int32) : Prop := ∃ fs, f M = .inr (10, .int t :: fs)
def OBv (g : Lay) (f : Nat → va_E) (ob : Nat) (x : Int64) : Prop := ∃ h : Nat → Int64, f ob = .inl (g.ac ob, 1, .inr (.inl h)) ∧ h 0 = x
theorem OBv.ob {g : Lay} {f : Nat → va_E} {ob : Nat} {x : Int64} (h : OBv g f ob x) : OB g f ob := by
  obtain ⟨k, e, -⟩ := h
  exact ⟨k, e⟩
theorem OBv.un {W : List Nat} {g : Lay} {f f1 : Nat → va_E} {ob : Nat} {x : Int64} (t : g.tg ob = 0) (h : OBv g f ob x) (hu : un W g f f1) (hW : 0 ∉ W) : OBv g f1 ob x := by
  obtain ⟨k, e, q⟩ := h
  exact ⟨k, hu.at t hW e, q⟩
theorem lg_0 (x : Int64) : lg_cmp x x = nI 0 := pl_eq.mpr rfl
set_option maxHeartbeats 4000000 in
set_option maxRecDepth 100000 in
theorem k2_ctype (l : Launch) (g : Lay) (sz : Nat) (f : Nat → va_E) (B : Nat) (n : Nat) (hT : Nat → Int32) (sg : Option (Nat → IVL)) (c9 : Int32) (hL : LO g) (t_B : g.tg B = 1) (hI : IV g f) (hJ : CK g B f n hT sg) : Met l ⟨"BigRunner", "type", "(C)Z"⟩ [Cond.code ⟨"BigRunner", "type", "(C)Z"⟩ prog_1_method_2_code 2 (some .boolean)] ({ frames := 0, cells := 0, slots := 0, locals := 0 }) (va_Pc [.ref B, .int c9] (pc_in g sz f)) (va_Qi (fun r f1 => ((r = nI 0 ∧ ¬ (nI 33 ≤ c9 ∧ c9 ≤ nI 126 ∧ n < 72) ∧ CK g B f1 n hT sg) ∨ (r = nI 1 ∧ (nI 33 ≤ c9 ∧ c9 ≤ nI 126 ∧ n < 72) ∧ CK g B f1 (n + 1) (upd hT n (vp_nar .char c9)) sg)) ∧ (IV g f1) ∧ (un [1, 2, 3, 4, 5, 6, 7, 8, 9, 10, 20, 21, 22, 23, 24, 25, 26, 27, 28, 29] g f f1)) (pc_out g sz) (pc_A g sz)) 0 0 (pc_A g sz) := by
  have hJ0 := hJ
  obtain ⟨ld, tx, ln0, ax0, PR, pr, ix, os, st, mo, lo, tr, sn, nn, t_PR, t_pr, eB, hn, hld, eT, cT, eR, hl0, ha0, eX, hix, hos, hst, htr, hPR, eP, hsn, hnn, hSG, hnj, hi1, hi2, hce⟩ := hJ
  refine pm_mono (c_type l g sz f B n ld hT c9 hL t_B hI eB hn hld eT cT) ?_
  rintro a9 st9 o9 t9 ⟨⟨r, f1, q1, ⟨hq, hI1, hu⟩, q5⟩, q6⟩
  have hq9 : (r = nI 0 ∧ ¬ (nI 33 ≤ c9 ∧ c9 ≤ nI 126 ∧ n < 72) ∧ CK g B f1 n hT sg) ∨ (r = nI 1 ∧ (nI 33 ≤ c9 ∧ c9 ≤ nI 126 ∧ n < 72) ∧ CK g B f1 (n + 1) (upd hT n (vp_nar .char c9)) sg) := by
    rcases hq with ⟨z1, z2, eB1, eT1⟩ | ⟨z1, z2, eB1, eT1⟩
    · exact Or.inl ⟨z1, z2, ⟨ld, tx, ln0, ax0, PR, pr, ix, os, st, mo, lo, tr, sn, nn, t_PR, t_pr, eB1, hn, hld, eT1, cT, hu.at (lo_k1_2 hL _ t_B) (by decide) eR, hl0, ha0, hu.at (lo_k1_3 hL _ t_B) (by decide) eX, hix, hos, hst, htr, hPR, hu.at t_pr (by decide) eP, hsn, hnn, SG_un hSG hL t_pr hsn hu (by decide), (by rcases Nat.lt_or_ge ix sn with q | q; exact Or.inr (nj_un (hnj.resolve_left (by omega)) hL t_pr (by omega) hu (by decide)); exact Or.inl q), hi1.un hL t_PR hu (by decide), hi2.un hL t_pr hu (by decide), hce.un hL t_pr hu (by decide)⟩⟩
    · have z3 := z2.2.2
      exact Or.inr ⟨z1, z2, ⟨ld, tx, ln0, ax0, PR, pr, ix, os, st, mo, lo, tr, sn, nn, t_PR, t_pr, eB1, by omega, hld, eT1, upd_nar cT, hu.at (lo_k1_2 hL _ t_B) (by decide) eR, hl0, ha0, hu.at (lo_k1_3 hL _ t_B) (by decide) eX, hix, hos, hst, htr, hPR, hu.at t_pr (by decide) eP, hsn, hnn, SG_un hSG hL t_pr hsn hu (by decide), (by rcases Nat.lt_or_ge ix sn with q | q; exact Or.inr (nj_un (hnj.resolve_left (by omega)) hL t_pr (by omega) hu (by decide)); exact Or.inl q), hi1.un hL t_PR hu (by decide), hi2.un hL t_pr hu (by decide), hce.un hL t_pr hu (by decide)⟩⟩
  exact ⟨⟨r, f1, q1, ⟨hq9, hI1, hu.wd (by decide)⟩, q5⟩, q6⟩
set_option maxHeartbeats 4000000 in
set_option maxRecDepth 100000 in
theorem k2_cwipe (l : Launch) (g : Lay) (sz : Nat) (f : Nat → va_E) (B : Nat) (n : Nat) (hT : Nat → Int32) (sg : Option (Nat → IVL)) (hL : LO g) (t_B : g.tg B = 1) (hI : IV g f) (hJ : CK g B f n hT sg) : Met l ⟨"BigRunner", "wipe", "()V"⟩ [Cond.code ⟨"BigRunner", "wipe", "()V"⟩ prog_1_method_3_code 1 none] ({ frames := 0, cells := 0, slots := 0, locals := 0 }) (va_Pc [.ref B] (pc_in g sz f)) (va_Qv (fun f1 => (CK g B f1 0 hT sg) ∧ (IV g f1) ∧ (un [1, 2, 3, 4, 5, 6, 7, 8, 9, 10, 20, 21, 22, 23, 24, 25, 26, 27, 28, 29] g f f1)) (pc_out g sz) (pc_A g sz)) 0 0 (pc_A g sz) := by
  have hJ0 := hJ
  obtain ⟨ld, tx, ln0, ax0, PR, pr, ix, os, st, mo, lo, tr, sn, nn, t_PR, t_pr, eB, hn, hld, eT, cT, eR, hl0, ha0, eX, hix, hos, hst, htr, hPR, eP, hsn, hnn, hSG, hnj, hi1, hi2, hce⟩ := hJ
  refine pm_mono (c_wipe l g sz f B n ld hL t_B hI eB hn hld) ?_
  rintro a9 st9 o9 t9 ⟨⟨f1, q1, ⟨eB1, hI1, hu⟩, q5⟩, q6⟩
  exact ⟨⟨f1, q1, ⟨⟨ld, tx, ln0, ax0, PR, pr, ix, os, st, mo, lo, tr, sn, nn, t_PR, t_pr, eB1, by omega, hld, hu.at (lo_k1_0 hL _ t_B) (by decide) eT, cT, hu.at (lo_k1_2 hL _ t_B) (by decide) eR, hl0, ha0, hu.at (lo_k1_3 hL _ t_B) (by decide) eX, hix, hos, hst, htr, hPR, hu.at t_pr (by decide) eP, hsn, hnn, SG_un hSG hL t_pr hsn hu (by decide), (by rcases Nat.lt_or_ge ix sn with q | q; exact Or.inr (nj_un (hnj.resolve_left (by omega)) hL t_pr (by omega) hu (by decide)); exact Or.inl q), hi1.un hL t_PR hu (by decide), hi2.un hL t_pr hu (by decide), hce.un hL t_pr hu (by decide)⟩, hI1, hu.wd (by decide)⟩, q5⟩, q6⟩
set_option maxHeartbeats 4000000 in
set_option maxRecDepth 100000 in
theorem k2_cgive (l : Launch) (g : Lay) (sz : Nat) (f : Nat → va_E) (B : Nat) (n : Nat) (hT : Nat → Int32) (sg : Option (Nat → IVL)) (v : Int32) (hL : LO g) (t_B : g.tg B = 1) (hI : IV g f) (hJ : CK g B f n hT sg) : Met l ⟨"BigRunner", "give", "(I)Z"⟩ [Cond.code ⟨"BigRunner", "give", "(I)Z"⟩ prog_1_method_5_code 2 (some .boolean)] ({ frames := 1, cells := 0, slots := 0, locals := 21 }) (va_Pc [.ref B, .int v] (pc_in g sz f)) (va_Qi (fun r f1 => (CK g B f1 n hT sg) ∧ (IV g f1) ∧ (un [1, 2, 3, 4, 5, 6, 7, 8, 9, 10, 20, 21, 22, 23, 24, 25, 26, 27, 28, 29] g f f1)) (pc_out g sz) (pc_A g sz)) 0 0 (pc_A g sz) := by
  have hJ0 := hJ
  obtain ⟨ld, tx, ln0, ax0, PR, pr, ix, os, st, mo, lo, tr, sn, nn, t_PR, t_pr, eB, hn, hld, eT, cT, eR, hl0, ha0, eX, hix, hos, hst, htr, hPR, eP, hsn, hnn, hSG, hnj, hi1, hi2, hce⟩ := hJ
  refine pm_mono (c_give l g sz f B v hL t_B hI) ?_
  rintro a9 st9 o9 t9 ⟨⟨r, f1, q1, ⟨-, hI1, hu⟩, q5⟩, q6⟩
  exact ⟨⟨r, f1, q1, ⟨hJ0.un hL t_B hu (by decide), hI1, hu.wd (by decide)⟩, q5⟩, q6⟩
set_option maxHeartbeats 4000000 in
set_option maxRecDepth 100000 in
theorem k2_clook (l : Launch) (g : Lay) (sz : Nat) (f : Nat → va_E) (B : Nat) (n : Nat) (hT : Nat → Int32) (sg : Option (Nat → IVL)) (v : Int32) (hL : LO g) (t_B : g.tg B = 1) (hI : IV g f) (hJ : CK g B f n hT sg) : Met l ⟨"BigRunner", "look", "(I)I"⟩ [Cond.code ⟨"BigRunner", "look", "(I)I"⟩ prog_1_method_7_code 2 (some .int)] ({ frames := 3, cells := 0, slots := 0, locals := 60 }) (va_Pc [.ref B, .int v] (pc_in g sz f)) (va_Qi (fun r f1 => (CK g B f1 n hT sg) ∧ (IV g f1) ∧ (un [1, 2, 3, 4, 5, 6, 7, 8, 9, 10, 20, 21, 22, 23, 24, 25, 26, 27, 28, 29] g f f1)) (pc_out g sz) (pc_A g sz)) 0 0 (pc_A g sz) := by
  have hJ0 := hJ
  obtain ⟨ld, tx, ln0, ax0, PR, pr, ix, os, st, mo, lo, tr, sn, nn, t_PR, t_pr, eB, hn, hld, eT, cT, eR, hl0, ha0, eX, hix, hos, hst, htr, hPR, eP, hsn, hnn, hSG, hnj, hi1, hi2, hce⟩ := hJ
  refine pm_mono (c_look l g sz f B v hL t_B hI.1) ?_
  rintro a9 st9 o9 t9 ⟨⟨r, f1, q1, rfl, q5⟩, q6⟩
  exact ⟨⟨r, f, q1, ⟨hJ0, hI, un.rf⟩, q5⟩, q6⟩
set_option maxHeartbeats 4000000 in
set_option maxRecDepth 100000 in
theorem k2_csmall (l : Launch) (g : Lay) (sz : Nat) (f : Nat → va_E) (B : Nat) (n : Nat) (hT : Nat → Int32) (sg : Option (Nat → IVL)) (v : Int32) (hL : LO g) (t_B : g.tg B = 1) (hI : IV g f) (hJ : CK g B f n hT sg) : Met l ⟨"BigRunner", "small", "(I)Z"⟩ [Cond.code ⟨"BigRunner", "small", "(I)Z"⟩ prog_1_method_9_code 2 (some .boolean)] ({ frames := 2, cells := 0, slots := 0, locals := 41 }) (va_Pc [.ref B, .int v] (pc_in g sz f)) (va_Qi (fun r f1 => (CK g B f1 n hT sg) ∧ (IV g f1) ∧ (un [1, 2, 3, 4, 5, 6, 7, 8, 9, 10, 20, 21, 22, 23, 24, 25, 26, 27, 28, 29] g f f1)) (pc_out g sz) (pc_A g sz)) 0 0 (pc_A g sz) := by
  have hJ0 := hJ
  obtain ⟨ld, tx, ln0, ax0, PR, pr, ix, os, st, mo, lo, tr, sn, nn, t_PR, t_pr, eB, hn, hld, eT, cT, eR, hl0, ha0, eX, hix, hos, hst, htr, hPR, eP, hsn, hnn, hSG, hnj, hi1, hi2, hce⟩ := hJ
  refine pm_mono (c_small l g sz f B v hL t_B hI.1) ?_
  rintro a9 st9 o9 t9 ⟨⟨r, f1, q1, ⟨-, rfl⟩, q5⟩, q6⟩
  exact ⟨⟨r, f, q1, ⟨hJ0, hI, un.rf⟩, q5⟩, q6⟩
set_option maxHeartbeats 4000000 in
set_option maxRecDepth 100000 in
theorem k2_mload (l : Launch) (g : Lay) (sz : Nat) (f : Nat → va_E) (M : Nat) (n : Nat) (hT : Nat → Int32) (hL : LO g) (t_M : g.tg M = 11) (hI : IV g f) (hJ : MJ g M f n hT) : Met l ⟨"BigRunnerModel", "load", "()I"⟩ [Cond.code ⟨"BigRunnerModel", "load", "()I"⟩ prog_12_method_40_code 2 (some .int)] ({ frames := 6, cells := 0, slots := 0, locals := 144 }) (va_Pc [.ref M] (pc_in g sz f)) (va_Qi (fun r f1 => ((px_s (tk hT n) 400 1 1 0 = some n → r = nI (rds (ox_s (tk hT n) (vc hT n) 400 1 1 0 0) 30 1 (fun _ => zI)).1 ∧ THf f1 M (nI 0) ∧ MJ g M f1 0 hT) ∧ (px_s (tk hT n) 400 1 1 0 ≠ some n → THf f1 M (nI 1) ∧ MJ g M f1 n hT)) ∧ (IV g f1) ∧ (un [11, 40, 41, 42, 43, 44, 45, 46, 47, 48, 49, 50, 51, 52, 53, 54, 55, 56, 57, 58, 59, 60, 61, 62, 63, 64, 65, 66] g f f1)) (pc_out g sz) (pc_A g sz)) 0 0 (pc_A g sz) := by
  have hJ0 := hJ
  obtain ⟨mth, mdr, msz, mix, mdp, mwt, mop, mtp, mwa, mgi, mpc, mst, mtr, msp, mma, mlg, mdu, hC, hA, dpf, eM, hMB, eT, cT, eC, eA, hWF, hRI⟩ := hJ
  obtain ⟨hn72, -⟩ := (⟨hMB.1, trivial⟩ : n ≤ 72 ∧ True)
  have hpx := px_fin (tk hT n) n (tk_end hT n) (by omega) (F := 400) (by decide)
  have hoxf : px_s (tk hT n) 400 1 1 0 = some n → oy_r (tk hT n) (vc hT n) n 400 0 [] [] 1 true = (ox_s (tk hT n) (vc hT n) 400 1 1 0 0) := fun z => ox_fin (tk hT n) (vc hT n) (vk_tk hT n) n (tk_end hT n) (by omega) z
  have hLB9 : py_r (tk hT n) n 400 0 [] 1 true = true → ∀ x, x ∈ oy_r (tk hT n) (vc hT n) n 400 0 [] [] 1 true → LB x := fun z => by rw [hoxf (of_decide_eq_true (hpx.symm.trans z))]; exact ox_LB
  refine pm_mono (m2_load l g sz f M mth n mdr msz mix mdp mwt mop mtp mwa mgi mpc mst mtr msp mma mlg mdu hT hC hA hL t_M hI eM hMB eT cT eC eA hLB9) ?_
  obtain ⟨hmb0, hmb1, hmb2, hmb3, hmb4, hmb5, hmb6, hmb7, hmb8, hmb9, hmb10, hmb11, hmb12, hmb13, hmb14⟩ := hMB
  rintro a9 st9 o9 t9 ⟨⟨r, f1, q1, ⟨hq, hI1, hu⟩, q5⟩, q6⟩
  have hq9 : (px_s (tk hT n) 400 1 1 0 = some n → r = nI (rds (ox_s (tk hT n) (vc hT n) 400 1 1 0 0) 30 1 (fun _ => zI)).1 ∧ THf f1 M (nI 0) ∧ MJ g M f1 0 hT) ∧ (px_s (tk hT n) 400 1 1 0 ≠ some n → THf f1 M (nI 1) ∧ MJ g M f1 n hT) := by
    rcases hq with ⟨ix1, dp1, n1, wt1, tp1, c1, a1, dpf1, z1, d1, d2, d3, d4, d5, w1, w2, w3, w4, eM1, eC1, eA1⟩ | ⟨z1, ⟨fb, ix1, op1, dp1, dr1, wt1, d1, d2, d3, d4, d5, d6, eM1⟩, eC1, eA1⟩
    · have z2 : px_s (tk hT n) 400 1 1 0 = some n := of_decide_eq_true (hpx.symm.trans z1)
      rw [hoxf z2] at w3
      exact ⟨fun _ => ⟨w3, ⟨_, eM1⟩, ⟨nI 0, n1, n1, ix1, dp1, wt1, 0, tp1, mwa, 0, 0, 1, 0, 0, nI 0, nI 0, nI 0, c1, a1, dpf1, eM1, ⟨by omega, by omega, by omega, by omega, by omega, by omega, by omega, by omega, by omega, by omega, by omega, by omega, by omega, by omega, Or.inl rfl⟩, (hu.at (lo_k11_1 hL _ t_M) (by decide) eT), cT, eC1, eA1, w1, w2⟩⟩, fun z => absurd z2 z⟩
    · have z2 : px_s (tk hT n) 400 1 1 0 ≠ some n := of_decide_eq_false (hpx.symm.trans z1)
      exact ⟨fun z => absurd z z2, fun _ => ⟨⟨_, eM1⟩, ⟨nI 1, dr1, msz, ix1, dp1, wt1, op1, mtp, mwa, mgi, mpc, mst, mtr, msp, mma, mlg, nI fb, hC, hA, dpf, eM1, ⟨by omega, by omega, by omega, by omega, by omega, by omega, by omega, by omega, by omega, by omega, by omega, by omega, by omega, by omega, (by rcases (show fb = 0 ∨ fb = 1 by omega) with y | y <;> rw [y] <;> decide)⟩, (hu.at (lo_k11_1 hL _ t_M) (by decide) eT), cT, eC1, eA1, hWF, hRI⟩⟩⟩
  exact ⟨⟨r, f1, q1, ⟨hq9, hI1, hu.wd (by decide)⟩, q5⟩, q6⟩
theorem th_eq {f : Nat → va_E} {M : Nat} {t u : Int32} {fs : List Value} (e : f M = .inr (10, .int t :: fs)) (h : THf f M u) : t = u := by
  obtain ⟨fs2, e2⟩ := h
  rw [e] at e2
  injection e2 with e2
  injection e2 with _ e2
  injection e2 with e2 _
  injection e2
set_option maxHeartbeats 4000000 in
set_option maxRecDepth 100000 in
theorem k2_mthrown (l : Launch) (g : Lay) (sz : Nat) (f : Nat → va_E) (M : Nat) (n : Nat) (hT : Nat → Int32) (t0 : Int32) (hL : LO g) (t_M : g.tg M = 11) (hI : IV g f) (hJ : MJ g M f n hT) (hth : THf f M t0) : Met l ⟨"BigRunnerModel", "thrown", "()I"⟩ [Cond.code ⟨"BigRunnerModel", "thrown", "()I"⟩ prog_12_method_2_code 1 (some .int)] ({ frames := 0, cells := 0, slots := 0, locals := 0 }) (va_Pc [.ref M] (pc_in g sz f)) (va_Qi (fun r f1 => (r = t0 ∧ MJ g M f1 n hT) ∧ (IV g f1) ∧ (un [11, 40, 41, 42, 43, 44, 45, 46, 47, 48, 49, 50, 51, 52, 53, 54, 55, 56, 57, 58, 59, 60, 61, 62, 63, 64, 65, 66] g f f1)) (pc_out g sz) (pc_A g sz)) 0 0 (pc_A g sz) := by
  have hJ0 := hJ
  obtain ⟨mth, mdr, msz, mix, mdp, mwt, mop, mtp, mwa, mgi, mpc, mst, mtr, msp, mma, mlg, mdu, hC, hA, dpf, eM, hMB, eT, cT, eC, eA, hWF, hRI⟩ := hJ
  refine pm_mono (m2_thrown l g sz f M mth n mdr msz mix mdp mwt mop mtp mwa mgi mpc mst mtr msp mma mlg mdu hL t_M hI.1 eM hMB) ?_
  obtain ⟨hmb0, hmb1, hmb2, hmb3, hmb4, hmb5, hmb6, hmb7, hmb8, hmb9, hmb10, hmb11, hmb12, hmb13, hmb14⟩ := hMB
  rintro a9 st9 o9 t9 ⟨⟨r, f1, q1, ⟨hq, rfl⟩, q5⟩, q6⟩
  exact ⟨⟨r, f, q1, ⟨⟨hq.trans (th_eq eM hth), hJ0⟩, hI, un.rf⟩, q5⟩, q6⟩
