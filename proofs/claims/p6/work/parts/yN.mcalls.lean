set_option maxHeartbeats 4000000 in
set_option maxRecDepth 100000 in
theorem k7_mtype (l : Launch) (g : Lay) (sz : Nat) (f : Nat → va_E) (M : Nat) (n : Nat) (hT : Nat → Int32) (sg : GS) (c9 : Int32) (hL : LO g) (t_M : g.tg M = 11) (hI : IV g f) (hJ : MV2 g M f n hT sg) : Met l ⟨"BigRunnerModel", "type", "(C)Z"⟩ [Cond.code ⟨"BigRunnerModel", "type", "(C)Z"⟩ prog_12_method_38_code 2 (some .boolean)] ({ frames := 0, cells := 0, slots := 0, locals := 0 }) (va_Pc [.ref M, .int c9] (pc_in g sz f)) (va_Qi (fun r f1 => ((r = nI 0 ∧ ¬ (nI 33 ≤ c9 ∧ c9 ≤ nI 126 ∧ n < 72) ∧ MV2 g M f1 n hT sg) ∨ (r = nI 1 ∧ (nI 33 ≤ c9 ∧ c9 ≤ nI 126 ∧ n < 72) ∧ MV2 g M f1 (n + 1) (upd hT n (vp_nar .char c9)) sg)) ∧ (IV g f1) ∧ (un [11, 40, 41, 42, 43, 44, 45, 46, 47, 48, 49, 50, 51, 52, 53, 54, 55, 56, 57, 58, 59, 60, 61, 62, 63, 64, 65, 66] g f f1)) (pc_out g sz) (pc_A g sz)) 0 0 (pc_A g sz) := by
  have hJ0 := hJ
  obtain ⟨mth, mdr, msz, mix, mdp, mwt, mop, mtp, mwa, mgi, mpc, mst, mtr, msp, mma, mlg, mdu, hC, hA, dpf, eM, hMB, eT, cT, eC, eA, hWF, hRI, hmv⟩ := hJ
  refine pm_mono (m_type l g sz f M mth n mdr msz mix mdp mwt mop mtp mwa mgi mpc mst mtr msp mma mlg mdu hT c9 hL t_M hI eM hMB eT cT) ?_
  obtain ⟨hmb0, hmb1, hmb2, hmb3, hmb4, hmb5, hmb6, hmb7, hmb8, hmb9, hmb10, hmb11, hmb12, hmb13, hmb14⟩ := hMB
  rintro a9 st9 o9 t9 ⟨⟨r, f1, q1, ⟨hq, hI1, hu⟩, q5⟩, q6⟩
  have hq9 : (r = nI 0 ∧ ¬ (nI 33 ≤ c9 ∧ c9 ≤ nI 126 ∧ n < 72) ∧ MV2 g M f1 n hT sg) ∨ (r = nI 1 ∧ (nI 33 ≤ c9 ∧ c9 ≤ nI 126 ∧ n < 72) ∧ MV2 g M f1 (n + 1) (upd hT n (vp_nar .char c9)) sg) := by
    rcases hq with ⟨z1, z2, eM1, eT1⟩ | ⟨z1, z2, eM1, eT1⟩
    · exact Or.inl ⟨z1, z2, ⟨nI 0, mdr, msz, mix, mdp, mwt, mop, mtp, mwa, mgi, mpc, mst, mtr, msp, mma, mlg, mdu, hC, hA, dpf, eM1, ⟨by omega, by omega, by omega, by omega, by omega, by omega, by omega, by omega, by omega, by omega, by omega, by omega, by omega, by omega, hmb14⟩, eT1, cT, (hu.at (lo_k11_6 hL _ t_M) (by decide) eC), (hu.at (lo_k11_7 hL _ t_M) (by decide) eA), hWF, hRI, MVS_un hL t_M hmv hu (by decide)⟩⟩
    · have z3 := z2.2.2
      exact Or.inr ⟨z1, z2, ⟨nI 0, mdr, msz, mix, mdp, mwt, mop, mtp, mwa, mgi, mpc, mst, mtr, msp, mma, mlg, mdu, hC, hA, dpf, eM1, ⟨by omega, by omega, by omega, by omega, by omega, by omega, by omega, by omega, by omega, by omega, by omega, by omega, by omega, by omega, hmb14⟩, eT1, upd_nar cT, (hu.at (lo_k11_6 hL _ t_M) (by decide) eC), (hu.at (lo_k11_7 hL _ t_M) (by decide) eA), hWF, hRI, MVS_un hL t_M hmv hu (by decide)⟩⟩
  exact ⟨⟨r, f1, q1, ⟨hq9, hI1, hu.wd (by decide)⟩, q5⟩, q6⟩
set_option maxHeartbeats 4000000 in
set_option maxRecDepth 100000 in
theorem k7_mwipe (l : Launch) (g : Lay) (sz : Nat) (f : Nat → va_E) (M : Nat) (n : Nat) (hT : Nat → Int32) (sg : GS) (hL : LO g) (t_M : g.tg M = 11) (hI : IV g f) (hJ : MV2 g M f n hT sg) : Met l ⟨"BigRunnerModel", "wipe", "()V"⟩ [Cond.code ⟨"BigRunnerModel", "wipe", "()V"⟩ prog_12_method_39_code 1 none] ({ frames := 0, cells := 0, slots := 0, locals := 0 }) (va_Pc [.ref M] (pc_in g sz f)) (va_Qv (fun f1 => (MV2 g M f1 0 hT sg) ∧ (IV g f1) ∧ (un [11, 40, 41, 42, 43, 44, 45, 46, 47, 48, 49, 50, 51, 52, 53, 54, 55, 56, 57, 58, 59, 60, 61, 62, 63, 64, 65, 66] g f f1)) (pc_out g sz) (pc_A g sz)) 0 0 (pc_A g sz) := by
  have hJ0 := hJ
  obtain ⟨mth, mdr, msz, mix, mdp, mwt, mop, mtp, mwa, mgi, mpc, mst, mtr, msp, mma, mlg, mdu, hC, hA, dpf, eM, hMB, eT, cT, eC, eA, hWF, hRI, hmv⟩ := hJ
  refine pm_mono (m_wipe l g sz f M mth n mdr msz mix mdp mwt mop mtp mwa mgi mpc mst mtr msp mma mlg mdu hL t_M hI eM hMB) ?_
  obtain ⟨hmb0, hmb1, hmb2, hmb3, hmb4, hmb5, hmb6, hmb7, hmb8, hmb9, hmb10, hmb11, hmb12, hmb13, hmb14⟩ := hMB
  rintro a9 st9 o9 t9 ⟨⟨f1, q1, ⟨eM1, hI1, hu⟩, q5⟩, q6⟩
  exact ⟨⟨f1, q1, ⟨⟨nI 0, mdr, msz, mix, mdp, mwt, mop, mtp, mwa, mgi, mpc, mst, mtr, msp, mma, mlg, mdu, hC, hA, dpf, eM1, ⟨by omega, by omega, by omega, by omega, by omega, by omega, by omega, by omega, by omega, by omega, by omega, by omega, by omega, by omega, hmb14⟩, (hu.at (lo_k11_1 hL _ t_M) (by decide) eT), cT, (hu.at (lo_k11_6 hL _ t_M) (by decide) eC), (hu.at (lo_k11_7 hL _ t_M) (by decide) eA), hWF, hRI, MVS_un hL t_M hmv hu (by decide)⟩, hI1, hu.wd (by decide)⟩, q5⟩, q6⟩
set_option maxHeartbeats 4000000 in
set_option maxRecDepth 100000 in
theorem k7_mlook (l : Launch) (g : Lay) (sz : Nat) (f : Nat → va_E) (M : Nat) (n : Nat) (hT : Nat → Int32) (sg : GS) (v : Int32) (hL : LO g) (t_M : g.tg M = 11) (hI : IV g f) (hJ : MV2 g M f n hT sg) : Met l ⟨"BigRunnerModel", "look", "(I)I"⟩ [Cond.code ⟨"BigRunnerModel", "look", "(I)I"⟩ prog_12_method_46_code 2 (some .int)] ({ frames := 0, cells := 0, slots := 0, locals := 0 }) (va_Pc [.ref M, .int v] (pc_in g sz f)) (va_Qi (fun r f1 => (MV2 g M f1 n hT sg) ∧ (IV g f1) ∧ (un [11, 40, 41, 42, 43, 44, 45, 46, 47, 48, 49, 50, 51, 52, 53, 54, 55, 56, 57, 58, 59, 60, 61, 62, 63, 64, 65, 66] g f f1)) (pc_out g sz) (pc_A g sz)) 0 0 (pc_A g sz) := by
  have hJ0 := hJ
  obtain ⟨mth, mdr, msz, mix, mdp, mwt, mop, mtp, mwa, mgi, mpc, mst, mtr, msp, mma, mlg, mdu, hC, hA, dpf, eM, hMB, eT, cT, eC, eA, hWF, hRI, hmv⟩ := hJ
  refine pm_mono (m_look l g sz f M mth n mdr msz mix mdp mwt mop mtp mwa mgi mpc mst mtr msp mma mlg mdu v hL t_M hI eM hMB) ?_
  obtain ⟨hmb0, hmb1, hmb2, hmb3, hmb4, hmb5, hmb6, hmb7, hmb8, hmb9, hmb10, hmb11, hmb12, hmb13, hmb14⟩ := hMB
  rintro a9 st9 o9 t9 ⟨⟨r, f1, q1, ⟨⟨th1, eM1⟩, hI1, hu⟩, q5⟩, q6⟩
  exact ⟨⟨r, f1, q1, ⟨⟨th1, mdr, msz, mix, mdp, mwt, mop, mtp, mwa, mgi, mpc, mst, mtr, msp, mma, mlg, mdu, hC, hA, dpf, eM1, ⟨by omega, by omega, by omega, by omega, by omega, by omega, by omega, by omega, by omega, by omega, by omega, by omega, by omega, by omega, hmb14⟩, (hu.at (lo_k11_1 hL _ t_M) (by decide) eT), cT, (hu.at (lo_k11_6 hL _ t_M) (by decide) eC), (hu.at (lo_k11_7 hL _ t_M) (by decide) eA), hWF, hRI, MVS_un hL t_M hmv hu (by decide)⟩, hI1, hu.wd (by decide)⟩, q5⟩, q6⟩
set_option maxHeartbeats 4000000 in
set_option maxRecDepth 100000 in
theorem k7_mvariable (l : Launch) (g : Lay) (sz : Nat) (f : Nat → va_E) (M : Nat) (n : Nat) (hT : Nat → Int32) (sg : GS) (v : Int32) (kk : Int32) (hL : LO g) (t_M : g.tg M = 11) (hI : IV g f) (hJ : MV2 g M f n hT sg) : Met l ⟨"BigRunnerModel", "variable", "(II)I"⟩ [Cond.code ⟨"BigRunnerModel", "variable", "(II)I"⟩ prog_12_method_50_code 4 (some .int)] ({ frames := 2, cells := 0, slots := 0, locals := 51 }) (va_Pc [.ref M, .int v, .int kk] (pc_in g sz f)) (va_Qi (fun r f1 => (MV2 g M f1 n hT sg) ∧ (IV g f1) ∧ (un [11, 40, 41, 42, 43, 44, 45, 46, 47, 48, 49, 50, 51, 52, 53, 54, 55, 56, 57, 58, 59, 60, 61, 62, 63, 64, 65, 66] g f f1)) (pc_out g sz) (pc_A g sz)) 0 0 (pc_A g sz) := by
  have hJ0 := hJ
  obtain ⟨mth, mdr, msz, mix, mdp, mwt, mop, mtp, mwa, mgi, mpc, mst, mtr, msp, mma, mlg, mdu, hC, hA, dpf, eM, hMB, eT, cT, eC, eA, hWF, hRI, hmv⟩ := hJ
  refine pm_mono (m_variable l g sz f M mth n mdr msz mix mdp mwt mop mtp mwa mgi mpc mst mtr msp mma mlg mdu v kk hL t_M hI eM hMB) ?_
  obtain ⟨hmb0, hmb1, hmb2, hmb3, hmb4, hmb5, hmb6, hmb7, hmb8, hmb9, hmb10, hmb11, hmb12, hmb13, hmb14⟩ := hMB
  rintro a9 st9 o9 t9 ⟨⟨r, f1, q1, ⟨⟨th1, eM1⟩, hI1, hu⟩, q5⟩, q6⟩
  exact ⟨⟨r, f1, q1, ⟨⟨th1, mdr, msz, mix, mdp, mwt, mop, mtp, mwa, mgi, mpc, mst, mtr, msp, mma, mlg, mdu, hC, hA, dpf, eM1, ⟨by omega, by omega, by omega, by omega, by omega, by omega, by omega, by omega, by omega, by omega, by omega, by omega, by omega, by omega, hmb14⟩, (hu.at (lo_k11_1 hL _ t_M) (by decide) eT), cT, (hu.at (lo_k11_6 hL _ t_M) (by decide) eC), (hu.at (lo_k11_7 hL _ t_M) (by decide) eA), hWF, hRI, MVS_un hL t_M hmv hu (by decide)⟩, hI1, hu.wd (by decide)⟩, q5⟩, q6⟩
set_option maxHeartbeats 4000000 in
set_option maxRecDepth 100000 in
theorem k7_moutput (l : Launch) (g : Lay) (sz : Nat) (f : Nat → va_E) (M : Nat) (n : Nat) (hT : Nat → Int32) (sg : GS) (v : Int32) (kk : Int32) (hL : LO g) (t_M : g.tg M = 11) (hI : IV g f) (hJ : MV2 g M f n hT sg) : Met l ⟨"BigRunnerModel", "output", "(II)I"⟩ [Cond.code ⟨"BigRunnerModel", "output", "(II)I"⟩ prog_12_method_51_code 4 (some .int)] ({ frames := 2, cells := 0, slots := 0, locals := 51 }) (va_Pc [.ref M, .int v, .int kk] (pc_in g sz f)) (va_Qi (fun r f1 => (MV2 g M f1 n hT sg) ∧ (IV g f1) ∧ (un [11, 40, 41, 42, 43, 44, 45, 46, 47, 48, 49, 50, 51, 52, 53, 54, 55, 56, 57, 58, 59, 60, 61, 62, 63, 64, 65, 66] g f f1)) (pc_out g sz) (pc_A g sz)) 0 0 (pc_A g sz) := by
  have hJ0 := hJ
  obtain ⟨mth, mdr, msz, mix, mdp, mwt, mop, mtp, mwa, mgi, mpc, mst, mtr, msp, mma, mlg, mdu, hC, hA, dpf, eM, hMB, eT, cT, eC, eA, hWF, hRI, hmv⟩ := hJ
  refine pm_mono (m_output l g sz f M mth n mdr msz mix mdp mwt mop mtp mwa mgi mpc mst mtr msp mma mlg mdu v kk hL t_M hI eM hMB) ?_
  obtain ⟨hmb0, hmb1, hmb2, hmb3, hmb4, hmb5, hmb6, hmb7, hmb8, hmb9, hmb10, hmb11, hmb12, hmb13, hmb14⟩ := hMB
  rintro a9 st9 o9 t9 ⟨⟨r, f1, q1, ⟨⟨th1, eM1⟩, hI1, hu⟩, q5⟩, q6⟩
  exact ⟨⟨r, f1, q1, ⟨⟨th1, mdr, msz, mix, mdp, mwt, mop, mtp, mwa, mgi, mpc, mst, mtr, msp, mma, mlg, mdu, hC, hA, dpf, eM1, ⟨by omega, by omega, by omega, by omega, by omega, by omega, by omega, by omega, by omega, by omega, by omega, by omega, by omega, by omega, hmb14⟩, (hu.at (lo_k11_1 hL _ t_M) (by decide) eT), cT, (hu.at (lo_k11_6 hL _ t_M) (by decide) eC), (hu.at (lo_k11_7 hL _ t_M) (by decide) eA), hWF, hRI, MVS_un hL t_M hmv hu (by decide)⟩, hI1, hu.wd (by decide)⟩, q5⟩, q6⟩
set_option maxHeartbeats 4000000 in
set_option maxRecDepth 100000 in
theorem k7_mbound (l : Launch) (g : Lay) (sz : Nat) (f : Nat → va_E) (M : Nat) (n : Nat) (hT : Nat → Int32) (sg : GS) (v : Int32) (gr : Int32) (hL : LO g) (t_M : g.tg M = 11) (hI : IV g f) (hJ : MV2 g M f n hT sg) : Met l ⟨"BigRunnerModel", "bound", "(IZ)J"⟩ [Cond.code ⟨"BigRunnerModel", "bound", "(IZ)J"⟩ prog_12_method_47_code 4 (some .long)] ({ frames := 0, cells := 0, slots := 0, locals := 0 }) (va_Pc [.ref M, .int v, .int gr] (pc_in g sz f)) (va_Ql (fun r f1 => (MV2 g M f1 n hT sg) ∧ (IV g f1) ∧ (un [11, 40, 41, 42, 43, 44, 45, 46, 47, 48, 49, 50, 51, 52, 53, 54, 55, 56, 57, 58, 59, 60, 61, 62, 63, 64, 65, 66] g f f1)) (pc_out g sz) (pc_A g sz)) 0 0 (pc_A g sz) := by
  have hJ0 := hJ
  obtain ⟨mth, mdr, msz, mix, mdp, mwt, mop, mtp, mwa, mgi, mpc, mst, mtr, msp, mma, mlg, mdu, hC, hA, dpf, eM, hMB, eT, cT, eC, eA, hWF, hRI, hmv⟩ := hJ
  refine pm_mono (m_bound l g sz f M mth n mdr msz mix mdp mwt mop mtp mwa mgi mpc mst mtr msp mma mlg mdu v gr hL t_M hI eM hMB) ?_
  obtain ⟨hmb0, hmb1, hmb2, hmb3, hmb4, hmb5, hmb6, hmb7, hmb8, hmb9, hmb10, hmb11, hmb12, hmb13, hmb14⟩ := hMB
  rintro a9 st9 o9 t9 ⟨⟨r, f1, q1, ⟨⟨th1, eM1⟩, hI1, hu⟩, q5⟩, q6⟩
  exact ⟨⟨r, f1, q1, ⟨⟨th1, mdr, msz, mix, mdp, mwt, mop, mtp, mwa, mgi, mpc, mst, mtr, msp, mma, mlg, mdu, hC, hA, dpf, eM1, ⟨by omega, by omega, by omega, by omega, by omega, by omega, by omega, by omega, by omega, by omega, by omega, by omega, by omega, by omega, hmb14⟩, (hu.at (lo_k11_1 hL _ t_M) (by decide) eT), cT, (hu.at (lo_k11_6 hL _ t_M) (by decide) eC), (hu.at (lo_k11_7 hL _ t_M) (by decide) eA), hWF, hRI, MVS_un hL t_M hmv hu (by decide)⟩, hI1, hu.wd (by decide)⟩, q5⟩, q6⟩
set_option maxHeartbeats 4000000 in
set_option maxRecDepth 100000 in
theorem k7_msmall (l : Launch) (g : Lay) (sz : Nat) (f : Nat → va_E) (M : Nat) (n : Nat) (hT : Nat → Int32) (sg : GS) (v : Int32) (hL : LO g) (t_M : g.tg M = 11) (hI : IV g f) (hJ : MV2 g M f n hT sg) : Met l ⟨"BigRunnerModel", "small", "(I)Z"⟩ [Cond.code ⟨"BigRunnerModel", "small", "(I)Z"⟩ prog_12_method_48_code 2 (some .boolean)] ({ frames := 0, cells := 0, slots := 0, locals := 0 }) (va_Pc [.ref M, .int v] (pc_in g sz f)) (va_Qi (fun r f1 => (MV2 g M f1 n hT sg) ∧ (IV g f1) ∧ (un [11, 40, 41, 42, 43, 44, 45, 46, 47, 48, 49, 50, 51, 52, 53, 54, 55, 56, 57, 58, 59, 60, 61, 62, 63, 64, 65, 66] g f f1)) (pc_out g sz) (pc_A g sz)) 0 0 (pc_A g sz) := by
  have hJ0 := hJ
  obtain ⟨mth, mdr, msz, mix, mdp, mwt, mop, mtp, mwa, mgi, mpc, mst, mtr, msp, mma, mlg, mdu, hC, hA, dpf, eM, hMB, eT, cT, eC, eA, hWF, hRI, hmv⟩ := hJ
  refine pm_mono (m_small l g sz f M mth n mdr msz mix mdp mwt mop mtp mwa mgi mpc mst mtr msp mma mlg mdu v hL t_M hI eM hMB) ?_
  obtain ⟨hmb0, hmb1, hmb2, hmb3, hmb4, hmb5, hmb6, hmb7, hmb8, hmb9, hmb10, hmb11, hmb12, hmb13, hmb14⟩ := hMB
  rintro a9 st9 o9 t9 ⟨⟨r, f1, q1, ⟨-, ⟨th1, eM1⟩, hI1, hu⟩, q5⟩, q6⟩
  exact ⟨⟨r, f1, q1, ⟨⟨th1, mdr, msz, mix, mdp, mwt, mop, mtp, mwa, mgi, mpc, mst, mtr, msp, mma, mlg, mdu, hC, hA, dpf, eM1, ⟨by omega, by omega, by omega, by omega, by omega, by omega, by omega, by omega, by omega, by omega, by omega, by omega, by omega, by omega, hmb14⟩, (hu.at (lo_k11_1 hL _ t_M) (by decide) eT), cT, (hu.at (lo_k11_6 hL _ t_M) (by decide) eC), (hu.at (lo_k11_7 hL _ t_M) (by decide) eA), hWF, hRI, MVS_un hL t_M hmv hu (by decide)⟩, hI1, hu.wd (by decide)⟩, q5⟩, q6⟩
set_option maxHeartbeats 4000000 in
set_option maxRecDepth 100000 in
theorem k7_mthrown (l : Launch) (g : Lay) (sz : Nat) (f : Nat → va_E) (M : Nat) (n : Nat) (hT : Nat → Int32) (sg : GS) (t0 : Int32) (hL : LO g) (t_M : g.tg M = 11) (hI : IV g f) (hJ : MV2 g M f n hT sg) (hth : THf f M t0) : Met l ⟨"BigRunnerModel", "thrown", "()I"⟩ [Cond.code ⟨"BigRunnerModel", "thrown", "()I"⟩ prog_12_method_2_code 1 (some .int)] ({ frames := 0, cells := 0, slots := 0, locals := 0 }) (va_Pc [.ref M] (pc_in g sz f)) (va_Qi (fun r f1 => (r = t0 ∧ MV2 g M f1 n hT sg) ∧ (IV g f1) ∧ (un [11, 40, 41, 42, 43, 44, 45, 46, 47, 48, 49, 50, 51, 52, 53, 54, 55, 56, 57, 58, 59, 60, 61, 62, 63, 64, 65, 66] g f f1)) (pc_out g sz) (pc_A g sz)) 0 0 (pc_A g sz) := by
  have hJ0 := hJ
  obtain ⟨mth, mdr, msz, mix, mdp, mwt, mop, mtp, mwa, mgi, mpc, mst, mtr, msp, mma, mlg, mdu, hC, hA, dpf, eM, hMB, eT, cT, eC, eA, hWF, hRI, hmv⟩ := hJ
  refine pm_mono (m2_thrown l g sz f M mth n mdr msz mix mdp mwt mop mtp mwa mgi mpc mst mtr msp mma mlg mdu hL t_M hI.1 eM hMB) ?_
  obtain ⟨hmb0, hmb1, hmb2, hmb3, hmb4, hmb5, hmb6, hmb7, hmb8, hmb9, hmb10, hmb11, hmb12, hmb13, hmb14⟩ := hMB
  rintro a9 st9 o9 t9 ⟨⟨r, f1, q1, ⟨hq, rfl⟩, q5⟩, q6⟩
  exact ⟨⟨r, f, q1, ⟨⟨hq.trans (th_eq eM hth), hJ0⟩, hI, un.rf⟩, q5⟩, q6⟩
theorem MVO_ins {hC hA : Nat → Int32} {dpf : Nat → Nat} {msz mst mwa mgi msp mtr mpc : Nat} {hv hw ho hp hi : Nat → Int32} {o : Option (List (Nat × Nat))} {s : PS} (h : MVO hC hA dpf msz mst mwa mgi msp mtr mpc hv hw ho hp hi o s) : INM hi mwa s.ins := by
  cases o with
  | none => exact h.2.2.2
  | some L => exact h.2.1.2.2.1
theorem INM_app {hi : Nat → Int32} {wa : Nat} {ins : List Int} {v : Int32} (h : INM hi wa ins) (hv : v.toInt.natAbs ≤ 1000000000) : INM (upd hi wa v) (wa + 1) (ins ++ [v.toInt]) := by
  refine ⟨by rw [List.length_append, List.length_singleton, h.1], fun k hk => ?_⟩
  have e := h.1
  by_cases q : k = wa
  · subst q
    rw [upd_at]
    rw [show (ins ++ [v.toInt]).getD k 0 = v.toInt by rw [e]; exact gd_e]
    exact ⟨rfl, hv⟩
  · rw [upd_ne _ _ q, gd_l (by omega)]
    exact h.2 k (by omega)
theorem MVO_give {hC hA : Nat → Int32} {dpf : Nat → Nat} {msz mst mwa mgi msp mtr mpc : Nat} {hv hw ho hp hi : Nat → Int32} {o : Option (List (Nat × Nat))} {s : PS} {v : Int32} (h : MVO hC hA dpf msz mst mwa mgi msp mtr mpc hv hw ho hp hi o s) (hv9 : v.toInt.natAbs ≤ 1000000000) : MVO hC hA dpf msz mst (mwa + 1) mgi msp mtr mpc hv hw ho hp (upd hi mwa v) o (s.give v.toInt) := by
  cases o with
  | none => exact ⟨h.1, h.2.1, h.2.2.1, INM_app h.2.2.2 hv9⟩
  | some L => exact ⟨h.1, ⟨h.2.1.1, h.2.1.2.1, INM_app h.2.1.2.2.1 hv9, h.2.1.2.2.2⟩, h.2.2⟩
set_option maxHeartbeats 4000000 in
set_option maxRecDepth 100000 in
theorem k7_mgive (l : Launch) (g : Lay) (sz : Nat) (f : Nat → va_E) (M : Nat) (n : Nat) (hT : Nat → Int32) (sg : GS) (v : Int32) (hL : LO g) (t_M : g.tg M = 11) (hI : IV g f) (hJ : MV2 g M f n hT sg) : Met l ⟨"BigRunnerModel", "give", "(I)Z"⟩ [Cond.code ⟨"BigRunnerModel", "give", "(I)Z"⟩ prog_12_method_41_code 2 (some .boolean)] ({ frames := 0, cells := 0, slots := 0, locals := 0 }) (va_Pc [.ref M, .int v] (pc_in g sz f)) (va_Qi (fun r f1 => ((r = nI 0 ∨ r = nI 1) ∧ (r = nI 1 ↔ GOK v sg.2.ins) ∧ MV2 g M f1 n hT (gvG sg v)) ∧ (IV g f1) ∧ (un [11, 40, 41, 42, 43, 44, 45, 46, 47, 48, 49, 50, 51, 52, 53, 54, 55, 56, 57, 58, 59, 60, 61, 62, 63, 64, 65, 66] g f f1)) (pc_out g sz) (pc_A g sz)) 0 0 (pc_A g sz) := by
  have hJ0 := hJ
  obtain ⟨mth, mdr, msz, mix, mdp, mwt, mop, mtp, mwa, mgi, mpc, mst, mtr, msp, mma, mlg, mdu, hC, hA, dpf, eM, hMB, eT, cT, eC, eA, hWF, hRI, hmv⟩ := hJ
  have hwl9 := MVS_ins hmv
  obtain ⟨hl, hs, hr, hq9, hv, hw, ho, hp, hi, eLI, eSI, eRE, eRS, eVL, eVS, eOL, eOS, eIN, c6LI, c6RE, c6RS, c6VL, c6OL, hmo⟩ := hmv
  refine pm_mono (w_give l g sz f M mth n mdr msz mix mdp mwt mop mtp mwa mgi mpc mst mtr msp mma mlg mdu hi sg.2.ins v hL t_M hI eM hMB eIN (MVO_ins hmo)) ?_
  obtain ⟨hmb0, hmb1, hmb2, hmb3, hmb4, hmb5, hmb6, hmb7, hmb8, hmb9, hmb10, hmb11, hmb12, hmb13, hmb14⟩ := hMB
  rintro a9 st9 o9 t9 ⟨⟨r, f1, q1, ⟨hq, hI1, hu⟩, q5⟩, q6⟩
  have hq8 : (r = nI 0 ∨ r = nI 1) ∧ (r = nI 1 ↔ GOK v sg.2.ins) ∧ MV2 g M f1 n hT (gvG sg v) := by
    rcases hq with ⟨z1, z2, eM1, eI1⟩ | ⟨z1, z2, eM1, eI1⟩
    · have z3 := z2.2.2
      rw [gv_y z2]
      exact ⟨Or.inr z1, ⟨fun _ => z2, fun _ => z1⟩, ⟨nI 0, mdr, msz, mix, mdp, mwt, mop, mtp, (mwa + 1), mgi, mpc, mst, mtr, msp, mma, mlg, mdu, hC, hA, dpf, eM1, ⟨by omega, by omega, by omega, by omega, by omega, by omega, by omega, by omega, by omega, by omega, by omega, by omega, by omega, by omega, hmb14⟩, (hu.at (lo_k11_1 hL _ t_M) (by decide) eT), cT, (hu.at (lo_k11_6 hL _ t_M) (by decide) eC), (hu.at (lo_k11_7 hL _ t_M) (by decide) eA), hWF, hRI, ⟨hl, hs, hr, hq9, hv, hw, ho, hp, _, hu.at (lo_k11_30 hL _ t_M) (by decide) eLI, hu.at (lo_k11_31 hL _ t_M) (by decide) eSI, hu.at (lo_k11_33 hL _ t_M) (by decide) eRE, hu.at (lo_k11_34 hL _ t_M) (by decide) eRS, hu.at (lo_k11_26 hL _ t_M) (by decide) eVL, hu.at (lo_k11_27 hL _ t_M) (by decide) eVS, hu.at (lo_k11_28 hL _ t_M) (by decide) eOL, hu.at (lo_k11_29 hL _ t_M) (by decide) eOS, eI1, c6LI, c6RE, c6RS, c6VL, c6OL, MVO_give hmo (by have := z2.1; have := z2.2.1; omega)⟩⟩⟩
    · rw [gv_n z2]
      exact ⟨Or.inl z1, ⟨fun z => absurd (z1.symm.trans z) (by decide), fun z => absurd z z2⟩, ⟨nI 0, mdr, msz, mix, mdp, mwt, mop, mtp, mwa, mgi, mpc, mst, mtr, msp, mma, mlg, mdu, hC, hA, dpf, eM1, ⟨by omega, by omega, by omega, by omega, by omega, by omega, by omega, by omega, by omega, by omega, by omega, by omega, by omega, by omega, hmb14⟩, (hu.at (lo_k11_1 hL _ t_M) (by decide) eT), cT, (hu.at (lo_k11_6 hL _ t_M) (by decide) eC), (hu.at (lo_k11_7 hL _ t_M) (by decide) eA), hWF, hRI, ⟨hl, hs, hr, hq9, hv, hw, ho, hp, hi, hu.at (lo_k11_30 hL _ t_M) (by decide) eLI, hu.at (lo_k11_31 hL _ t_M) (by decide) eSI, hu.at (lo_k11_33 hL _ t_M) (by decide) eRE, hu.at (lo_k11_34 hL _ t_M) (by decide) eRS, hu.at (lo_k11_26 hL _ t_M) (by decide) eVL, hu.at (lo_k11_27 hL _ t_M) (by decide) eVS, hu.at (lo_k11_28 hL _ t_M) (by decide) eOL, hu.at (lo_k11_29 hL _ t_M) (by decide) eOS, eI1, c6LI, c6RE, c6RS, c6VL, c6OL, hmo⟩⟩⟩
  exact ⟨⟨r, f1, q1, ⟨hq8, hI1, hu.wd (by decide)⟩, q5⟩, q6⟩
set_option maxHeartbeats 4000000 in
set_option maxRecDepth 100000 in
theorem k7_mrun (l : Launch) (g : Lay) (sz : Nat) (f : Nat → va_E) (M : Nat) (n : Nat) (hT : Nat → Int32) (sg : GS) (vn : Int32) (hL : LO g) (t_M : g.tg M = 11) (hI : IV g f) (hJ : MV2 g M f n hT sg) : Met l ⟨"BigRunnerModel", "run", "(I)I"⟩ [Cond.code ⟨"BigRunnerModel", "run", "(I)I"⟩ prog_12_method_45_code 3 (some .int)] ({ frames := 5, cells := 0, slots := 0, locals := 124 }) (va_Pc [.ref M, .int vn] (pc_in g sz f)) (va_Qi (fun r f1 => (r = nI (prG sg vn).2.1 ∧ THf f1 M (nI (prG sg vn).1) ∧ MV2 g M f1 n hT (prG sg vn).2.2) ∧ (IV g f1) ∧ (un [11, 40, 41, 42, 43, 44, 45, 46, 47, 48, 49, 50, 51, 52, 53, 54, 55, 56, 57, 58, 59, 60, 61, 62, 63, 64, 65, 66] g f f1)) (pc_out g sz) (pc_A g sz)) 0 0 (pc_A g sz) := by
  obtain ⟨mth, mdr, msz, mix, mdp, mwt, mop, mtp, mwa, mgi, mpc, mst, mtr, msp, mma, mlg, mdu, hC, hA, dpf, eM, hMB, eT, cT, eC, eA, hWF, hRI, hmv⟩ := hJ
  obtain ⟨o, s9⟩ := sg
  cases o with
  | none =>
    have hmv0 := hmv
    obtain ⟨-, -, -, -, -, -, -, -, -, -, -, -, -, -, -, -, -, -, -, -, -, -, -, hm0, -⟩ := hmv
    refine pm_mono (w_runN l g sz f M mth n mdr msz mix mdp mwt mop mtp mwa mgi mpc mst mtr msp mma mlg mdu vn hL t_M hI eM hMB hm0) ?_
    obtain ⟨hmb0, hmb1, hmb2, hmb3, hmb4, hmb5, hmb6, hmb7, hmb8, hmb9, hmb10, hmb11, hmb12, hmb13, hmb14⟩ := hMB
    rintro a9 st9 o9 t9 ⟨⟨r, f1, q1, ⟨eM1, hrr, hI1, hu⟩, q5⟩, q6⟩
    exact ⟨⟨r, f1, q1, ⟨⟨hrr, ⟨_, eM1⟩, ⟨nI 1, mdr, msz, mix, mdp, mwt, mop, mtp, mwa, mgi, mpc, mst, mtr, msp, mma, mlg, mdu, hC, hA, dpf, eM1, ⟨by omega, by omega, by omega, by omega, by omega, by omega, by omega, by omega, by omega, by omega, by omega, by omega, by omega, by omega, hmb14⟩, (hu.at (lo_k11_1 hL _ t_M) (by decide) eT), cT, (hu.at (lo_k11_6 hL _ t_M) (by decide) eC), (hu.at (lo_k11_7 hL _ t_M) (by decide) eA), hWF, hRI, MVS_un hL t_M hmv0 hu (by decide)⟩⟩, hI1, hu.wd (by decide)⟩, q5⟩, q6⟩
  | some L =>
    obtain ⟨hl, hs, hr, hq9, hv, hw, ho, hp, hi, eLI, eSI, eRE, eRS, eVL, eVS, eOL, eOS, eIN, c6LI, c6RE, c6RS, c6VL, c6OL, hmo⟩ := hmv
    obtain ⟨hMCL, hMQ, hst0, hMS⟩ := hmo
    refine pm_mono (w_run l g sz f M mth n mdr msz mix mdp mwt mop mtp mwa mgi mpc mst mtr msp mma mlg mdu hC hA dpf hl hs hr hq9 hv hw ho hp hi L s9 vn hL t_M hI eM hMB eC eA hWF hRI eLI eSI eRE eRS eVL eVS eOL eOS eIN c6LI c6RE c6RS c6VL c6OL hMCL hMQ hst0 hMS) ?_
    obtain ⟨hmb0, hmb1, hmb2, hmb3, hmb4, hmb5, hmb6, hmb7, hmb8, hmb9, hmb10, hmb11, hmb12, hmb13, hmb14⟩ := hMB
    rintro a9 st9 o9 t9 ⟨⟨r, f1, q1, ⟨⟨th1, tp1, wa1, gi1, pc1, st1, tr1, sp1, ma1, lg1, c0, c1, c2, c3, c4, c5, c6, c7, c8, cth, ⟨al, as, ar, aq, av, aw, ao, ap, ai, fLI, fSI, fRE, fRS, fVL, fVS, fOL, fOS, fIN, d1, d2, d3, d4, d5, hmq, hms⟩, eM1⟩, hrr, hpb, hI1, hu⟩, q5⟩, q6⟩
    exact ⟨⟨r, f1, q1, ⟨⟨hrr, (show THf f1 M (nI (prunA L vn.toInt s9).1) from ⟨_, cth ▸ eM1⟩), ⟨th1, mdr, msz, mix, mdp, mwt, mop, tp1, wa1, gi1, pc1, st1, tr1, sp1, ma1, lg1, mdu, hC, hA, dpf, eM1, ⟨by omega, by omega, by omega, by omega, by omega, by omega, by omega, by omega, by omega, by omega, by omega, by omega, by omega, by omega, hmb14⟩, (hu.at (lo_k11_1 hL _ t_M) (by decide) eT), cT, (hu.at (lo_k11_6 hL _ t_M) (by decide) eC), (hu.at (lo_k11_7 hL _ t_M) (by decide) eA), hWF, c7, ⟨al, as, ar, aq, av, aw, ao, ap, ai, fLI, fSI, fRE, fRS, fVL, fVS, fOL, fOS, fIN, d1, d2, d3, d4, d5, hMCL, hmq, c8, hms⟩⟩⟩, hI1, hu.wd (by decide)⟩, q5⟩, q6⟩
theorem MCL_of {c1 a1 : Nat → Int32} {dpf : Nat → Nat} {n1 N : Nat} {h : Nat → Int32} {L : List (Nat × Nat)} (hL9 : L = ox_s (tk h N) (vc h N) 400 1 1 0 0) (hW : WF c1 a1 dpf n1) (hl : n1 = L.length) (hd : DS c1 a1 0 L) (hk : px_s (tk h N) 400 1 1 0 = some N) : MCL c1 a1 dpf n1 L := by
  have hc : CLc c1 a1 L := fun p hp => by have := CLc_of _ 0 hd p hp; rw [Nat.zero_add] at this; exact this
  have hk0 : ckd 0 L = true := by
    have := (ox_s_d (tk h N) (vc h N) 400).2 1 0 N 0 hk [] rfl
    rw [List.append_nil] at this
    rw [hL9]; exact this
  refine ⟨hl.symm, fun p hp => ?_, dp_1 hW hl.symm hc (by rw [hL9]; exact ox_s_b.1) hk0⟩
  have hm : at_ L p ∈ L := by
    unfold at_
    rw [List.getD_eq_getElem?_getD, List.getElem?_eq_getElem (by omega)]
    exact List.getElem_mem _
  have hm2 := hm
  rw [hL9] at hm2
  have hB := ox_LB (h := h) (n := N) _ hm2
  have hz := ox_s_z _ _ _ _ _ _ _ _ hm2
  have hj := ox_s_j _ _ _ _ _ _ _ _ hm2
  rw [← hL9] at hB hz hj
  obtain ⟨hc1, hc2⟩ := hc p (by omega)
  obtain ⟨b1, b2, b3⟩ := hB
  have hs := hW.1
  refine ⟨hc1, hc2, b1, ?_, b2⟩
  rcases (show (at_ L p).1 < 2 ∨ ((2 ≤ (at_ L p).1 ∧ (at_ L p).1 < 8) ∨ (at_ L p).1 = 10) ∨ ((at_ L p).1 = 8 ∨ (at_ L p).1 = 9) ∨ 11 ≤ (at_ L p).1 by omega) with z | z | z | z
  · have := b2 z; omega
  · have := hz z; omega
  · exact b3 z
  · have := hj z; omega
set_option maxHeartbeats 4000000 in
set_option maxRecDepth 100000 in
theorem k7_mload (l : Launch) (g : Lay) (sz : Nat) (f : Nat → va_E) (M : Nat) (n : Nat) (hT : Nat → Int32) (sg : GS) (hL : LO g) (t_M : g.tg M = 11) (hI : IV g f) (hJ : MV2 g M f n hT sg) : Met l ⟨"BigRunnerModel", "load", "()I"⟩ [Cond.code ⟨"BigRunnerModel", "load", "()I"⟩ prog_12_method_40_code 2 (some .int)] ({ frames := 6, cells := 0, slots := 0, locals := 144 }) (va_Pc [.ref M] (pc_in g sz f)) (va_Qi (fun r f1 => ((px_s (tk hT n) 400 1 1 0 = some n → MV2 g M f1 0 hT (some (ox_s (tk hT n) (vc hT n) 400 1 1 0 0), PS.mk (fun _ => 0) sg.2.ins [] 0 0 0)) ∧ (px_s (tk hT n) 400 1 1 0 ≠ some n → MV2 g M f1 n hT sg)) ∧ (IV g f1) ∧ (un [11, 40, 41, 42, 43, 44, 45, 46, 47, 48, 49, 50, 51, 52, 53, 54, 55, 56, 57, 58, 59, 60, 61, 62, 63, 64, 65, 66] g f f1)) (pc_out g sz) (pc_A g sz)) 0 0 (pc_A g sz) := by
  have hJ0 := hJ
  obtain ⟨mth, mdr, msz, mix, mdp, mwt, mop, mtp, mwa, mgi, mpc, mst, mtr, msp, mma, mlg, mdu, hC, hA, dpf, eM, hMB, eT, cT, eC, eA, hWF, hRI, hmv⟩ := hJ
  obtain ⟨hn72, -⟩ := (⟨hMB.1, trivial⟩ : n ≤ 72 ∧ True)
  have hpx := px_fin (tk hT n) n (tk_end hT n) (by omega) (F := 400) (by decide)
  have hoxf : px_s (tk hT n) 400 1 1 0 = some n → oy_r (tk hT n) (vc hT n) n 400 0 [] [] 1 true = (ox_s (tk hT n) (vc hT n) 400 1 1 0 0) := fun z => ox_fin (tk hT n) (vc hT n) (vk_tk hT n) n (tk_end hT n) (by omega) z
  have hLB9 : py_r (tk hT n) n 400 0 [] 1 true = true → ∀ x, x ∈ oy_r (tk hT n) (vc hT n) n 400 0 [] [] 1 true → LB x := fun z => by rw [hoxf (of_decide_eq_true (hpx.symm.trans z))]; exact ox_LB
  have hmv0 := hmv
  obtain ⟨hl, hs, hr, hq9, hv, hw, ho, hp, hi, eLI, eSI, eRE, eRS, eVL, eVS, eOL, eOS, eIN, c6LI, c6RE, c6RS, c6VL, c6OL, hmo⟩ := hmv
  refine pm_mono (w_load l g sz f M mth n mdr msz mix mdp mwt mop mtp mwa mgi mpc mst mtr msp mma mlg mdu hT hC hA hL t_M hI eM hMB eT cT eC eA hLB9) ?_
  obtain ⟨hmb0, hmb1, hmb2, hmb3, hmb4, hmb5, hmb6, hmb7, hmb8, hmb9, hmb10, hmb11, hmb12, hmb13, hmb14⟩ := hMB
  rintro a9 st9 o9 t9 ⟨⟨r, f1, q1, ⟨hq, hI1, hu⟩, q5⟩, q6⟩
  have hq8 : (px_s (tk hT n) 400 1 1 0 = some n → MV2 g M f1 0 hT (some (ox_s (tk hT n) (vc hT n) 400 1 1 0 0), PS.mk (fun _ => 0) sg.2.ins [] 0 0 0)) ∧ (px_s (tk hT n) 400 1 1 0 ≠ some n → MV2 g M f1 n hT sg) := by
    rcases hq with ⟨ix1, dp1, n1, wt1, tp1, c1, a1, dpf1, z1, d1, d2, d3, d4, d5, w1, w2, ⟨wl, wd, hv8, hw8, eV8, eW8, cV8, hVR8⟩, w3, w4, eM1, eC1, eA1⟩ | ⟨z1, ⟨fb, ix1, op1, dp1, dr1, wt1, d1, d2, d3, d4, d5, d6, eM1⟩, eC1, eA1, hun9⟩
    · have z2 : px_s (tk hT n) 400 1 1 0 = some n := of_decide_eq_true (hpx.symm.trans z1)
      rw [hoxf z2] at wl wd
      have hcl := MCL_of (h := hT) (N := n) rfl w1 wl wd z2
      have hn0 : 0 < n1 := (w2 (Or.inl rfl)).1
      exact ⟨fun _ => ⟨nI 0, n1, n1, ix1, dp1, wt1, 0, tp1, mwa, 0, 0, 1, 0, 0, nI 0, nI 0, nI 0, c1, a1, dpf1, eM1, ⟨by omega, by omega, by omega, by omega, by omega, by omega, by omega, by omega, by omega, by omega, by omega, by omega, by omega, by omega, Or.inl rfl⟩, (hu.at (lo_k11_1 hL _ t_M) (by decide) eT), cT, eC1, eA1, w1, w2, ⟨hl, hs, hr, hq9, hv8, hw8, ho, hp, hi, hu.at (lo_k11_30 hL _ t_M) (by decide) eLI, hu.at (lo_k11_31 hL _ t_M) (by decide) eSI, hu.at (lo_k11_33 hL _ t_M) (by decide) eRE, hu.at (lo_k11_34 hL _ t_M) (by decide) eRS, eV8, eW8, hu.at (lo_k11_28 hL _ t_M) (by decide) eOL, hu.at (lo_k11_29 hL _ t_M) (by decide) eOS, hu.at (lo_k11_35 hL _ t_M) (by decide) eIN, c6LI, c6RE, c6RS, cV8, c6OL, hcl, ⟨hVR8, (fun k9 _ h9 => absurd h9 (by show ¬ k9 < 0; omega)), (show INM hi mwa sg.2.ins from MVO_ins hmo), rfl, rfl, rfl, fun _ => rfl⟩, by decide, ⟨fun z => absurd z (by decide), fun z => by rcases z with z | z; exact absurd rfl z; exact absurd (show 0 = _ from z) (by rw [← wl]; omega)⟩⟩⟩, fun z => absurd z2 z⟩
    · have z2 : px_s (tk hT n) 400 1 1 0 ≠ some n := of_decide_eq_false (hpx.symm.trans z1)
      exact ⟨fun z => absurd z z2, fun _ => ⟨nI 1, dr1, msz, ix1, dp1, wt1, op1, mtp, mwa, mgi, mpc, mst, mtr, msp, mma, mlg, nI fb, hC, hA, dpf, eM1, ⟨by omega, by omega, by omega, by omega, by omega, by omega, by omega, by omega, by omega, by omega, by omega, by omega, by omega, by omega, (by rcases (show fb = 0 ∨ fb = 1 by omega) with y | y <;> rw [y] <;> decide)⟩, (hu.at (lo_k11_1 hL _ t_M) (by decide) eT), cT, eC1, eA1, hWF, hRI, MVS_un hL t_M hmv0 hun9 (by decide)⟩⟩
  exact ⟨⟨r, f1, q1, ⟨hq8, hI1, hu.wd (by decide)⟩, q5⟩, q6⟩

