theorem MVO_out {hC hA : Nat → Int32} {dpf : Nat → Nat} {msz mst mwa mgi msp mtr mpc : Nat} {hv hw ho hp hi : Nat → Int32} {o : Option (List (Nat × Nat))} {s : PS} (h : MVO hC hA dpf msz mst mwa mgi msp mtr mpc hv hw ho hp hi o s) : OUM ho hp s.outs ∧ mgi = s.outs.length := by
  cases o with
  | none => exact ⟨fun k _ h9 => absurd h9 (by rw [h.2.2.1]; exact Nat.not_lt_zero k), by rw [h.2.2.1, h.2.1]; rfl⟩
  | some L => exact ⟨h.2.1.2.1, h.2.1.2.2.2.1⟩
theorem MVO_var {hC hA : Nat → Int32} {dpf : Nat → Nat} {msz mst mwa mgi msp mtr mpc : Nat} {hv hw ho hp hi : Nat → Int32} {o : Option (List (Nat × Nat))} {s : PS} (h : MVO hC hA dpf msz mst mwa mgi msp mtr mpc hv hw ho hp hi o s) : (0 < mst → VRS hv hw s.vr) ∧ (0 < mst ↔ o ≠ none) := by
  cases o with
  | none => exact ⟨fun z => absurd h.1 (by omega), fun z => absurd h.1 (by omega), fun z => absurd rfl z⟩
  | some L => exact ⟨fun _ => h.2.1.1, fun _ z => (by cases z), fun _ => Nat.pos_of_ne_zero h.2.2.1⟩
set_option maxHeartbeats 4000000 in
set_option maxRecDepth 100000 in
theorem k8_mvariable (l : Launch) (g : Lay) (sz : Nat) (f : Nat → va_E) (M : Nat) (n : Nat) (hT : Nat → Int32) (sg : GS) (v : Int32) (kk : Int32) (hL : LO g) (t_M : g.tg M = 11) (hI : IV g f) (hJ : MV2 g M f n hT sg) : Met l ⟨"BigRunnerModel", "variable", "(II)I"⟩ [Cond.code ⟨"BigRunnerModel", "variable", "(II)I"⟩ prog_12_method_50_code 4 (some .int)] ({ frames := 2, cells := 0, slots := 0, locals := 51 }) (va_Pc [.ref M, .int v, .int kk] (pc_in g sz f)) (va_Qi (fun r f1 => ((vaok sg v kk → TQ (sg.2.vr v.toNatClampNeg) kk r ∧ THf f1 M (nI 0)) ∧ (¬ vaok sg v kk → THf f1 M (nI 1)) ∧ MV2 g M f1 n hT sg) ∧ (IV g f1) ∧ (un [11, 40, 41, 42, 43, 44, 45, 46, 47, 48, 49, 50, 51, 52, 53, 54, 55, 56, 57, 58, 59, 60, 61, 62, 63, 64, 65, 66] g f f1)) (pc_out g sz) (pc_A g sz)) 0 0 (pc_A g sz) := by
  have hJ0 := hJ
  obtain ⟨mth, mdr, msz, mix, mdp, mwt, mop, mtp, mwa, mgi, mpc, mst, mtr, msp, mma, mlg, mdu, hC, hA, dpf, eM, hMB, eT, cT, eC, eA, hWF, hRI, hmv⟩ := hJ
  have hmv0 := hmv
  obtain ⟨hl, hs, hr, hq9, hv, hw, ho, hp, hi, eLI, eSI, eRE, eRS, eVL, eVS, eOL, eOS, eIN, c6LI, c6RE, c6RS, c6VL, c6OL, hmo⟩ := hmv
  have hva9 := MVO_var hmo
  refine pm_mono (w_variable l g sz f M mth n mdr msz mix mdp mwt mop mtp mwa mgi mpc mst mtr msp mma mlg mdu hv hw sg.2.vr v kk hL t_M hI eM hMB eVL eVS c6VL hva9.1) ?_
  obtain ⟨hmb0, hmb1, hmb2, hmb3, hmb4, hmb5, hmb6, hmb7, hmb8, hmb9, hmb10, hmb11, hmb12, hmb13, hmb14⟩ := hMB
  rintro a9 st9 o9 t9 ⟨⟨r, f1, q1, ⟨hq, hI1, hu⟩, q5⟩, q6⟩
  have hq8 : (vaok sg v kk → TQ (sg.2.vr v.toNatClampNeg) kk r ∧ THf f1 M (nI 0)) ∧ (¬ vaok sg v kk → THf f1 M (nI 1)) ∧ MV2 g M f1 n hT sg := by
    rcases hq with ⟨z1, z2, eM1⟩ | ⟨z1, eM1⟩
    · exact ⟨fun _ => ⟨z2, ⟨_, eM1⟩⟩, fun z => absurd ⟨hva9.2.mp z1.1, z1.2⟩ z, ⟨nI 0, mdr, msz, mix, mdp, mwt, mop, mtp, mwa, mgi, mpc, mst, mtr, msp, mma, mlg, mdu, hC, hA, dpf, eM1, ⟨by omega, by omega, by omega, by omega, by omega, by omega, by omega, by omega, by omega, by omega, by omega, by omega, by omega, by omega, hmb14⟩, (hu.at (lo_k11_1 hL _ t_M) (by decide) eT), cT, (hu.at (lo_k11_6 hL _ t_M) (by decide) eC), (hu.at (lo_k11_7 hL _ t_M) (by decide) eA), hWF, hRI, MVS_un hL t_M hmv0 hu (by decide)⟩⟩
    · exact ⟨fun z => absurd ⟨hva9.2.mpr z.1, z.2⟩ z1, fun _ => ⟨_, eM1⟩, ⟨nI 1, mdr, msz, mix, mdp, mwt, mop, mtp, mwa, mgi, mpc, mst, mtr, msp, mma, mlg, mdu, hC, hA, dpf, eM1, ⟨by omega, by omega, by omega, by omega, by omega, by omega, by omega, by omega, by omega, by omega, by omega, by omega, by omega, by omega, hmb14⟩, (hu.at (lo_k11_1 hL _ t_M) (by decide) eT), cT, (hu.at (lo_k11_6 hL _ t_M) (by decide) eC), (hu.at (lo_k11_7 hL _ t_M) (by decide) eA), hWF, hRI, MVS_un hL t_M hmv0 hu (by decide)⟩⟩
  exact ⟨⟨r, f1, q1, ⟨hq8, hI1, hu.wd (by decide)⟩, q5⟩, q6⟩
set_option maxHeartbeats 4000000 in
set_option maxRecDepth 100000 in
theorem k8_moutput (l : Launch) (g : Lay) (sz : Nat) (f : Nat → va_E) (M : Nat) (n : Nat) (hT : Nat → Int32) (sg : GS) (v : Int32) (kk : Int32) (hL : LO g) (t_M : g.tg M = 11) (hI : IV g f) (hJ : MV2 g M f n hT sg) : Met l ⟨"BigRunnerModel", "output", "(II)I"⟩ [Cond.code ⟨"BigRunnerModel", "output", "(II)I"⟩ prog_12_method_51_code 4 (some .int)] ({ frames := 2, cells := 0, slots := 0, locals := 51 }) (va_Pc [.ref M, .int v, .int kk] (pc_in g sz f)) (va_Qi (fun r f1 => ((ook sg.2.outs v kk → TQ (sg.2.outs.getD v.toNatClampNeg 0) kk r ∧ THf f1 M (nI 0)) ∧ (¬ ook sg.2.outs v kk → THf f1 M (nI 1)) ∧ MV2 g M f1 n hT sg) ∧ (IV g f1) ∧ (un [11, 40, 41, 42, 43, 44, 45, 46, 47, 48, 49, 50, 51, 52, 53, 54, 55, 56, 57, 58, 59, 60, 61, 62, 63, 64, 65, 66] g f f1)) (pc_out g sz) (pc_A g sz)) 0 0 (pc_A g sz) := by
  have hJ0 := hJ
  obtain ⟨mth, mdr, msz, mix, mdp, mwt, mop, mtp, mwa, mgi, mpc, mst, mtr, msp, mma, mlg, mdu, hC, hA, dpf, eM, hMB, eT, cT, eC, eA, hWF, hRI, hmv⟩ := hJ
  have hmv0 := hmv
  obtain ⟨hl, hs, hr, hq9, hv, hw, ho, hp, hi, eLI, eSI, eRE, eRS, eVL, eVS, eOL, eOS, eIN, c6LI, c6RE, c6RS, c6VL, c6OL, hmo⟩ := hmv
  have hmo9 := MVO_out hmo
  refine pm_mono (w_output l g sz f M mth n mdr msz mix mdp mwt mop mtp mwa mgi mpc mst mtr msp mma mlg mdu ho hp sg.2.outs v kk hL t_M hI eM hMB eOL eOS c6OL hmo9.1 hmo9.2) ?_
  obtain ⟨hmb0, hmb1, hmb2, hmb3, hmb4, hmb5, hmb6, hmb7, hmb8, hmb9, hmb10, hmb11, hmb12, hmb13, hmb14⟩ := hMB
  rintro a9 st9 o9 t9 ⟨⟨r, f1, q1, ⟨hq, hI1, hu⟩, q5⟩, q6⟩
  have hq8 : (ook sg.2.outs v kk → TQ (sg.2.outs.getD v.toNatClampNeg 0) kk r ∧ THf f1 M (nI 0)) ∧ (¬ ook sg.2.outs v kk → THf f1 M (nI 1)) ∧ MV2 g M f1 n hT sg := by
    rcases hq with ⟨z1, z2, eM1⟩ | ⟨z1, eM1⟩
    · exact ⟨fun _ => ⟨z2, ⟨_, eM1⟩⟩, fun z => absurd z1 z, ⟨nI 0, mdr, msz, mix, mdp, mwt, mop, mtp, mwa, mgi, mpc, mst, mtr, msp, mma, mlg, mdu, hC, hA, dpf, eM1, ⟨by omega, by omega, by omega, by omega, by omega, by omega, by omega, by omega, by omega, by omega, by omega, by omega, by omega, by omega, hmb14⟩, (hu.at (lo_k11_1 hL _ t_M) (by decide) eT), cT, (hu.at (lo_k11_6 hL _ t_M) (by decide) eC), (hu.at (lo_k11_7 hL _ t_M) (by decide) eA), hWF, hRI, MVS_un hL t_M hmv0 hu (by decide)⟩⟩
    · exact ⟨fun z => absurd z z1, fun _ => ⟨_, eM1⟩, ⟨nI 1, mdr, msz, mix, mdp, mwt, mop, mtp, mwa, mgi, mpc, mst, mtr, msp, mma, mlg, mdu, hC, hA, dpf, eM1, ⟨by omega, by omega, by omega, by omega, by omega, by omega, by omega, by omega, by omega, by omega, by omega, by omega, by omega, by omega, hmb14⟩, (hu.at (lo_k11_1 hL _ t_M) (by decide) eT), cT, (hu.at (lo_k11_6 hL _ t_M) (by decide) eC), (hu.at (lo_k11_7 hL _ t_M) (by decide) eA), hWF, hRI, MVS_un hL t_M hmv0 hu (by decide)⟩⟩
  exact ⟨⟨r, f1, q1, ⟨hq8, hI1, hu.wd (by decide)⟩, q5⟩, q6⟩

