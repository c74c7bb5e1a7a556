set_option maxHeartbeats 4000000 in
set_option maxRecDepth 100000 in
theorem k3_mbound2 (l : Launch) (g : Lay) (sz : Nat) (f : Nat → va_E) (M : Nat) (n : Nat) (hT : Nat → Int32) (sg : Option (Nat → IVL)) (v : Int32) (gr : Int32) (hL : LO g) (t_M : g.tg M = 11) (hI : IV g f) (hJ : MK g M f n hT sg) : Met l ⟨"BigRunnerModel", "bound", "(IZ)J"⟩ [Cond.code ⟨"BigRunnerModel", "bound", "(IZ)J"⟩ prog_12_method_47_code 4 (some .long)] ({ frames := 0, cells := 0, slots := 0, locals := 0 }) (va_Pc [.ref M, .int v, .int gr] (pc_in g sz f)) (va_Ql (fun r f1 => (((bnd sg v gr).1 = 0 → r = (bnd sg v gr).2) ∧ THf f1 M (nI (bnd sg v gr).1) ∧ MK g M f1 n hT sg) ∧ (IV g f1) ∧ (un [11, 40, 41, 42, 43, 44, 45, 46, 47, 48, 49, 50, 51, 52, 53, 54, 55, 56, 57, 58, 59, 60, 61, 62, 63, 64, 65, 66] g f f1)) (pc_out g sz) (pc_A g sz)) 0 0 (pc_A g sz) := by
  obtain ⟨mth, mdr, msz, mix, mdp, mwt, mop, mtp, mwa, mgi, mpc, mst, mtr, msp, mma, mlg, mdu, hC, hA, dpf, eM, hMB, eT, cT, eC, eA, hWF, hRI, hme⟩ := hJ
  have hme0 := hme
  by_cases hvk : vok v = true
  · cases sg with
    | none =>
      refine pm_mono (m3_boundOut l g sz f M mth n mdr msz mix mdp mwt mop mtp mwa mgi mpc mst mtr msp mma mlg mdu v gr hL t_M hI eM hMB (Or.inr hme)) ?_
      obtain ⟨hmb0, hmb1, hmb2, hmb3, hmb4, hmb5, hmb6, hmb7, hmb8, hmb9, hmb10, hmb11, hmb12, hmb13, hmb14⟩ := hMB
      rintro a9 st9 o9 t9 ⟨⟨r, f1, q1, ⟨eM1, hI1, hu⟩, q5⟩, q6⟩
      exact ⟨⟨r, f1, q1, ⟨⟨(fun z => absurd z (by rw [show bnd none v gr = (1, nL 0) from rfl]; decide)), ⟨_, (by rw [show bnd none v gr = (1, nL 0) from rfl]; exact eM1)⟩, ⟨nI 1, mdr, msz, mix, mdp, mwt, mop, mtp, mwa, mgi, mpc, mst, mtr, msp, mma, mlg, mdu, hC, hA, dpf, eM1, ⟨by omega, by omega, by omega, by omega, by omega, by omega, by omega, by omega, by omega, by omega, by omega, by omega, by omega, by omega, hmb14⟩, (hu.at (lo_k11_1 hL _ t_M) (by decide) eT), cT, (hu.at (lo_k11_6 hL _ t_M) (by decide) eC), (hu.at (lo_k11_7 hL _ t_M) (by decide) eA), hWF, hRI, hme0.un hL t_M hu (by decide)⟩⟩, hI1, hu.wd (by decide)⟩, q5⟩, q6⟩
    | some en =>
      obtain ⟨k9, hk, rfl⟩ := vok_k hvk
      obtain ⟨hm0, lw, hg9, un9, ov, eLW, eHG, eUN, eOV, hVR⟩ := hme
      refine pm_mono (m3_boundIn l g sz f M mth n mdr msz mix mdp mwt mop mtp mwa mgi mpc mst mtr msp mma mlg mdu lw hg9 un9 ov en k9 gr hL t_M hI eM hMB eLW eHG eUN eOV hk (Nat.pos_of_ne_zero hm0) hVR) ?_
      obtain ⟨hmb0, hmb1, hmb2, hmb3, hmb4, hmb5, hmb6, hmb7, hmb8, hmb9, hmb10, hmb11, hmb12, hmb13, hmb14⟩ := hMB
      rintro a9 st9 o9 t9 ⟨⟨r, f1, q1, ⟨hq, eM1, hI1, hu⟩, q5⟩, q6⟩
      exact ⟨⟨r, f1, q1, ⟨⟨(fun _ => by rw [bnd_k hk]; exact hq), ⟨_, (by rw [bnd_k hk]; exact eM1)⟩, ⟨nI (obn (bsel en k9 gr)).1, mdr, msz, mix, mdp, mwt, mop, mtp, mwa, mgi, mpc, mst, mtr, msp, mma, mlg, mdu, hC, hA, dpf, eM1, ⟨by omega, by omega, by omega, by omega, by omega, by omega, by omega, by omega, by omega, by omega, by omega, by omega, by omega, by omega, hmb14⟩, (hu.at (lo_k11_1 hL _ t_M) (by decide) eT), cT, (hu.at (lo_k11_6 hL _ t_M) (by decide) eC), (hu.at (lo_k11_7 hL _ t_M) (by decide) eA), hWF, hRI, hme0.un hL t_M hu (by decide)⟩⟩, hI1, hu.wd (by decide)⟩, q5⟩, q6⟩
  · have hvf := Bool.eq_false_iff.mpr hvk
    refine pm_mono (m3_boundOut l g sz f M mth n mdr msz mix mdp mwt mop mtp mwa mgi mpc mst mtr msp mma mlg mdu v gr hL t_M hI eM hMB (Or.inl hvf)) ?_
    obtain ⟨hmb0, hmb1, hmb2, hmb3, hmb4, hmb5, hmb6, hmb7, hmb8, hmb9, hmb10, hmb11, hmb12, hmb13, hmb14⟩ := hMB
    rintro a9 st9 o9 t9 ⟨⟨r, f1, q1, ⟨eM1, hI1, hu⟩, q5⟩, q6⟩
    exact ⟨⟨r, f1, q1, ⟨⟨(fun z => absurd z (by rw [bnd_o hvf]; decide)), ⟨_, (by rw [bnd_o hvf]; exact eM1)⟩, ⟨nI 1, mdr, msz, mix, mdp, mwt, mop, mtp, mwa, mgi, mpc, mst, mtr, msp, mma, mlg, mdu, hC, hA, dpf, eM1, ⟨by omega, by omega, by omega, by omega, by omega, by omega, by omega, by omega, by omega, by omega, by omega, by omega, by omega, by omega, hmb14⟩, (hu.at (lo_k11_1 hL _ t_M) (by decide) eT), cT, (hu.at (lo_k11_6 hL _ t_M) (by decide) eC), (hu.at (lo_k11_7 hL _ t_M) (by decide) eA), hWF, hRI, hme0.un hL t_M hu (by decide)⟩⟩, hI1, hu.wd (by decide)⟩, q5⟩, q6⟩

