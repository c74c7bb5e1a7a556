theorem jf_s {L : List (Nat × Nat)} {i a : Nat} (l : i < L.length) (q : at_ L i = (12, a)) : ∀ {k p : Nat}, jmpf L k p = i → jmpf L (k + 1) p = a := by
  intro k
  induction k with
  | zero =>
    intro p e
    have e : p = i := e
    subst e
    show (if p < L.length ∧ (at_ L p).1 = 12 then jmpf L 0 (at_ L p).2 else p) = _
    rw [if_pos ⟨l, by rw [q]⟩, q]
    rfl
  | succ k ih =>
    intro p e
    show (if p < L.length ∧ (at_ L p).1 = 12 then jmpf L (k + 1) (at_ L p).2 else p) = _
    have e2 : (if p < L.length ∧ (at_ L p).1 = 12 then jmpf L k (at_ L p).2 else p) = i := e
    by_cases z : p < L.length ∧ (at_ L p).1 = 12
    · rw [if_pos z] at e2 ⊢
      exact ih e2
    · rw [if_neg z] at e2
      exact absurd ⟨by rw [e2]; exact l, by rw [e2, q]⟩ z
set_option maxHeartbeats 4000000 in
set_option maxRecDepth 100000 in
theorem w_run (l : Launch) (g : Lay) (sz : Nat) (f : Nat → va_E) (M : Nat) (mth : Int32) (mn : Nat) (mdr : Nat) (msz : Nat) (mix : Nat) (mdp : Nat) (mwt : Nat) (mop : Nat) (mtp : Nat) (mwa : Nat) (mgi : Nat) (mpc : Nat) (mst : Nat) (mtr : Nat) (msp : Nat) (mma : Int32) (mlg : Int32) (mdu : Int32) (hC : Nat → Int32) (hA : Nat → Int32) (dpf : Nat → Nat) (hLI : Nat → Int32) (hSI : Nat → Int32) (hRE : Nat → Int32) (hRS : Nat → Int32) (hVL : Nat → Int32) (hVS : Nat → Int32) (hOL : Nat → Int32) (hOS : Nat → Int32) (hIN : Nat → Int32) (L : List (Nat × Nat)) (s9 : PS) (vn : Int32) (hL : LO g) (t_M : g.tg M = 11) (hI : IV g f) (eM : f M = .inr (10, [.int mth, .ref (g.lk M 1), .int (nI mn), .ref (g.lk M 3), .ref (g.lk M 4), .int (nI mdr), .ref (g.lk M 6), .ref (g.lk M 7), .ref (g.lk M 8), .int (nI msz), .int (nI mix), .int (nI mdp), .ref (g.lk M 12), .int (nI mwt), .ref (g.lk M 14), .ref (g.lk M 15), .int (nI mop), .ref (g.lk M 17), .ref (g.lk M 18), .ref (g.lk M 19), .ref (g.lk M 20), .ref (g.lk M 21), .ref (g.lk M 22), .ref (g.lk M 23), .ref (g.lk M 24), .ref (g.lk M 25), .ref (g.lk M 26), .ref (g.lk M 27), .ref (g.lk M 28), .ref (g.lk M 29), .ref (g.lk M 30), .ref (g.lk M 31), .int (nI mtp), .ref (g.lk M 33), .ref (g.lk M 34), .ref (g.lk M 35), .int (nI mwa), .int (nI mgi), .int (nI mpc), .int (nI mst), .int (nI mtr), .int (nI msp), .int mma, .int mlg, .int mdu])) (hMB : mn ≤ 72 ∧ mdr ≤ 100 ∧ msz ≤ 100 ∧ mix ≤ 100 ∧ mdp ≤ 20 ∧ mwt ≤ 72 ∧ mop ≤ 40 ∧ mtp ≤ 80 ∧ mwa ≤ 20 ∧ mgi ≤ msp ∧ mpc ≤ 100 ∧ mst ≤ 4 ∧ mtr ≤ 3 ∧ msp ≤ 3000 ∧ (mdu = 0 ∨ mdu = 1)) (eC : f (g.lk M 6) = .inl (g.ac (g.lk M 6), 100, .inl hC)) (eA : f (g.lk M 7) = .inl (g.ac (g.lk M 7), 100, .inl hA)) (hWF : WF hC hA dpf msz) (hRI : RI hC dpf msz mst mpc mtr) (eLI : f (g.lk M 30) = .inl (g.ac (g.lk M 30), 1600, .inl hLI)) (eSI : f (g.lk M 31) = .inl (g.ac (g.lk M 31), 80, .inl hSI)) (eRE : f (g.lk M 33) = .inl (g.ac (g.lk M 33), 44, .inl hRE)) (eRS : f (g.lk M 34) = .inl (g.ac (g.lk M 34), 44, .inl hRS)) (eVL : f (g.lk M 26) = .inl (g.ac (g.lk M 26), 200, .inl hVL)) (eVS : f (g.lk M 27) = .inl (g.ac (g.lk M 27), 10, .inl hVS)) (eOL : f (g.lk M 28) = .inl (g.ac (g.lk M 28), 240, .inl hOL)) (eOS : f (g.lk M 29) = .inl (g.ac (g.lk M 29), 12, .inl hOS)) (eIN : f (g.lk M 35) = .inl (g.ac (g.lk M 35), 20, .inl hIN)) (c6LI : C6 1600 hLI) (c6RE : C6 44 hRE) (c6RS : C6 44 hRS) (c6VL : C6 200 hVL) (c6OL : C6 240 hOL) (hMCL : MCL hC hA dpf msz L) (hMQ : MQ9 hVL hVS hOL hOS hIN mwa mgi msp mtr mpc s9) (hst0 : mst ≠ 0) (hMS : 2 < mst ↔ s9.tr ≠ 0 ∨ s9.pc = L.length) : Met l ⟨"BigRunnerModel", "run", "(I)I"⟩ [Cond.code ⟨"BigRunnerModel", "run", "(I)I"⟩ prog_12_method_45_code 3 (some .int)] ({ frames := 5, cells := 0, slots := 0, locals := 124 }) (va_Pc [.ref M, .int vn] (pc_in g sz f)) (va_Qi (fun r f1 => (∃ (th1 : Int32) (tp1 : Nat) (wa1 : Nat) (gi1 : Nat) (pc1 : Nat) (st1 : Nat) (tr1 : Nat) (sp1 : Nat) (ma1 : Int32) (lg1 : Int32), (tp1 ≤ 80) ∧ (wa1 ≤ 20) ∧ (gi1 ≤ sp1) ∧ (pc1 ≤ 100) ∧ (st1 ≤ 4) ∧ (tr1 ≤ 3) ∧ (sp1 ≤ 3000) ∧ (RI hC dpf msz st1 pc1 tr1) ∧ (st1 ≠ 0) ∧ (th1 = nI ((prunA L vn.toInt s9).1)) ∧ (∃ hl hs hr hq hv hw ho hp hi : Nat → Int32, f1 (g.lk M 30) = .inl (g.ac (g.lk M 30), 1600, .inl hl) ∧ f1 (g.lk M 31) = .inl (g.ac (g.lk M 31), 80, .inl hs) ∧ f1 (g.lk M 33) = .inl (g.ac (g.lk M 33), 44, .inl hr) ∧ f1 (g.lk M 34) = .inl (g.ac (g.lk M 34), 44, .inl hq) ∧ f1 (g.lk M 26) = .inl (g.ac (g.lk M 26), 200, .inl hv) ∧ f1 (g.lk M 27) = .inl (g.ac (g.lk M 27), 10, .inl hw) ∧ f1 (g.lk M 28) = .inl (g.ac (g.lk M 28), 240, .inl ho) ∧ f1 (g.lk M 29) = .inl (g.ac (g.lk M 29), 12, .inl hp) ∧ f1 (g.lk M 35) = .inl (g.ac (g.lk M 35), 20, .inl hi) ∧ C6 1600 hl ∧ C6 44 hr ∧ C6 44 hq ∧ C6 200 hv ∧ C6 240 ho ∧ MQ9 hv hw ho hp hi wa1 gi1 sp1 tr1 pc1 (prunA L vn.toInt s9).2.2 ∧ (2 < st1 ↔ (prunA L vn.toInt s9).2.2.tr ≠ 0 ∨ (prunA L vn.toInt s9).2.2.pc = L.length)) ∧ f1 M = .inr (10, [.int th1, .ref (g.lk M 1), .int (nI mn), .ref (g.lk M 3), .ref (g.lk M 4), .int (nI mdr), .ref (g.lk M 6), .ref (g.lk M 7), .ref (g.lk M 8), .int (nI msz), .int (nI mix), .int (nI mdp), .ref (g.lk M 12), .int (nI mwt), .ref (g.lk M 14), .ref (g.lk M 15), .int (nI mop), .ref (g.lk M 17), .ref (g.lk M 18), .ref (g.lk M 19), .ref (g.lk M 20), .ref (g.lk M 21), .ref (g.lk M 22), .ref (g.lk M 23), .ref (g.lk M 24), .ref (g.lk M 25), .ref (g.lk M 26), .ref (g.lk M 27), .ref (g.lk M 28), .ref (g.lk M 29), .ref (g.lk M 30), .ref (g.lk M 31), .int (nI tp1), .ref (g.lk M 33), .ref (g.lk M 34), .ref (g.lk M 35), .int (nI wa1), .int (nI gi1), .int (nI pc1), .int (nI st1), .int (nI tr1), .int (nI sp1), .int ma1, .int lg1, .int mdu])) ∧ (r = nI ((prunA L vn.toInt s9).2.1)) ∧ ((prunA L vn.toInt s9).2.1 ≤ 200) ∧ (IV g f1) ∧ (un [11, 58, 59, 60, 61, 62, 63, 64, 65, 66] g f f1)) (pc_out g sz) (pc_A g sz)) 0 0 (pc_A g sz) := by
  refine pe_ofW (cc := prog_12_method_45_code) (maxL := 3) (ret := (some .int)) (lv := [(0, .ref M), (1, .int vn)]) (by decide) (Nat.le_of_ble_eq_true rfl) rfl ?_
  intro p e s m args below meth c ls hx hb hr hml hlocks hown hB hP hK hD hsz hS hl
  subst hsz
  have hu : un [11, 58, 59, 60, 61, 62, 63, 64, 65, 66] g f f := un.rf
  obtain ⟨hmb0, hmb1, hmb2, hmb3, hmb4, hmb5, hmb6, hmb7, hmb8, hmb9, hmb10, hmb11, hmb12, hmb13, hmb14⟩ := hMB
  have hsz := hWF.1
  refine lv_aload_n hx hb d_M_run_0 rfl (lv_at hl 0 rfl) ?_
  refine lv_aload_n hx hb d_M_run_1 rfl (lv_at hl 0 rfl) ?_
  refine pf_get (v := .int (nI mst)) (C := "BigRunnerModel") (T := FT10) (N := 45) hx hb (hw10 hB _) (fun _ h9 => h9) hown hK hP (lo_in hL t_M (by decide)) eM rfl 39 (by decide) (wd_986 hB _) rfl d_M_run_2 ?_
  refine lv_if_eq (tgt := 16) hx hb d_M_run_5 (by decide) (fun b1 => ?_) (fun b1 => ?_)
  · skip
    replace b1 := (nI_eq (a := mst) (b := 0) (by omega) (by omega)).mp b1
    have hA9 : prunA L vn.toInt s9 = (1, 0, s9) := prA_1 (hMS.mp (by omega))
    refine lv_iconst (v := nI 1) hx hb d_M_run_16 (by decide) ?_
    refine lv_goto (tgt := 37) hx hb d_M_run_17 (by decide) ?_
    refine pf_put (v := .int (nI 1)) (ty := .int) (fs' := [.int (nI 1), .ref (g.lk M 1), .int (nI mn), .ref (g.lk M 3), .ref (g.lk M 4), .int (nI mdr), .ref (g.lk M 6), .ref (g.lk M 7), .ref (g.lk M 8), .int (nI msz), .int (nI mix), .int (nI mdp), .ref (g.lk M 12), .int (nI mwt), .ref (g.lk M 14), .ref (g.lk M 15), .int (nI mop), .ref (g.lk M 17), .ref (g.lk M 18), .ref (g.lk M 19), .ref (g.lk M 20), .ref (g.lk M 21), .ref (g.lk M 22), .ref (g.lk M 23), .ref (g.lk M 24), .ref (g.lk M 25), .ref (g.lk M 26), .ref (g.lk M 27), .ref (g.lk M 28), .ref (g.lk M 29), .ref (g.lk M 30), .ref (g.lk M 31), .int (nI mtp), .ref (g.lk M 33), .ref (g.lk M 34), .ref (g.lk M 35), .int (nI mwa), .int (nI mgi), .int (nI mpc), .int (nI mst), .int (nI mtr), .int (nI msp), .int mma, .int mlg, .int mdu]) (C := "BigRunnerModel") (T := FT10) (N := 45) hx hb (hw10 hB _) (fun _ h9 => h9) TY10 ok10 nm10 hown hK hP hD hS (lo_in hL t_M (by decide)) eM rfl 0 (by decide) (wd_947 hB _) rfl (by decide +kernel) rfl rfl (Nat.le_of_ble_eq_true rfl) rfl d_M_run_37 (fun f2 H locs e3 k4 hP hD hS => ?_)
    have eC := (k4 (g.lk M 6) (tg_ne (lo_k11_6 hL _ t_M) t_M (by decide))).trans eC
    have eA := (k4 (g.lk M 7) (tg_ne (lo_k11_7 hL _ t_M) t_M (by decide))).trans eA
    have eLI := (k4 (g.lk M 30) (tg_ne (lo_k11_30 hL _ t_M) t_M (by decide))).trans eLI
    have eSI := (k4 (g.lk M 31) (tg_ne (lo_k11_31 hL _ t_M) t_M (by decide))).trans eSI
    have eRE := (k4 (g.lk M 33) (tg_ne (lo_k11_33 hL _ t_M) t_M (by decide))).trans eRE
    have eRS := (k4 (g.lk M 34) (tg_ne (lo_k11_34 hL _ t_M) t_M (by decide))).trans eRS
    have eVL := (k4 (g.lk M 26) (tg_ne (lo_k11_26 hL _ t_M) t_M (by decide))).trans eVL
    have eVS := (k4 (g.lk M 27) (tg_ne (lo_k11_27 hL _ t_M) t_M (by decide))).trans eVS
    have eOL := (k4 (g.lk M 28) (tg_ne (lo_k11_28 hL _ t_M) t_M (by decide))).trans eOL
    have eOS := (k4 (g.lk M 29) (tg_ne (lo_k11_29 hL _ t_M) t_M (by decide))).trans eOS
    have eIN := (k4 (g.lk M 35) (tg_ne (lo_k11_35 hL _ t_M) t_M (by decide))).trans eIN
    have hu := hu.st k4 t_M (by decide)
    have hk5 : ∀ b, b ≠ M → f2 b = f b := k4
    refine lv_aload_n hx hb d_M_run_40 rfl (lv_at hl 0 rfl) ?_
    refine pf_get (v := .int (nI 1)) (C := "BigRunnerModel") (T := FT10) (N := 45) hx hb (hw10 hB _) (fun _ h9 => h9) hown hK hP (lo_in hL t_M (by decide)) e3 rfl 0 (by decide) (wd_947 hB _) rfl d_M_run_41 ?_
    refine lv_if_le (tgt := 49) hx hb d_M_run_44 (by decide) (fun b6 => ?_) (fun b6 => ?_)
    · skip
      replace b6 := (nI_leI (a := 1) (b := 0) (by omega) (by omega)).mp b6
      exfalso; omega
    · skip
      replace b6 := mt (nI_leI (a := 1) (b := 0) (by omega) (by omega)).mpr b6
      refine lv_iconst (v := nI 0) hx hb d_M_run_47 (by decide) ?_
      have hI7 := iv_1 hI hL t_M (by decide) hk5 (oc_11.mk t_M (⟨((nI 1)), mn, mdr, msz, mix, mdp, mwt, mop, mtp, mwa, mgi, mpc, mst, mtr, msp, mma, mlg, mdu, e3, (by omega), (by omega), (by omega), (by omega), (by omega), (by omega), (by omega), (by omega), (by omega), (by omega), (by omega), (by omega), (by omega), (by omega), hmb14⟩))
      exact pe_iret hx hb hr hlocks hK hP hD hS d_M_run_48 ⟨⟨(nI 1), mtp, mwa, mgi, mpc, mst, mtr, msp, mma, mlg, by omega, by omega, by omega, by omega, by omega, by omega, by omega, hRI, (by omega), (by rw [hA9]), ⟨_, _, _, _, _, _, _, _, _, eLI, eSI, eRE, eRS, eVL, eVS, eOL, eOS, eIN, c6LI, c6RE, c6RS, c6VL, c6OL, (by rw [hA9]; exact hMQ), (by rw [hA9]; exact hMS)⟩, e3⟩, (by rw [hA9]), (by rw [hA9]; show 0 ≤ 200; omega), hI7, hu⟩
  · skip
    replace b1 := mt (nI_eq (a := mst) (b := 0) (by omega) (by omega)).mpr b1
    refine lv_aload_n hx hb d_M_run_8 rfl (lv_at hl 0 rfl) ?_
    refine pf_get (v := .int (nI mst)) (C := "BigRunnerModel") (T := FT10) (N := 45) hx hb (hw10 hB _) (fun _ h9 => h9) hown hK hP (lo_in hL t_M (by decide)) eM rfl 39 (by decide) (wd_986 hB _) rfl d_M_run_9 ?_
    refine lv_iconst (v := nI 2) hx hb d_M_run_12 (by decide) ?_
    refine lv_icmp_le (tgt := 20) hx hb d_M_run_13 (by decide) (fun b8 => ?_) (fun b8 => ?_)
    · skip
      replace b8 := (nI_leI (a := mst) (b := 2) (by omega) (by omega)).mp b8
      have hns9 : ¬ (s9.tr ≠ 0 ∨ s9.pc = L.length) := fun z9 => by have := hMS.mpr z9; omega
      refine lv_iload_n hx hb d_M_run_20 rfl (lv_at hl 1 rfl) ?_
      refine lv_iconst (v := nI 1) hx hb d_M_run_21 (by decide) ?_
      refine lv_icmp_lt (tgt := 32) hx hb d_M_run_22 (by decide) (fun b9 => ?_) (fun b9 => ?_)
      · skip
        have hA9 : prunA L vn.toInt s9 = (2, 0, s9) := prA_2 hns9 (Or.inl (by have z9 := Int32.lt_iff_toInt_lt.mp b9; rw [ti_1] at z9; exact z9))
        refine lv_iconst (v := nI 2) hx hb d_M_run_32 (by decide) ?_
        refine lv_goto (tgt := 37) hx hb d_M_run_33 (by decide) ?_
        refine pf_put (v := .int (nI 2)) (ty := .int) (fs' := [.int (nI 2), .ref (g.lk M 1), .int (nI mn), .ref (g.lk M 3), .ref (g.lk M 4), .int (nI mdr), .ref (g.lk M 6), .ref (g.lk M 7), .ref (g.lk M 8), .int (nI msz), .int (nI mix), .int (nI mdp), .ref (g.lk M 12), .int (nI mwt), .ref (g.lk M 14), .ref (g.lk M 15), .int (nI mop), .ref (g.lk M 17), .ref (g.lk M 18), .ref (g.lk M 19), .ref (g.lk M 20), .ref (g.lk M 21), .ref (g.lk M 22), .ref (g.lk M 23), .ref (g.lk M 24), .ref (g.lk M 25), .ref (g.lk M 26), .ref (g.lk M 27), .ref (g.lk M 28), .ref (g.lk M 29), .ref (g.lk M 30), .ref (g.lk M 31), .int (nI mtp), .ref (g.lk M 33), .ref (g.lk M 34), .ref (g.lk M 35), .int (nI mwa), .int (nI mgi), .int (nI mpc), .int (nI mst), .int (nI mtr), .int (nI msp), .int mma, .int mlg, .int mdu]) (C := "BigRunnerModel") (T := FT10) (N := 45) hx hb (hw10 hB _) (fun _ h9 => h9) TY10 ok10 nm10 hown hK hP hD hS (lo_in hL t_M (by decide)) eM rfl 0 (by decide) (wd_947 hB _) rfl (by decide +kernel) rfl rfl (Nat.le_of_ble_eq_true rfl) rfl d_M_run_37 (fun f10 H locs e11 k12 hP hD hS => ?_)
        have eC := (k12 (g.lk M 6) (tg_ne (lo_k11_6 hL _ t_M) t_M (by decide))).trans eC
        have eA := (k12 (g.lk M 7) (tg_ne (lo_k11_7 hL _ t_M) t_M (by decide))).trans eA
        have eLI := (k12 (g.lk M 30) (tg_ne (lo_k11_30 hL _ t_M) t_M (by decide))).trans eLI
        have eSI := (k12 (g.lk M 31) (tg_ne (lo_k11_31 hL _ t_M) t_M (by decide))).trans eSI
        have eRE := (k12 (g.lk M 33) (tg_ne (lo_k11_33 hL _ t_M) t_M (by decide))).trans eRE
        have eRS := (k12 (g.lk M 34) (tg_ne (lo_k11_34 hL _ t_M) t_M (by decide))).trans eRS
        have eVL := (k12 (g.lk M 26) (tg_ne (lo_k11_26 hL _ t_M) t_M (by decide))).trans eVL
        have eVS := (k12 (g.lk M 27) (tg_ne (lo_k11_27 hL _ t_M) t_M (by decide))).trans eVS
        have eOL := (k12 (g.lk M 28) (tg_ne (lo_k11_28 hL _ t_M) t_M (by decide))).trans eOL
        have eOS := (k12 (g.lk M 29) (tg_ne (lo_k11_29 hL _ t_M) t_M (by decide))).trans eOS
        have eIN := (k12 (g.lk M 35) (tg_ne (lo_k11_35 hL _ t_M) t_M (by decide))).trans eIN
        have hu := hu.st k12 t_M (by decide)
        have hk13 : ∀ b, b ≠ M → f10 b = f b := k12
        refine lv_aload_n hx hb d_M_run_40 rfl (lv_at hl 0 rfl) ?_
        refine pf_get (v := .int (nI 2)) (C := "BigRunnerModel") (T := FT10) (N := 45) hx hb (hw10 hB _) (fun _ h9 => h9) hown hK hP (lo_in hL t_M (by decide)) e11 rfl 0 (by decide) (wd_947 hB _) rfl d_M_run_41 ?_
        refine lv_if_le (tgt := 49) hx hb d_M_run_44 (by decide) (fun b14 => ?_) (fun b14 => ?_)
        · skip
          replace b14 := (nI_leI (a := 2) (b := 0) (by omega) (by omega)).mp b14
          exfalso; omega
        · skip
          replace b14 := mt (nI_leI (a := 2) (b := 0) (by omega) (by omega)).mpr b14
          refine lv_iconst (v := nI 0) hx hb d_M_run_47 (by decide) ?_
          have hI15 := iv_1 hI hL t_M (by decide) hk13 (oc_11.mk t_M (⟨((nI 2)), mn, mdr, msz, mix, mdp, mwt, mop, mtp, mwa, mgi, mpc, mst, mtr, msp, mma, mlg, mdu, e11, (by omega), (by omega), (by omega), (by omega), (by omega), (by omega), (by omega), (by omega), (by omega), (by omega), (by omega), (by omega), (by omega), (by omega), hmb14⟩))
          exact pe_iret hx hb hr hlocks hK hP hD hS d_M_run_48 ⟨⟨(nI 2), mtp, mwa, mgi, mpc, mst, mtr, msp, mma, mlg, by omega, by omega, by omega, by omega, by omega, by omega, by omega, hRI, (by omega), (by rw [hA9]), ⟨_, _, _, _, _, _, _, _, _, eLI, eSI, eRE, eRS, eVL, eVS, eOL, eOS, eIN, c6LI, c6RE, c6RS, c6VL, c6OL, (by rw [hA9]; exact hMQ), (by rw [hA9]; exact hMS)⟩, e11⟩, (by rw [hA9]), (by rw [hA9]; show 0 ≤ 200; omega), hI15, hu⟩
      · skip
        refine lv_iload_n hx hb d_M_run_25 rfl (lv_at hl 1 rfl) ?_
        refine lv_sipush (v := nI 200) hx hb d_M_run_26 (by decide) ?_
        refine lv_icmp_le (tgt := 36) hx hb d_M_run_29 (by decide) (fun b16 => ?_) (fun b16 => ?_)
        · skip
          obtain ⟨kn, hkn, hke⟩ := rn_of b9 b16
          have hl : lv_has ls 3 [(0, .ref M), (1, .int (nI kn))] := by rw [hke] at hl; exact hl
          have hk1 : 1 ≤ kn := Nat.le_of_not_lt (fun z9 => b9 (by rw [hke]; exact (nI_ltI (a := kn) (b := 1) (by omega) (by decide)).mpr z9))
          have hkn9 : vn.toInt.toNat = kn := by rw [hke, nI_toInt (by omega)]; rfl
          have hkj9 : ¬ (vn.toInt < 1 ∨ 200 < vn.toInt) := by rw [hke, nI_toInt (by omega)]; omega
          have hRI0 := hRI (by omega)
          obtain ⟨r1, r2, r3, r4⟩ := hRI0
          refine lv_iconst (v := nI 0) hx hb d_M_run_36 (by decide) ?_
          refine pf_put (v := .int (nI 0)) (ty := .int) (fs' := [.int (nI 0), .ref (g.lk M 1), .int (nI mn), .ref (g.lk M 3), .ref (g.lk M 4), .int (nI mdr), .ref (g.lk M 6), .ref (g.lk M 7), .ref (g.lk M 8), .int (nI msz), .int (nI mix), .int (nI mdp), .ref (g.lk M 12), .int (nI mwt), .ref (g.lk M 14), .ref (g.lk M 15), .int (nI mop), .ref (g.lk M 17), .ref (g.lk M 18), .ref (g.lk M 19), .ref (g.lk M 20), .ref (g.lk M 21), .ref (g.lk M 22), .ref (g.lk M 23), .ref (g.lk M 24), .ref (g.lk M 25), .ref (g.lk M 26), .ref (g.lk M 27), .ref (g.lk M 28), .ref (g.lk M 29), .ref (g.lk M 30), .ref (g.lk M 31), .int (nI mtp), .ref (g.lk M 33), .ref (g.lk M 34), .ref (g.lk M 35), .int (nI mwa), .int (nI mgi), .int (nI mpc), .int (nI mst), .int (nI mtr), .int (nI msp), .int mma, .int mlg, .int mdu]) (C := "BigRunnerModel") (T := FT10) (N := 45) hx hb (hw10 hB _) (fun _ h9 => h9) TY10 ok10 nm10 hown hK hP hD hS (lo_in hL t_M (by decide)) eM rfl 0 (by decide) (wd_947 hB _) rfl (by decide +kernel) rfl rfl (Nat.le_of_ble_eq_true rfl) rfl d_M_run_37 (fun f17 H locs e18 k19 hP hD hS => ?_)
          have eC := (k19 (g.lk M 6) (tg_ne (lo_k11_6 hL _ t_M) t_M (by decide))).trans eC
          have eA := (k19 (g.lk M 7) (tg_ne (lo_k11_7 hL _ t_M) t_M (by decide))).trans eA
          have eLI := (k19 (g.lk M 30) (tg_ne (lo_k11_30 hL _ t_M) t_M (by decide))).trans eLI
          have eSI := (k19 (g.lk M 31) (tg_ne (lo_k11_31 hL _ t_M) t_M (by decide))).trans eSI
          have eRE := (k19 (g.lk M 33) (tg_ne (lo_k11_33 hL _ t_M) t_M (by decide))).trans eRE
          have eRS := (k19 (g.lk M 34) (tg_ne (lo_k11_34 hL _ t_M) t_M (by decide))).trans eRS
          have eVL := (k19 (g.lk M 26) (tg_ne (lo_k11_26 hL _ t_M) t_M (by decide))).trans eVL
          have eVS := (k19 (g.lk M 27) (tg_ne (lo_k11_27 hL _ t_M) t_M (by decide))).trans eVS
          have eOL := (k19 (g.lk M 28) (tg_ne (lo_k11_28 hL _ t_M) t_M (by decide))).trans eOL
          have eOS := (k19 (g.lk M 29) (tg_ne (lo_k11_29 hL _ t_M) t_M (by decide))).trans eOS
          have eIN := (k19 (g.lk M 35) (tg_ne (lo_k11_35 hL _ t_M) t_M (by decide))).trans eIN
          have hu := hu.st k19 t_M (by decide)
          have hk20 : ∀ b, b ≠ M → f17 b = f b := k19
          refine lv_aload_n hx hb d_M_run_40 rfl (lv_at hl 0 rfl) ?_
          refine pf_get (v := .int (nI 0)) (C := "BigRunnerModel") (T := FT10) (N := 45) hx hb (hw10 hB _) (fun _ h9 => h9) hown hK hP (lo_in hL t_M (by decide)) e18 rfl 0 (by decide) (wd_947 hB _) rfl d_M_run_41 ?_
          refine lv_if_le (tgt := 49) hx hb d_M_run_44 (by decide) (fun b21 => ?_) (fun b21 => ?_)
          · skip
            replace b21 := (nI_leI (a := 0) (b := 0) (by omega) (by omega)).mp b21
            refine lv_iconst (v := nI 0) hx hb d_M_run_49 (by decide) ?_
            refine lv_istore_n (lv' := [(2, .int (nI 0)), (0, .ref M), (1, .int (nI kn))]) hx hb d_M_run_50 rfl hl (by decide) rfl (fun ls hl => ?_)
            refine lv_aload_n hx hb d_M_run_51 rfl (lv_at hl 1 rfl) ?_
            refine lv_iconst (v := nI 1) hx hb d_M_run_52 (by decide) ?_
            refine pf_put (v := .int (nI 1)) (ty := .int) (fs' := [.int (nI 0), .ref (g.lk M 1), .int (nI mn), .ref (g.lk M 3), .ref (g.lk M 4), .int (nI mdr), .ref (g.lk M 6), .ref (g.lk M 7), .ref (g.lk M 8), .int (nI msz), .int (nI mix), .int (nI mdp), .ref (g.lk M 12), .int (nI mwt), .ref (g.lk M 14), .ref (g.lk M 15), .int (nI mop), .ref (g.lk M 17), .ref (g.lk M 18), .ref (g.lk M 19), .ref (g.lk M 20), .ref (g.lk M 21), .ref (g.lk M 22), .ref (g.lk M 23), .ref (g.lk M 24), .ref (g.lk M 25), .ref (g.lk M 26), .ref (g.lk M 27), .ref (g.lk M 28), .ref (g.lk M 29), .ref (g.lk M 30), .ref (g.lk M 31), .int (nI mtp), .ref (g.lk M 33), .ref (g.lk M 34), .ref (g.lk M 35), .int (nI mwa), .int (nI mgi), .int (nI mpc), .int (nI 1), .int (nI mtr), .int (nI msp), .int mma, .int mlg, .int mdu]) (C := "BigRunnerModel") (T := FT10) (N := 45) hx hb (hw10 hB _) (fun _ h9 => h9) TY10 ok10 nm10 hown hK hP hD hS (lo_in hL t_M (by decide)) e18 rfl 39 (by decide) (wd_986 hB _) rfl (by decide +kernel) rfl rfl (Nat.le_of_ble_eq_true rfl) rfl d_M_run_53 (fun f22 H locs e23 k24 hP hD hS => ?_)
            have eC := (k24 (g.lk M 6) (tg_ne (lo_k11_6 hL _ t_M) t_M (by decide))).trans eC
            have eA := (k24 (g.lk M 7) (tg_ne (lo_k11_7 hL _ t_M) t_M (by decide))).trans eA
            have eLI := (k24 (g.lk M 30) (tg_ne (lo_k11_30 hL _ t_M) t_M (by decide))).trans eLI
            have eSI := (k24 (g.lk M 31) (tg_ne (lo_k11_31 hL _ t_M) t_M (by decide))).trans eSI
            have eRE := (k24 (g.lk M 33) (tg_ne (lo_k11_33 hL _ t_M) t_M (by decide))).trans eRE
            have eRS := (k24 (g.lk M 34) (tg_ne (lo_k11_34 hL _ t_M) t_M (by decide))).trans eRS
            have eVL := (k24 (g.lk M 26) (tg_ne (lo_k11_26 hL _ t_M) t_M (by decide))).trans eVL
            have eVS := (k24 (g.lk M 27) (tg_ne (lo_k11_27 hL _ t_M) t_M (by decide))).trans eVS
            have eOL := (k24 (g.lk M 28) (tg_ne (lo_k11_28 hL _ t_M) t_M (by decide))).trans eOL
            have eOS := (k24 (g.lk M 29) (tg_ne (lo_k11_29 hL _ t_M) t_M (by decide))).trans eOS
            have eIN := (k24 (g.lk M 35) (tg_ne (lo_k11_35 hL _ t_M) t_M (by decide))).trans eIN
            have hu := hu.st k24 t_M (by decide)
            have hk25 : ∀ b, b ≠ M → f22 b = f b := fun b q0 => (k24 b q0).trans (hk20 b q0)
            have hI26 := iv_1 hI hL t_M (by decide) hk25 (oc_11.mk t_M (⟨((nI 0)), mn, mdr, msz, mix, mdp, mwt, mop, mtp, mwa, mgi, mpc, 1, mtr, msp, mma, mlg, mdu, e23, (by omega), (by omega), (by omega), (by omega), (by omega), (by omega), (by omega), (by omega), (by omega), (by omega), (by omega), (by omega), (by omega), (by omega), hmb14⟩))
            have lp27 : ∀ (k29 : Nat) (md : Nat) (t8 : Nat) (w8 : Nat) (g8 : Nat) (p8 : Nat) (s8 : Nat) (x8 : Nat) (y8 : Nat) (ma8 : Int32) (lg8 : Int32) (q8 : PS) (aL : Nat → Int32) (aS : Nat → Int32) (aR : Nat → Int32) (aQ : Nat → Int32) (aV : Nat → Int32) (aW : Nat → Int32) (aO : Nat → Int32) (aP : Nat → Int32) (aI : Nat → Int32) (f28 : Nat → va_E) (H : Heap) (locs : List Loc) (ls : Array Slot), (0 < k29 ∧ (s8 = 1 → kn < md + k29)) → (md ≤ kn) → (t8 ≤ 80) → (w8 ≤ 20) → (g8 ≤ y8) → (p8 ≤ 100) → (s8 ≤ 4) → (x8 ≤ 3) → (y8 ≤ 3000) → (RI hC dpf msz s8 p8 x8) → (1 ≤ s8) → (MQ9 aV aW aO aP aI w8 g8 y8 x8 p8 q8) → ((s8 = 1 ∧ prun L kn s9 = (md + (prun L (kn - md) q8).1, (prun L (kn - md) q8).2)) ∨ (s8 ≠ 1 ∧ prun L kn s9 = (md, q8))) → (2 < s8 ↔ q8.tr ≠ 0 ∨ q8.pc = L.length) → (C6 1600 aL) → (C6 44 aR) → (C6 44 aQ) → (C6 200 aV) → (C6 240 aO) → f28 M = .inr (10, [.int (nI 0), .ref (g.lk M 1), .int (nI mn), .ref (g.lk M 3), .ref (g.lk M 4), .int (nI mdr), .ref (g.lk M 6), .ref (g.lk M 7), .ref (g.lk M 8), .int (nI msz), .int (nI mix), .int (nI mdp), .ref (g.lk M 12), .int (nI mwt), .ref (g.lk M 14), .ref (g.lk M 15), .int (nI mop), .ref (g.lk M 17), .ref (g.lk M 18), .ref (g.lk M 19), .ref (g.lk M 20), .ref (g.lk M 21), .ref (g.lk M 22), .ref (g.lk M 23), .ref (g.lk M 24), .ref (g.lk M 25), .ref (g.lk M 26), .ref (g.lk M 27), .ref (g.lk M 28), .ref (g.lk M 29), .ref (g.lk M 30), .ref (g.lk M 31), .int (nI t8), .ref (g.lk M 33), .ref (g.lk M 34), .ref (g.lk M 35), .int (nI w8), .int (nI g8), .int (nI p8), .int (nI s8), .int (nI x8), .int (nI y8), .int ma8, .int lg8, .int mdu]) → f28 (g.lk M 30) = .inl (g.ac (g.lk M 30), 1600, .inl (aL)) → f28 (g.lk M 31) = .inl (g.ac (g.lk M 31), 80, .inl (aS)) → f28 (g.lk M 33) = .inl (g.ac (g.lk M 33), 44, .inl (aR)) → f28 (g.lk M 34) = .inl (g.ac (g.lk M 34), 44, .inl (aQ)) → f28 (g.lk M 26) = .inl (g.ac (g.lk M 26), 200, .inl (aV)) → f28 (g.lk M 27) = .inl (g.ac (g.lk M 27), 10, .inl (aW)) → f28 (g.lk M 28) = .inl (g.ac (g.lk M 28), 240, .inl (aO)) → f28 (g.lk M 29) = .inl (g.ac (g.lk M 29), 12, .inl (aP)) → f28 (g.lk M 35) = .inl (g.ac (g.lk M 35), 20, .inl (aI)) → IV g f28 → un [11, 58, 59, 60, 61, 62, 63, 64, 65, 66] g f22 f28 → lv_has ls 3 [(2, .int (nI md)), (0, .ref M), (1, .int (nI kn))] → va_P g.D vcl (va_pl g.LP f28) H → va_D (pc_A g s.heap.size) (va_pl g.LP f28) → va_S (pc_A g s.heap.size) s.heap H locs → W p l e ({ frames := 5, cells := 0, slots := 0, locals := 124 }) s m args below meth c H locs 0 0 (MQ below (va_Qi (fun r f1 => (∃ (th1 : Int32) (tp1 : Nat) (wa1 : Nat) (gi1 : Nat) (pc1 : Nat) (st1 : Nat) (tr1 : Nat) (sp1 : Nat) (ma1 : Int32) (lg1 : Int32), (tp1 ≤ 80) ∧ (wa1 ≤ 20) ∧ (gi1 ≤ sp1) ∧ (pc1 ≤ 100) ∧ (st1 ≤ 4) ∧ (tr1 ≤ 3) ∧ (sp1 ≤ 3000) ∧ (RI hC dpf msz st1 pc1 tr1) ∧ (st1 ≠ 0) ∧ (th1 = nI ((prunA L vn.toInt s9).1)) ∧ (∃ hl hs hr hq hv hw ho hp hi : Nat → Int32, f1 (g.lk M 30) = .inl (g.ac (g.lk M 30), 1600, .inl hl) ∧ f1 (g.lk M 31) = .inl (g.ac (g.lk M 31), 80, .inl hs) ∧ f1 (g.lk M 33) = .inl (g.ac (g.lk M 33), 44, .inl hr) ∧ f1 (g.lk M 34) = .inl (g.ac (g.lk M 34), 44, .inl hq) ∧ f1 (g.lk M 26) = .inl (g.ac (g.lk M 26), 200, .inl hv) ∧ f1 (g.lk M 27) = .inl (g.ac (g.lk M 27), 10, .inl hw) ∧ f1 (g.lk M 28) = .inl (g.ac (g.lk M 28), 240, .inl ho) ∧ f1 (g.lk M 29) = .inl (g.ac (g.lk M 29), 12, .inl hp) ∧ f1 (g.lk M 35) = .inl (g.ac (g.lk M 35), 20, .inl hi) ∧ C6 1600 hl ∧ C6 44 hr ∧ C6 44 hq ∧ C6 200 hv ∧ C6 240 ho ∧ MQ9 hv hw ho hp hi wa1 gi1 sp1 tr1 pc1 (prunA L vn.toInt s9).2.2 ∧ (2 < st1 ↔ (prunA L vn.toInt s9).2.2.tr ≠ 0 ∨ (prunA L vn.toInt s9).2.2.pc = L.length)) ∧ f1 M = .inr (10, [.int th1, .ref (g.lk M 1), .int (nI mn), .ref (g.lk M 3), .ref (g.lk M 4), .int (nI mdr), .ref (g.lk M 6), .ref (g.lk M 7), .ref (g.lk M 8), .int (nI msz), .int (nI mix), .int (nI mdp), .ref (g.lk M 12), .int (nI mwt), .ref (g.lk M 14), .ref (g.lk M 15), .int (nI mop), .ref (g.lk M 17), .ref (g.lk M 18), .ref (g.lk M 19), .ref (g.lk M 20), .ref (g.lk M 21), .ref (g.lk M 22), .ref (g.lk M 23), .ref (g.lk M 24), .ref (g.lk M 25), .ref (g.lk M 26), .ref (g.lk M 27), .ref (g.lk M 28), .ref (g.lk M 29), .ref (g.lk M 30), .ref (g.lk M 31), .int (nI tp1), .ref (g.lk M 33), .ref (g.lk M 34), .ref (g.lk M 35), .int (nI wa1), .int (nI gi1), .int (nI pc1), .int (nI st1), .int (nI tr1), .int (nI sp1), .int ma1, .int lg1, .int mdu])) ∧ (r = nI ((prunA L vn.toInt s9).2.1)) ∧ ((prunA L vn.toInt s9).2.1 ≤ 200) ∧ (IV g f1) ∧ (un [11, 58, 59, 60, 61, 62, 63, 64, 65, 66] g f f1)) (pc_out g s.heap.size) (pc_A g s.heap.size)) args s 0 0 (pc_A g s.heap.size)) (F0 m 56 ls []) := by
              intro k29
              induction k29 with
              | zero => intros; exfalso; omega
              | succ k29 ih30 =>
                intro md t8 w8 g8 p8 s8 x8 y8 ma8 lg8 q8 aL aS aR aQ aV aW aO aP aI f28 H locs ls hfu31 hmd ht8 hw8 hg8 hp8 hs8 hx8 hy8 hri h1s hMQ8 hP8 hE8 cL cR cQ cV cO e32 e33 e34 e35 e36 e37 e38 e39 e40 e41 hI42 hv43 hl hP hD hS
                have eC := hv43.at (lo_k11_6 hL _ t_M) (by decide) eC
                have eA := hv43.at (lo_k11_7 hL _ t_M) (by decide) eA
                have hu := hu.tr hv43 (by decide)
                refine lv_iload_n hx hb d_M_run_56 rfl (lv_at hl 0 rfl) ?_
                refine lv_iload_n hx hb d_M_run_57 rfl (lv_at hl 2 rfl) ?_
                refine lv_icmp_ge (tgt := 225) hx hb d_M_run_58 (by decide) (fun b44 => ?_) (fun b44 => ?_)
                · skip
                  replace b44 := (nI_leI (a := kn) (b := md) (by omega) (by omega)).mp b44
                  have hfin9 : prun L kn s9 = (md, q8) := by
                    rcases hP8 with ⟨z1, z2⟩ | ⟨z1, z2⟩
                    · rw [z2, show kn - md = 0 by omega]; rfl
                    · exact z2
                  have hxq9 := hMQ8.2.2.2.2.2.1
                  refine lv_aload_n hx hb d_M_run_225 rfl (lv_at hl 1 rfl) ?_
                  refine lv_aload_n hx hb d_M_run_226 rfl (lv_at hl 1 rfl) ?_
                  refine pf_get (v := .int (nI x8)) (C := "BigRunnerModel") (T := FT10) (N := 45) hx hb (hw10 hB _) (fun _ h9 => h9) hown hK hP (lo_in hL t_M (by decide)) e32 rfl 40 (by decide) (wd_987 hB _) rfl d_M_run_227 ?_
                  refine lv_if_ne (tgt := 237) hx hb d_M_run_230 (by decide) (fun b45 => ?_) (fun b45 => ?_)
                  · skip
                    replace b45 := mt (nI_eq (a := x8) (b := 0) (by omega) (by omega)).mpr b45
                    refine lv_aload_n hx hb d_M_run_237 rfl (lv_at hl 1 rfl) ?_
                    refine pf_get (v := .int (nI x8)) (C := "BigRunnerModel") (T := FT10) (N := 45) hx hb (hw10 hB _) (fun _ h9 => h9) hown hK hP (lo_in hL t_M (by decide)) e32 rfl 40 (by decide) (wd_987 hB _) rfl d_M_run_238 ?_
                    refine lv_iconst (v := nI 1) hx hb d_M_run_241 (by decide) ?_
                    refine lv_icmp_ne (tgt := 249) hx hb d_M_run_242 (by decide) (fun b46 => ?_) (fun b46 => ?_)
                    · skip
                      replace b46 := mt (nI_eq (a := x8) (b := 1) (by omega) (by omega)).mpr b46
                      refine lv_iconst (v := nI 4) hx hb d_M_run_249 (by decide) ?_
                      refine pf_put (v := .int (nI 4)) (ty := .int) (fs' := [.int (nI 4), .ref (g.lk M 1), .int (nI mn), .ref (g.lk M 3), .ref (g.lk M 4), .int (nI mdr), .ref (g.lk M 6), .ref (g.lk M 7), .ref (g.lk M 8), .int (nI msz), .int (nI mix), .int (nI mdp), .ref (g.lk M 12), .int (nI mwt), .ref (g.lk M 14), .ref (g.lk M 15), .int (nI mop), .ref (g.lk M 17), .ref (g.lk M 18), .ref (g.lk M 19), .ref (g.lk M 20), .ref (g.lk M 21), .ref (g.lk M 22), .ref (g.lk M 23), .ref (g.lk M 24), .ref (g.lk M 25), .ref (g.lk M 26), .ref (g.lk M 27), .ref (g.lk M 28), .ref (g.lk M 29), .ref (g.lk M 30), .ref (g.lk M 31), .int (nI t8), .ref (g.lk M 33), .ref (g.lk M 34), .ref (g.lk M 35), .int (nI w8), .int (nI g8), .int (nI p8), .int (nI s8), .int (nI x8), .int (nI y8), .int ma8, .int lg8, .int mdu]) (C := "BigRunnerModel") (T := FT10) (N := 45) hx hb (hw10 hB _) (fun _ h9 => h9) TY10 ok10 nm10 hown hK hP hD hS (lo_in hL t_M (by decide)) e32 rfl 0 (by decide) (wd_947 hB _) rfl (by decide +kernel) rfl rfl (Nat.le_of_ble_eq_true rfl) rfl d_M_run_250 (fun f47 H locs e48 k49 hP hD hS => ?_)
                      have eC := (k49 (g.lk M 6) (tg_ne (lo_k11_6 hL _ t_M) t_M (by decide))).trans eC
                      have eA := (k49 (g.lk M 7) (tg_ne (lo_k11_7 hL _ t_M) t_M (by decide))).trans eA
                      have e33 := (k49 (g.lk M 30) (tg_ne (lo_k11_30 hL _ t_M) t_M (by decide))).trans e33
                      have e34 := (k49 (g.lk M 31) (tg_ne (lo_k11_31 hL _ t_M) t_M (by decide))).trans e34
                      have e35 := (k49 (g.lk M 33) (tg_ne (lo_k11_33 hL _ t_M) t_M (by decide))).trans e35
                      have e36 := (k49 (g.lk M 34) (tg_ne (lo_k11_34 hL _ t_M) t_M (by decide))).trans e36
                      have e37 := (k49 (g.lk M 26) (tg_ne (lo_k11_26 hL _ t_M) t_M (by decide))).trans e37
                      have e38 := (k49 (g.lk M 27) (tg_ne (lo_k11_27 hL _ t_M) t_M (by decide))).trans e38
                      have e39 := (k49 (g.lk M 28) (tg_ne (lo_k11_28 hL _ t_M) t_M (by decide))).trans e39
                      have e40 := (k49 (g.lk M 29) (tg_ne (lo_k11_29 hL _ t_M) t_M (by decide))).trans e40
                      have e41 := (k49 (g.lk M 35) (tg_ne (lo_k11_35 hL _ t_M) t_M (by decide))).trans e41
                      have hu := hu.st k49 t_M (by decide)
                      have hv43 := hv43.st k49 t_M (by decide)
                      have hk50 : ∀ b, b ≠ M → f47 b = f28 b := k49
                      refine lv_aload_n hx hb d_M_run_253 rfl (lv_at hl 1 rfl) ?_
                      refine pf_get (v := .int (nI 4)) (C := "BigRunnerModel") (T := FT10) (N := 45) hx hb (hw10 hB _) (fun _ h9 => h9) hown hK hP (lo_in hL t_M (by decide)) e48 rfl 0 (by decide) (wd_947 hB _) rfl d_M_run_254 ?_
                      refine lv_if_le (tgt := 264) hx hb d_M_run_257 (by decide) (fun b51 => ?_) (fun b51 => ?_)
                      · skip
                        replace b51 := (nI_leI (a := 4) (b := 0) (by omega) (by omega)).mp b51
                        exfalso; omega
                      · skip
                        replace b51 := mt (nI_leI (a := 4) (b := 0) (by omega) (by omega)).mpr b51
                        refine lv_iconst (v := nI 0) hx hb d_M_run_260 (by decide) ?_
                        refine lv_goto (tgt := 265) hx hb d_M_run_261 (by decide) ?_
                        have hI52 := iv_1 hI42 hL t_M (by decide) hk50 (oc_11.mk t_M (⟨((nI 4)), mn, mdr, msz, mix, mdp, mwt, mop, t8, w8, g8, p8, s8, x8, y8, ma8, lg8, mdu, e48, (by omega), (by omega), (by omega), (by omega), (by omega), (by omega), (by omega), (by omega), (by omega), (by omega), (by omega), (by omega), (by omega), (by omega), hmb14⟩))
                        have hA9 : prunA L vn.toInt s9 = (4, 0, q8) := (prA_t hns9 hkj9 (by rw [hkn9, hfin9]; show q8.tr ≠ 0; omega)).trans (by rw [hkn9, hfin9]; show ((if q8.tr = 1 then 3 else 4), 0, q8) = _; rw [if_neg (by omega)])
                        exact pe_iret hx hb hr hlocks hK hP hD hS d_M_run_265 ⟨⟨(nI 4), t8, w8, g8, p8, s8, x8, y8, ma8, lg8, by omega, by omega, by omega, by omega, by omega, by omega, by omega, hri, (by omega), (by rw [hA9]), ⟨_, _, _, _, _, _, _, _, _, e33, e34, e35, e36, e37, e38, e39, e40, e41, cL, cR, cQ, cV, cO, (by rw [hA9]; exact hMQ8), (by rw [hA9]; exact hE8)⟩, e48⟩, (by rw [hA9]), (by rw [hA9]; show 0 ≤ 200; omega), hI52, hu⟩
                    · skip
                      replace b46 := (nI_eq (a := x8) (b := 1) (by omega) (by omega)).mp b46
                      refine lv_iconst (v := nI 3) hx hb d_M_run_245 (by decide) ?_
                      refine lv_goto (tgt := 250) hx hb d_M_run_246 (by decide) ?_
                      refine pf_put (v := .int (nI 3)) (ty := .int) (fs' := [.int (nI 3), .ref (g.lk M 1), .int (nI mn), .ref (g.lk M 3), .ref (g.lk M 4), .int (nI mdr), .ref (g.lk M 6), .ref (g.lk M 7), .ref (g.lk M 8), .int (nI msz), .int (nI mix), .int (nI mdp), .ref (g.lk M 12), .int (nI mwt), .ref (g.lk M 14), .ref (g.lk M 15), .int (nI mop), .ref (g.lk M 17), .ref (g.lk M 18), .ref (g.lk M 19), .ref (g.lk M 20), .ref (g.lk M 21), .ref (g.lk M 22), .ref (g.lk M 23), .ref (g.lk M 24), .ref (g.lk M 25), .ref (g.lk M 26), .ref (g.lk M 27), .ref (g.lk M 28), .ref (g.lk M 29), .ref (g.lk M 30), .ref (g.lk M 31), .int (nI t8), .ref (g.lk M 33), .ref (g.lk M 34), .ref (g.lk M 35), .int (nI w8), .int (nI g8), .int (nI p8), .int (nI s8), .int (nI x8), .int (nI y8), .int ma8, .int lg8, .int mdu]) (C := "BigRunnerModel") (T := FT10) (N := 45) hx hb (hw10 hB _) (fun _ h9 => h9) TY10 ok10 nm10 hown hK hP hD hS (lo_in hL t_M (by decide)) e32 rfl 0 (by decide) (wd_947 hB _) rfl (by decide +kernel) rfl rfl (Nat.le_of_ble_eq_true rfl) rfl d_M_run_250 (fun f53 H locs e54 k55 hP hD hS => ?_)
                      have eC := (k55 (g.lk M 6) (tg_ne (lo_k11_6 hL _ t_M) t_M (by decide))).trans eC
                      have eA := (k55 (g.lk M 7) (tg_ne (lo_k11_7 hL _ t_M) t_M (by decide))).trans eA
                      have e33 := (k55 (g.lk M 30) (tg_ne (lo_k11_30 hL _ t_M) t_M (by decide))).trans e33
                      have e34 := (k55 (g.lk M 31) (tg_ne (lo_k11_31 hL _ t_M) t_M (by decide))).trans e34
                      have e35 := (k55 (g.lk M 33) (tg_ne (lo_k11_33 hL _ t_M) t_M (by decide))).trans e35
                      have e36 := (k55 (g.lk M 34) (tg_ne (lo_k11_34 hL _ t_M) t_M (by decide))).trans e36
                      have e37 := (k55 (g.lk M 26) (tg_ne (lo_k11_26 hL _ t_M) t_M (by decide))).trans e37
                      have e38 := (k55 (g.lk M 27) (tg_ne (lo_k11_27 hL _ t_M) t_M (by decide))).trans e38
                      have e39 := (k55 (g.lk M 28) (tg_ne (lo_k11_28 hL _ t_M) t_M (by decide))).trans e39
                      have e40 := (k55 (g.lk M 29) (tg_ne (lo_k11_29 hL _ t_M) t_M (by decide))).trans e40
                      have e41 := (k55 (g.lk M 35) (tg_ne (lo_k11_35 hL _ t_M) t_M (by decide))).trans e41
                      have hu := hu.st k55 t_M (by decide)
                      have hv43 := hv43.st k55 t_M (by decide)
                      have hk56 : ∀ b, b ≠ M → f53 b = f28 b := k55
                      refine lv_aload_n hx hb d_M_run_253 rfl (lv_at hl 1 rfl) ?_
                      refine pf_get (v := .int (nI 3)) (C := "BigRunnerModel") (T := FT10) (N := 45) hx hb (hw10 hB _) (fun _ h9 => h9) hown hK hP (lo_in hL t_M (by decide)) e54 rfl 0 (by decide) (wd_947 hB _) rfl d_M_run_254 ?_
                      refine lv_if_le (tgt := 264) hx hb d_M_run_257 (by decide) (fun b57 => ?_) (fun b57 => ?_)
                      · skip
                        replace b57 := (nI_leI (a := 3) (b := 0) (by omega) (by omega)).mp b57
                        exfalso; omega
                      · skip
                        replace b57 := mt (nI_leI (a := 3) (b := 0) (by omega) (by omega)).mpr b57
                        refine lv_iconst (v := nI 0) hx hb d_M_run_260 (by decide) ?_
                        refine lv_goto (tgt := 265) hx hb d_M_run_261 (by decide) ?_
                        have hI58 := iv_1 hI42 hL t_M (by decide) hk56 (oc_11.mk t_M (⟨((nI 3)), mn, mdr, msz, mix, mdp, mwt, mop, t8, w8, g8, p8, s8, x8, y8, ma8, lg8, mdu, e54, (by omega), (by omega), (by omega), (by omega), (by omega), (by omega), (by omega), (by omega), (by omega), (by omega), (by omega), (by omega), (by omega), (by omega), hmb14⟩))
                        have hA9 : prunA L vn.toInt s9 = (3, 0, q8) := (prA_t hns9 hkj9 (by rw [hkn9, hfin9]; show q8.tr ≠ 0; omega)).trans (by rw [hkn9, hfin9]; show ((if q8.tr = 1 then 3 else 4), 0, q8) = _; rw [if_pos (by omega)])
                        exact pe_iret hx hb hr hlocks hK hP hD hS d_M_run_265 ⟨⟨(nI 3), t8, w8, g8, p8, s8, x8, y8, ma8, lg8, by omega, by omega, by omega, by omega, by omega, by omega, by omega, hri, (by omega), (by rw [hA9]), ⟨_, _, _, _, _, _, _, _, _, e33, e34, e35, e36, e37, e38, e39, e40, e41, cL, cR, cQ, cV, cO, (by rw [hA9]; exact hMQ8), (by rw [hA9]; exact hE8)⟩, e54⟩, (by rw [hA9]), (by rw [hA9]; show 0 ≤ 200; omega), hI58, hu⟩
                  · skip
                    replace b45 := (nI_eq (a := x8) (b := 0) (by omega) (by omega)).mp b45
                    refine lv_iconst (v := nI 0) hx hb d_M_run_233 (by decide) ?_
                    refine lv_goto (tgt := 250) hx hb d_M_run_234 (by decide) ?_
                    refine pf_put (v := .int (nI 0)) (ty := .int) (fs' := [.int (nI 0), .ref (g.lk M 1), .int (nI mn), .ref (g.lk M 3), .ref (g.lk M 4), .int (nI mdr), .ref (g.lk M 6), .ref (g.lk M 7), .ref (g.lk M 8), .int (nI msz), .int (nI mix), .int (nI mdp), .ref (g.lk M 12), .int (nI mwt), .ref (g.lk M 14), .ref (g.lk M 15), .int (nI mop), .ref (g.lk M 17), .ref (g.lk M 18), .ref (g.lk M 19), .ref (g.lk M 20), .ref (g.lk M 21), .ref (g.lk M 22), .ref (g.lk M 23), .ref (g.lk M 24), .ref (g.lk M 25), .ref (g.lk M 26), .ref (g.lk M 27), .ref (g.lk M 28), .ref (g.lk M 29), .ref (g.lk M 30), .ref (g.lk M 31), .int (nI t8), .ref (g.lk M 33), .ref (g.lk M 34), .ref (g.lk M 35), .int (nI w8), .int (nI g8), .int (nI p8), .int (nI s8), .int (nI x8), .int (nI y8), .int ma8, .int lg8, .int mdu]) (C := "BigRunnerModel") (T := FT10) (N := 45) hx hb (hw10 hB _) (fun _ h9 => h9) TY10 ok10 nm10 hown hK hP hD hS (lo_in hL t_M (by decide)) e32 rfl 0 (by decide) (wd_947 hB _) rfl (by decide +kernel) rfl rfl (Nat.le_of_ble_eq_true rfl) rfl d_M_run_250 (fun f59 H locs e60 k61 hP hD hS => ?_)
                    have eC := (k61 (g.lk M 6) (tg_ne (lo_k11_6 hL _ t_M) t_M (by decide))).trans eC
                    have eA := (k61 (g.lk M 7) (tg_ne (lo_k11_7 hL _ t_M) t_M (by decide))).trans eA
                    have e33 := (k61 (g.lk M 30) (tg_ne (lo_k11_30 hL _ t_M) t_M (by decide))).trans e33
                    have e34 := (k61 (g.lk M 31) (tg_ne (lo_k11_31 hL _ t_M) t_M (by decide))).trans e34
                    have e35 := (k61 (g.lk M 33) (tg_ne (lo_k11_33 hL _ t_M) t_M (by decide))).trans e35
                    have e36 := (k61 (g.lk M 34) (tg_ne (lo_k11_34 hL _ t_M) t_M (by decide))).trans e36
                    have e37 := (k61 (g.lk M 26) (tg_ne (lo_k11_26 hL _ t_M) t_M (by decide))).trans e37
                    have e38 := (k61 (g.lk M 27) (tg_ne (lo_k11_27 hL _ t_M) t_M (by decide))).trans e38
                    have e39 := (k61 (g.lk M 28) (tg_ne (lo_k11_28 hL _ t_M) t_M (by decide))).trans e39
                    have e40 := (k61 (g.lk M 29) (tg_ne (lo_k11_29 hL _ t_M) t_M (by decide))).trans e40
                    have e41 := (k61 (g.lk M 35) (tg_ne (lo_k11_35 hL _ t_M) t_M (by decide))).trans e41
                    have hu := hu.st k61 t_M (by decide)
                    have hv43 := hv43.st k61 t_M (by decide)
                    have hk62 : ∀ b, b ≠ M → f59 b = f28 b := k61
                    refine lv_aload_n hx hb d_M_run_253 rfl (lv_at hl 1 rfl) ?_
                    refine pf_get (v := .int (nI 0)) (C := "BigRunnerModel") (T := FT10) (N := 45) hx hb (hw10 hB _) (fun _ h9 => h9) hown hK hP (lo_in hL t_M (by decide)) e60 rfl 0 (by decide) (wd_947 hB _) rfl d_M_run_254 ?_
                    refine lv_if_le (tgt := 264) hx hb d_M_run_257 (by decide) (fun b63 => ?_) (fun b63 => ?_)
                    · skip
                      replace b63 := (nI_leI (a := 0) (b := 0) (by omega) (by omega)).mp b63
                      refine lv_iload_n hx hb d_M_run_264 rfl (lv_at hl 0 rfl) ?_
                      have hI64 := iv_1 hI42 hL t_M (by decide) hk62 (oc_11.mk t_M (⟨((nI 0)), mn, mdr, msz, mix, mdp, mwt, mop, t8, w8, g8, p8, s8, x8, y8, ma8, lg8, mdu, e60, (by omega), (by omega), (by omega), (by omega), (by omega), (by omega), (by omega), (by omega), (by omega), (by omega), (by omega), (by omega), (by omega), (by omega), hmb14⟩))
                      have hA9 : prunA L vn.toInt s9 = (0, md, q8) := (prA_0 hns9 hkj9 (by rw [hkn9, hfin9]; show q8.tr = 0; omega)).trans (by rw [hkn9, hfin9])
                      exact pe_iret hx hb hr hlocks hK hP hD hS d_M_run_265 ⟨⟨(nI 0), t8, w8, g8, p8, s8, x8, y8, ma8, lg8, by omega, by omega, by omega, by omega, by omega, by omega, by omega, hri, (by omega), (by rw [hA9]), ⟨_, _, _, _, _, _, _, _, _, e33, e34, e35, e36, e37, e38, e39, e40, e41, cL, cR, cQ, cV, cO, (by rw [hA9]; exact hMQ8), (by rw [hA9]; exact hE8)⟩, e60⟩, (by rw [hA9]), (by rw [hA9]; show md ≤ 200; omega), hI64, hu⟩
                    · skip
                      replace b63 := mt (nI_leI (a := 0) (b := 0) (by omega) (by omega)).mpr b63
                      exfalso; omega
                · skip
                  replace b44 := mt (nI_leI (a := kn) (b := md) (by omega) (by omega)).mpr b44
                  refine lv_aload_n hx hb d_M_run_61 rfl (lv_at hl 1 rfl) ?_
                  refine pf_get (v := .int (nI s8)) (C := "BigRunnerModel") (T := FT10) (N := 45) hx hb (hw10 hB _) (fun _ h9 => h9) hown hK hP (lo_in hL t_M (by decide)) e32 rfl 39 (by decide) (wd_986 hB _) rfl d_M_run_62 ?_
                  refine lv_iconst (v := nI 1) hx hb d_M_run_65 (by decide) ?_
                  refine lv_icmp_ne (tgt := 225) hx hb d_M_run_66 (by decide) (fun b65 => ?_) (fun b65 => ?_)
                  · skip
                    replace b65 := mt (nI_eq (a := s8) (b := 1) (by omega) (by omega)).mpr b65
                    have hfin9 : prun L kn s9 = (md, q8) := by
                      rcases hP8 with ⟨z1, z2⟩ | ⟨z1, z2⟩
                      · exfalso; omega
                      · exact z2
                    have hxq9 := hMQ8.2.2.2.2.2.1
                    refine lv_aload_n hx hb d_M_run_225 rfl (lv_at hl 1 rfl) ?_
                    refine lv_aload_n hx hb d_M_run_226 rfl (lv_at hl 1 rfl) ?_
                    refine pf_get (v := .int (nI x8)) (C := "BigRunnerModel") (T := FT10) (N := 45) hx hb (hw10 hB _) (fun _ h9 => h9) hown hK hP (lo_in hL t_M (by decide)) e32 rfl 40 (by decide) (wd_987 hB _) rfl d_M_run_227 ?_
                    refine lv_if_ne (tgt := 237) hx hb d_M_run_230 (by decide) (fun b66 => ?_) (fun b66 => ?_)
                    · skip
                      replace b66 := mt (nI_eq (a := x8) (b := 0) (by omega) (by omega)).mpr b66
                      refine lv_aload_n hx hb d_M_run_237 rfl (lv_at hl 1 rfl) ?_
                      refine pf_get (v := .int (nI x8)) (C := "BigRunnerModel") (T := FT10) (N := 45) hx hb (hw10 hB _) (fun _ h9 => h9) hown hK hP (lo_in hL t_M (by decide)) e32 rfl 40 (by decide) (wd_987 hB _) rfl d_M_run_238 ?_
                      refine lv_iconst (v := nI 1) hx hb d_M_run_241 (by decide) ?_
                      refine lv_icmp_ne (tgt := 249) hx hb d_M_run_242 (by decide) (fun b67 => ?_) (fun b67 => ?_)
                      · skip
                        replace b67 := mt (nI_eq (a := x8) (b := 1) (by omega) (by omega)).mpr b67
                        refine lv_iconst (v := nI 4) hx hb d_M_run_249 (by decide) ?_
                        refine pf_put (v := .int (nI 4)) (ty := .int) (fs' := [.int (nI 4), .ref (g.lk M 1), .int (nI mn), .ref (g.lk M 3), .ref (g.lk M 4), .int (nI mdr), .ref (g.lk M 6), .ref (g.lk M 7), .ref (g.lk M 8), .int (nI msz), .int (nI mix), .int (nI mdp), .ref (g.lk M 12), .int (nI mwt), .ref (g.lk M 14), .ref (g.lk M 15), .int (nI mop), .ref (g.lk M 17), .ref (g.lk M 18), .ref (g.lk M 19), .ref (g.lk M 20), .ref (g.lk M 21), .ref (g.lk M 22), .ref (g.lk M 23), .ref (g.lk M 24), .ref (g.lk M 25), .ref (g.lk M 26), .ref (g.lk M 27), .ref (g.lk M 28), .ref (g.lk M 29), .ref (g.lk M 30), .ref (g.lk M 31), .int (nI t8), .ref (g.lk M 33), .ref (g.lk M 34), .ref (g.lk M 35), .int (nI w8), .int (nI g8), .int (nI p8), .int (nI s8), .int (nI x8), .int (nI y8), .int ma8, .int lg8, .int mdu]) (C := "BigRunnerModel") (T := FT10) (N := 45) hx hb (hw10 hB _) (fun _ h9 => h9) TY10 ok10 nm10 hown hK hP hD hS (lo_in hL t_M (by decide)) e32 rfl 0 (by decide) (wd_947 hB _) rfl (by decide +kernel) rfl rfl (Nat.le_of_ble_eq_true rfl) rfl d_M_run_250 (fun f68 H locs e69 k70 hP hD hS => ?_)
                        have eC := (k70 (g.lk M 6) (tg_ne (lo_k11_6 hL _ t_M) t_M (by decide))).trans eC
                        have eA := (k70 (g.lk M 7) (tg_ne (lo_k11_7 hL _ t_M) t_M (by decide))).trans eA
                        have e33 := (k70 (g.lk M 30) (tg_ne (lo_k11_30 hL _ t_M) t_M (by decide))).trans e33
                        have e34 := (k70 (g.lk M 31) (tg_ne (lo_k11_31 hL _ t_M) t_M (by decide))).trans e34
                        have e35 := (k70 (g.lk M 33) (tg_ne (lo_k11_33 hL _ t_M) t_M (by decide))).trans e35
                        have e36 := (k70 (g.lk M 34) (tg_ne (lo_k11_34 hL _ t_M) t_M (by decide))).trans e36
                        have e37 := (k70 (g.lk M 26) (tg_ne (lo_k11_26 hL _ t_M) t_M (by decide))).trans e37
                        have e38 := (k70 (g.lk M 27) (tg_ne (lo_k11_27 hL _ t_M) t_M (by decide))).trans e38
                        have e39 := (k70 (g.lk M 28) (tg_ne (lo_k11_28 hL _ t_M) t_M (by decide))).trans e39
                        have e40 := (k70 (g.lk M 29) (tg_ne (lo_k11_29 hL _ t_M) t_M (by decide))).trans e40
                        have e41 := (k70 (g.lk M 35) (tg_ne (lo_k11_35 hL _ t_M) t_M (by decide))).trans e41
                        have hu := hu.st k70 t_M (by decide)
                        have hv43 := hv43.st k70 t_M (by decide)
                        have hk71 : ∀ b, b ≠ M → f68 b = f28 b := k70
                        refine lv_aload_n hx hb d_M_run_253 rfl (lv_at hl 1 rfl) ?_
                        refine pf_get (v := .int (nI 4)) (C := "BigRunnerModel") (T := FT10) (N := 45) hx hb (hw10 hB _) (fun _ h9 => h9) hown hK hP (lo_in hL t_M (by decide)) e69 rfl 0 (by decide) (wd_947 hB _) rfl d_M_run_254 ?_
                        refine lv_if_le (tgt := 264) hx hb d_M_run_257 (by decide) (fun b72 => ?_) (fun b72 => ?_)
                        · skip
                          replace b72 := (nI_leI (a := 4) (b := 0) (by omega) (by omega)).mp b72
                          exfalso; omega
                        · skip
                          replace b72 := mt (nI_leI (a := 4) (b := 0) (by omega) (by omega)).mpr b72
                          refine lv_iconst (v := nI 0) hx hb d_M_run_260 (by decide) ?_
                          refine lv_goto (tgt := 265) hx hb d_M_run_261 (by decide) ?_
                          have hI73 := iv_1 hI42 hL t_M (by decide) hk71 (oc_11.mk t_M (⟨((nI 4)), mn, mdr, msz, mix, mdp, mwt, mop, t8, w8, g8, p8, s8, x8, y8, ma8, lg8, mdu, e69, (by omega), (by omega), (by omega), (by omega), (by omega), (by omega), (by omega), (by omega), (by omega), (by omega), (by omega), (by omega), (by omega), (by omega), hmb14⟩))
                          have hA9 : prunA L vn.toInt s9 = (4, 0, q8) := (prA_t hns9 hkj9 (by rw [hkn9, hfin9]; show q8.tr ≠ 0; omega)).trans (by rw [hkn9, hfin9]; show ((if q8.tr = 1 then 3 else 4), 0, q8) = _; rw [if_neg (by omega)])
                          exact pe_iret hx hb hr hlocks hK hP hD hS d_M_run_265 ⟨⟨(nI 4), t8, w8, g8, p8, s8, x8, y8, ma8, lg8, by omega, by omega, by omega, by omega, by omega, by omega, by omega, hri, (by omega), (by rw [hA9]), ⟨_, _, _, _, _, _, _, _, _, e33, e34, e35, e36, e37, e38, e39, e40, e41, cL, cR, cQ, cV, cO, (by rw [hA9]; exact hMQ8), (by rw [hA9]; exact hE8)⟩, e69⟩, (by rw [hA9]), (by rw [hA9]; show 0 ≤ 200; omega), hI73, hu⟩
                      · skip
                        replace b67 := (nI_eq (a := x8) (b := 1) (by omega) (by omega)).mp b67
                        refine lv_iconst (v := nI 3) hx hb d_M_run_245 (by decide) ?_
                        refine lv_goto (tgt := 250) hx hb d_M_run_246 (by decide) ?_
                        refine pf_put (v := .int (nI 3)) (ty := .int) (fs' := [.int (nI 3), .ref (g.lk M 1), .int (nI mn), .ref (g.lk M 3), .ref (g.lk M 4), .int (nI mdr), .ref (g.lk M 6), .ref (g.lk M 7), .ref (g.lk M 8), .int (nI msz), .int (nI mix), .int (nI mdp), .ref (g.lk M 12), .int (nI mwt), .ref (g.lk M 14), .ref (g.lk M 15), .int (nI mop), .ref (g.lk M 17), .ref (g.lk M 18), .ref (g.lk M 19), .ref (g.lk M 20), .ref (g.lk M 21), .ref (g.lk M 22), .ref (g.lk M 23), .ref (g.lk M 24), .ref (g.lk M 25), .ref (g.lk M 26), .ref (g.lk M 27), .ref (g.lk M 28), .ref (g.lk M 29), .ref (g.lk M 30), .ref (g.lk M 31), .int (nI t8), .ref (g.lk M 33), .ref (g.lk M 34), .ref (g.lk M 35), .int (nI w8), .int (nI g8), .int (nI p8), .int (nI s8), .int (nI x8), .int (nI y8), .int ma8, .int lg8, .int mdu]) (C := "BigRunnerModel") (T := FT10) (N := 45) hx hb (hw10 hB _) (fun _ h9 => h9) TY10 ok10 nm10 hown hK hP hD hS (lo_in hL t_M (by decide)) e32 rfl 0 (by decide) (wd_947 hB _) rfl (by decide +kernel) rfl rfl (Nat.le_of_ble_eq_true rfl) rfl d_M_run_250 (fun f74 H locs e75 k76 hP hD hS => ?_)
                        have eC := (k76 (g.lk M 6) (tg_ne (lo_k11_6 hL _ t_M) t_M (by decide))).trans eC
                        have eA := (k76 (g.lk M 7) (tg_ne (lo_k11_7 hL _ t_M) t_M (by decide))).trans eA
                        have e33 := (k76 (g.lk M 30) (tg_ne (lo_k11_30 hL _ t_M) t_M (by decide))).trans e33
                        have e34 := (k76 (g.lk M 31) (tg_ne (lo_k11_31 hL _ t_M) t_M (by decide))).trans e34
                        have e35 := (k76 (g.lk M 33) (tg_ne (lo_k11_33 hL _ t_M) t_M (by decide))).trans e35
                        have e36 := (k76 (g.lk M 34) (tg_ne (lo_k11_34 hL _ t_M) t_M (by decide))).trans e36
                        have e37 := (k76 (g.lk M 26) (tg_ne (lo_k11_26 hL _ t_M) t_M (by decide))).trans e37
                        have e38 := (k76 (g.lk M 27) (tg_ne (lo_k11_27 hL _ t_M) t_M (by decide))).trans e38
                        have e39 := (k76 (g.lk M 28) (tg_ne (lo_k11_28 hL _ t_M) t_M (by decide))).trans e39
                        have e40 := (k76 (g.lk M 29) (tg_ne (lo_k11_29 hL _ t_M) t_M (by decide))).trans e40
                        have e41 := (k76 (g.lk M 35) (tg_ne (lo_k11_35 hL _ t_M) t_M (by decide))).trans e41
                        have hu := hu.st k76 t_M (by decide)
                        have hv43 := hv43.st k76 t_M (by decide)
                        have hk77 : ∀ b, b ≠ M → f74 b = f28 b := k76
                        refine lv_aload_n hx hb d_M_run_253 rfl (lv_at hl 1 rfl) ?_
                        refine pf_get (v := .int (nI 3)) (C := "BigRunnerModel") (T := FT10) (N := 45) hx hb (hw10 hB _) (fun _ h9 => h9) hown hK hP (lo_in hL t_M (by decide)) e75 rfl 0 (by decide) (wd_947 hB _) rfl d_M_run_254 ?_
                        refine lv_if_le (tgt := 264) hx hb d_M_run_257 (by decide) (fun b78 => ?_) (fun b78 => ?_)
                        · skip
                          replace b78 := (nI_leI (a := 3) (b := 0) (by omega) (by omega)).mp b78
                          exfalso; omega
                        · skip
                          replace b78 := mt (nI_leI (a := 3) (b := 0) (by omega) (by omega)).mpr b78
                          refine lv_iconst (v := nI 0) hx hb d_M_run_260 (by decide) ?_
                          refine lv_goto (tgt := 265) hx hb d_M_run_261 (by decide) ?_
                          have hI79 := iv_1 hI42 hL t_M (by decide) hk77 (oc_11.mk t_M (⟨((nI 3)), mn, mdr, msz, mix, mdp, mwt, mop, t8, w8, g8, p8, s8, x8, y8, ma8, lg8, mdu, e75, (by omega), (by omega), (by omega), (by omega), (by omega), (by omega), (by omega), (by omega), (by omega), (by omega), (by omega), (by omega), (by omega), (by omega), hmb14⟩))
                          have hA9 : prunA L vn.toInt s9 = (3, 0, q8) := (prA_t hns9 hkj9 (by rw [hkn9, hfin9]; show q8.tr ≠ 0; omega)).trans (by rw [hkn9, hfin9]; show ((if q8.tr = 1 then 3 else 4), 0, q8) = _; rw [if_pos (by omega)])
                          exact pe_iret hx hb hr hlocks hK hP hD hS d_M_run_265 ⟨⟨(nI 3), t8, w8, g8, p8, s8, x8, y8, ma8, lg8, by omega, by omega, by omega, by omega, by omega, by omega, by omega, hri, (by omega), (by rw [hA9]), ⟨_, _, _, _, _, _, _, _, _, e33, e34, e35, e36, e37, e38, e39, e40, e41, cL, cR, cQ, cV, cO, (by rw [hA9]; exact hMQ8), (by rw [hA9]; exact hE8)⟩, e75⟩, (by rw [hA9]), (by rw [hA9]; show 0 ≤ 200; omega), hI79, hu⟩
                    · skip
                      replace b66 := (nI_eq (a := x8) (b := 0) (by omega) (by omega)).mp b66
                      refine lv_iconst (v := nI 0) hx hb d_M_run_233 (by decide) ?_
                      refine lv_goto (tgt := 250) hx hb d_M_run_234 (by decide) ?_
                      refine pf_put (v := .int (nI 0)) (ty := .int) (fs' := [.int (nI 0), .ref (g.lk M 1), .int (nI mn), .ref (g.lk M 3), .ref (g.lk M 4), .int (nI mdr), .ref (g.lk M 6), .ref (g.lk M 7), .ref (g.lk M 8), .int (nI msz), .int (nI mix), .int (nI mdp), .ref (g.lk M 12), .int (nI mwt), .ref (g.lk M 14), .ref (g.lk M 15), .int (nI mop), .ref (g.lk M 17), .ref (g.lk M 18), .ref (g.lk M 19), .ref (g.lk M 20), .ref (g.lk M 21), .ref (g.lk M 22), .ref (g.lk M 23), .ref (g.lk M 24), .ref (g.lk M 25), .ref (g.lk M 26), .ref (g.lk M 27), .ref (g.lk M 28), .ref (g.lk M 29), .ref (g.lk M 30), .ref (g.lk M 31), .int (nI t8), .ref (g.lk M 33), .ref (g.lk M 34), .ref (g.lk M 35), .int (nI w8), .int (nI g8), .int (nI p8), .int (nI s8), .int (nI x8), .int (nI y8), .int ma8, .int lg8, .int mdu]) (C := "BigRunnerModel") (T := FT10) (N := 45) hx hb (hw10 hB _) (fun _ h9 => h9) TY10 ok10 nm10 hown hK hP hD hS (lo_in hL t_M (by decide)) e32 rfl 0 (by decide) (wd_947 hB _) rfl (by decide +kernel) rfl rfl (Nat.le_of_ble_eq_true rfl) rfl d_M_run_250 (fun f80 H locs e81 k82 hP hD hS => ?_)
                      have eC := (k82 (g.lk M 6) (tg_ne (lo_k11_6 hL _ t_M) t_M (by decide))).trans eC
                      have eA := (k82 (g.lk M 7) (tg_ne (lo_k11_7 hL _ t_M) t_M (by decide))).trans eA
                      have e33 := (k82 (g.lk M 30) (tg_ne (lo_k11_30 hL _ t_M) t_M (by decide))).trans e33
                      have e34 := (k82 (g.lk M 31) (tg_ne (lo_k11_31 hL _ t_M) t_M (by decide))).trans e34
                      have e35 := (k82 (g.lk M 33) (tg_ne (lo_k11_33 hL _ t_M) t_M (by decide))).trans e35
                      have e36 := (k82 (g.lk M 34) (tg_ne (lo_k11_34 hL _ t_M) t_M (by decide))).trans e36
                      have e37 := (k82 (g.lk M 26) (tg_ne (lo_k11_26 hL _ t_M) t_M (by decide))).trans e37
                      have e38 := (k82 (g.lk M 27) (tg_ne (lo_k11_27 hL _ t_M) t_M (by decide))).trans e38
                      have e39 := (k82 (g.lk M 28) (tg_ne (lo_k11_28 hL _ t_M) t_M (by decide))).trans e39
                      have e40 := (k82 (g.lk M 29) (tg_ne (lo_k11_29 hL _ t_M) t_M (by decide))).trans e40
                      have e41 := (k82 (g.lk M 35) (tg_ne (lo_k11_35 hL _ t_M) t_M (by decide))).trans e41
                      have hu := hu.st k82 t_M (by decide)
                      have hv43 := hv43.st k82 t_M (by decide)
                      have hk83 : ∀ b, b ≠ M → f80 b = f28 b := k82
                      refine lv_aload_n hx hb d_M_run_253 rfl (lv_at hl 1 rfl) ?_
                      refine pf_get (v := .int (nI 0)) (C := "BigRunnerModel") (T := FT10) (N := 45) hx hb (hw10 hB _) (fun _ h9 => h9) hown hK hP (lo_in hL t_M (by decide)) e81 rfl 0 (by decide) (wd_947 hB _) rfl d_M_run_254 ?_
                      refine lv_if_le (tgt := 264) hx hb d_M_run_257 (by decide) (fun b84 => ?_) (fun b84 => ?_)
                      · skip
                        replace b84 := (nI_leI (a := 0) (b := 0) (by omega) (by omega)).mp b84
                        refine lv_iload_n hx hb d_M_run_264 rfl (lv_at hl 0 rfl) ?_
                        have hI85 := iv_1 hI42 hL t_M (by decide) hk83 (oc_11.mk t_M (⟨((nI 0)), mn, mdr, msz, mix, mdp, mwt, mop, t8, w8, g8, p8, s8, x8, y8, ma8, lg8, mdu, e81, (by omega), (by omega), (by omega), (by omega), (by omega), (by omega), (by omega), (by omega), (by omega), (by omega), (by omega), (by omega), (by omega), (by omega), hmb14⟩))
                        have hA9 : prunA L vn.toInt s9 = (0, md, q8) := (prA_0 hns9 hkj9 (by rw [hkn9, hfin9]; show q8.tr = 0; omega)).trans (by rw [hkn9, hfin9])
                        exact pe_iret hx hb hr hlocks hK hP hD hS d_M_run_265 ⟨⟨(nI 0), t8, w8, g8, p8, s8, x8, y8, ma8, lg8, by omega, by omega, by omega, by omega, by omega, by omega, by omega, hri, (by omega), (by rw [hA9]), ⟨_, _, _, _, _, _, _, _, _, e33, e34, e35, e36, e37, e38, e39, e40, e41, cL, cR, cQ, cV, cO, (by rw [hA9]; exact hMQ8), (by rw [hA9]; exact hE8)⟩, e81⟩, (by rw [hA9]), (by rw [hA9]; show md ≤ 200; omega), hI85, hu⟩
                      · skip
                        replace b84 := mt (nI_leI (a := 0) (b := 0) (by omega) (by omega)).mpr b84
                        exfalso; omega
                  · skip
                    replace b65 := (nI_eq (a := s8) (b := 1) (by omega) (by omega)).mp b65
                    obtain ⟨q1, q2, q3, q4⟩ := hri (by omega)
                    have hP9 := (hP8.resolve_right (fun z => z.1 (by omega))).2
                    have hns : ¬ (q8.tr ≠ 0 ∨ q8.pc = L.length) := fun z => by have := hE8.mpr z; omega
                    have hkm : kn - md = (kn - (md + 1)) + 1 := by omega
                    have hpc8 : p8 = q8.pc := hMQ8.2.2.2.2.2.2 q4
                    refine lv_aload_n hx hb d_M_run_69 rfl (lv_at hl 1 rfl) ?_
                    refine pf_get (v := .int (nI y8)) (C := "BigRunnerModel") (T := FT10) (N := 45) hx hb (hw10 hB _) (fun _ h9 => h9) hown hK hP (lo_in hL t_M (by decide)) e32 rfl 41 (by decide) (wd_988 hB _) rfl d_M_run_70 ?_
                    refine lv_sipush (v := nI 3000) hx hb d_M_run_73 (by decide) ?_
                    refine lv_icmp_ne (tgt := 87) hx hb d_M_run_76 (by decide) (fun b86 => ?_) (fun b86 => ?_)
                    · skip
                      replace b86 := mt (nI_eq (a := y8) (b := 3000) (by omega) (by omega)).mpr b86
                      obtain ⟨w, v, hWO⟩ := hWF.2.2 p8 (by omega)
                      have hw := wo_c hWO
                      have z3 := wo_12 hWO
                      have hat := mcl_w hMCL q1 hw (wo_a hWO) z3 (wo_b hWO)
                      refine lv_aload_n hx hb d_M_run_87 rfl (lv_at hl 1 rfl) ?_
                      refine pf_get (v := .ref (g.lk M 6)) (C := "BigRunnerModel") (T := FT10) (N := 45) hx hb (hw10 hB _) (fun _ h9 => h9) hown hK hP (lo_in hL t_M (by decide)) e32 rfl 6 (by decide) (wd_953 hB _) rfl d_M_run_88 ?_
                      refine lv_aload_n hx hb d_M_run_91 rfl (lv_at hl 1 rfl) ?_
                      refine pf_get (v := .int (nI p8)) (C := "BigRunnerModel") (T := FT10) (N := 45) hx hb (hw10 hB _) (fun _ h9 => h9) hown hK hP (lo_in hL t_M (by decide)) e32 rfl 38 (by decide) (wd_985 hB _) rfl d_M_run_92 ?_
                      refine pf_iald (i := p8) hx hb hK hP (lo_in hL (lo_k11_6 hL _ t_M) (by decide)) eC (lo_t43 hL _ (lo_k11_6 hL _ t_M)) (by omega) (by decide) d_M_run_95 ?_
                      refine lv_topi (fun z_ hz_ => ?_)
                      obtain rfl : z_ = nI w := hz_.trans hw
                      refine lv_bipush (v := nI 9) hx hb d_M_run_96 (by decide) ?_
                      refine lv_icmp_ne (tgt := 116) hx hb d_M_run_98 (by decide) (fun b87 => ?_) (fun b87 => ?_)
                      · skip
                        replace b87 := mt (nI_eq (a := w) (b := 9) (by omega) (by omega)).mpr b87
                        have h9n : ¬ ((at_ L q8.pc).1 = 9 ∧ q8.ins = []) := fun z => by have y9 := z.1; rw [← hpc8, hat] at y9; have y8 : w = 9 := y9; omega
                        refine lv_aload_n hx hb d_M_run_116 rfl (lv_at hl 1 rfl) ?_
                        refine pcc_v (va_runV (C := "BigRunnerModel") (As := []) (rest := []) ⟨hx, hb, hml, hown, tb_nil⟩ (w_step l g H.size f28 M ((nI 0)) mn mdr msz mix mdp mwt mop t8 w8 g8 p8 s8 x8 y8 ma8 lg8 mdu hC hA dpf aL aS aR aQ aV aW aO aP aI L q8 hL t_M hI42 e32 ⟨(by omega), (by omega), (by omega), (by omega), (by omega), (by omega), (by omega), (by omega), (by omega), (by omega), (by omega), (by omega), (by omega), (by omega), hmb14⟩ eC eA hWF (by omega) (by omega) q3 (Or.inl (fun z => absurd ((nI_eq (by omega) (by omega)).mp (hw.symm.trans z)) (by omega))) (by omega) (by omega) e33 e34 e35 e36 e37 e38 e39 e40 e41 cL cR cQ cV cO hMCL hMQ8) ⟨(callB_of 0 (tb_one (wd_1203 hB _)) tb_good1 rfl rfl rfl (wd_82 hB _) (wd_1200 hB _) (by decide +kernel) ⟨Nat.le_of_ble_eq_true rfl, Nat.le_of_ble_eq_true rfl⟩), (wd_1202 hB _), (wd_57 hB _)⟩ ⟨pe_bl, pg_recv (ci := 10) hK hP (lo_in hL t_M (by decide)) e32 rfl, pe_pre hB hK hP hD⟩ rfl rfl hl.1 rfl (lv_room (Nat.le_of_ble_eq_true rfl)) d_M_run_117 ⟨Nat.le_of_ble_eq_true rfl, Nat.le_of_ble_eq_true rfl⟩) hS (fun f89 H locs hq90 hP hD hS => ?_)
                        obtain ⟨x1_91, hI1_92, hu1_93⟩ := hq90
                        have hu := hu.tr hu1_93 (by decide)
                        have hv43 := hv43.tr hu1_93 (by decide)
                        have eC := hu1_93.at (lo_k11_6 hL _ t_M) (by decide) eC
                        have eA := hu1_93.at (lo_k11_7 hL _ t_M) (by decide) eA
                        obtain ⟨tp1_95, wa1_96, gi1_97, pc1_98, tr1_99, sp1_100, ma1_101, lg1_102, c103, c104, c105, c106, c107, c108, c109, c110, e94⟩ := x1_91
                        obtain ⟨hl_111, hs_112, hr_113, hq_114, hv_115, hw_116, ho_117, hp_118, hi_119, e120, e121, e122, e123, e124, e125, e126, e127, e128, c129, c130, c131, c132, c133, hmq134⟩ := c110
                        have htq8 := hmq134.2.2.2.2.2.1
                        refine lv_iinc (k := 0) (v := nI (md + 1)) (lv' := [(2, .int (nI (md + 1))), (0, .ref M), (1, .int (nI kn))]) hx hb d_M_run_120 hl rfl (by rw [nI_succ]; rfl) (by decide) rfl (fun ls hl => ?_)
                        refine lv_aload_n hx hb d_M_run_123 rfl (lv_at hl 1 rfl) ?_
                        refine lv_aload_n hx hb d_M_run_124 rfl (lv_at hl 1 rfl) ?_
                        refine pf_get (v := .int (nI tr1_99)) (C := "BigRunnerModel") (T := FT10) (N := 45) hx hb (hw10 hB _) (fun _ h9 => h9) hown hK hP (lo_in hL t_M (by decide)) e94 rfl 40 (by decide) (wd_987 hB _) rfl d_M_run_125 ?_
                        refine lv_if_le (tgt := 135) hx hb d_M_run_128 (by decide) (fun b135 => ?_) (fun b135 => ?_)
                        · skip
                          replace b135 := (nI_leI (a := tr1_99) (b := 0) (by omega) (by omega)).mp b135
                          refine lv_aload_n hx hb d_M_run_135 rfl (lv_at hl 1 rfl) ?_
                          refine pf_get (v := .int (nI s8)) (C := "BigRunnerModel") (T := FT10) (N := 45) hx hb (hw10 hB _) (fun _ h9 => h9) hown hK hP (lo_in hL t_M (by decide)) e94 rfl 39 (by decide) (wd_986 hB _) rfl d_M_run_136 ?_
                          refine pf_put (v := .int (nI s8)) (ty := .int) (fs' := [.int (nI 0), .ref (g.lk M 1), .int (nI mn), .ref (g.lk M 3), .ref (g.lk M 4), .int (nI mdr), .ref (g.lk M 6), .ref (g.lk M 7), .ref (g.lk M 8), .int (nI msz), .int (nI mix), .int (nI mdp), .ref (g.lk M 12), .int (nI mwt), .ref (g.lk M 14), .ref (g.lk M 15), .int (nI mop), .ref (g.lk M 17), .ref (g.lk M 18), .ref (g.lk M 19), .ref (g.lk M 20), .ref (g.lk M 21), .ref (g.lk M 22), .ref (g.lk M 23), .ref (g.lk M 24), .ref (g.lk M 25), .ref (g.lk M 26), .ref (g.lk M 27), .ref (g.lk M 28), .ref (g.lk M 29), .ref (g.lk M 30), .ref (g.lk M 31), .int (nI tp1_95), .ref (g.lk M 33), .ref (g.lk M 34), .ref (g.lk M 35), .int (nI wa1_96), .int (nI gi1_97), .int (nI pc1_98), .int (nI s8), .int (nI tr1_99), .int (nI sp1_100), .int ma1_101, .int lg1_102, .int mdu]) (C := "BigRunnerModel") (T := FT10) (N := 45) hx hb (hw10 hB _) (fun _ h9 => h9) TY10 ok10 nm10 hown hK hP hD hS (lo_in hL t_M (by decide)) e94 rfl 39 (by decide) (wd_986 hB _) rfl (by decide +kernel) rfl rfl (Nat.le_of_ble_eq_true rfl) rfl d_M_run_139 (fun f136 H locs e137 k138 hP hD hS => ?_)
                          have eC := (k138 (g.lk M 6) (tg_ne (lo_k11_6 hL _ t_M) t_M (by decide))).trans eC
                          have eA := (k138 (g.lk M 7) (tg_ne (lo_k11_7 hL _ t_M) t_M (by decide))).trans eA
                          have e120 := (k138 (g.lk M 30) (tg_ne (lo_k11_30 hL _ t_M) t_M (by decide))).trans e120
                          have e121 := (k138 (g.lk M 31) (tg_ne (lo_k11_31 hL _ t_M) t_M (by decide))).trans e121
                          have e122 := (k138 (g.lk M 33) (tg_ne (lo_k11_33 hL _ t_M) t_M (by decide))).trans e122
                          have e123 := (k138 (g.lk M 34) (tg_ne (lo_k11_34 hL _ t_M) t_M (by decide))).trans e123
                          have e124 := (k138 (g.lk M 26) (tg_ne (lo_k11_26 hL _ t_M) t_M (by decide))).trans e124
                          have e125 := (k138 (g.lk M 27) (tg_ne (lo_k11_27 hL _ t_M) t_M (by decide))).trans e125
                          have e126 := (k138 (g.lk M 28) (tg_ne (lo_k11_28 hL _ t_M) t_M (by decide))).trans e126
                          have e127 := (k138 (g.lk M 29) (tg_ne (lo_k11_29 hL _ t_M) t_M (by decide))).trans e127
                          have e128 := (k138 (g.lk M 35) (tg_ne (lo_k11_35 hL _ t_M) t_M (by decide))).trans e128
                          have hu := hu.st k138 t_M (by decide)
                          have hv43 := hv43.st k138 t_M (by decide)
                          have hk139 : ∀ b, b ≠ M → f136 b = f89 b := k138
                          have htq9 : (pstq L q8).tr = 0 := by omega
                          obtain ⟨j1, j2⟩ := c109 (by omega)
                          have hpq9 := hmq134.2.2.2.2.2.2 (by omega)
                          have hI140 := iv_1 hI1_92 hL t_M (by decide) hk139 (oc_11.mk t_M (⟨((nI 0)), mn, mdr, msz, mix, mdp, mwt, mop, tp1_95, wa1_96, gi1_97, pc1_98, s8, tr1_99, sp1_100, ma1_101, lg1_102, mdu, e137, (by omega), (by omega), (by omega), (by omega), (by omega), (by omega), (by omega), (by omega), (by omega), (by omega), (by omega), (by omega), (by omega), (by omega), hmb14⟩))
                          have lp141 : ∀ (k143 : Nat) (p7 : Nat) (fl : Nat) (jj : Nat) (f142 : Nat → va_E) (H : Heap) (locs : List Loc) (ls : Array Slot), ((fl = 0 ∧ msz < p7 + k143) ∨ (fl = 1 ∧ 0 < k143)) → (p7 ≤ msz) → (PZ0 dpf msz p7) → (fl ≤ 1) → (JF hC p7 fl) → (jmpf L jj (pstq L q8).pc = p7) → (jj ≤ 101) → (fl = 0 → jj ≤ p7) → f142 M = .inr (10, [.int ((nI 0)), .ref (g.lk M 1), .int (nI mn), .ref (g.lk M 3), .ref (g.lk M 4), .int (nI mdr), .ref (g.lk M 6), .ref (g.lk M 7), .ref (g.lk M 8), .int (nI msz), .int (nI mix), .int (nI mdp), .ref (g.lk M 12), .int (nI mwt), .ref (g.lk M 14), .ref (g.lk M 15), .int (nI mop), .ref (g.lk M 17), .ref (g.lk M 18), .ref (g.lk M 19), .ref (g.lk M 20), .ref (g.lk M 21), .ref (g.lk M 22), .ref (g.lk M 23), .ref (g.lk M 24), .ref (g.lk M 25), .ref (g.lk M 26), .ref (g.lk M 27), .ref (g.lk M 28), .ref (g.lk M 29), .ref (g.lk M 30), .ref (g.lk M 31), .int (nI tp1_95), .ref (g.lk M 33), .ref (g.lk M 34), .ref (g.lk M 35), .int (nI wa1_96), .int (nI gi1_97), .int (nI p7), .int (nI s8), .int (nI tr1_99), .int (nI sp1_100), .int ma1_101, .int lg1_102, .int mdu]) → IV g f142 → un [11] g f136 f142 → lv_has ls 3 [(2, .int (nI (md + 1))), (0, .ref M), (1, .int (nI kn))] → va_P g.D vcl (va_pl g.LP f142) H → va_D (pc_A g s.heap.size) (va_pl g.LP f142) → va_S (pc_A g s.heap.size) s.heap H locs → W p l e ({ frames := 5, cells := 0, slots := 0, locals := 124 }) s m args below meth c H locs 0 0 (MQ below (va_Qi (fun r f1 => (∃ (th1 : Int32) (tp1 : Nat) (wa1 : Nat) (gi1 : Nat) (pc1 : Nat) (st1 : Nat) (tr1 : Nat) (sp1 : Nat) (ma1 : Int32) (lg1 : Int32), (tp1 ≤ 80) ∧ (wa1 ≤ 20) ∧ (gi1 ≤ sp1) ∧ (pc1 ≤ 100) ∧ (st1 ≤ 4) ∧ (tr1 ≤ 3) ∧ (sp1 ≤ 3000) ∧ (RI hC dpf msz st1 pc1 tr1) ∧ (st1 ≠ 0) ∧ (th1 = nI ((prunA L vn.toInt s9).1)) ∧ (∃ hl hs hr hq hv hw ho hp hi : Nat → Int32, f1 (g.lk M 30) = .inl (g.ac (g.lk M 30), 1600, .inl hl) ∧ f1 (g.lk M 31) = .inl (g.ac (g.lk M 31), 80, .inl hs) ∧ f1 (g.lk M 33) = .inl (g.ac (g.lk M 33), 44, .inl hr) ∧ f1 (g.lk M 34) = .inl (g.ac (g.lk M 34), 44, .inl hq) ∧ f1 (g.lk M 26) = .inl (g.ac (g.lk M 26), 200, .inl hv) ∧ f1 (g.lk M 27) = .inl (g.ac (g.lk M 27), 10, .inl hw) ∧ f1 (g.lk M 28) = .inl (g.ac (g.lk M 28), 240, .inl ho) ∧ f1 (g.lk M 29) = .inl (g.ac (g.lk M 29), 12, .inl hp) ∧ f1 (g.lk M 35) = .inl (g.ac (g.lk M 35), 20, .inl hi) ∧ C6 1600 hl ∧ C6 44 hr ∧ C6 44 hq ∧ C6 200 hv ∧ C6 240 ho ∧ MQ9 hv hw ho hp hi wa1 gi1 sp1 tr1 pc1 (prunA L vn.toInt s9).2.2 ∧ (2 < st1 ↔ (prunA L vn.toInt s9).2.2.tr ≠ 0 ∨ (prunA L vn.toInt s9).2.2.pc = L.length)) ∧ f1 M = .inr (10, [.int th1, .ref (g.lk M 1), .int (nI mn), .ref (g.lk M 3), .ref (g.lk M 4), .int (nI mdr), .ref (g.lk M 6), .ref (g.lk M 7), .ref (g.lk M 8), .int (nI msz), .int (nI mix), .int (nI mdp), .ref (g.lk M 12), .int (nI mwt), .ref (g.lk M 14), .ref (g.lk M 15), .int (nI mop), .ref (g.lk M 17), .ref (g.lk M 18), .ref (g.lk M 19), .ref (g.lk M 20), .ref (g.lk M 21), .ref (g.lk M 22), .ref (g.lk M 23), .ref (g.lk M 24), .ref (g.lk M 25), .ref (g.lk M 26), .ref (g.lk M 27), .ref (g.lk M 28), .ref (g.lk M 29), .ref (g.lk M 30), .ref (g.lk M 31), .int (nI tp1), .ref (g.lk M 33), .ref (g.lk M 34), .ref (g.lk M 35), .int (nI wa1), .int (nI gi1), .int (nI pc1), .int (nI st1), .int (nI tr1), .int (nI sp1), .int ma1, .int lg1, .int mdu])) ∧ (r = nI ((prunA L vn.toInt s9).2.1)) ∧ ((prunA L vn.toInt s9).2.1 ≤ 200) ∧ (IV g f1) ∧ (un [11, 58, 59, 60, 61, 62, 63, 64, 65, 66] g f f1)) (pc_out g s.heap.size) (pc_A g s.heap.size)) args s 0 0 (pc_A g s.heap.size)) (F0 m 142 ls []) := by
                            intro k143
                            induction k143 with
                            | zero => intros; exfalso; omega
                            | succ k143 ih144 =>
                              intro p7 fl jj f142 H locs ls hfu145 hp7 hp6 hfl hJF hjf hjb hjc e146 hI147 hv148 hl hP hD hS
                              have eC := hv148.at (lo_k11_6 hL _ t_M) (by decide) eC
                              have eA := hv148.at (lo_k11_7 hL _ t_M) (by decide) eA
                              have e120 := hv148.at (lo_k11_30 hL _ t_M) (by decide) e120
                              have e121 := hv148.at (lo_k11_31 hL _ t_M) (by decide) e121
                              have e122 := hv148.at (lo_k11_33 hL _ t_M) (by decide) e122
                              have e123 := hv148.at (lo_k11_34 hL _ t_M) (by decide) e123
                              have e124 := hv148.at (lo_k11_26 hL _ t_M) (by decide) e124
                              have e125 := hv148.at (lo_k11_27 hL _ t_M) (by decide) e125
                              have e126 := hv148.at (lo_k11_28 hL _ t_M) (by decide) e126
                              have e127 := hv148.at (lo_k11_29 hL _ t_M) (by decide) e127
                              have e128 := hv148.at (lo_k11_35 hL _ t_M) (by decide) e128
                              have hu := hu.tr hv148 (by decide)
                              have hv43 := hv43.tr hv148 (by decide)
                              refine lv_aload_n hx hb d_M_run_142 rfl (lv_at hl 1 rfl) ?_
                              refine pf_get (v := .int (nI s8)) (C := "BigRunnerModel") (T := FT10) (N := 45) hx hb (hw10 hB _) (fun _ h9 => h9) hown hK hP (lo_in hL t_M (by decide)) e146 rfl 39 (by decide) (wd_986 hB _) rfl d_M_run_143 ?_
                              refine lv_iconst (v := nI 1) hx hb d_M_run_146 (by decide) ?_
                              refine lv_icmp_ne (tgt := 191) hx hb d_M_run_147 (by decide) (fun b149 => ?_) (fun b149 => ?_)
                              · skip
                                replace b149 := mt (nI_eq (a := s8) (b := 1) (by omega) (by omega)).mpr b149
                                have hst7 : stop L p7 := fun z9 => by have y9 := z9.1; rw [hMCL.1] at y9; omega
                                have hjm9 : p7 = jmp L (pstq L q8).pc := (jmp_of hjf hst7 (by omega)).symm
                                have hpp9 : (pstep L q8).pc = p7 := by rw [pst_q]; show (if (pstq L q8).tr = 0 then jmp L (pstq L q8).pc else (pstq L q8).pc) = p7; rw [if_pos htq9]; exact hjm9.symm
                                have hpt9 : (pstep L q8).tr = 0 := by rw [pst_q]; exact htq9
                                refine lv_aload_n hx hb d_M_run_191 rfl (lv_at hl 1 rfl) ?_
                                refine lv_aload_n hx hb d_M_run_192 rfl (lv_at hl 1 rfl) ?_
                                refine pf_get (v := .int (nI s8)) (C := "BigRunnerModel") (T := FT10) (N := 45) hx hb (hw10 hB _) (fun _ h9 => h9) hown hK hP (lo_in hL t_M (by decide)) e146 rfl 39 (by decide) (wd_986 hB _) rfl d_M_run_193 ?_
                                refine lv_iconst (v := nI 1) hx hb d_M_run_196 (by decide) ?_
                                refine lv_icmp_ne (tgt := 215) hx hb d_M_run_197 (by decide) (fun b150 => ?_) (fun b150 => ?_)
                                · skip
                                  replace b150 := mt (nI_eq (a := s8) (b := 1) (by omega) (by omega)).mpr b150
                                  refine lv_aload_n hx hb d_M_run_215 rfl (lv_at hl 1 rfl) ?_
                                  refine pf_get (v := .int (nI s8)) (C := "BigRunnerModel") (T := FT10) (N := 45) hx hb (hw10 hB _) (fun _ h9 => h9) hown hK hP (lo_in hL t_M (by decide)) e146 rfl 39 (by decide) (wd_986 hB _) rfl d_M_run_216 ?_
                                  refine pf_put (v := .int (nI s8)) (ty := .int) (fs' := [.int ((nI 0)), .ref (g.lk M 1), .int (nI mn), .ref (g.lk M 3), .ref (g.lk M 4), .int (nI mdr), .ref (g.lk M 6), .ref (g.lk M 7), .ref (g.lk M 8), .int (nI msz), .int (nI mix), .int (nI mdp), .ref (g.lk M 12), .int (nI mwt), .ref (g.lk M 14), .ref (g.lk M 15), .int (nI mop), .ref (g.lk M 17), .ref (g.lk M 18), .ref (g.lk M 19), .ref (g.lk M 20), .ref (g.lk M 21), .ref (g.lk M 22), .ref (g.lk M 23), .ref (g.lk M 24), .ref (g.lk M 25), .ref (g.lk M 26), .ref (g.lk M 27), .ref (g.lk M 28), .ref (g.lk M 29), .ref (g.lk M 30), .ref (g.lk M 31), .int (nI tp1_95), .ref (g.lk M 33), .ref (g.lk M 34), .ref (g.lk M 35), .int (nI wa1_96), .int (nI gi1_97), .int (nI p7), .int (nI s8), .int (nI tr1_99), .int (nI sp1_100), .int ma1_101, .int lg1_102, .int mdu]) (C := "BigRunnerModel") (T := FT10) (N := 45) hx hb (hw10 hB _) (fun _ h9 => h9) TY10 ok10 nm10 hown hK hP hD hS (lo_in hL t_M (by decide)) e146 rfl 39 (by decide) (wd_986 hB _) rfl (by decide +kernel) rfl rfl (Nat.le_of_ble_eq_true rfl) rfl d_M_run_219 (fun f151 H locs e152 k153 hP hD hS => ?_)
                                  have eC := (k153 (g.lk M 6) (tg_ne (lo_k11_6 hL _ t_M) t_M (by decide))).trans eC
                                  have eA := (k153 (g.lk M 7) (tg_ne (lo_k11_7 hL _ t_M) t_M (by decide))).trans eA
                                  have e120 := (k153 (g.lk M 30) (tg_ne (lo_k11_30 hL _ t_M) t_M (by decide))).trans e120
                                  have e121 := (k153 (g.lk M 31) (tg_ne (lo_k11_31 hL _ t_M) t_M (by decide))).trans e121
                                  have e122 := (k153 (g.lk M 33) (tg_ne (lo_k11_33 hL _ t_M) t_M (by decide))).trans e122
                                  have e123 := (k153 (g.lk M 34) (tg_ne (lo_k11_34 hL _ t_M) t_M (by decide))).trans e123
                                  have e124 := (k153 (g.lk M 26) (tg_ne (lo_k11_26 hL _ t_M) t_M (by decide))).trans e124
                                  have e125 := (k153 (g.lk M 27) (tg_ne (lo_k11_27 hL _ t_M) t_M (by decide))).trans e125
                                  have e126 := (k153 (g.lk M 28) (tg_ne (lo_k11_28 hL _ t_M) t_M (by decide))).trans e126
                                  have e127 := (k153 (g.lk M 29) (tg_ne (lo_k11_29 hL _ t_M) t_M (by decide))).trans e127
                                  have e128 := (k153 (g.lk M 35) (tg_ne (lo_k11_35 hL _ t_M) t_M (by decide))).trans e128
                                  have hu := hu.st k153 t_M (by decide)
                                  have hv43 := hv43.st k153 t_M (by decide)
                                  have hv148 := hv148.st k153 t_M (by decide)
                                  have hk154 : ∀ b, b ≠ M → f151 b = f142 b := k153
                                  exfalso; omega
                                · skip
                                  replace b150 := (nI_eq (a := s8) (b := 1) (by omega) (by omega)).mp b150
                                  refine lv_aload_n hx hb d_M_run_200 rfl (lv_at hl 1 rfl) ?_
                                  refine pf_get (v := .int (nI p7)) (C := "BigRunnerModel") (T := FT10) (N := 45) hx hb (hw10 hB _) (fun _ h9 => h9) hown hK hP (lo_in hL t_M (by decide)) e146 rfl 38 (by decide) (wd_985 hB _) rfl d_M_run_201 ?_
                                  refine lv_aload_n hx hb d_M_run_204 rfl (lv_at hl 1 rfl) ?_
                                  refine pf_get (v := .int (nI msz)) (C := "BigRunnerModel") (T := FT10) (N := 45) hx hb (hw10 hB _) (fun _ h9 => h9) hown hK hP (lo_in hL t_M (by decide)) e146 rfl 9 (by decide) (wd_956 hB _) rfl d_M_run_205 ?_
                                  refine lv_icmp_ne (tgt := 215) hx hb d_M_run_208 (by decide) (fun b155 => ?_) (fun b155 => ?_)
                                  · skip
                                    replace b155 := mt (nI_eq (a := p7) (b := msz) (by omega) (by omega)).mpr b155
                                    refine lv_aload_n hx hb d_M_run_215 rfl (lv_at hl 1 rfl) ?_
                                    refine pf_get (v := .int (nI s8)) (C := "BigRunnerModel") (T := FT10) (N := 45) hx hb (hw10 hB _) (fun _ h9 => h9) hown hK hP (lo_in hL t_M (by decide)) e146 rfl 39 (by decide) (wd_986 hB _) rfl d_M_run_216 ?_
                                    refine pf_put (v := .int (nI s8)) (ty := .int) (fs' := [.int ((nI 0)), .ref (g.lk M 1), .int (nI mn), .ref (g.lk M 3), .ref (g.lk M 4), .int (nI mdr), .ref (g.lk M 6), .ref (g.lk M 7), .ref (g.lk M 8), .int (nI msz), .int (nI mix), .int (nI mdp), .ref (g.lk M 12), .int (nI mwt), .ref (g.lk M 14), .ref (g.lk M 15), .int (nI mop), .ref (g.lk M 17), .ref (g.lk M 18), .ref (g.lk M 19), .ref (g.lk M 20), .ref (g.lk M 21), .ref (g.lk M 22), .ref (g.lk M 23), .ref (g.lk M 24), .ref (g.lk M 25), .ref (g.lk M 26), .ref (g.lk M 27), .ref (g.lk M 28), .ref (g.lk M 29), .ref (g.lk M 30), .ref (g.lk M 31), .int (nI tp1_95), .ref (g.lk M 33), .ref (g.lk M 34), .ref (g.lk M 35), .int (nI wa1_96), .int (nI gi1_97), .int (nI p7), .int (nI s8), .int (nI tr1_99), .int (nI sp1_100), .int ma1_101, .int lg1_102, .int mdu]) (C := "BigRunnerModel") (T := FT10) (N := 45) hx hb (hw10 hB _) (fun _ h9 => h9) TY10 ok10 nm10 hown hK hP hD hS (lo_in hL t_M (by decide)) e146 rfl 39 (by decide) (wd_986 hB _) rfl (by decide +kernel) rfl rfl (Nat.le_of_ble_eq_true rfl) rfl d_M_run_219 (fun f156 H locs e157 k158 hP hD hS => ?_)
                                    have eC := (k158 (g.lk M 6) (tg_ne (lo_k11_6 hL _ t_M) t_M (by decide))).trans eC
                                    have eA := (k158 (g.lk M 7) (tg_ne (lo_k11_7 hL _ t_M) t_M (by decide))).trans eA
                                    have e120 := (k158 (g.lk M 30) (tg_ne (lo_k11_30 hL _ t_M) t_M (by decide))).trans e120
                                    have e121 := (k158 (g.lk M 31) (tg_ne (lo_k11_31 hL _ t_M) t_M (by decide))).trans e121
                                    have e122 := (k158 (g.lk M 33) (tg_ne (lo_k11_33 hL _ t_M) t_M (by decide))).trans e122
                                    have e123 := (k158 (g.lk M 34) (tg_ne (lo_k11_34 hL _ t_M) t_M (by decide))).trans e123
                                    have e124 := (k158 (g.lk M 26) (tg_ne (lo_k11_26 hL _ t_M) t_M (by decide))).trans e124
                                    have e125 := (k158 (g.lk M 27) (tg_ne (lo_k11_27 hL _ t_M) t_M (by decide))).trans e125
                                    have e126 := (k158 (g.lk M 28) (tg_ne (lo_k11_28 hL _ t_M) t_M (by decide))).trans e126
                                    have e127 := (k158 (g.lk M 29) (tg_ne (lo_k11_29 hL _ t_M) t_M (by decide))).trans e127
                                    have e128 := (k158 (g.lk M 35) (tg_ne (lo_k11_35 hL _ t_M) t_M (by decide))).trans e128
                                    have hu := hu.st k158 t_M (by decide)
                                    have hv43 := hv43.st k158 t_M (by decide)
                                    have hv148 := hv148.st k158 t_M (by decide)
                                    have hk159 : ∀ b, b ≠ M → f156 b = f142 b := k158
                                    exfalso; omega
                                  · skip
                                    replace b155 := (nI_eq (a := p7) (b := msz) (by omega) (by omega)).mp b155
                                    refine lv_iconst (v := nI 3) hx hb d_M_run_211 (by decide) ?_
                                    refine lv_goto (tgt := 219) hx hb d_M_run_212 (by decide) ?_
                                    refine pf_put (v := .int (nI 3)) (ty := .int) (fs' := [.int ((nI 0)), .ref (g.lk M 1), .int (nI mn), .ref (g.lk M 3), .ref (g.lk M 4), .int (nI mdr), .ref (g.lk M 6), .ref (g.lk M 7), .ref (g.lk M 8), .int (nI msz), .int (nI mix), .int (nI mdp), .ref (g.lk M 12), .int (nI mwt), .ref (g.lk M 14), .ref (g.lk M 15), .int (nI mop), .ref (g.lk M 17), .ref (g.lk M 18), .ref (g.lk M 19), .ref (g.lk M 20), .ref (g.lk M 21), .ref (g.lk M 22), .ref (g.lk M 23), .ref (g.lk M 24), .ref (g.lk M 25), .ref (g.lk M 26), .ref (g.lk M 27), .ref (g.lk M 28), .ref (g.lk M 29), .ref (g.lk M 30), .ref (g.lk M 31), .int (nI tp1_95), .ref (g.lk M 33), .ref (g.lk M 34), .ref (g.lk M 35), .int (nI wa1_96), .int (nI gi1_97), .int (nI p7), .int (nI 3), .int (nI tr1_99), .int (nI sp1_100), .int ma1_101, .int lg1_102, .int mdu]) (C := "BigRunnerModel") (T := FT10) (N := 45) hx hb (hw10 hB _) (fun _ h9 => h9) TY10 ok10 nm10 hown hK hP hD hS (lo_in hL t_M (by decide)) e146 rfl 39 (by decide) (wd_986 hB _) rfl (by decide +kernel) rfl rfl (Nat.le_of_ble_eq_true rfl) rfl d_M_run_219 (fun f160 H locs e161 k162 hP hD hS => ?_)
                                    have eC := (k162 (g.lk M 6) (tg_ne (lo_k11_6 hL _ t_M) t_M (by decide))).trans eC
                                    have eA := (k162 (g.lk M 7) (tg_ne (lo_k11_7 hL _ t_M) t_M (by decide))).trans eA
                                    have e120 := (k162 (g.lk M 30) (tg_ne (lo_k11_30 hL _ t_M) t_M (by decide))).trans e120
                                    have e121 := (k162 (g.lk M 31) (tg_ne (lo_k11_31 hL _ t_M) t_M (by decide))).trans e121
                                    have e122 := (k162 (g.lk M 33) (tg_ne (lo_k11_33 hL _ t_M) t_M (by decide))).trans e122
                                    have e123 := (k162 (g.lk M 34) (tg_ne (lo_k11_34 hL _ t_M) t_M (by decide))).trans e123
                                    have e124 := (k162 (g.lk M 26) (tg_ne (lo_k11_26 hL _ t_M) t_M (by decide))).trans e124
                                    have e125 := (k162 (g.lk M 27) (tg_ne (lo_k11_27 hL _ t_M) t_M (by decide))).trans e125
                                    have e126 := (k162 (g.lk M 28) (tg_ne (lo_k11_28 hL _ t_M) t_M (by decide))).trans e126
                                    have e127 := (k162 (g.lk M 29) (tg_ne (lo_k11_29 hL _ t_M) t_M (by decide))).trans e127
                                    have e128 := (k162 (g.lk M 35) (tg_ne (lo_k11_35 hL _ t_M) t_M (by decide))).trans e128
                                    have hu := hu.st k162 t_M (by decide)
                                    have hv43 := hv43.st k162 t_M (by decide)
                                    have hv148 := hv148.st k162 t_M (by decide)
                                    have hk163 : ∀ b, b ≠ M → f160 b = f142 b := k162
                                    have hstop9 : (pstep L q8).tr ≠ 0 ∨ (pstep L q8).pc = L.length := Or.inr (by rw [hpp9, hMCL.1]; omega)
                                    refine lv_goto (tgt := 56) hx hb d_M_run_222 (by decide) ?_
                                    have hI164 := iv_1 hI147 hL t_M (by decide) hk163 (oc_11.mk t_M (⟨(((nI 0))), mn, mdr, msz, mix, mdp, mwt, mop, tp1_95, wa1_96, gi1_97, p7, 3, tr1_99, sp1_100, ma1_101, lg1_102, mdu, e161, (by omega), (by omega), (by omega), (by omega), (by omega), (by omega), (by omega), (by omega), (by omega), (by omega), (by omega), (by omega), (by omega), (by omega), hmb14⟩))
                                    exact ih30 (md + 1) tp1_95 wa1_96 gi1_97 p7 3 tr1_99 sp1_100 ma1_101 lg1_102 ((pstep L q8)) hl_111 hs_112 hr_113 hq_114 hv_115 hw_116 ho_117 hp_118 hi_119 f160 H locs ls (by omega) (by omega) (by omega) (by omega) (by omega) (by omega) (by omega) (by omega) (by omega) (fun z => absurd z (by omega)) (by omega) (by rw [pst_q]; exact ⟨hmq134.1, hmq134.2.1, hmq134.2.2.1, hmq134.2.2.2.1, hmq134.2.2.2.2.1, hmq134.2.2.2.2.2.1, fun _ => by show p7 = (if (pstq L q8).tr = 0 then jmp L (pstq L q8).pc else (pstq L q8).pc); rw [if_pos htq9]; exact hjm9⟩) (Or.inr ⟨by decide, by rw [hP9, hkm, pr_step hns (by rw [← hMQ8.2.2.2.2.1]; omega) h9n, pr_stop hstop9] <;> rfl⟩) ⟨fun _ => hstop9, fun _ => by decide⟩ c129 c130 c131 c132 c133 e161 e120 e121 e122 e123 e124 e125 e126 e127 e128 hI164 hv43 hl hP hD hS
                              · skip
                                replace b149 := (nI_eq (a := s8) (b := 1) (by omega) (by omega)).mp b149
                                refine lv_aload_n hx hb d_M_run_150 rfl (lv_at hl 1 rfl) ?_
                                refine pf_get (v := .int (nI p7)) (C := "BigRunnerModel") (T := FT10) (N := 45) hx hb (hw10 hB _) (fun _ h9 => h9) hown hK hP (lo_in hL t_M (by decide)) e146 rfl 38 (by decide) (wd_985 hB _) rfl d_M_run_151 ?_
                                refine lv_aload_n hx hb d_M_run_154 rfl (lv_at hl 1 rfl) ?_
                                refine pf_get (v := .int (nI msz)) (C := "BigRunnerModel") (T := FT10) (N := 45) hx hb (hw10 hB _) (fun _ h9 => h9) hown hK hP (lo_in hL t_M (by decide)) e146 rfl 9 (by decide) (wd_956 hB _) rfl d_M_run_155 ?_
                                refine lv_icmp_ge (tgt := 191) hx hb d_M_run_158 (by decide) (fun b165 => ?_) (fun b165 => ?_)
                                · skip
                                  replace b165 := (nI_leI (a := msz) (b := p7) (by omega) (by omega)).mp b165
                                  have hst7 : stop L p7 := fun z9 => by have y9 := z9.1; rw [hMCL.1] at y9; omega
                                  have hjm9 : p7 = jmp L (pstq L q8).pc := (jmp_of hjf hst7 (by omega)).symm
                                  have hpp9 : (pstep L q8).pc = p7 := by rw [pst_q]; show (if (pstq L q8).tr = 0 then jmp L (pstq L q8).pc else (pstq L q8).pc) = p7; rw [if_pos htq9]; exact hjm9.symm
                                  have hpt9 : (pstep L q8).tr = 0 := by rw [pst_q]; exact htq9
                                  refine lv_aload_n hx hb d_M_run_191 rfl (lv_at hl 1 rfl) ?_
                                  refine lv_aload_n hx hb d_M_run_192 rfl (lv_at hl 1 rfl) ?_
                                  refine pf_get (v := .int (nI s8)) (C := "BigRunnerModel") (T := FT10) (N := 45) hx hb (hw10 hB _) (fun _ h9 => h9) hown hK hP (lo_in hL t_M (by decide)) e146 rfl 39 (by decide) (wd_986 hB _) rfl d_M_run_193 ?_
                                  refine lv_iconst (v := nI 1) hx hb d_M_run_196 (by decide) ?_
                                  refine lv_icmp_ne (tgt := 215) hx hb d_M_run_197 (by decide) (fun b166 => ?_) (fun b166 => ?_)
                                  · skip
                                    replace b166 := mt (nI_eq (a := s8) (b := 1) (by omega) (by omega)).mpr b166
                                    refine lv_aload_n hx hb d_M_run_215 rfl (lv_at hl 1 rfl) ?_
                                    refine pf_get (v := .int (nI s8)) (C := "BigRunnerModel") (T := FT10) (N := 45) hx hb (hw10 hB _) (fun _ h9 => h9) hown hK hP (lo_in hL t_M (by decide)) e146 rfl 39 (by decide) (wd_986 hB _) rfl d_M_run_216 ?_
                                    refine pf_put (v := .int (nI s8)) (ty := .int) (fs' := [.int ((nI 0)), .ref (g.lk M 1), .int (nI mn), .ref (g.lk M 3), .ref (g.lk M 4), .int (nI mdr), .ref (g.lk M 6), .ref (g.lk M 7), .ref (g.lk M 8), .int (nI msz), .int (nI mix), .int (nI mdp), .ref (g.lk M 12), .int (nI mwt), .ref (g.lk M 14), .ref (g.lk M 15), .int (nI mop), .ref (g.lk M 17), .ref (g.lk M 18), .ref (g.lk M 19), .ref (g.lk M 20), .ref (g.lk M 21), .ref (g.lk M 22), .ref (g.lk M 23), .ref (g.lk M 24), .ref (g.lk M 25), .ref (g.lk M 26), .ref (g.lk M 27), .ref (g.lk M 28), .ref (g.lk M 29), .ref (g.lk M 30), .ref (g.lk M 31), .int (nI tp1_95), .ref (g.lk M 33), .ref (g.lk M 34), .ref (g.lk M 35), .int (nI wa1_96), .int (nI gi1_97), .int (nI p7), .int (nI s8), .int (nI tr1_99), .int (nI sp1_100), .int ma1_101, .int lg1_102, .int mdu]) (C := "BigRunnerModel") (T := FT10) (N := 45) hx hb (hw10 hB _) (fun _ h9 => h9) TY10 ok10 nm10 hown hK hP hD hS (lo_in hL t_M (by decide)) e146 rfl 39 (by decide) (wd_986 hB _) rfl (by decide +kernel) rfl rfl (Nat.le_of_ble_eq_true rfl) rfl d_M_run_219 (fun f167 H locs e168 k169 hP hD hS => ?_)
                                    have eC := (k169 (g.lk M 6) (tg_ne (lo_k11_6 hL _ t_M) t_M (by decide))).trans eC
                                    have eA := (k169 (g.lk M 7) (tg_ne (lo_k11_7 hL _ t_M) t_M (by decide))).trans eA
                                    have e120 := (k169 (g.lk M 30) (tg_ne (lo_k11_30 hL _ t_M) t_M (by decide))).trans e120
                                    have e121 := (k169 (g.lk M 31) (tg_ne (lo_k11_31 hL _ t_M) t_M (by decide))).trans e121
                                    have e122 := (k169 (g.lk M 33) (tg_ne (lo_k11_33 hL _ t_M) t_M (by decide))).trans e122
                                    have e123 := (k169 (g.lk M 34) (tg_ne (lo_k11_34 hL _ t_M) t_M (by decide))).trans e123
                                    have e124 := (k169 (g.lk M 26) (tg_ne (lo_k11_26 hL _ t_M) t_M (by decide))).trans e124
                                    have e125 := (k169 (g.lk M 27) (tg_ne (lo_k11_27 hL _ t_M) t_M (by decide))).trans e125
                                    have e126 := (k169 (g.lk M 28) (tg_ne (lo_k11_28 hL _ t_M) t_M (by decide))).trans e126
                                    have e127 := (k169 (g.lk M 29) (tg_ne (lo_k11_29 hL _ t_M) t_M (by decide))).trans e127
                                    have e128 := (k169 (g.lk M 35) (tg_ne (lo_k11_35 hL _ t_M) t_M (by decide))).trans e128
                                    have hu := hu.st k169 t_M (by decide)
                                    have hv43 := hv43.st k169 t_M (by decide)
                                    have hv148 := hv148.st k169 t_M (by decide)
                                    have hk170 : ∀ b, b ≠ M → f167 b = f142 b := k169
                                    exfalso; omega
                                  · skip
                                    replace b166 := (nI_eq (a := s8) (b := 1) (by omega) (by omega)).mp b166
                                    refine lv_aload_n hx hb d_M_run_200 rfl (lv_at hl 1 rfl) ?_
                                    refine pf_get (v := .int (nI p7)) (C := "BigRunnerModel") (T := FT10) (N := 45) hx hb (hw10 hB _) (fun _ h9 => h9) hown hK hP (lo_in hL t_M (by decide)) e146 rfl 38 (by decide) (wd_985 hB _) rfl d_M_run_201 ?_
                                    refine lv_aload_n hx hb d_M_run_204 rfl (lv_at hl 1 rfl) ?_
                                    refine pf_get (v := .int (nI msz)) (C := "BigRunnerModel") (T := FT10) (N := 45) hx hb (hw10 hB _) (fun _ h9 => h9) hown hK hP (lo_in hL t_M (by decide)) e146 rfl 9 (by decide) (wd_956 hB _) rfl d_M_run_205 ?_
                                    refine lv_icmp_ne (tgt := 215) hx hb d_M_run_208 (by decide) (fun b171 => ?_) (fun b171 => ?_)
                                    · skip
                                      replace b171 := mt (nI_eq (a := p7) (b := msz) (by omega) (by omega)).mpr b171
                                      refine lv_aload_n hx hb d_M_run_215 rfl (lv_at hl 1 rfl) ?_
                                      refine pf_get (v := .int (nI s8)) (C := "BigRunnerModel") (T := FT10) (N := 45) hx hb (hw10 hB _) (fun _ h9 => h9) hown hK hP (lo_in hL t_M (by decide)) e146 rfl 39 (by decide) (wd_986 hB _) rfl d_M_run_216 ?_
                                      refine pf_put (v := .int (nI s8)) (ty := .int) (fs' := [.int ((nI 0)), .ref (g.lk M 1), .int (nI mn), .ref (g.lk M 3), .ref (g.lk M 4), .int (nI mdr), .ref (g.lk M 6), .ref (g.lk M 7), .ref (g.lk M 8), .int (nI msz), .int (nI mix), .int (nI mdp), .ref (g.lk M 12), .int (nI mwt), .ref (g.lk M 14), .ref (g.lk M 15), .int (nI mop), .ref (g.lk M 17), .ref (g.lk M 18), .ref (g.lk M 19), .ref (g.lk M 20), .ref (g.lk M 21), .ref (g.lk M 22), .ref (g.lk M 23), .ref (g.lk M 24), .ref (g.lk M 25), .ref (g.lk M 26), .ref (g.lk M 27), .ref (g.lk M 28), .ref (g.lk M 29), .ref (g.lk M 30), .ref (g.lk M 31), .int (nI tp1_95), .ref (g.lk M 33), .ref (g.lk M 34), .ref (g.lk M 35), .int (nI wa1_96), .int (nI gi1_97), .int (nI p7), .int (nI s8), .int (nI tr1_99), .int (nI sp1_100), .int ma1_101, .int lg1_102, .int mdu]) (C := "BigRunnerModel") (T := FT10) (N := 45) hx hb (hw10 hB _) (fun _ h9 => h9) TY10 ok10 nm10 hown hK hP hD hS (lo_in hL t_M (by decide)) e146 rfl 39 (by decide) (wd_986 hB _) rfl (by decide +kernel) rfl rfl (Nat.le_of_ble_eq_true rfl) rfl d_M_run_219 (fun f172 H locs e173 k174 hP hD hS => ?_)
                                      have eC := (k174 (g.lk M 6) (tg_ne (lo_k11_6 hL _ t_M) t_M (by decide))).trans eC
                                      have eA := (k174 (g.lk M 7) (tg_ne (lo_k11_7 hL _ t_M) t_M (by decide))).trans eA
                                      have e120 := (k174 (g.lk M 30) (tg_ne (lo_k11_30 hL _ t_M) t_M (by decide))).trans e120
                                      have e121 := (k174 (g.lk M 31) (tg_ne (lo_k11_31 hL _ t_M) t_M (by decide))).trans e121
                                      have e122 := (k174 (g.lk M 33) (tg_ne (lo_k11_33 hL _ t_M) t_M (by decide))).trans e122
                                      have e123 := (k174 (g.lk M 34) (tg_ne (lo_k11_34 hL _ t_M) t_M (by decide))).trans e123
                                      have e124 := (k174 (g.lk M 26) (tg_ne (lo_k11_26 hL _ t_M) t_M (by decide))).trans e124
                                      have e125 := (k174 (g.lk M 27) (tg_ne (lo_k11_27 hL _ t_M) t_M (by decide))).trans e125
                                      have e126 := (k174 (g.lk M 28) (tg_ne (lo_k11_28 hL _ t_M) t_M (by decide))).trans e126
                                      have e127 := (k174 (g.lk M 29) (tg_ne (lo_k11_29 hL _ t_M) t_M (by decide))).trans e127
                                      have e128 := (k174 (g.lk M 35) (tg_ne (lo_k11_35 hL _ t_M) t_M (by decide))).trans e128
                                      have hu := hu.st k174 t_M (by decide)
                                      have hv43 := hv43.st k174 t_M (by decide)
                                      have hv148 := hv148.st k174 t_M (by decide)
                                      have hk175 : ∀ b, b ≠ M → f172 b = f142 b := k174
                                      exfalso; omega
                                    · skip
                                      replace b171 := (nI_eq (a := p7) (b := msz) (by omega) (by omega)).mp b171
                                      refine lv_iconst (v := nI 3) hx hb d_M_run_211 (by decide) ?_
                                      refine lv_goto (tgt := 219) hx hb d_M_run_212 (by decide) ?_
                                      refine pf_put (v := .int (nI 3)) (ty := .int) (fs' := [.int ((nI 0)), .ref (g.lk M 1), .int (nI mn), .ref (g.lk M 3), .ref (g.lk M 4), .int (nI mdr), .ref (g.lk M 6), .ref (g.lk M 7), .ref (g.lk M 8), .int (nI msz), .int (nI mix), .int (nI mdp), .ref (g.lk M 12), .int (nI mwt), .ref (g.lk M 14), .ref (g.lk M 15), .int (nI mop), .ref (g.lk M 17), .ref (g.lk M 18), .ref (g.lk M 19), .ref (g.lk M 20), .ref (g.lk M 21), .ref (g.lk M 22), .ref (g.lk M 23), .ref (g.lk M 24), .ref (g.lk M 25), .ref (g.lk M 26), .ref (g.lk M 27), .ref (g.lk M 28), .ref (g.lk M 29), .ref (g.lk M 30), .ref (g.lk M 31), .int (nI tp1_95), .ref (g.lk M 33), .ref (g.lk M 34), .ref (g.lk M 35), .int (nI wa1_96), .int (nI gi1_97), .int (nI p7), .int (nI 3), .int (nI tr1_99), .int (nI sp1_100), .int ma1_101, .int lg1_102, .int mdu]) (C := "BigRunnerModel") (T := FT10) (N := 45) hx hb (hw10 hB _) (fun _ h9 => h9) TY10 ok10 nm10 hown hK hP hD hS (lo_in hL t_M (by decide)) e146 rfl 39 (by decide) (wd_986 hB _) rfl (by decide +kernel) rfl rfl (Nat.le_of_ble_eq_true rfl) rfl d_M_run_219 (fun f176 H locs e177 k178 hP hD hS => ?_)
                                      have eC := (k178 (g.lk M 6) (tg_ne (lo_k11_6 hL _ t_M) t_M (by decide))).trans eC
                                      have eA := (k178 (g.lk M 7) (tg_ne (lo_k11_7 hL _ t_M) t_M (by decide))).trans eA
                                      have e120 := (k178 (g.lk M 30) (tg_ne (lo_k11_30 hL _ t_M) t_M (by decide))).trans e120
                                      have e121 := (k178 (g.lk M 31) (tg_ne (lo_k11_31 hL _ t_M) t_M (by decide))).trans e121
                                      have e122 := (k178 (g.lk M 33) (tg_ne (lo_k11_33 hL _ t_M) t_M (by decide))).trans e122
                                      have e123 := (k178 (g.lk M 34) (tg_ne (lo_k11_34 hL _ t_M) t_M (by decide))).trans e123
                                      have e124 := (k178 (g.lk M 26) (tg_ne (lo_k11_26 hL _ t_M) t_M (by decide))).trans e124
                                      have e125 := (k178 (g.lk M 27) (tg_ne (lo_k11_27 hL _ t_M) t_M (by decide))).trans e125
                                      have e126 := (k178 (g.lk M 28) (tg_ne (lo_k11_28 hL _ t_M) t_M (by decide))).trans e126
                                      have e127 := (k178 (g.lk M 29) (tg_ne (lo_k11_29 hL _ t_M) t_M (by decide))).trans e127
                                      have e128 := (k178 (g.lk M 35) (tg_ne (lo_k11_35 hL _ t_M) t_M (by decide))).trans e128
                                      have hu := hu.st k178 t_M (by decide)
                                      have hv43 := hv43.st k178 t_M (by decide)
                                      have hv148 := hv148.st k178 t_M (by decide)
                                      have hk179 : ∀ b, b ≠ M → f176 b = f142 b := k178
                                      have hstop9 : (pstep L q8).tr ≠ 0 ∨ (pstep L q8).pc = L.length := Or.inr (by rw [hpp9, hMCL.1]; omega)
                                      refine lv_goto (tgt := 56) hx hb d_M_run_222 (by decide) ?_
                                      have hI180 := iv_1 hI147 hL t_M (by decide) hk179 (oc_11.mk t_M (⟨(((nI 0))), mn, mdr, msz, mix, mdp, mwt, mop, tp1_95, wa1_96, gi1_97, p7, 3, tr1_99, sp1_100, ma1_101, lg1_102, mdu, e177, (by omega), (by omega), (by omega), (by omega), (by omega), (by omega), (by omega), (by omega), (by omega), (by omega), (by omega), (by omega), (by omega), (by omega), hmb14⟩))
                                      exact ih30 (md + 1) tp1_95 wa1_96 gi1_97 p7 3 tr1_99 sp1_100 ma1_101 lg1_102 ((pstep L q8)) hl_111 hs_112 hr_113 hq_114 hv_115 hw_116 ho_117 hp_118 hi_119 f176 H locs ls (by omega) (by omega) (by omega) (by omega) (by omega) (by omega) (by omega) (by omega) (by omega) (fun z => absurd z (by omega)) (by omega) (by rw [pst_q]; exact ⟨hmq134.1, hmq134.2.1, hmq134.2.2.1, hmq134.2.2.2.1, hmq134.2.2.2.2.1, hmq134.2.2.2.2.2.1, fun _ => by show p7 = (if (pstq L q8).tr = 0 then jmp L (pstq L q8).pc else (pstq L q8).pc); rw [if_pos htq9]; exact hjm9⟩) (Or.inr ⟨by decide, by rw [hP9, hkm, pr_step hns (by rw [← hMQ8.2.2.2.2.1]; omega) h9n, pr_stop hstop9] <;> rfl⟩) ⟨fun _ => hstop9, fun _ => by decide⟩ c129 c130 c131 c132 c133 e177 e120 e121 e122 e123 e124 e125 e126 e127 e128 hI180 hv43 hl hP hD hS
                                · skip
                                  replace b165 := mt (nI_leI (a := msz) (b := p7) (by omega) (by omega)).mpr b165
                                  obtain ⟨w, v, hWO⟩ := hWF.2.2 p7 (by omega)
                                  have hw := wo_c hWO
                                  have hv := wo_a hWO
                                  have z3 := wo_12 hWO
                                  have z4 := wo_b hWO
                                  have hat7 := mcl_w hMCL (show p7 < msz by omega) hw hv z3 z4
                                  refine lv_aload_n hx hb d_M_run_161 rfl (lv_at hl 1 rfl) ?_
                                  refine pf_get (v := .ref (g.lk M 6)) (C := "BigRunnerModel") (T := FT10) (N := 45) hx hb (hw10 hB _) (fun _ h9 => h9) hown hK hP (lo_in hL t_M (by decide)) e146 rfl 6 (by decide) (wd_953 hB _) rfl d_M_run_162 ?_
                                  refine lv_aload_n hx hb d_M_run_165 rfl (lv_at hl 1 rfl) ?_
                                  refine pf_get (v := .int (nI p7)) (C := "BigRunnerModel") (T := FT10) (N := 45) hx hb (hw10 hB _) (fun _ h9 => h9) hown hK hP (lo_in hL t_M (by decide)) e146 rfl 38 (by decide) (wd_985 hB _) rfl d_M_run_166 ?_
                                  refine pf_iald (i := p7) hx hb hK hP (lo_in hL (lo_k11_6 hL _ t_M) (by decide)) eC (lo_t43 hL _ (lo_k11_6 hL _ t_M)) (by omega) (by decide) d_M_run_169 ?_
                                  refine lv_topi (fun z_ hz_ => ?_)
                                  obtain rfl : z_ = nI w := hz_.trans hw
                                  refine lv_bipush (v := nI 12) hx hb d_M_run_170 (by decide) ?_
                                  refine lv_icmp_ne (tgt := 191) hx hb d_M_run_172 (by decide) (fun b181 => ?_) (fun b181 => ?_)
                                  · skip
                                    replace b181 := mt (nI_eq (a := w) (b := 12) (by omega) (by omega)).mpr b181
                                    have hst7 : stop L p7 := fun z9 => by have y9 := z9.2; rw [hat7] at y9; have y8 : w = 12 := y9; omega
                                    have hjm9 : p7 = jmp L (pstq L q8).pc := (jmp_of hjf hst7 (by omega)).symm
                                    have hpp9 : (pstep L q8).pc = p7 := by rw [pst_q]; show (if (pstq L q8).tr = 0 then jmp L (pstq L q8).pc else (pstq L q8).pc) = p7; rw [if_pos htq9]; exact hjm9.symm
                                    have hpt9 : (pstep L q8).tr = 0 := by rw [pst_q]; exact htq9
                                    refine lv_aload_n hx hb d_M_run_191 rfl (lv_at hl 1 rfl) ?_
                                    refine lv_aload_n hx hb d_M_run_192 rfl (lv_at hl 1 rfl) ?_
                                    refine pf_get (v := .int (nI s8)) (C := "BigRunnerModel") (T := FT10) (N := 45) hx hb (hw10 hB _) (fun _ h9 => h9) hown hK hP (lo_in hL t_M (by decide)) e146 rfl 39 (by decide) (wd_986 hB _) rfl d_M_run_193 ?_
                                    refine lv_iconst (v := nI 1) hx hb d_M_run_196 (by decide) ?_
                                    refine lv_icmp_ne (tgt := 215) hx hb d_M_run_197 (by decide) (fun b182 => ?_) (fun b182 => ?_)
                                    · skip
                                      replace b182 := mt (nI_eq (a := s8) (b := 1) (by omega) (by omega)).mpr b182
                                      refine lv_aload_n hx hb d_M_run_215 rfl (lv_at hl 1 rfl) ?_
                                      refine pf_get (v := .int (nI s8)) (C := "BigRunnerModel") (T := FT10) (N := 45) hx hb (hw10 hB _) (fun _ h9 => h9) hown hK hP (lo_in hL t_M (by decide)) e146 rfl 39 (by decide) (wd_986 hB _) rfl d_M_run_216 ?_
                                      refine pf_put (v := .int (nI s8)) (ty := .int) (fs' := [.int ((nI 0)), .ref (g.lk M 1), .int (nI mn), .ref (g.lk M 3), .ref (g.lk M 4), .int (nI mdr), .ref (g.lk M 6), .ref (g.lk M 7), .ref (g.lk M 8), .int (nI msz), .int (nI mix), .int (nI mdp), .ref (g.lk M 12), .int (nI mwt), .ref (g.lk M 14), .ref (g.lk M 15), .int (nI mop), .ref (g.lk M 17), .ref (g.lk M 18), .ref (g.lk M 19), .ref (g.lk M 20), .ref (g.lk M 21), .ref (g.lk M 22), .ref (g.lk M 23), .ref (g.lk M 24), .ref (g.lk M 25), .ref (g.lk M 26), .ref (g.lk M 27), .ref (g.lk M 28), .ref (g.lk M 29), .ref (g.lk M 30), .ref (g.lk M 31), .int (nI tp1_95), .ref (g.lk M 33), .ref (g.lk M 34), .ref (g.lk M 35), .int (nI wa1_96), .int (nI gi1_97), .int (nI p7), .int (nI s8), .int (nI tr1_99), .int (nI sp1_100), .int ma1_101, .int lg1_102, .int mdu]) (C := "BigRunnerModel") (T := FT10) (N := 45) hx hb (hw10 hB _) (fun _ h9 => h9) TY10 ok10 nm10 hown hK hP hD hS (lo_in hL t_M (by decide)) e146 rfl 39 (by decide) (wd_986 hB _) rfl (by decide +kernel) rfl rfl (Nat.le_of_ble_eq_true rfl) rfl d_M_run_219 (fun f183 H locs e184 k185 hP hD hS => ?_)
                                      have eC := (k185 (g.lk M 6) (tg_ne (lo_k11_6 hL _ t_M) t_M (by decide))).trans eC
                                      have eA := (k185 (g.lk M 7) (tg_ne (lo_k11_7 hL _ t_M) t_M (by decide))).trans eA
                                      have e120 := (k185 (g.lk M 30) (tg_ne (lo_k11_30 hL _ t_M) t_M (by decide))).trans e120
                                      have e121 := (k185 (g.lk M 31) (tg_ne (lo_k11_31 hL _ t_M) t_M (by decide))).trans e121
                                      have e122 := (k185 (g.lk M 33) (tg_ne (lo_k11_33 hL _ t_M) t_M (by decide))).trans e122
                                      have e123 := (k185 (g.lk M 34) (tg_ne (lo_k11_34 hL _ t_M) t_M (by decide))).trans e123
                                      have e124 := (k185 (g.lk M 26) (tg_ne (lo_k11_26 hL _ t_M) t_M (by decide))).trans e124
                                      have e125 := (k185 (g.lk M 27) (tg_ne (lo_k11_27 hL _ t_M) t_M (by decide))).trans e125
                                      have e126 := (k185 (g.lk M 28) (tg_ne (lo_k11_28 hL _ t_M) t_M (by decide))).trans e126
                                      have e127 := (k185 (g.lk M 29) (tg_ne (lo_k11_29 hL _ t_M) t_M (by decide))).trans e127
                                      have e128 := (k185 (g.lk M 35) (tg_ne (lo_k11_35 hL _ t_M) t_M (by decide))).trans e128
                                      have hu := hu.st k185 t_M (by decide)
                                      have hv43 := hv43.st k185 t_M (by decide)
                                      have hv148 := hv148.st k185 t_M (by decide)
                                      have hk186 : ∀ b, b ≠ M → f183 b = f142 b := k185
                                      have hgo9 : ¬ ((pstep L q8).tr ≠ 0 ∨ (pstep L q8).pc = L.length) := fun z => by rcases z with z | z; exact z hpt9; rw [hpp9, hMCL.1] at z; omega
                                      refine lv_goto (tgt := 56) hx hb d_M_run_222 (by decide) ?_
                                      have hI187 := iv_1 hI147 hL t_M (by decide) hk186 (oc_11.mk t_M (⟨(((nI 0))), mn, mdr, msz, mix, mdp, mwt, mop, tp1_95, wa1_96, gi1_97, p7, s8, tr1_99, sp1_100, ma1_101, lg1_102, mdu, e184, (by omega), (by omega), (by omega), (by omega), (by omega), (by omega), (by omega), (by omega), (by omega), (by omega), (by omega), (by omega), (by omega), (by omega), hmb14⟩))
                                      exact ih30 (md + 1) tp1_95 wa1_96 gi1_97 p7 s8 tr1_99 sp1_100 ma1_101 lg1_102 ((pstep L q8)) hl_111 hs_112 hr_113 hq_114 hv_115 hw_116 ho_117 hp_118 hi_119 f183 H locs ls (by omega) (by omega) (by omega) (by omega) (by omega) (by omega) (by omega) (by omega) (by omega) (fun _ => ⟨by omega, hp6 (by omega), fun z => absurd ((nI_eq (by omega) (by omega)).mp (hw.symm.trans z)) (by omega), by omega⟩) (by omega) (by rw [pst_q]; exact ⟨hmq134.1, hmq134.2.1, hmq134.2.2.1, hmq134.2.2.2.1, hmq134.2.2.2.2.1, hmq134.2.2.2.2.2.1, fun _ => by show p7 = (if (pstq L q8).tr = 0 then jmp L (pstq L q8).pc else (pstq L q8).pc); rw [if_pos htq9]; exact hjm9⟩) (Or.inl ⟨by omega, by rw [hP9, hkm, pr_step hns (by rw [← hMQ8.2.2.2.2.1]; omega) h9n]; exact Prod.ext (by show md + (_ + 1) = md + 1 + _; omega) rfl⟩) ⟨fun z => absurd z (by omega), fun z => absurd z hgo9⟩ c129 c130 c131 c132 c133 e184 e120 e121 e122 e123 e124 e125 e126 e127 e128 hI187 hv43 hl hP hD hS
                                    · skip
                                      replace b182 := (nI_eq (a := s8) (b := 1) (by omega) (by omega)).mp b182
                                      refine lv_aload_n hx hb d_M_run_200 rfl (lv_at hl 1 rfl) ?_
                                      refine pf_get (v := .int (nI p7)) (C := "BigRunnerModel") (T := FT10) (N := 45) hx hb (hw10 hB _) (fun _ h9 => h9) hown hK hP (lo_in hL t_M (by decide)) e146 rfl 38 (by decide) (wd_985 hB _) rfl d_M_run_201 ?_
                                      refine lv_aload_n hx hb d_M_run_204 rfl (lv_at hl 1 rfl) ?_
                                      refine pf_get (v := .int (nI msz)) (C := "BigRunnerModel") (T := FT10) (N := 45) hx hb (hw10 hB _) (fun _ h9 => h9) hown hK hP (lo_in hL t_M (by decide)) e146 rfl 9 (by decide) (wd_956 hB _) rfl d_M_run_205 ?_
                                      refine lv_icmp_ne (tgt := 215) hx hb d_M_run_208 (by decide) (fun b188 => ?_) (fun b188 => ?_)
                                      · skip
                                        replace b188 := mt (nI_eq (a := p7) (b := msz) (by omega) (by omega)).mpr b188
                                        refine lv_aload_n hx hb d_M_run_215 rfl (lv_at hl 1 rfl) ?_
                                        refine pf_get (v := .int (nI s8)) (C := "BigRunnerModel") (T := FT10) (N := 45) hx hb (hw10 hB _) (fun _ h9 => h9) hown hK hP (lo_in hL t_M (by decide)) e146 rfl 39 (by decide) (wd_986 hB _) rfl d_M_run_216 ?_
                                        refine pf_put (v := .int (nI s8)) (ty := .int) (fs' := [.int ((nI 0)), .ref (g.lk M 1), .int (nI mn), .ref (g.lk M 3), .ref (g.lk M 4), .int (nI mdr), .ref (g.lk M 6), .ref (g.lk M 7), .ref (g.lk M 8), .int (nI msz), .int (nI mix), .int (nI mdp), .ref (g.lk M 12), .int (nI mwt), .ref (g.lk M 14), .ref (g.lk M 15), .int (nI mop), .ref (g.lk M 17), .ref (g.lk M 18), .ref (g.lk M 19), .ref (g.lk M 20), .ref (g.lk M 21), .ref (g.lk M 22), .ref (g.lk M 23), .ref (g.lk M 24), .ref (g.lk M 25), .ref (g.lk M 26), .ref (g.lk M 27), .ref (g.lk M 28), .ref (g.lk M 29), .ref (g.lk M 30), .ref (g.lk M 31), .int (nI tp1_95), .ref (g.lk M 33), .ref (g.lk M 34), .ref (g.lk M 35), .int (nI wa1_96), .int (nI gi1_97), .int (nI p7), .int (nI s8), .int (nI tr1_99), .int (nI sp1_100), .int ma1_101, .int lg1_102, .int mdu]) (C := "BigRunnerModel") (T := FT10) (N := 45) hx hb (hw10 hB _) (fun _ h9 => h9) TY10 ok10 nm10 hown hK hP hD hS (lo_in hL t_M (by decide)) e146 rfl 39 (by decide) (wd_986 hB _) rfl (by decide +kernel) rfl rfl (Nat.le_of_ble_eq_true rfl) rfl d_M_run_219 (fun f189 H locs e190 k191 hP hD hS => ?_)
                                        have eC := (k191 (g.lk M 6) (tg_ne (lo_k11_6 hL _ t_M) t_M (by decide))).trans eC
                                        have eA := (k191 (g.lk M 7) (tg_ne (lo_k11_7 hL _ t_M) t_M (by decide))).trans eA
                                        have e120 := (k191 (g.lk M 30) (tg_ne (lo_k11_30 hL _ t_M) t_M (by decide))).trans e120
                                        have e121 := (k191 (g.lk M 31) (tg_ne (lo_k11_31 hL _ t_M) t_M (by decide))).trans e121
                                        have e122 := (k191 (g.lk M 33) (tg_ne (lo_k11_33 hL _ t_M) t_M (by decide))).trans e122
                                        have e123 := (k191 (g.lk M 34) (tg_ne (lo_k11_34 hL _ t_M) t_M (by decide))).trans e123
                                        have e124 := (k191 (g.lk M 26) (tg_ne (lo_k11_26 hL _ t_M) t_M (by decide))).trans e124
                                        have e125 := (k191 (g.lk M 27) (tg_ne (lo_k11_27 hL _ t_M) t_M (by decide))).trans e125
                                        have e126 := (k191 (g.lk M 28) (tg_ne (lo_k11_28 hL _ t_M) t_M (by decide))).trans e126
                                        have e127 := (k191 (g.lk M 29) (tg_ne (lo_k11_29 hL _ t_M) t_M (by decide))).trans e127
                                        have e128 := (k191 (g.lk M 35) (tg_ne (lo_k11_35 hL _ t_M) t_M (by decide))).trans e128
                                        have hu := hu.st k191 t_M (by decide)
                                        have hv43 := hv43.st k191 t_M (by decide)
                                        have hv148 := hv148.st k191 t_M (by decide)
                                        have hk192 : ∀ b, b ≠ M → f189 b = f142 b := k191
                                        have hgo9 : ¬ ((pstep L q8).tr ≠ 0 ∨ (pstep L q8).pc = L.length) := fun z => by rcases z with z | z; exact z hpt9; rw [hpp9, hMCL.1] at z; omega
                                        refine lv_goto (tgt := 56) hx hb d_M_run_222 (by decide) ?_
                                        have hI193 := iv_1 hI147 hL t_M (by decide) hk192 (oc_11.mk t_M (⟨(((nI 0))), mn, mdr, msz, mix, mdp, mwt, mop, tp1_95, wa1_96, gi1_97, p7, s8, tr1_99, sp1_100, ma1_101, lg1_102, mdu, e190, (by omega), (by omega), (by omega), (by omega), (by omega), (by omega), (by omega), (by omega), (by omega), (by omega), (by omega), (by omega), (by omega), (by omega), hmb14⟩))
                                        exact ih30 (md + 1) tp1_95 wa1_96 gi1_97 p7 s8 tr1_99 sp1_100 ma1_101 lg1_102 ((pstep L q8)) hl_111 hs_112 hr_113 hq_114 hv_115 hw_116 ho_117 hp_118 hi_119 f189 H locs ls (by omega) (by omega) (by omega) (by omega) (by omega) (by omega) (by omega) (by omega) (by omega) (fun _ => ⟨by omega, hp6 (by omega), fun z => absurd ((nI_eq (by omega) (by omega)).mp (hw.symm.trans z)) (by omega), by omega⟩) (by omega) (by rw [pst_q]; exact ⟨hmq134.1, hmq134.2.1, hmq134.2.2.1, hmq134.2.2.2.1, hmq134.2.2.2.2.1, hmq134.2.2.2.2.2.1, fun _ => by show p7 = (if (pstq L q8).tr = 0 then jmp L (pstq L q8).pc else (pstq L q8).pc); rw [if_pos htq9]; exact hjm9⟩) (Or.inl ⟨by omega, by rw [hP9, hkm, pr_step hns (by rw [← hMQ8.2.2.2.2.1]; omega) h9n]; exact Prod.ext (by show md + (_ + 1) = md + 1 + _; omega) rfl⟩) ⟨fun z => absurd z (by omega), fun z => absurd z hgo9⟩ c129 c130 c131 c132 c133 e190 e120 e121 e122 e123 e124 e125 e126 e127 e128 hI193 hv43 hl hP hD hS
                                      · skip
                                        replace b188 := (nI_eq (a := p7) (b := msz) (by omega) (by omega)).mp b188
                                        refine lv_iconst (v := nI 3) hx hb d_M_run_211 (by decide) ?_
                                        refine lv_goto (tgt := 219) hx hb d_M_run_212 (by decide) ?_
                                        refine pf_put (v := .int (nI 3)) (ty := .int) (fs' := [.int ((nI 0)), .ref (g.lk M 1), .int (nI mn), .ref (g.lk M 3), .ref (g.lk M 4), .int (nI mdr), .ref (g.lk M 6), .ref (g.lk M 7), .ref (g.lk M 8), .int (nI msz), .int (nI mix), .int (nI mdp), .ref (g.lk M 12), .int (nI mwt), .ref (g.lk M 14), .ref (g.lk M 15), .int (nI mop), .ref (g.lk M 17), .ref (g.lk M 18), .ref (g.lk M 19), .ref (g.lk M 20), .ref (g.lk M 21), .ref (g.lk M 22), .ref (g.lk M 23), .ref (g.lk M 24), .ref (g.lk M 25), .ref (g.lk M 26), .ref (g.lk M 27), .ref (g.lk M 28), .ref (g.lk M 29), .ref (g.lk M 30), .ref (g.lk M 31), .int (nI tp1_95), .ref (g.lk M 33), .ref (g.lk M 34), .ref (g.lk M 35), .int (nI wa1_96), .int (nI gi1_97), .int (nI p7), .int (nI 3), .int (nI tr1_99), .int (nI sp1_100), .int ma1_101, .int lg1_102, .int mdu]) (C := "BigRunnerModel") (T := FT10) (N := 45) hx hb (hw10 hB _) (fun _ h9 => h9) TY10 ok10 nm10 hown hK hP hD hS (lo_in hL t_M (by decide)) e146 rfl 39 (by decide) (wd_986 hB _) rfl (by decide +kernel) rfl rfl (Nat.le_of_ble_eq_true rfl) rfl d_M_run_219 (fun f194 H locs e195 k196 hP hD hS => ?_)
                                        have eC := (k196 (g.lk M 6) (tg_ne (lo_k11_6 hL _ t_M) t_M (by decide))).trans eC
                                        have eA := (k196 (g.lk M 7) (tg_ne (lo_k11_7 hL _ t_M) t_M (by decide))).trans eA
                                        have e120 := (k196 (g.lk M 30) (tg_ne (lo_k11_30 hL _ t_M) t_M (by decide))).trans e120
                                        have e121 := (k196 (g.lk M 31) (tg_ne (lo_k11_31 hL _ t_M) t_M (by decide))).trans e121
                                        have e122 := (k196 (g.lk M 33) (tg_ne (lo_k11_33 hL _ t_M) t_M (by decide))).trans e122
                                        have e123 := (k196 (g.lk M 34) (tg_ne (lo_k11_34 hL _ t_M) t_M (by decide))).trans e123
                                        have e124 := (k196 (g.lk M 26) (tg_ne (lo_k11_26 hL _ t_M) t_M (by decide))).trans e124
                                        have e125 := (k196 (g.lk M 27) (tg_ne (lo_k11_27 hL _ t_M) t_M (by decide))).trans e125
                                        have e126 := (k196 (g.lk M 28) (tg_ne (lo_k11_28 hL _ t_M) t_M (by decide))).trans e126
                                        have e127 := (k196 (g.lk M 29) (tg_ne (lo_k11_29 hL _ t_M) t_M (by decide))).trans e127
                                        have e128 := (k196 (g.lk M 35) (tg_ne (lo_k11_35 hL _ t_M) t_M (by decide))).trans e128
                                        have hu := hu.st k196 t_M (by decide)
                                        have hv43 := hv43.st k196 t_M (by decide)
                                        have hv148 := hv148.st k196 t_M (by decide)
                                        have hk197 : ∀ b, b ≠ M → f194 b = f142 b := k196
                                        have hstop9 : (pstep L q8).tr ≠ 0 ∨ (pstep L q8).pc = L.length := Or.inr (by rw [hpp9, hMCL.1]; omega)
                                        refine lv_goto (tgt := 56) hx hb d_M_run_222 (by decide) ?_
                                        have hI198 := iv_1 hI147 hL t_M (by decide) hk197 (oc_11.mk t_M (⟨(((nI 0))), mn, mdr, msz, mix, mdp, mwt, mop, tp1_95, wa1_96, gi1_97, p7, 3, tr1_99, sp1_100, ma1_101, lg1_102, mdu, e195, (by omega), (by omega), (by omega), (by omega), (by omega), (by omega), (by omega), (by omega), (by omega), (by omega), (by omega), (by omega), (by omega), (by omega), hmb14⟩))
                                        exact ih30 (md + 1) tp1_95 wa1_96 gi1_97 p7 3 tr1_99 sp1_100 ma1_101 lg1_102 ((pstep L q8)) hl_111 hs_112 hr_113 hq_114 hv_115 hw_116 ho_117 hp_118 hi_119 f194 H locs ls (by omega) (by omega) (by omega) (by omega) (by omega) (by omega) (by omega) (by omega) (by omega) (fun z => absurd z (by omega)) (by omega) (by rw [pst_q]; exact ⟨hmq134.1, hmq134.2.1, hmq134.2.2.1, hmq134.2.2.2.1, hmq134.2.2.2.2.1, hmq134.2.2.2.2.2.1, fun _ => by show p7 = (if (pstq L q8).tr = 0 then jmp L (pstq L q8).pc else (pstq L q8).pc); rw [if_pos htq9]; exact hjm9⟩) (Or.inr ⟨by decide, by rw [hP9, hkm, pr_step hns (by rw [← hMQ8.2.2.2.2.1]; omega) h9n, pr_stop hstop9] <;> rfl⟩) ⟨fun _ => hstop9, fun _ => by decide⟩ c129 c130 c131 c132 c133 e195 e120 e121 e122 e123 e124 e125 e126 e127 e128 hI198 hv43 hl hP hD hS
                                  · skip
                                    replace b181 := (nI_eq (a := w) (b := 12) (by omega) (by omega)).mp b181
                                    have hw12 : w = 12 := by omega
                                    have hjj := wo_j hWO hw12
                                    rw [hw12] at hat7
                                    have hf0 : fl = 0 := by rcases (show fl = 0 ∨ fl = 1 by omega) with q | q; exact q; exact absurd (hw.trans (congrArg nI hw12)) (hJF q)
                                    have hv36 := hjj.1
                                    rcases wo_jb hWO hw12 with hjf9 | ⟨w', hj1, hj2, hj3⟩
                                    · skip
                                      refine lv_aload_n hx hb d_M_run_175 rfl (lv_at hl 1 rfl) ?_
                                      refine lv_aload_n hx hb d_M_run_176 rfl (lv_at hl 1 rfl) ?_
                                      refine pf_get (v := .ref (g.lk M 7)) (C := "BigRunnerModel") (T := FT10) (N := 45) hx hb (hw10 hB _) (fun _ h9 => h9) hown hK hP (lo_in hL t_M (by decide)) e146 rfl 7 (by decide) (wd_954 hB _) rfl d_M_run_177 ?_
                                      refine lv_aload_n hx hb d_M_run_180 rfl (lv_at hl 1 rfl) ?_
                                      refine pf_get (v := .int (nI p7)) (C := "BigRunnerModel") (T := FT10) (N := 45) hx hb (hw10 hB _) (fun _ h9 => h9) hown hK hP (lo_in hL t_M (by decide)) e146 rfl 38 (by decide) (wd_985 hB _) rfl d_M_run_181 ?_
                                      refine pf_iald (i := p7) hx hb hK hP (lo_in hL (lo_k11_7 hL _ t_M) (by decide)) eA (lo_t44 hL _ (lo_k11_7 hL _ t_M)) (by omega) (by decide) d_M_run_184 ?_
                                      refine lv_topi (fun z_ hz_ => ?_)
                                      obtain rfl : z_ = nI v := hz_.trans hv
                                      refine pf_put (v := .int (nI v)) (ty := .int) (fs' := [.int ((nI 0)), .ref (g.lk M 1), .int (nI mn), .ref (g.lk M 3), .ref (g.lk M 4), .int (nI mdr), .ref (g.lk M 6), .ref (g.lk M 7), .ref (g.lk M 8), .int (nI msz), .int (nI mix), .int (nI mdp), .ref (g.lk M 12), .int (nI mwt), .ref (g.lk M 14), .ref (g.lk M 15), .int (nI mop), .ref (g.lk M 17), .ref (g.lk M 18), .ref (g.lk M 19), .ref (g.lk M 20), .ref (g.lk M 21), .ref (g.lk M 22), .ref (g.lk M 23), .ref (g.lk M 24), .ref (g.lk M 25), .ref (g.lk M 26), .ref (g.lk M 27), .ref (g.lk M 28), .ref (g.lk M 29), .ref (g.lk M 30), .ref (g.lk M 31), .int (nI tp1_95), .ref (g.lk M 33), .ref (g.lk M 34), .ref (g.lk M 35), .int (nI wa1_96), .int (nI gi1_97), .int (nI v), .int (nI s8), .int (nI tr1_99), .int (nI sp1_100), .int ma1_101, .int lg1_102, .int mdu]) (C := "BigRunnerModel") (T := FT10) (N := 45) hx hb (hw10 hB _) (fun _ h9 => h9) TY10 ok10 nm10 hown hK hP hD hS (lo_in hL t_M (by decide)) e146 rfl 38 (by decide) (wd_985 hB _) rfl (by decide +kernel) rfl rfl (Nat.le_of_ble_eq_true rfl) rfl d_M_run_185 (fun f199 H locs e200 k201 hP hD hS => ?_)
                                      have eC := (k201 (g.lk M 6) (tg_ne (lo_k11_6 hL _ t_M) t_M (by decide))).trans eC
                                      have eA := (k201 (g.lk M 7) (tg_ne (lo_k11_7 hL _ t_M) t_M (by decide))).trans eA
                                      have e120 := (k201 (g.lk M 30) (tg_ne (lo_k11_30 hL _ t_M) t_M (by decide))).trans e120
                                      have e121 := (k201 (g.lk M 31) (tg_ne (lo_k11_31 hL _ t_M) t_M (by decide))).trans e121
                                      have e122 := (k201 (g.lk M 33) (tg_ne (lo_k11_33 hL _ t_M) t_M (by decide))).trans e122
                                      have e123 := (k201 (g.lk M 34) (tg_ne (lo_k11_34 hL _ t_M) t_M (by decide))).trans e123
                                      have e124 := (k201 (g.lk M 26) (tg_ne (lo_k11_26 hL _ t_M) t_M (by decide))).trans e124
                                      have e125 := (k201 (g.lk M 27) (tg_ne (lo_k11_27 hL _ t_M) t_M (by decide))).trans e125
                                      have e126 := (k201 (g.lk M 28) (tg_ne (lo_k11_28 hL _ t_M) t_M (by decide))).trans e126
                                      have e127 := (k201 (g.lk M 29) (tg_ne (lo_k11_29 hL _ t_M) t_M (by decide))).trans e127
                                      have e128 := (k201 (g.lk M 35) (tg_ne (lo_k11_35 hL _ t_M) t_M (by decide))).trans e128
                                      have hu := hu.st k201 t_M (by decide)
                                      have hv43 := hv43.st k201 t_M (by decide)
                                      have hv148 := hv148.st k201 t_M (by decide)
                                      have hk202 : ∀ b, b ≠ M → f199 b = f142 b := k201
                                      refine lv_goto (tgt := 142) hx hb d_M_run_188 (by decide) ?_
                                      have hI203 := iv_1 hI147 hL t_M (by decide) hk202 (oc_11.mk t_M (⟨(((nI 0))), mn, mdr, msz, mix, mdp, mwt, mop, tp1_95, wa1_96, gi1_97, v, s8, tr1_99, sp1_100, ma1_101, lg1_102, mdu, e200, (by omega), (by omega), (by omega), (by omega), (by omega), (by omega), (by omega), (by omega), (by omega), (by omega), (by omega), (by omega), (by omega), (by omega), hmb14⟩))
                                      exact ih144 v 0 (jj + 1) f199 H locs ls (by omega) (by omega) hjj.2 (by omega) (fun z => absurd z (by omega)) (jf_s (by rw [hMCL.1]; omega) hat7 hjf) (by have z9 := hjc hf0; omega) (fun z9 => by have z8 := hjc hf0; omega) e200 hI203 hv148 hl hP hD hS
                                    · skip
                                      refine lv_aload_n hx hb d_M_run_175 rfl (lv_at hl 1 rfl) ?_
                                      refine lv_aload_n hx hb d_M_run_176 rfl (lv_at hl 1 rfl) ?_
                                      refine pf_get (v := .ref (g.lk M 7)) (C := "BigRunnerModel") (T := FT10) (N := 45) hx hb (hw10 hB _) (fun _ h9 => h9) hown hK hP (lo_in hL t_M (by decide)) e146 rfl 7 (by decide) (wd_954 hB _) rfl d_M_run_177 ?_
                                      refine lv_aload_n hx hb d_M_run_180 rfl (lv_at hl 1 rfl) ?_
                                      refine pf_get (v := .int (nI p7)) (C := "BigRunnerModel") (T := FT10) (N := 45) hx hb (hw10 hB _) (fun _ h9 => h9) hown hK hP (lo_in hL t_M (by decide)) e146 rfl 38 (by decide) (wd_985 hB _) rfl d_M_run_181 ?_
                                      refine pf_iald (i := p7) hx hb hK hP (lo_in hL (lo_k11_7 hL _ t_M) (by decide)) eA (lo_t44 hL _ (lo_k11_7 hL _ t_M)) (by omega) (by decide) d_M_run_184 ?_
                                      refine lv_topi (fun z_ hz_ => ?_)
                                      obtain rfl : z_ = nI v := hz_.trans hv
                                      refine pf_put (v := .int (nI v)) (ty := .int) (fs' := [.int ((nI 0)), .ref (g.lk M 1), .int (nI mn), .ref (g.lk M 3), .ref (g.lk M 4), .int (nI mdr), .ref (g.lk M 6), .ref (g.lk M 7), .ref (g.lk M 8), .int (nI msz), .int (nI mix), .int (nI mdp), .ref (g.lk M 12), .int (nI mwt), .ref (g.lk M 14), .ref (g.lk M 15), .int (nI mop), .ref (g.lk M 17), .ref (g.lk M 18), .ref (g.lk M 19), .ref (g.lk M 20), .ref (g.lk M 21), .ref (g.lk M 22), .ref (g.lk M 23), .ref (g.lk M 24), .ref (g.lk M 25), .ref (g.lk M 26), .ref (g.lk M 27), .ref (g.lk M 28), .ref (g.lk M 29), .ref (g.lk M 30), .ref (g.lk M 31), .int (nI tp1_95), .ref (g.lk M 33), .ref (g.lk M 34), .ref (g.lk M 35), .int (nI wa1_96), .int (nI gi1_97), .int (nI v), .int (nI s8), .int (nI tr1_99), .int (nI sp1_100), .int ma1_101, .int lg1_102, .int mdu]) (C := "BigRunnerModel") (T := FT10) (N := 45) hx hb (hw10 hB _) (fun _ h9 => h9) TY10 ok10 nm10 hown hK hP hD hS (lo_in hL t_M (by decide)) e146 rfl 38 (by decide) (wd_985 hB _) rfl (by decide +kernel) rfl rfl (Nat.le_of_ble_eq_true rfl) rfl d_M_run_185 (fun f204 H locs e205 k206 hP hD hS => ?_)
                                      have eC := (k206 (g.lk M 6) (tg_ne (lo_k11_6 hL _ t_M) t_M (by decide))).trans eC
                                      have eA := (k206 (g.lk M 7) (tg_ne (lo_k11_7 hL _ t_M) t_M (by decide))).trans eA
                                      have e120 := (k206 (g.lk M 30) (tg_ne (lo_k11_30 hL _ t_M) t_M (by decide))).trans e120
                                      have e121 := (k206 (g.lk M 31) (tg_ne (lo_k11_31 hL _ t_M) t_M (by decide))).trans e121
                                      have e122 := (k206 (g.lk M 33) (tg_ne (lo_k11_33 hL _ t_M) t_M (by decide))).trans e122
                                      have e123 := (k206 (g.lk M 34) (tg_ne (lo_k11_34 hL _ t_M) t_M (by decide))).trans e123
                                      have e124 := (k206 (g.lk M 26) (tg_ne (lo_k11_26 hL _ t_M) t_M (by decide))).trans e124
                                      have e125 := (k206 (g.lk M 27) (tg_ne (lo_k11_27 hL _ t_M) t_M (by decide))).trans e125
                                      have e126 := (k206 (g.lk M 28) (tg_ne (lo_k11_28 hL _ t_M) t_M (by decide))).trans e126
                                      have e127 := (k206 (g.lk M 29) (tg_ne (lo_k11_29 hL _ t_M) t_M (by decide))).trans e127
                                      have e128 := (k206 (g.lk M 35) (tg_ne (lo_k11_35 hL _ t_M) t_M (by decide))).trans e128
                                      have hu := hu.st k206 t_M (by decide)
                                      have hv43 := hv43.st k206 t_M (by decide)
                                      have hv148 := hv148.st k206 t_M (by decide)
                                      have hk207 : ∀ b, b ≠ M → f204 b = f142 b := k206
                                      refine lv_goto (tgt := 142) hx hb d_M_run_188 (by decide) ?_
                                      have hI208 := iv_1 hI147 hL t_M (by decide) hk207 (oc_11.mk t_M (⟨(((nI 0))), mn, mdr, msz, mix, mdp, mwt, mop, tp1_95, wa1_96, gi1_97, v, s8, tr1_99, sp1_100, ma1_101, lg1_102, mdu, e205, (by omega), (by omega), (by omega), (by omega), (by omega), (by omega), (by omega), (by omega), (by omega), (by omega), (by omega), (by omega), (by omega), (by omega), hmb14⟩))
                                      exact ih144 v 1 (jj + 1) f204 H locs ls (by omega) (by omega) hjj.2 (by omega) (fun _ z => absurd ((nI_eq (by omega) (by omega)).mp (hj1.symm.trans z)) (by omega)) (jf_s (by rw [hMCL.1]; omega) hat7 hjf) (by have z9 := hjc hf0; omega) (fun z9 => by have z8 := hjc hf0; omega) e205 hI208 hv148 hl hP hD hS
                          exact lp141 (msz + 2) pc1_98 0 0 f136 H locs ls (by omega) (by omega) j2 (by omega) (fun z => absurd z (by omega)) hpq9.symm (by omega) (by omega) e137 hI140 un.rf hl hP hD hS
                        · skip
                          replace b135 := mt (nI_leI (a := tr1_99) (b := 0) (by omega) (by omega)).mpr b135
                          refine lv_iconst (v := nI 4) hx hb d_M_run_131 (by decide) ?_
                          refine lv_goto (tgt := 139) hx hb d_M_run_132 (by decide) ?_
                          refine pf_put (v := .int (nI 4)) (ty := .int) (fs' := [.int (nI 0), .ref (g.lk M 1), .int (nI mn), .ref (g.lk M 3), .ref (g.lk M 4), .int (nI mdr), .ref (g.lk M 6), .ref (g.lk M 7), .ref (g.lk M 8), .int (nI msz), .int (nI mix), .int (nI mdp), .ref (g.lk M 12), .int (nI mwt), .ref (g.lk M 14), .ref (g.lk M 15), .int (nI mop), .ref (g.lk M 17), .ref (g.lk M 18), .ref (g.lk M 19), .ref (g.lk M 20), .ref (g.lk M 21), .ref (g.lk M 22), .ref (g.lk M 23), .ref (g.lk M 24), .ref (g.lk M 25), .ref (g.lk M 26), .ref (g.lk M 27), .ref (g.lk M 28), .ref (g.lk M 29), .ref (g.lk M 30), .ref (g.lk M 31), .int (nI tp1_95), .ref (g.lk M 33), .ref (g.lk M 34), .ref (g.lk M 35), .int (nI wa1_96), .int (nI gi1_97), .int (nI pc1_98), .int (nI 4), .int (nI tr1_99), .int (nI sp1_100), .int ma1_101, .int lg1_102, .int mdu]) (C := "BigRunnerModel") (T := FT10) (N := 45) hx hb (hw10 hB _) (fun _ h9 => h9) TY10 ok10 nm10 hown hK hP hD hS (lo_in hL t_M (by decide)) e94 rfl 39 (by decide) (wd_986 hB _) rfl (by decide +kernel) rfl rfl (Nat.le_of_ble_eq_true rfl) rfl d_M_run_139 (fun f209 H locs e210 k211 hP hD hS => ?_)
                          have eC := (k211 (g.lk M 6) (tg_ne (lo_k11_6 hL _ t_M) t_M (by decide))).trans eC
                          have eA := (k211 (g.lk M 7) (tg_ne (lo_k11_7 hL _ t_M) t_M (by decide))).trans eA
                          have e120 := (k211 (g.lk M 30) (tg_ne (lo_k11_30 hL _ t_M) t_M (by decide))).trans e120
                          have e121 := (k211 (g.lk M 31) (tg_ne (lo_k11_31 hL _ t_M) t_M (by decide))).trans e121
                          have e122 := (k211 (g.lk M 33) (tg_ne (lo_k11_33 hL _ t_M) t_M (by decide))).trans e122
                          have e123 := (k211 (g.lk M 34) (tg_ne (lo_k11_34 hL _ t_M) t_M (by decide))).trans e123
                          have e124 := (k211 (g.lk M 26) (tg_ne (lo_k11_26 hL _ t_M) t_M (by decide))).trans e124
                          have e125 := (k211 (g.lk M 27) (tg_ne (lo_k11_27 hL _ t_M) t_M (by decide))).trans e125
                          have e126 := (k211 (g.lk M 28) (tg_ne (lo_k11_28 hL _ t_M) t_M (by decide))).trans e126
                          have e127 := (k211 (g.lk M 29) (tg_ne (lo_k11_29 hL _ t_M) t_M (by decide))).trans e127
                          have e128 := (k211 (g.lk M 35) (tg_ne (lo_k11_35 hL _ t_M) t_M (by decide))).trans e128
                          have hu := hu.st k211 t_M (by decide)
                          have hv43 := hv43.st k211 t_M (by decide)
                          have hk212 : ∀ b, b ≠ M → f209 b = f89 b := k211
                          have hstop9 : (pstep L q8).tr ≠ 0 ∨ (pstep L q8).pc = L.length := Or.inl (by rw [pst_q]; show (pstq L q8).tr ≠ 0; omega)
                          refine lv_aload_n hx hb d_M_run_142 rfl (lv_at hl 1 rfl) ?_
                          refine pf_get (v := .int (nI 4)) (C := "BigRunnerModel") (T := FT10) (N := 45) hx hb (hw10 hB _) (fun _ h9 => h9) hown hK hP (lo_in hL t_M (by decide)) e210 rfl 39 (by decide) (wd_986 hB _) rfl d_M_run_143 ?_
                          refine lv_iconst (v := nI 1) hx hb d_M_run_146 (by decide) ?_
                          refine lv_icmp_ne (tgt := 191) hx hb d_M_run_147 (by decide) (fun b213 => ?_) (fun b213 => ?_)
                          · skip
                            replace b213 := mt (nI_eq (a := 4) (b := 1) (by omega) (by omega)).mpr b213
                            refine lv_aload_n hx hb d_M_run_191 rfl (lv_at hl 1 rfl) ?_
                            refine lv_aload_n hx hb d_M_run_192 rfl (lv_at hl 1 rfl) ?_
                            refine pf_get (v := .int (nI 4)) (C := "BigRunnerModel") (T := FT10) (N := 45) hx hb (hw10 hB _) (fun _ h9 => h9) hown hK hP (lo_in hL t_M (by decide)) e210 rfl 39 (by decide) (wd_986 hB _) rfl d_M_run_193 ?_
                            refine lv_iconst (v := nI 1) hx hb d_M_run_196 (by decide) ?_
                            refine lv_icmp_ne (tgt := 215) hx hb d_M_run_197 (by decide) (fun b214 => ?_) (fun b214 => ?_)
                            · skip
                              replace b214 := mt (nI_eq (a := 4) (b := 1) (by omega) (by omega)).mpr b214
                              refine lv_aload_n hx hb d_M_run_215 rfl (lv_at hl 1 rfl) ?_
                              refine pf_get (v := .int (nI 4)) (C := "BigRunnerModel") (T := FT10) (N := 45) hx hb (hw10 hB _) (fun _ h9 => h9) hown hK hP (lo_in hL t_M (by decide)) e210 rfl 39 (by decide) (wd_986 hB _) rfl d_M_run_216 ?_
                              refine pf_put (v := .int (nI 4)) (ty := .int) (fs' := [.int (nI 0), .ref (g.lk M 1), .int (nI mn), .ref (g.lk M 3), .ref (g.lk M 4), .int (nI mdr), .ref (g.lk M 6), .ref (g.lk M 7), .ref (g.lk M 8), .int (nI msz), .int (nI mix), .int (nI mdp), .ref (g.lk M 12), .int (nI mwt), .ref (g.lk M 14), .ref (g.lk M 15), .int (nI mop), .ref (g.lk M 17), .ref (g.lk M 18), .ref (g.lk M 19), .ref (g.lk M 20), .ref (g.lk M 21), .ref (g.lk M 22), .ref (g.lk M 23), .ref (g.lk M 24), .ref (g.lk M 25), .ref (g.lk M 26), .ref (g.lk M 27), .ref (g.lk M 28), .ref (g.lk M 29), .ref (g.lk M 30), .ref (g.lk M 31), .int (nI tp1_95), .ref (g.lk M 33), .ref (g.lk M 34), .ref (g.lk M 35), .int (nI wa1_96), .int (nI gi1_97), .int (nI pc1_98), .int (nI 4), .int (nI tr1_99), .int (nI sp1_100), .int ma1_101, .int lg1_102, .int mdu]) (C := "BigRunnerModel") (T := FT10) (N := 45) hx hb (hw10 hB _) (fun _ h9 => h9) TY10 ok10 nm10 hown hK hP hD hS (lo_in hL t_M (by decide)) e210 rfl 39 (by decide) (wd_986 hB _) rfl (by decide +kernel) rfl rfl (Nat.le_of_ble_eq_true rfl) rfl d_M_run_219 (fun f215 H locs e216 k217 hP hD hS => ?_)
                              have eC := (k217 (g.lk M 6) (tg_ne (lo_k11_6 hL _ t_M) t_M (by decide))).trans eC
                              have eA := (k217 (g.lk M 7) (tg_ne (lo_k11_7 hL _ t_M) t_M (by decide))).trans eA
                              have e120 := (k217 (g.lk M 30) (tg_ne (lo_k11_30 hL _ t_M) t_M (by decide))).trans e120
                              have e121 := (k217 (g.lk M 31) (tg_ne (lo_k11_31 hL _ t_M) t_M (by decide))).trans e121
                              have e122 := (k217 (g.lk M 33) (tg_ne (lo_k11_33 hL _ t_M) t_M (by decide))).trans e122
                              have e123 := (k217 (g.lk M 34) (tg_ne (lo_k11_34 hL _ t_M) t_M (by decide))).trans e123
                              have e124 := (k217 (g.lk M 26) (tg_ne (lo_k11_26 hL _ t_M) t_M (by decide))).trans e124
                              have e125 := (k217 (g.lk M 27) (tg_ne (lo_k11_27 hL _ t_M) t_M (by decide))).trans e125
                              have e126 := (k217 (g.lk M 28) (tg_ne (lo_k11_28 hL _ t_M) t_M (by decide))).trans e126
                              have e127 := (k217 (g.lk M 29) (tg_ne (lo_k11_29 hL _ t_M) t_M (by decide))).trans e127
                              have e128 := (k217 (g.lk M 35) (tg_ne (lo_k11_35 hL _ t_M) t_M (by decide))).trans e128
                              have hu := hu.st k217 t_M (by decide)
                              have hv43 := hv43.st k217 t_M (by decide)
                              have hk218 : ∀ b, b ≠ M → f215 b = f89 b := fun b q0 => (k217 b q0).trans (hk212 b q0)
                              refine lv_goto (tgt := 56) hx hb d_M_run_222 (by decide) ?_
                              have hI219 := iv_1 hI1_92 hL t_M (by decide) hk218 (oc_11.mk t_M (⟨((nI 0)), mn, mdr, msz, mix, mdp, mwt, mop, tp1_95, wa1_96, gi1_97, pc1_98, 4, tr1_99, sp1_100, ma1_101, lg1_102, mdu, e216, (by omega), (by omega), (by omega), (by omega), (by omega), (by omega), (by omega), (by omega), (by omega), (by omega), (by omega), (by omega), (by omega), (by omega), hmb14⟩))
                              exact ih30 (md + 1) tp1_95 wa1_96 gi1_97 pc1_98 4 tr1_99 sp1_100 ma1_101 lg1_102 ((pstep L q8)) hl_111 hs_112 hr_113 hq_114 hv_115 hw_116 ho_117 hp_118 hi_119 f215 H locs ls (by omega) (by omega) (by omega) (by omega) (by omega) (by omega) (by omega) (by omega) (by omega) (fun z => absurd z (by omega)) (by omega) (by rw [pst_q]; exact ⟨hmq134.1, hmq134.2.1, hmq134.2.2.1, hmq134.2.2.2.1, hmq134.2.2.2.2.1, hmq134.2.2.2.2.2.1, fun z => absurd z (by omega)⟩) (Or.inr ⟨by decide, by rw [hP9, hkm, pr_step hns (by rw [← hMQ8.2.2.2.2.1]; omega) h9n, pr_stop hstop9] <;> rfl⟩) ⟨fun _ => hstop9, fun _ => by decide⟩ c129 c130 c131 c132 c133 e216 e120 e121 e122 e123 e124 e125 e126 e127 e128 hI219 hv43 hl hP hD hS
                            · skip
                              replace b214 := (nI_eq (a := 4) (b := 1) (by omega) (by omega)).mp b214
                              exfalso; omega
                          · skip
                            replace b213 := (nI_eq (a := 4) (b := 1) (by omega) (by omega)).mp b213
                            exfalso; omega
                      · skip
                        replace b87 := (nI_eq (a := w) (b := 9) (by omega) (by omega)).mp b87
                        refine lv_aload_n hx hb d_M_run_101 rfl (lv_at hl 1 rfl) ?_
                        refine pf_get (v := .int (nI w8)) (C := "BigRunnerModel") (T := FT10) (N := 45) hx hb (hw10 hB _) (fun _ h9 => h9) hown hK hP (lo_in hL t_M (by decide)) e32 rfl 36 (by decide) (wd_983 hB _) rfl d_M_run_102 ?_
                        refine lv_if_ne (tgt := 116) hx hb d_M_run_105 (by decide) (fun b220 => ?_) (fun b220 => ?_)
                        · skip
                          replace b220 := mt (nI_eq (a := w8) (b := 0) (by omega) (by omega)).mpr b220
                          have h9n : ¬ ((at_ L q8.pc).1 = 9 ∧ q8.ins = []) := fun z => by have y9 := hMQ8.2.2.1.1; rw [z.2] at y9; have y8 : w8 = 0 := y9; omega
                          refine lv_aload_n hx hb d_M_run_116 rfl (lv_at hl 1 rfl) ?_
                          refine pcc_v (va_runV (C := "BigRunnerModel") (As := []) (rest := []) ⟨hx, hb, hml, hown, tb_nil⟩ (w_step l g H.size f28 M ((nI 0)) mn mdr msz mix mdp mwt mop t8 w8 g8 p8 s8 x8 y8 ma8 lg8 mdu hC hA dpf aL aS aR aQ aV aW aO aP aI L q8 hL t_M hI42 e32 ⟨(by omega), (by omega), (by omega), (by omega), (by omega), (by omega), (by omega), (by omega), (by omega), (by omega), (by omega), (by omega), (by omega), (by omega), hmb14⟩ eC eA hWF (by omega) (by omega) q3 (Or.inr (by omega)) (by omega) (by omega) e33 e34 e35 e36 e37 e38 e39 e40 e41 cL cR cQ cV cO hMCL hMQ8) ⟨(callB_of 0 (tb_one (wd_1203 hB _)) tb_good1 rfl rfl rfl (wd_82 hB _) (wd_1200 hB _) (by decide +kernel) ⟨Nat.le_of_ble_eq_true rfl, Nat.le_of_ble_eq_true rfl⟩), (wd_1202 hB _), (wd_57 hB _)⟩ ⟨pe_bl, pg_recv (ci := 10) hK hP (lo_in hL t_M (by decide)) e32 rfl, pe_pre hB hK hP hD⟩ rfl rfl hl.1 rfl (lv_room (Nat.le_of_ble_eq_true rfl)) d_M_run_117 ⟨Nat.le_of_ble_eq_true rfl, Nat.le_of_ble_eq_true rfl⟩) hS (fun f222 H locs hq223 hP hD hS => ?_)
                          obtain ⟨x1_224, hI1_225, hu1_226⟩ := hq223
                          have hu := hu.tr hu1_226 (by decide)
                          have hv43 := hv43.tr hu1_226 (by decide)
                          have eC := hu1_226.at (lo_k11_6 hL _ t_M) (by decide) eC
                          have eA := hu1_226.at (lo_k11_7 hL _ t_M) (by decide) eA
                          obtain ⟨tp1_228, wa1_229, gi1_230, pc1_231, tr1_232, sp1_233, ma1_234, lg1_235, c236, c237, c238, c239, c240, c241, c242, c243, e227⟩ := x1_224
                          obtain ⟨hl_244, hs_245, hr_246, hq_247, hv_248, hw_249, ho_250, hp_251, hi_252, e253, e254, e255, e256, e257, e258, e259, e260, e261, c262, c263, c264, c265, c266, hmq267⟩ := c243
                          have htq8 := hmq267.2.2.2.2.2.1
                          refine lv_iinc (k := 0) (v := nI (md + 1)) (lv' := [(2, .int (nI (md + 1))), (0, .ref M), (1, .int (nI kn))]) hx hb d_M_run_120 hl rfl (by rw [nI_succ]; rfl) (by decide) rfl (fun ls hl => ?_)
                          refine lv_aload_n hx hb d_M_run_123 rfl (lv_at hl 1 rfl) ?_
                          refine lv_aload_n hx hb d_M_run_124 rfl (lv_at hl 1 rfl) ?_
                          refine pf_get (v := .int (nI tr1_232)) (C := "BigRunnerModel") (T := FT10) (N := 45) hx hb (hw10 hB _) (fun _ h9 => h9) hown hK hP (lo_in hL t_M (by decide)) e227 rfl 40 (by decide) (wd_987 hB _) rfl d_M_run_125 ?_
                          refine lv_if_le (tgt := 135) hx hb d_M_run_128 (by decide) (fun b268 => ?_) (fun b268 => ?_)
                          · skip
                            replace b268 := (nI_leI (a := tr1_232) (b := 0) (by omega) (by omega)).mp b268
                            refine lv_aload_n hx hb d_M_run_135 rfl (lv_at hl 1 rfl) ?_
                            refine pf_get (v := .int (nI s8)) (C := "BigRunnerModel") (T := FT10) (N := 45) hx hb (hw10 hB _) (fun _ h9 => h9) hown hK hP (lo_in hL t_M (by decide)) e227 rfl 39 (by decide) (wd_986 hB _) rfl d_M_run_136 ?_
                            refine pf_put (v := .int (nI s8)) (ty := .int) (fs' := [.int (nI 0), .ref (g.lk M 1), .int (nI mn), .ref (g.lk M 3), .ref (g.lk M 4), .int (nI mdr), .ref (g.lk M 6), .ref (g.lk M 7), .ref (g.lk M 8), .int (nI msz), .int (nI mix), .int (nI mdp), .ref (g.lk M 12), .int (nI mwt), .ref (g.lk M 14), .ref (g.lk M 15), .int (nI mop), .ref (g.lk M 17), .ref (g.lk M 18), .ref (g.lk M 19), .ref (g.lk M 20), .ref (g.lk M 21), .ref (g.lk M 22), .ref (g.lk M 23), .ref (g.lk M 24), .ref (g.lk M 25), .ref (g.lk M 26), .ref (g.lk M 27), .ref (g.lk M 28), .ref (g.lk M 29), .ref (g.lk M 30), .ref (g.lk M 31), .int (nI tp1_228), .ref (g.lk M 33), .ref (g.lk M 34), .ref (g.lk M 35), .int (nI wa1_229), .int (nI gi1_230), .int (nI pc1_231), .int (nI s8), .int (nI tr1_232), .int (nI sp1_233), .int ma1_234, .int lg1_235, .int mdu]) (C := "BigRunnerModel") (T := FT10) (N := 45) hx hb (hw10 hB _) (fun _ h9 => h9) TY10 ok10 nm10 hown hK hP hD hS (lo_in hL t_M (by decide)) e227 rfl 39 (by decide) (wd_986 hB _) rfl (by decide +kernel) rfl rfl (Nat.le_of_ble_eq_true rfl) rfl d_M_run_139 (fun f269 H locs e270 k271 hP hD hS => ?_)
                            have eC := (k271 (g.lk M 6) (tg_ne (lo_k11_6 hL _ t_M) t_M (by decide))).trans eC
                            have eA := (k271 (g.lk M 7) (tg_ne (lo_k11_7 hL _ t_M) t_M (by decide))).trans eA
                            have e253 := (k271 (g.lk M 30) (tg_ne (lo_k11_30 hL _ t_M) t_M (by decide))).trans e253
                            have e254 := (k271 (g.lk M 31) (tg_ne (lo_k11_31 hL _ t_M) t_M (by decide))).trans e254
                            have e255 := (k271 (g.lk M 33) (tg_ne (lo_k11_33 hL _ t_M) t_M (by decide))).trans e255
                            have e256 := (k271 (g.lk M 34) (tg_ne (lo_k11_34 hL _ t_M) t_M (by decide))).trans e256
                            have e257 := (k271 (g.lk M 26) (tg_ne (lo_k11_26 hL _ t_M) t_M (by decide))).trans e257
                            have e258 := (k271 (g.lk M 27) (tg_ne (lo_k11_27 hL _ t_M) t_M (by decide))).trans e258
                            have e259 := (k271 (g.lk M 28) (tg_ne (lo_k11_28 hL _ t_M) t_M (by decide))).trans e259
                            have e260 := (k271 (g.lk M 29) (tg_ne (lo_k11_29 hL _ t_M) t_M (by decide))).trans e260
                            have e261 := (k271 (g.lk M 35) (tg_ne (lo_k11_35 hL _ t_M) t_M (by decide))).trans e261
                            have hu := hu.st k271 t_M (by decide)
                            have hv43 := hv43.st k271 t_M (by decide)
                            have hk272 : ∀ b, b ≠ M → f269 b = f222 b := k271
                            have htq9 : (pstq L q8).tr = 0 := by omega
                            obtain ⟨j1, j2⟩ := c242 (by omega)
                            have hpq9 := hmq267.2.2.2.2.2.2 (by omega)
                            have hI273 := iv_1 hI1_225 hL t_M (by decide) hk272 (oc_11.mk t_M (⟨((nI 0)), mn, mdr, msz, mix, mdp, mwt, mop, tp1_228, wa1_229, gi1_230, pc1_231, s8, tr1_232, sp1_233, ma1_234, lg1_235, mdu, e270, (by omega), (by omega), (by omega), (by omega), (by omega), (by omega), (by omega), (by omega), (by omega), (by omega), (by omega), (by omega), (by omega), (by omega), hmb14⟩))
                            have lp274 : ∀ (k276 : Nat) (p7 : Nat) (fl : Nat) (jj : Nat) (f275 : Nat → va_E) (H : Heap) (locs : List Loc) (ls : Array Slot), ((fl = 0 ∧ msz < p7 + k276) ∨ (fl = 1 ∧ 0 < k276)) → (p7 ≤ msz) → (PZ0 dpf msz p7) → (fl ≤ 1) → (JF hC p7 fl) → (jmpf L jj (pstq L q8).pc = p7) → (jj ≤ 101) → (fl = 0 → jj ≤ p7) → f275 M = .inr (10, [.int ((nI 0)), .ref (g.lk M 1), .int (nI mn), .ref (g.lk M 3), .ref (g.lk M 4), .int (nI mdr), .ref (g.lk M 6), .ref (g.lk M 7), .ref (g.lk M 8), .int (nI msz), .int (nI mix), .int (nI mdp), .ref (g.lk M 12), .int (nI mwt), .ref (g.lk M 14), .ref (g.lk M 15), .int (nI mop), .ref (g.lk M 17), .ref (g.lk M 18), .ref (g.lk M 19), .ref (g.lk M 20), .ref (g.lk M 21), .ref (g.lk M 22), .ref (g.lk M 23), .ref (g.lk M 24), .ref (g.lk M 25), .ref (g.lk M 26), .ref (g.lk M 27), .ref (g.lk M 28), .ref (g.lk M 29), .ref (g.lk M 30), .ref (g.lk M 31), .int (nI tp1_228), .ref (g.lk M 33), .ref (g.lk M 34), .ref (g.lk M 35), .int (nI wa1_229), .int (nI gi1_230), .int (nI p7), .int (nI s8), .int (nI tr1_232), .int (nI sp1_233), .int ma1_234, .int lg1_235, .int mdu]) → IV g f275 → un [11] g f269 f275 → lv_has ls 3 [(2, .int (nI (md + 1))), (0, .ref M), (1, .int (nI kn))] → va_P g.D vcl (va_pl g.LP f275) H → va_D (pc_A g s.heap.size) (va_pl g.LP f275) → va_S (pc_A g s.heap.size) s.heap H locs → W p l e ({ frames := 5, cells := 0, slots := 0, locals := 124 }) s m args below meth c H locs 0 0 (MQ below (va_Qi (fun r f1 => (∃ (th1 : Int32) (tp1 : Nat) (wa1 : Nat) (gi1 : Nat) (pc1 : Nat) (st1 : Nat) (tr1 : Nat) (sp1 : Nat) (ma1 : Int32) (lg1 : Int32), (tp1 ≤ 80) ∧ (wa1 ≤ 20) ∧ (gi1 ≤ sp1) ∧ (pc1 ≤ 100) ∧ (st1 ≤ 4) ∧ (tr1 ≤ 3) ∧ (sp1 ≤ 3000) ∧ (RI hC dpf msz st1 pc1 tr1) ∧ (st1 ≠ 0) ∧ (th1 = nI ((prunA L vn.toInt s9).1)) ∧ (∃ hl hs hr hq hv hw ho hp hi : Nat → Int32, f1 (g.lk M 30) = .inl (g.ac (g.lk M 30), 1600, .inl hl) ∧ f1 (g.lk M 31) = .inl (g.ac (g.lk M 31), 80, .inl hs) ∧ f1 (g.lk M 33) = .inl (g.ac (g.lk M 33), 44, .inl hr) ∧ f1 (g.lk M 34) = .inl (g.ac (g.lk M 34), 44, .inl hq) ∧ f1 (g.lk M 26) = .inl (g.ac (g.lk M 26), 200, .inl hv) ∧ f1 (g.lk M 27) = .inl (g.ac (g.lk M 27), 10, .inl hw) ∧ f1 (g.lk M 28) = .inl (g.ac (g.lk M 28), 240, .inl ho) ∧ f1 (g.lk M 29) = .inl (g.ac (g.lk M 29), 12, .inl hp) ∧ f1 (g.lk M 35) = .inl (g.ac (g.lk M 35), 20, .inl hi) ∧ C6 1600 hl ∧ C6 44 hr ∧ C6 44 hq ∧ C6 200 hv ∧ C6 240 ho ∧ MQ9 hv hw ho hp hi wa1 gi1 sp1 tr1 pc1 (prunA L vn.toInt s9).2.2 ∧ (2 < st1 ↔ (prunA L vn.toInt s9).2.2.tr ≠ 0 ∨ (prunA L vn.toInt s9).2.2.pc = L.length)) ∧ f1 M = .inr (10, [.int th1, .ref (g.lk M 1), .int (nI mn), .ref (g.lk M 3), .ref (g.lk M 4), .int (nI mdr), .ref (g.lk M 6), .ref (g.lk M 7), .ref (g.lk M 8), .int (nI msz), .int (nI mix), .int (nI mdp), .ref (g.lk M 12), .int (nI mwt), .ref (g.lk M 14), .ref (g.lk M 15), .int (nI mop), .ref (g.lk M 17), .ref (g.lk M 18), .ref (g.lk M 19), .ref (g.lk M 20), .ref (g.lk M 21), .ref (g.lk M 22), .ref (g.lk M 23), .ref (g.lk M 24), .ref (g.lk M 25), .ref (g.lk M 26), .ref (g.lk M 27), .ref (g.lk M 28), .ref (g.lk M 29), .ref (g.lk M 30), .ref (g.lk M 31), .int (nI tp1), .ref (g.lk M 33), .ref (g.lk M 34), .ref (g.lk M 35), .int (nI wa1), .int (nI gi1), .int (nI pc1), .int (nI st1), .int (nI tr1), .int (nI sp1), .int ma1, .int lg1, .int mdu])) ∧ (r = nI ((prunA L vn.toInt s9).2.1)) ∧ ((prunA L vn.toInt s9).2.1 ≤ 200) ∧ (IV g f1) ∧ (un [11, 58, 59, 60, 61, 62, 63, 64, 65, 66] g f f1)) (pc_out g s.heap.size) (pc_A g s.heap.size)) args s 0 0 (pc_A g s.heap.size)) (F0 m 142 ls []) := by
                              intro k276
                              induction k276 with
                              | zero => intros; exfalso; omega
                              | succ k276 ih277 =>
                                intro p7 fl jj f275 H locs ls hfu278 hp7 hp6 hfl hJF hjf hjb hjc e279 hI280 hv281 hl hP hD hS
                                have eC := hv281.at (lo_k11_6 hL _ t_M) (by decide) eC
                                have eA := hv281.at (lo_k11_7 hL _ t_M) (by decide) eA
                                have e253 := hv281.at (lo_k11_30 hL _ t_M) (by decide) e253
                                have e254 := hv281.at (lo_k11_31 hL _ t_M) (by decide) e254
                                have e255 := hv281.at (lo_k11_33 hL _ t_M) (by decide) e255
                                have e256 := hv281.at (lo_k11_34 hL _ t_M) (by decide) e256
                                have e257 := hv281.at (lo_k11_26 hL _ t_M) (by decide) e257
                                have e258 := hv281.at (lo_k11_27 hL _ t_M) (by decide) e258
                                have e259 := hv281.at (lo_k11_28 hL _ t_M) (by decide) e259
                                have e260 := hv281.at (lo_k11_29 hL _ t_M) (by decide) e260
                                have e261 := hv281.at (lo_k11_35 hL _ t_M) (by decide) e261
                                have hu := hu.tr hv281 (by decide)
                                have hv43 := hv43.tr hv281 (by decide)
                                refine lv_aload_n hx hb d_M_run_142 rfl (lv_at hl 1 rfl) ?_
                                refine pf_get (v := .int (nI s8)) (C := "BigRunnerModel") (T := FT10) (N := 45) hx hb (hw10 hB _) (fun _ h9 => h9) hown hK hP (lo_in hL t_M (by decide)) e279 rfl 39 (by decide) (wd_986 hB _) rfl d_M_run_143 ?_
                                refine lv_iconst (v := nI 1) hx hb d_M_run_146 (by decide) ?_
                                refine lv_icmp_ne (tgt := 191) hx hb d_M_run_147 (by decide) (fun b282 => ?_) (fun b282 => ?_)
                                · skip
                                  replace b282 := mt (nI_eq (a := s8) (b := 1) (by omega) (by omega)).mpr b282
                                  have hst7 : stop L p7 := fun z9 => by have y9 := z9.1; rw [hMCL.1] at y9; omega
                                  have hjm9 : p7 = jmp L (pstq L q8).pc := (jmp_of hjf hst7 (by omega)).symm
                                  have hpp9 : (pstep L q8).pc = p7 := by rw [pst_q]; show (if (pstq L q8).tr = 0 then jmp L (pstq L q8).pc else (pstq L q8).pc) = p7; rw [if_pos htq9]; exact hjm9.symm
                                  have hpt9 : (pstep L q8).tr = 0 := by rw [pst_q]; exact htq9
                                  refine lv_aload_n hx hb d_M_run_191 rfl (lv_at hl 1 rfl) ?_
                                  refine lv_aload_n hx hb d_M_run_192 rfl (lv_at hl 1 rfl) ?_
                                  refine pf_get (v := .int (nI s8)) (C := "BigRunnerModel") (T := FT10) (N := 45) hx hb (hw10 hB _) (fun _ h9 => h9) hown hK hP (lo_in hL t_M (by decide)) e279 rfl 39 (by decide) (wd_986 hB _) rfl d_M_run_193 ?_
                                  refine lv_iconst (v := nI 1) hx hb d_M_run_196 (by decide) ?_
                                  refine lv_icmp_ne (tgt := 215) hx hb d_M_run_197 (by decide) (fun b283 => ?_) (fun b283 => ?_)
                                  · skip
                                    replace b283 := mt (nI_eq (a := s8) (b := 1) (by omega) (by omega)).mpr b283
                                    refine lv_aload_n hx hb d_M_run_215 rfl (lv_at hl 1 rfl) ?_
                                    refine pf_get (v := .int (nI s8)) (C := "BigRunnerModel") (T := FT10) (N := 45) hx hb (hw10 hB _) (fun _ h9 => h9) hown hK hP (lo_in hL t_M (by decide)) e279 rfl 39 (by decide) (wd_986 hB _) rfl d_M_run_216 ?_
                                    refine pf_put (v := .int (nI s8)) (ty := .int) (fs' := [.int ((nI 0)), .ref (g.lk M 1), .int (nI mn), .ref (g.lk M 3), .ref (g.lk M 4), .int (nI mdr), .ref (g.lk M 6), .ref (g.lk M 7), .ref (g.lk M 8), .int (nI msz), .int (nI mix), .int (nI mdp), .ref (g.lk M 12), .int (nI mwt), .ref (g.lk M 14), .ref (g.lk M 15), .int (nI mop), .ref (g.lk M 17), .ref (g.lk M 18), .ref (g.lk M 19), .ref (g.lk M 20), .ref (g.lk M 21), .ref (g.lk M 22), .ref (g.lk M 23), .ref (g.lk M 24), .ref (g.lk M 25), .ref (g.lk M 26), .ref (g.lk M 27), .ref (g.lk M 28), .ref (g.lk M 29), .ref (g.lk M 30), .ref (g.lk M 31), .int (nI tp1_228), .ref (g.lk M 33), .ref (g.lk M 34), .ref (g.lk M 35), .int (nI wa1_229), .int (nI gi1_230), .int (nI p7), .int (nI s8), .int (nI tr1_232), .int (nI sp1_233), .int ma1_234, .int lg1_235, .int mdu]) (C := "BigRunnerModel") (T := FT10) (N := 45) hx hb (hw10 hB _) (fun _ h9 => h9) TY10 ok10 nm10 hown hK hP hD hS (lo_in hL t_M (by decide)) e279 rfl 39 (by decide) (wd_986 hB _) rfl (by decide +kernel) rfl rfl (Nat.le_of_ble_eq_true rfl) rfl d_M_run_219 (fun f284 H locs e285 k286 hP hD hS => ?_)
                                    have eC := (k286 (g.lk M 6) (tg_ne (lo_k11_6 hL _ t_M) t_M (by decide))).trans eC
                                    have eA := (k286 (g.lk M 7) (tg_ne (lo_k11_7 hL _ t_M) t_M (by decide))).trans eA
                                    have e253 := (k286 (g.lk M 30) (tg_ne (lo_k11_30 hL _ t_M) t_M (by decide))).trans e253
                                    have e254 := (k286 (g.lk M 31) (tg_ne (lo_k11_31 hL _ t_M) t_M (by decide))).trans e254
                                    have e255 := (k286 (g.lk M 33) (tg_ne (lo_k11_33 hL _ t_M) t_M (by decide))).trans e255
                                    have e256 := (k286 (g.lk M 34) (tg_ne (lo_k11_34 hL _ t_M) t_M (by decide))).trans e256
                                    have e257 := (k286 (g.lk M 26) (tg_ne (lo_k11_26 hL _ t_M) t_M (by decide))).trans e257
                                    have e258 := (k286 (g.lk M 27) (tg_ne (lo_k11_27 hL _ t_M) t_M (by decide))).trans e258
                                    have e259 := (k286 (g.lk M 28) (tg_ne (lo_k11_28 hL _ t_M) t_M (by decide))).trans e259
                                    have e260 := (k286 (g.lk M 29) (tg_ne (lo_k11_29 hL _ t_M) t_M (by decide))).trans e260
                                    have e261 := (k286 (g.lk M 35) (tg_ne (lo_k11_35 hL _ t_M) t_M (by decide))).trans e261
                                    have hu := hu.st k286 t_M (by decide)
                                    have hv43 := hv43.st k286 t_M (by decide)
                                    have hv281 := hv281.st k286 t_M (by decide)
                                    have hk287 : ∀ b, b ≠ M → f284 b = f275 b := k286
                                    exfalso; omega
                                  · skip
                                    replace b283 := (nI_eq (a := s8) (b := 1) (by omega) (by omega)).mp b283
                                    refine lv_aload_n hx hb d_M_run_200 rfl (lv_at hl 1 rfl) ?_
                                    refine pf_get (v := .int (nI p7)) (C := "BigRunnerModel") (T := FT10) (N := 45) hx hb (hw10 hB _) (fun _ h9 => h9) hown hK hP (lo_in hL t_M (by decide)) e279 rfl 38 (by decide) (wd_985 hB _) rfl d_M_run_201 ?_
                                    refine lv_aload_n hx hb d_M_run_204 rfl (lv_at hl 1 rfl) ?_
                                    refine pf_get (v := .int (nI msz)) (C := "BigRunnerModel") (T := FT10) (N := 45) hx hb (hw10 hB _) (fun _ h9 => h9) hown hK hP (lo_in hL t_M (by decide)) e279 rfl 9 (by decide) (wd_956 hB _) rfl d_M_run_205 ?_
                                    refine lv_icmp_ne (tgt := 215) hx hb d_M_run_208 (by decide) (fun b288 => ?_) (fun b288 => ?_)
                                    · skip
                                      replace b288 := mt (nI_eq (a := p7) (b := msz) (by omega) (by omega)).mpr b288
                                      refine lv_aload_n hx hb d_M_run_215 rfl (lv_at hl 1 rfl) ?_
                                      refine pf_get (v := .int (nI s8)) (C := "BigRunnerModel") (T := FT10) (N := 45) hx hb (hw10 hB _) (fun _ h9 => h9) hown hK hP (lo_in hL t_M (by decide)) e279 rfl 39 (by decide) (wd_986 hB _) rfl d_M_run_216 ?_
                                      refine pf_put (v := .int (nI s8)) (ty := .int) (fs' := [.int ((nI 0)), .ref (g.lk M 1), .int (nI mn), .ref (g.lk M 3), .ref (g.lk M 4), .int (nI mdr), .ref (g.lk M 6), .ref (g.lk M 7), .ref (g.lk M 8), .int (nI msz), .int (nI mix), .int (nI mdp), .ref (g.lk M 12), .int (nI mwt), .ref (g.lk M 14), .ref (g.lk M 15), .int (nI mop), .ref (g.lk M 17), .ref (g.lk M 18), .ref (g.lk M 19), .ref (g.lk M 20), .ref (g.lk M 21), .ref (g.lk M 22), .ref (g.lk M 23), .ref (g.lk M 24), .ref (g.lk M 25), .ref (g.lk M 26), .ref (g.lk M 27), .ref (g.lk M 28), .ref (g.lk M 29), .ref (g.lk M 30), .ref (g.lk M 31), .int (nI tp1_228), .ref (g.lk M 33), .ref (g.lk M 34), .ref (g.lk M 35), .int (nI wa1_229), .int (nI gi1_230), .int (nI p7), .int (nI s8), .int (nI tr1_232), .int (nI sp1_233), .int ma1_234, .int lg1_235, .int mdu]) (C := "BigRunnerModel") (T := FT10) (N := 45) hx hb (hw10 hB _) (fun _ h9 => h9) TY10 ok10 nm10 hown hK hP hD hS (lo_in hL t_M (by decide)) e279 rfl 39 (by decide) (wd_986 hB _) rfl (by decide +kernel) rfl rfl (Nat.le_of_ble_eq_true rfl) rfl d_M_run_219 (fun f289 H locs e290 k291 hP hD hS => ?_)
                                      have eC := (k291 (g.lk M 6) (tg_ne (lo_k11_6 hL _ t_M) t_M (by decide))).trans eC
                                      have eA := (k291 (g.lk M 7) (tg_ne (lo_k11_7 hL _ t_M) t_M (by decide))).trans eA
                                      have e253 := (k291 (g.lk M 30) (tg_ne (lo_k11_30 hL _ t_M) t_M (by decide))).trans e253
                                      have e254 := (k291 (g.lk M 31) (tg_ne (lo_k11_31 hL _ t_M) t_M (by decide))).trans e254
                                      have e255 := (k291 (g.lk M 33) (tg_ne (lo_k11_33 hL _ t_M) t_M (by decide))).trans e255
                                      have e256 := (k291 (g.lk M 34) (tg_ne (lo_k11_34 hL _ t_M) t_M (by decide))).trans e256
                                      have e257 := (k291 (g.lk M 26) (tg_ne (lo_k11_26 hL _ t_M) t_M (by decide))).trans e257
                                      have e258 := (k291 (g.lk M 27) (tg_ne (lo_k11_27 hL _ t_M) t_M (by decide))).trans e258
                                      have e259 := (k291 (g.lk M 28) (tg_ne (lo_k11_28 hL _ t_M) t_M (by decide))).trans e259
                                      have e260 := (k291 (g.lk M 29) (tg_ne (lo_k11_29 hL _ t_M) t_M (by decide))).trans e260
                                      have e261 := (k291 (g.lk M 35) (tg_ne (lo_k11_35 hL _ t_M) t_M (by decide))).trans e261
                                      have hu := hu.st k291 t_M (by decide)
                                      have hv43 := hv43.st k291 t_M (by decide)
                                      have hv281 := hv281.st k291 t_M (by decide)
                                      have hk292 : ∀ b, b ≠ M → f289 b = f275 b := k291
                                      exfalso; omega
                                    · skip
                                      replace b288 := (nI_eq (a := p7) (b := msz) (by omega) (by omega)).mp b288
                                      refine lv_iconst (v := nI 3) hx hb d_M_run_211 (by decide) ?_
                                      refine lv_goto (tgt := 219) hx hb d_M_run_212 (by decide) ?_
                                      refine pf_put (v := .int (nI 3)) (ty := .int) (fs' := [.int ((nI 0)), .ref (g.lk M 1), .int (nI mn), .ref (g.lk M 3), .ref (g.lk M 4), .int (nI mdr), .ref (g.lk M 6), .ref (g.lk M 7), .ref (g.lk M 8), .int (nI msz), .int (nI mix), .int (nI mdp), .ref (g.lk M 12), .int (nI mwt), .ref (g.lk M 14), .ref (g.lk M 15), .int (nI mop), .ref (g.lk M 17), .ref (g.lk M 18), .ref (g.lk M 19), .ref (g.lk M 20), .ref (g.lk M 21), .ref (g.lk M 22), .ref (g.lk M 23), .ref (g.lk M 24), .ref (g.lk M 25), .ref (g.lk M 26), .ref (g.lk M 27), .ref (g.lk M 28), .ref (g.lk M 29), .ref (g.lk M 30), .ref (g.lk M 31), .int (nI tp1_228), .ref (g.lk M 33), .ref (g.lk M 34), .ref (g.lk M 35), .int (nI wa1_229), .int (nI gi1_230), .int (nI p7), .int (nI 3), .int (nI tr1_232), .int (nI sp1_233), .int ma1_234, .int lg1_235, .int mdu]) (C := "BigRunnerModel") (T := FT10) (N := 45) hx hb (hw10 hB _) (fun _ h9 => h9) TY10 ok10 nm10 hown hK hP hD hS (lo_in hL t_M (by decide)) e279 rfl 39 (by decide) (wd_986 hB _) rfl (by decide +kernel) rfl rfl (Nat.le_of_ble_eq_true rfl) rfl d_M_run_219 (fun f293 H locs e294 k295 hP hD hS => ?_)
                                      have eC := (k295 (g.lk M 6) (tg_ne (lo_k11_6 hL _ t_M) t_M (by decide))).trans eC
                                      have eA := (k295 (g.lk M 7) (tg_ne (lo_k11_7 hL _ t_M) t_M (by decide))).trans eA
                                      have e253 := (k295 (g.lk M 30) (tg_ne (lo_k11_30 hL _ t_M) t_M (by decide))).trans e253
                                      have e254 := (k295 (g.lk M 31) (tg_ne (lo_k11_31 hL _ t_M) t_M (by decide))).trans e254
                                      have e255 := (k295 (g.lk M 33) (tg_ne (lo_k11_33 hL _ t_M) t_M (by decide))).trans e255
                                      have e256 := (k295 (g.lk M 34) (tg_ne (lo_k11_34 hL _ t_M) t_M (by decide))).trans e256
                                      have e257 := (k295 (g.lk M 26) (tg_ne (lo_k11_26 hL _ t_M) t_M (by decide))).trans e257
                                      have e258 := (k295 (g.lk M 27) (tg_ne (lo_k11_27 hL _ t_M) t_M (by decide))).trans e258
                                      have e259 := (k295 (g.lk M 28) (tg_ne (lo_k11_28 hL _ t_M) t_M (by decide))).trans e259
                                      have e260 := (k295 (g.lk M 29) (tg_ne (lo_k11_29 hL _ t_M) t_M (by decide))).trans e260
                                      have e261 := (k295 (g.lk M 35) (tg_ne (lo_k11_35 hL _ t_M) t_M (by decide))).trans e261
                                      have hu := hu.st k295 t_M (by decide)
                                      have hv43 := hv43.st k295 t_M (by decide)
                                      have hv281 := hv281.st k295 t_M (by decide)
                                      have hk296 : ∀ b, b ≠ M → f293 b = f275 b := k295
                                      have hstop9 : (pstep L q8).tr ≠ 0 ∨ (pstep L q8).pc = L.length := Or.inr (by rw [hpp9, hMCL.1]; omega)
                                      refine lv_goto (tgt := 56) hx hb d_M_run_222 (by decide) ?_
                                      have hI297 := iv_1 hI280 hL t_M (by decide) hk296 (oc_11.mk t_M (⟨(((nI 0))), mn, mdr, msz, mix, mdp, mwt, mop, tp1_228, wa1_229, gi1_230, p7, 3, tr1_232, sp1_233, ma1_234, lg1_235, mdu, e294, (by omega), (by omega), (by omega), (by omega), (by omega), (by omega), (by omega), (by omega), (by omega), (by omega), (by omega), (by omega), (by omega), (by omega), hmb14⟩))
                                      exact ih30 (md + 1) tp1_228 wa1_229 gi1_230 p7 3 tr1_232 sp1_233 ma1_234 lg1_235 ((pstep L q8)) hl_244 hs_245 hr_246 hq_247 hv_248 hw_249 ho_250 hp_251 hi_252 f293 H locs ls (by omega) (by omega) (by omega) (by omega) (by omega) (by omega) (by omega) (by omega) (by omega) (fun z => absurd z (by omega)) (by omega) (by rw [pst_q]; exact ⟨hmq267.1, hmq267.2.1, hmq267.2.2.1, hmq267.2.2.2.1, hmq267.2.2.2.2.1, hmq267.2.2.2.2.2.1, fun _ => by show p7 = (if (pstq L q8).tr = 0 then jmp L (pstq L q8).pc else (pstq L q8).pc); rw [if_pos htq9]; exact hjm9⟩) (Or.inr ⟨by decide, by rw [hP9, hkm, pr_step hns (by rw [← hMQ8.2.2.2.2.1]; omega) h9n, pr_stop hstop9] <;> rfl⟩) ⟨fun _ => hstop9, fun _ => by decide⟩ c262 c263 c264 c265 c266 e294 e253 e254 e255 e256 e257 e258 e259 e260 e261 hI297 hv43 hl hP hD hS
                                · skip
                                  replace b282 := (nI_eq (a := s8) (b := 1) (by omega) (by omega)).mp b282
                                  refine lv_aload_n hx hb d_M_run_150 rfl (lv_at hl 1 rfl) ?_
                                  refine pf_get (v := .int (nI p7)) (C := "BigRunnerModel") (T := FT10) (N := 45) hx hb (hw10 hB _) (fun _ h9 => h9) hown hK hP (lo_in hL t_M (by decide)) e279 rfl 38 (by decide) (wd_985 hB _) rfl d_M_run_151 ?_
                                  refine lv_aload_n hx hb d_M_run_154 rfl (lv_at hl 1 rfl) ?_
                                  refine pf_get (v := .int (nI msz)) (C := "BigRunnerModel") (T := FT10) (N := 45) hx hb (hw10 hB _) (fun _ h9 => h9) hown hK hP (lo_in hL t_M (by decide)) e279 rfl 9 (by decide) (wd_956 hB _) rfl d_M_run_155 ?_
                                  refine lv_icmp_ge (tgt := 191) hx hb d_M_run_158 (by decide) (fun b298 => ?_) (fun b298 => ?_)
                                  · skip
                                    replace b298 := (nI_leI (a := msz) (b := p7) (by omega) (by omega)).mp b298
                                    have hst7 : stop L p7 := fun z9 => by have y9 := z9.1; rw [hMCL.1] at y9; omega
                                    have hjm9 : p7 = jmp L (pstq L q8).pc := (jmp_of hjf hst7 (by omega)).symm
                                    have hpp9 : (pstep L q8).pc = p7 := by rw [pst_q]; show (if (pstq L q8).tr = 0 then jmp L (pstq L q8).pc else (pstq L q8).pc) = p7; rw [if_pos htq9]; exact hjm9.symm
                                    have hpt9 : (pstep L q8).tr = 0 := by rw [pst_q]; exact htq9
                                    refine lv_aload_n hx hb d_M_run_191 rfl (lv_at hl 1 rfl) ?_
                                    refine lv_aload_n hx hb d_M_run_192 rfl (lv_at hl 1 rfl) ?_
                                    refine pf_get (v := .int (nI s8)) (C := "BigRunnerModel") (T := FT10) (N := 45) hx hb (hw10 hB _) (fun _ h9 => h9) hown hK hP (lo_in hL t_M (by decide)) e279 rfl 39 (by decide) (wd_986 hB _) rfl d_M_run_193 ?_
                                    refine lv_iconst (v := nI 1) hx hb d_M_run_196 (by decide) ?_
                                    refine lv_icmp_ne (tgt := 215) hx hb d_M_run_197 (by decide) (fun b299 => ?_) (fun b299 => ?_)
                                    · skip
                                      replace b299 := mt (nI_eq (a := s8) (b := 1) (by omega) (by omega)).mpr b299
                                      refine lv_aload_n hx hb d_M_run_215 rfl (lv_at hl 1 rfl) ?_
                                      refine pf_get (v := .int (nI s8)) (C := "BigRunnerModel") (T := FT10) (N := 45) hx hb (hw10 hB _) (fun _ h9 => h9) hown hK hP (lo_in hL t_M (by decide)) e279 rfl 39 (by decide) (wd_986 hB _) rfl d_M_run_216 ?_
                                      refine pf_put (v := .int (nI s8)) (ty := .int) (fs' := [.int ((nI 0)), .ref (g.lk M 1), .int (nI mn), .ref (g.lk M 3), .ref (g.lk M 4), .int (nI mdr), .ref (g.lk M 6), .ref (g.lk M 7), .ref (g.lk M 8), .int (nI msz), .int (nI mix), .int (nI mdp), .ref (g.lk M 12), .int (nI mwt), .ref (g.lk M 14), .ref (g.lk M 15), .int (nI mop), .ref (g.lk M 17), .ref (g.lk M 18), .ref (g.lk M 19), .ref (g.lk M 20), .ref (g.lk M 21), .ref (g.lk M 22), .ref (g.lk M 23), .ref (g.lk M 24), .ref (g.lk M 25), .ref (g.lk M 26), .ref (g.lk M 27), .ref (g.lk M 28), .ref (g.lk M 29), .ref (g.lk M 30), .ref (g.lk M 31), .int (nI tp1_228), .ref (g.lk M 33), .ref (g.lk M 34), .ref (g.lk M 35), .int (nI wa1_229), .int (nI gi1_230), .int (nI p7), .int (nI s8), .int (nI tr1_232), .int (nI sp1_233), .int ma1_234, .int lg1_235, .int mdu]) (C := "BigRunnerModel") (T := FT10) (N := 45) hx hb (hw10 hB _) (fun _ h9 => h9) TY10 ok10 nm10 hown hK hP hD hS (lo_in hL t_M (by decide)) e279 rfl 39 (by decide) (wd_986 hB _) rfl (by decide +kernel) rfl rfl (Nat.le_of_ble_eq_true rfl) rfl d_M_run_219 (fun f300 H locs e301 k302 hP hD hS => ?_)
                                      have eC := (k302 (g.lk M 6) (tg_ne (lo_k11_6 hL _ t_M) t_M (by decide))).trans eC
                                      have eA := (k302 (g.lk M 7) (tg_ne (lo_k11_7 hL _ t_M) t_M (by decide))).trans eA
                                      have e253 := (k302 (g.lk M 30) (tg_ne (lo_k11_30 hL _ t_M) t_M (by decide))).trans e253
                                      have e254 := (k302 (g.lk M 31) (tg_ne (lo_k11_31 hL _ t_M) t_M (by decide))).trans e254
                                      have e255 := (k302 (g.lk M 33) (tg_ne (lo_k11_33 hL _ t_M) t_M (by decide))).trans e255
                                      have e256 := (k302 (g.lk M 34) (tg_ne (lo_k11_34 hL _ t_M) t_M (by decide))).trans e256
                                      have e257 := (k302 (g.lk M 26) (tg_ne (lo_k11_26 hL _ t_M) t_M (by decide))).trans e257
                                      have e258 := (k302 (g.lk M 27) (tg_ne (lo_k11_27 hL _ t_M) t_M (by decide))).trans e258
                                      have e259 := (k302 (g.lk M 28) (tg_ne (lo_k11_28 hL _ t_M) t_M (by decide))).trans e259
                                      have e260 := (k302 (g.lk M 29) (tg_ne (lo_k11_29 hL _ t_M) t_M (by decide))).trans e260
                                      have e261 := (k302 (g.lk M 35) (tg_ne (lo_k11_35 hL _ t_M) t_M (by decide))).trans e261
                                      have hu := hu.st k302 t_M (by decide)
                                      have hv43 := hv43.st k302 t_M (by decide)
                                      have hv281 := hv281.st k302 t_M (by decide)
                                      have hk303 : ∀ b, b ≠ M → f300 b = f275 b := k302
                                      exfalso; omega
                                    · skip
                                      replace b299 := (nI_eq (a := s8) (b := 1) (by omega) (by omega)).mp b299
                                      refine lv_aload_n hx hb d_M_run_200 rfl (lv_at hl 1 rfl) ?_
                                      refine pf_get (v := .int (nI p7)) (C := "BigRunnerModel") (T := FT10) (N := 45) hx hb (hw10 hB _) (fun _ h9 => h9) hown hK hP (lo_in hL t_M (by decide)) e279 rfl 38 (by decide) (wd_985 hB _) rfl d_M_run_201 ?_
                                      refine lv_aload_n hx hb d_M_run_204 rfl (lv_at hl 1 rfl) ?_
                                      refine pf_get (v := .int (nI msz)) (C := "BigRunnerModel") (T := FT10) (N := 45) hx hb (hw10 hB _) (fun _ h9 => h9) hown hK hP (lo_in hL t_M (by decide)) e279 rfl 9 (by decide) (wd_956 hB _) rfl d_M_run_205 ?_
                                      refine lv_icmp_ne (tgt := 215) hx hb d_M_run_208 (by decide) (fun b304 => ?_) (fun b304 => ?_)
                                      · skip
                                        replace b304 := mt (nI_eq (a := p7) (b := msz) (by omega) (by omega)).mpr b304
                                        refine lv_aload_n hx hb d_M_run_215 rfl (lv_at hl 1 rfl) ?_
                                        refine pf_get (v := .int (nI s8)) (C := "BigRunnerModel") (T := FT10) (N := 45) hx hb (hw10 hB _) (fun _ h9 => h9) hown hK hP (lo_in hL t_M (by decide)) e279 rfl 39 (by decide) (wd_986 hB _) rfl d_M_run_216 ?_
                                        refine pf_put (v := .int (nI s8)) (ty := .int) (fs' := [.int ((nI 0)), .ref (g.lk M 1), .int (nI mn), .ref (g.lk M 3), .ref (g.lk M 4), .int (nI mdr), .ref (g.lk M 6), .ref (g.lk M 7), .ref (g.lk M 8), .int (nI msz), .int (nI mix), .int (nI mdp), .ref (g.lk M 12), .int (nI mwt), .ref (g.lk M 14), .ref (g.lk M 15), .int (nI mop), .ref (g.lk M 17), .ref (g.lk M 18), .ref (g.lk M 19), .ref (g.lk M 20), .ref (g.lk M 21), .ref (g.lk M 22), .ref (g.lk M 23), .ref (g.lk M 24), .ref (g.lk M 25), .ref (g.lk M 26), .ref (g.lk M 27), .ref (g.lk M 28), .ref (g.lk M 29), .ref (g.lk M 30), .ref (g.lk M 31), .int (nI tp1_228), .ref (g.lk M 33), .ref (g.lk M 34), .ref (g.lk M 35), .int (nI wa1_229), .int (nI gi1_230), .int (nI p7), .int (nI s8), .int (nI tr1_232), .int (nI sp1_233), .int ma1_234, .int lg1_235, .int mdu]) (C := "BigRunnerModel") (T := FT10) (N := 45) hx hb (hw10 hB _) (fun _ h9 => h9) TY10 ok10 nm10 hown hK hP hD hS (lo_in hL t_M (by decide)) e279 rfl 39 (by decide) (wd_986 hB _) rfl (by decide +kernel) rfl rfl (Nat.le_of_ble_eq_true rfl) rfl d_M_run_219 (fun f305 H locs e306 k307 hP hD hS => ?_)
                                        have eC := (k307 (g.lk M 6) (tg_ne (lo_k11_6 hL _ t_M) t_M (by decide))).trans eC
                                        have eA := (k307 (g.lk M 7) (tg_ne (lo_k11_7 hL _ t_M) t_M (by decide))).trans eA
                                        have e253 := (k307 (g.lk M 30) (tg_ne (lo_k11_30 hL _ t_M) t_M (by decide))).trans e253
                                        have e254 := (k307 (g.lk M 31) (tg_ne (lo_k11_31 hL _ t_M) t_M (by decide))).trans e254
                                        have e255 := (k307 (g.lk M 33) (tg_ne (lo_k11_33 hL _ t_M) t_M (by decide))).trans e255
                                        have e256 := (k307 (g.lk M 34) (tg_ne (lo_k11_34 hL _ t_M) t_M (by decide))).trans e256
                                        have e257 := (k307 (g.lk M 26) (tg_ne (lo_k11_26 hL _ t_M) t_M (by decide))).trans e257
                                        have e258 := (k307 (g.lk M 27) (tg_ne (lo_k11_27 hL _ t_M) t_M (by decide))).trans e258
                                        have e259 := (k307 (g.lk M 28) (tg_ne (lo_k11_28 hL _ t_M) t_M (by decide))).trans e259
                                        have e260 := (k307 (g.lk M 29) (tg_ne (lo_k11_29 hL _ t_M) t_M (by decide))).trans e260
                                        have e261 := (k307 (g.lk M 35) (tg_ne (lo_k11_35 hL _ t_M) t_M (by decide))).trans e261
                                        have hu := hu.st k307 t_M (by decide)
                                        have hv43 := hv43.st k307 t_M (by decide)
                                        have hv281 := hv281.st k307 t_M (by decide)
                                        have hk308 : ∀ b, b ≠ M → f305 b = f275 b := k307
                                        exfalso; omega
                                      · skip
                                        replace b304 := (nI_eq (a := p7) (b := msz) (by omega) (by omega)).mp b304
                                        refine lv_iconst (v := nI 3) hx hb d_M_run_211 (by decide) ?_
                                        refine lv_goto (tgt := 219) hx hb d_M_run_212 (by decide) ?_
                                        refine pf_put (v := .int (nI 3)) (ty := .int) (fs' := [.int ((nI 0)), .ref (g.lk M 1), .int (nI mn), .ref (g.lk M 3), .ref (g.lk M 4), .int (nI mdr), .ref (g.lk M 6), .ref (g.lk M 7), .ref (g.lk M 8), .int (nI msz), .int (nI mix), .int (nI mdp), .ref (g.lk M 12), .int (nI mwt), .ref (g.lk M 14), .ref (g.lk M 15), .int (nI mop), .ref (g.lk M 17), .ref (g.lk M 18), .ref (g.lk M 19), .ref (g.lk M 20), .ref (g.lk M 21), .ref (g.lk M 22), .ref (g.lk M 23), .ref (g.lk M 24), .ref (g.lk M 25), .ref (g.lk M 26), .ref (g.lk M 27), .ref (g.lk M 28), .ref (g.lk M 29), .ref (g.lk M 30), .ref (g.lk M 31), .int (nI tp1_228), .ref (g.lk M 33), .ref (g.lk M 34), .ref (g.lk M 35), .int (nI wa1_229), .int (nI gi1_230), .int (nI p7), .int (nI 3), .int (nI tr1_232), .int (nI sp1_233), .int ma1_234, .int lg1_235, .int mdu]) (C := "BigRunnerModel") (T := FT10) (N := 45) hx hb (hw10 hB _) (fun _ h9 => h9) TY10 ok10 nm10 hown hK hP hD hS (lo_in hL t_M (by decide)) e279 rfl 39 (by decide) (wd_986 hB _) rfl (by decide +kernel) rfl rfl (Nat.le_of_ble_eq_true rfl) rfl d_M_run_219 (fun f309 H locs e310 k311 hP hD hS => ?_)
                                        have eC := (k311 (g.lk M 6) (tg_ne (lo_k11_6 hL _ t_M) t_M (by decide))).trans eC
                                        have eA := (k311 (g.lk M 7) (tg_ne (lo_k11_7 hL _ t_M) t_M (by decide))).trans eA
                                        have e253 := (k311 (g.lk M 30) (tg_ne (lo_k11_30 hL _ t_M) t_M (by decide))).trans e253
                                        have e254 := (k311 (g.lk M 31) (tg_ne (lo_k11_31 hL _ t_M) t_M (by decide))).trans e254
                                        have e255 := (k311 (g.lk M 33) (tg_ne (lo_k11_33 hL _ t_M) t_M (by decide))).trans e255
                                        have e256 := (k311 (g.lk M 34) (tg_ne (lo_k11_34 hL _ t_M) t_M (by decide))).trans e256
                                        have e257 := (k311 (g.lk M 26) (tg_ne (lo_k11_26 hL _ t_M) t_M (by decide))).trans e257
                                        have e258 := (k311 (g.lk M 27) (tg_ne (lo_k11_27 hL _ t_M) t_M (by decide))).trans e258
                                        have e259 := (k311 (g.lk M 28) (tg_ne (lo_k11_28 hL _ t_M) t_M (by decide))).trans e259
                                        have e260 := (k311 (g.lk M 29) (tg_ne (lo_k11_29 hL _ t_M) t_M (by decide))).trans e260
                                        have e261 := (k311 (g.lk M 35) (tg_ne (lo_k11_35 hL _ t_M) t_M (by decide))).trans e261
                                        have hu := hu.st k311 t_M (by decide)
                                        have hv43 := hv43.st k311 t_M (by decide)
                                        have hv281 := hv281.st k311 t_M (by decide)
                                        have hk312 : ∀ b, b ≠ M → f309 b = f275 b := k311
                                        have hstop9 : (pstep L q8).tr ≠ 0 ∨ (pstep L q8).pc = L.length := Or.inr (by rw [hpp9, hMCL.1]; omega)
                                        refine lv_goto (tgt := 56) hx hb d_M_run_222 (by decide) ?_
                                        have hI313 := iv_1 hI280 hL t_M (by decide) hk312 (oc_11.mk t_M (⟨(((nI 0))), mn, mdr, msz, mix, mdp, mwt, mop, tp1_228, wa1_229, gi1_230, p7, 3, tr1_232, sp1_233, ma1_234, lg1_235, mdu, e310, (by omega), (by omega), (by omega), (by omega), (by omega), (by omega), (by omega), (by omega), (by omega), (by omega), (by omega), (by omega), (by omega), (by omega), hmb14⟩))
                                        exact ih30 (md + 1) tp1_228 wa1_229 gi1_230 p7 3 tr1_232 sp1_233 ma1_234 lg1_235 ((pstep L q8)) hl_244 hs_245 hr_246 hq_247 hv_248 hw_249 ho_250 hp_251 hi_252 f309 H locs ls (by omega) (by omega) (by omega) (by omega) (by omega) (by omega) (by omega) (by omega) (by omega) (fun z => absurd z (by omega)) (by omega) (by rw [pst_q]; exact ⟨hmq267.1, hmq267.2.1, hmq267.2.2.1, hmq267.2.2.2.1, hmq267.2.2.2.2.1, hmq267.2.2.2.2.2.1, fun _ => by show p7 = (if (pstq L q8).tr = 0 then jmp L (pstq L q8).pc else (pstq L q8).pc); rw [if_pos htq9]; exact hjm9⟩) (Or.inr ⟨by decide, by rw [hP9, hkm, pr_step hns (by rw [← hMQ8.2.2.2.2.1]; omega) h9n, pr_stop hstop9] <;> rfl⟩) ⟨fun _ => hstop9, fun _ => by decide⟩ c262 c263 c264 c265 c266 e310 e253 e254 e255 e256 e257 e258 e259 e260 e261 hI313 hv43 hl hP hD hS
                                  · skip
                                    replace b298 := mt (nI_leI (a := msz) (b := p7) (by omega) (by omega)).mpr b298
                                    obtain ⟨w, v, hWO⟩ := hWF.2.2 p7 (by omega)
                                    have hw := wo_c hWO
                                    have hv := wo_a hWO
                                    have z3 := wo_12 hWO
                                    have z4 := wo_b hWO
                                    have hat7 := mcl_w hMCL (show p7 < msz by omega) hw hv z3 z4
                                    refine lv_aload_n hx hb d_M_run_161 rfl (lv_at hl 1 rfl) ?_
                                    refine pf_get (v := .ref (g.lk M 6)) (C := "BigRunnerModel") (T := FT10) (N := 45) hx hb (hw10 hB _) (fun _ h9 => h9) hown hK hP (lo_in hL t_M (by decide)) e279 rfl 6 (by decide) (wd_953 hB _) rfl d_M_run_162 ?_
                                    refine lv_aload_n hx hb d_M_run_165 rfl (lv_at hl 1 rfl) ?_
                                    refine pf_get (v := .int (nI p7)) (C := "BigRunnerModel") (T := FT10) (N := 45) hx hb (hw10 hB _) (fun _ h9 => h9) hown hK hP (lo_in hL t_M (by decide)) e279 rfl 38 (by decide) (wd_985 hB _) rfl d_M_run_166 ?_
                                    refine pf_iald (i := p7) hx hb hK hP (lo_in hL (lo_k11_6 hL _ t_M) (by decide)) eC (lo_t43 hL _ (lo_k11_6 hL _ t_M)) (by omega) (by decide) d_M_run_169 ?_
                                    refine lv_topi (fun z_ hz_ => ?_)
                                    obtain rfl : z_ = nI w := hz_.trans hw
                                    refine lv_bipush (v := nI 12) hx hb d_M_run_170 (by decide) ?_
                                    refine lv_icmp_ne (tgt := 191) hx hb d_M_run_172 (by decide) (fun b314 => ?_) (fun b314 => ?_)
                                    · skip
                                      replace b314 := mt (nI_eq (a := w) (b := 12) (by omega) (by omega)).mpr b314
                                      have hst7 : stop L p7 := fun z9 => by have y9 := z9.2; rw [hat7] at y9; have y8 : w = 12 := y9; omega
                                      have hjm9 : p7 = jmp L (pstq L q8).pc := (jmp_of hjf hst7 (by omega)).symm
                                      have hpp9 : (pstep L q8).pc = p7 := by rw [pst_q]; show (if (pstq L q8).tr = 0 then jmp L (pstq L q8).pc else (pstq L q8).pc) = p7; rw [if_pos htq9]; exact hjm9.symm
                                      have hpt9 : (pstep L q8).tr = 0 := by rw [pst_q]; exact htq9
                                      refine lv_aload_n hx hb d_M_run_191 rfl (lv_at hl 1 rfl) ?_
                                      refine lv_aload_n hx hb d_M_run_192 rfl (lv_at hl 1 rfl) ?_
                                      refine pf_get (v := .int (nI s8)) (C := "BigRunnerModel") (T := FT10) (N := 45) hx hb (hw10 hB _) (fun _ h9 => h9) hown hK hP (lo_in hL t_M (by decide)) e279 rfl 39 (by decide) (wd_986 hB _) rfl d_M_run_193 ?_
                                      refine lv_iconst (v := nI 1) hx hb d_M_run_196 (by decide) ?_
                                      refine lv_icmp_ne (tgt := 215) hx hb d_M_run_197 (by decide) (fun b315 => ?_) (fun b315 => ?_)
                                      · skip
                                        replace b315 := mt (nI_eq (a := s8) (b := 1) (by omega) (by omega)).mpr b315
                                        refine lv_aload_n hx hb d_M_run_215 rfl (lv_at hl 1 rfl) ?_
                                        refine pf_get (v := .int (nI s8)) (C := "BigRunnerModel") (T := FT10) (N := 45) hx hb (hw10 hB _) (fun _ h9 => h9) hown hK hP (lo_in hL t_M (by decide)) e279 rfl 39 (by decide) (wd_986 hB _) rfl d_M_run_216 ?_
                                        refine pf_put (v := .int (nI s8)) (ty := .int) (fs' := [.int ((nI 0)), .ref (g.lk M 1), .int (nI mn), .ref (g.lk M 3), .ref (g.lk M 4), .int (nI mdr), .ref (g.lk M 6), .ref (g.lk M 7), .ref (g.lk M 8), .int (nI msz), .int (nI mix), .int (nI mdp), .ref (g.lk M 12), .int (nI mwt), .ref (g.lk M 14), .ref (g.lk M 15), .int (nI mop), .ref (g.lk M 17), .ref (g.lk M 18), .ref (g.lk M 19), .ref (g.lk M 20), .ref (g.lk M 21), .ref (g.lk M 22), .ref (g.lk M 23), .ref (g.lk M 24), .ref (g.lk M 25), .ref (g.lk M 26), .ref (g.lk M 27), .ref (g.lk M 28), .ref (g.lk M 29), .ref (g.lk M 30), .ref (g.lk M 31), .int (nI tp1_228), .ref (g.lk M 33), .ref (g.lk M 34), .ref (g.lk M 35), .int (nI wa1_229), .int (nI gi1_230), .int (nI p7), .int (nI s8), .int (nI tr1_232), .int (nI sp1_233), .int ma1_234, .int lg1_235, .int mdu]) (C := "BigRunnerModel") (T := FT10) (N := 45) hx hb (hw10 hB _) (fun _ h9 => h9) TY10 ok10 nm10 hown hK hP hD hS (lo_in hL t_M (by decide)) e279 rfl 39 (by decide) (wd_986 hB _) rfl (by decide +kernel) rfl rfl (Nat.le_of_ble_eq_true rfl) rfl d_M_run_219 (fun f316 H locs e317 k318 hP hD hS => ?_)
                                        have eC := (k318 (g.lk M 6) (tg_ne (lo_k11_6 hL _ t_M) t_M (by decide))).trans eC
                                        have eA := (k318 (g.lk M 7) (tg_ne (lo_k11_7 hL _ t_M) t_M (by decide))).trans eA
                                        have e253 := (k318 (g.lk M 30) (tg_ne (lo_k11_30 hL _ t_M) t_M (by decide))).trans e253
                                        have e254 := (k318 (g.lk M 31) (tg_ne (lo_k11_31 hL _ t_M) t_M (by decide))).trans e254
                                        have e255 := (k318 (g.lk M 33) (tg_ne (lo_k11_33 hL _ t_M) t_M (by decide))).trans e255
                                        have e256 := (k318 (g.lk M 34) (tg_ne (lo_k11_34 hL _ t_M) t_M (by decide))).trans e256
                                        have e257 := (k318 (g.lk M 26) (tg_ne (lo_k11_26 hL _ t_M) t_M (by decide))).trans e257
                                        have e258 := (k318 (g.lk M 27) (tg_ne (lo_k11_27 hL _ t_M) t_M (by decide))).trans e258
                                        have e259 := (k318 (g.lk M 28) (tg_ne (lo_k11_28 hL _ t_M) t_M (by decide))).trans e259
                                        have e260 := (k318 (g.lk M 29) (tg_ne (lo_k11_29 hL _ t_M) t_M (by decide))).trans e260
                                        have e261 := (k318 (g.lk M 35) (tg_ne (lo_k11_35 hL _ t_M) t_M (by decide))).trans e261
                                        have hu := hu.st k318 t_M (by decide)
                                        have hv43 := hv43.st k318 t_M (by decide)
                                        have hv281 := hv281.st k318 t_M (by decide)
                                        have hk319 : ∀ b, b ≠ M → f316 b = f275 b := k318
                                        have hgo9 : ¬ ((pstep L q8).tr ≠ 0 ∨ (pstep L q8).pc = L.length) := fun z => by rcases z with z | z; exact z hpt9; rw [hpp9, hMCL.1] at z; omega
                                        refine lv_goto (tgt := 56) hx hb d_M_run_222 (by decide) ?_
                                        have hI320 := iv_1 hI280 hL t_M (by decide) hk319 (oc_11.mk t_M (⟨(((nI 0))), mn, mdr, msz, mix, mdp, mwt, mop, tp1_228, wa1_229, gi1_230, p7, s8, tr1_232, sp1_233, ma1_234, lg1_235, mdu, e317, (by omega), (by omega), (by omega), (by omega), (by omega), (by omega), (by omega), (by omega), (by omega), (by omega), (by omega), (by omega), (by omega), (by omega), hmb14⟩))
                                        exact ih30 (md + 1) tp1_228 wa1_229 gi1_230 p7 s8 tr1_232 sp1_233 ma1_234 lg1_235 ((pstep L q8)) hl_244 hs_245 hr_246 hq_247 hv_248 hw_249 ho_250 hp_251 hi_252 f316 H locs ls (by omega) (by omega) (by omega) (by omega) (by omega) (by omega) (by omega) (by omega) (by omega) (fun _ => ⟨by omega, hp6 (by omega), fun z => absurd ((nI_eq (by omega) (by omega)).mp (hw.symm.trans z)) (by omega), by omega⟩) (by omega) (by rw [pst_q]; exact ⟨hmq267.1, hmq267.2.1, hmq267.2.2.1, hmq267.2.2.2.1, hmq267.2.2.2.2.1, hmq267.2.2.2.2.2.1, fun _ => by show p7 = (if (pstq L q8).tr = 0 then jmp L (pstq L q8).pc else (pstq L q8).pc); rw [if_pos htq9]; exact hjm9⟩) (Or.inl ⟨by omega, by rw [hP9, hkm, pr_step hns (by rw [← hMQ8.2.2.2.2.1]; omega) h9n]; exact Prod.ext (by show md + (_ + 1) = md + 1 + _; omega) rfl⟩) ⟨fun z => absurd z (by omega), fun z => absurd z hgo9⟩ c262 c263 c264 c265 c266 e317 e253 e254 e255 e256 e257 e258 e259 e260 e261 hI320 hv43 hl hP hD hS
                                      · skip
                                        replace b315 := (nI_eq (a := s8) (b := 1) (by omega) (by omega)).mp b315
                                        refine lv_aload_n hx hb d_M_run_200 rfl (lv_at hl 1 rfl) ?_
                                        refine pf_get (v := .int (nI p7)) (C := "BigRunnerModel") (T := FT10) (N := 45) hx hb (hw10 hB _) (fun _ h9 => h9) hown hK hP (lo_in hL t_M (by decide)) e279 rfl 38 (by decide) (wd_985 hB _) rfl d_M_run_201 ?_
                                        refine lv_aload_n hx hb d_M_run_204 rfl (lv_at hl 1 rfl) ?_
                                        refine pf_get (v := .int (nI msz)) (C := "BigRunnerModel") (T := FT10) (N := 45) hx hb (hw10 hB _) (fun _ h9 => h9) hown hK hP (lo_in hL t_M (by decide)) e279 rfl 9 (by decide) (wd_956 hB _) rfl d_M_run_205 ?_
                                        refine lv_icmp_ne (tgt := 215) hx hb d_M_run_208 (by decide) (fun b321 => ?_) (fun b321 => ?_)
                                        · skip
                                          replace b321 := mt (nI_eq (a := p7) (b := msz) (by omega) (by omega)).mpr b321
                                          refine lv_aload_n hx hb d_M_run_215 rfl (lv_at hl 1 rfl) ?_
                                          refine pf_get (v := .int (nI s8)) (C := "BigRunnerModel") (T := FT10) (N := 45) hx hb (hw10 hB _) (fun _ h9 => h9) hown hK hP (lo_in hL t_M (by decide)) e279 rfl 39 (by decide) (wd_986 hB _) rfl d_M_run_216 ?_
                                          refine pf_put (v := .int (nI s8)) (ty := .int) (fs' := [.int ((nI 0)), .ref (g.lk M 1), .int (nI mn), .ref (g.lk M 3), .ref (g.lk M 4), .int (nI mdr), .ref (g.lk M 6), .ref (g.lk M 7), .ref (g.lk M 8), .int (nI msz), .int (nI mix), .int (nI mdp), .ref (g.lk M 12), .int (nI mwt), .ref (g.lk M 14), .ref (g.lk M 15), .int (nI mop), .ref (g.lk M 17), .ref (g.lk M 18), .ref (g.lk M 19), .ref (g.lk M 20), .ref (g.lk M 21), .ref (g.lk M 22), .ref (g.lk M 23), .ref (g.lk M 24), .ref (g.lk M 25), .ref (g.lk M 26), .ref (g.lk M 27), .ref (g.lk M 28), .ref (g.lk M 29), .ref (g.lk M 30), .ref (g.lk M 31), .int (nI tp1_228), .ref (g.lk M 33), .ref (g.lk M 34), .ref (g.lk M 35), .int (nI wa1_229), .int (nI gi1_230), .int (nI p7), .int (nI s8), .int (nI tr1_232), .int (nI sp1_233), .int ma1_234, .int lg1_235, .int mdu]) (C := "BigRunnerModel") (T := FT10) (N := 45) hx hb (hw10 hB _) (fun _ h9 => h9) TY10 ok10 nm10 hown hK hP hD hS (lo_in hL t_M (by decide)) e279 rfl 39 (by decide) (wd_986 hB _) rfl (by decide +kernel) rfl rfl (Nat.le_of_ble_eq_true rfl) rfl d_M_run_219 (fun f322 H locs e323 k324 hP hD hS => ?_)
                                          have eC := (k324 (g.lk M 6) (tg_ne (lo_k11_6 hL _ t_M) t_M (by decide))).trans eC
                                          have eA := (k324 (g.lk M 7) (tg_ne (lo_k11_7 hL _ t_M) t_M (by decide))).trans eA
                                          have e253 := (k324 (g.lk M 30) (tg_ne (lo_k11_30 hL _ t_M) t_M (by decide))).trans e253
                                          have e254 := (k324 (g.lk M 31) (tg_ne (lo_k11_31 hL _ t_M) t_M (by decide))).trans e254
                                          have e255 := (k324 (g.lk M 33) (tg_ne (lo_k11_33 hL _ t_M) t_M (by decide))).trans e255
                                          have e256 := (k324 (g.lk M 34) (tg_ne (lo_k11_34 hL _ t_M) t_M (by decide))).trans e256
                                          have e257 := (k324 (g.lk M 26) (tg_ne (lo_k11_26 hL _ t_M) t_M (by decide))).trans e257
                                          have e258 := (k324 (g.lk M 27) (tg_ne (lo_k11_27 hL _ t_M) t_M (by decide))).trans e258
                                          have e259 := (k324 (g.lk M 28) (tg_ne (lo_k11_28 hL _ t_M) t_M (by decide))).trans e259
                                          have e260 := (k324 (g.lk M 29) (tg_ne (lo_k11_29 hL _ t_M) t_M (by decide))).trans e260
                                          have e261 := (k324 (g.lk M 35) (tg_ne (lo_k11_35 hL _ t_M) t_M (by decide))).trans e261
                                          have hu := hu.st k324 t_M (by decide)
                                          have hv43 := hv43.st k324 t_M (by decide)
                                          have hv281 := hv281.st k324 t_M (by decide)
                                          have hk325 : ∀ b, b ≠ M → f322 b = f275 b := k324
                                          have hgo9 : ¬ ((pstep L q8).tr ≠ 0 ∨ (pstep L q8).pc = L.length) := fun z => by rcases z with z | z; exact z hpt9; rw [hpp9, hMCL.1] at z; omega
                                          refine lv_goto (tgt := 56) hx hb d_M_run_222 (by decide) ?_
                                          have hI326 := iv_1 hI280 hL t_M (by decide) hk325 (oc_11.mk t_M (⟨(((nI 0))), mn, mdr, msz, mix, mdp, mwt, mop, tp1_228, wa1_229, gi1_230, p7, s8, tr1_232, sp1_233, ma1_234, lg1_235, mdu, e323, (by omega), (by omega), (by omega), (by omega), (by omega), (by omega), (by omega), (by omega), (by omega), (by omega), (by omega), (by omega), (by omega), (by omega), hmb14⟩))
                                          exact ih30 (md + 1) tp1_228 wa1_229 gi1_230 p7 s8 tr1_232 sp1_233 ma1_234 lg1_235 ((pstep L q8)) hl_244 hs_245 hr_246 hq_247 hv_248 hw_249 ho_250 hp_251 hi_252 f322 H locs ls (by omega) (by omega) (by omega) (by omega) (by omega) (by omega) (by omega) (by omega) (by omega) (fun _ => ⟨by omega, hp6 (by omega), fun z => absurd ((nI_eq (by omega) (by omega)).mp (hw.symm.trans z)) (by omega), by omega⟩) (by omega) (by rw [pst_q]; exact ⟨hmq267.1, hmq267.2.1, hmq267.2.2.1, hmq267.2.2.2.1, hmq267.2.2.2.2.1, hmq267.2.2.2.2.2.1, fun _ => by show p7 = (if (pstq L q8).tr = 0 then jmp L (pstq L q8).pc else (pstq L q8).pc); rw [if_pos htq9]; exact hjm9⟩) (Or.inl ⟨by omega, by rw [hP9, hkm, pr_step hns (by rw [← hMQ8.2.2.2.2.1]; omega) h9n]; exact Prod.ext (by show md + (_ + 1) = md + 1 + _; omega) rfl⟩) ⟨fun z => absurd z (by omega), fun z => absurd z hgo9⟩ c262 c263 c264 c265 c266 e323 e253 e254 e255 e256 e257 e258 e259 e260 e261 hI326 hv43 hl hP hD hS
                                        · skip
                                          replace b321 := (nI_eq (a := p7) (b := msz) (by omega) (by omega)).mp b321
                                          refine lv_iconst (v := nI 3) hx hb d_M_run_211 (by decide) ?_
                                          refine lv_goto (tgt := 219) hx hb d_M_run_212 (by decide) ?_
                                          refine pf_put (v := .int (nI 3)) (ty := .int) (fs' := [.int ((nI 0)), .ref (g.lk M 1), .int (nI mn), .ref (g.lk M 3), .ref (g.lk M 4), .int (nI mdr), .ref (g.lk M 6), .ref (g.lk M 7), .ref (g.lk M 8), .int (nI msz), .int (nI mix), .int (nI mdp), .ref (g.lk M 12), .int (nI mwt), .ref (g.lk M 14), .ref (g.lk M 15), .int (nI mop), .ref (g.lk M 17), .ref (g.lk M 18), .ref (g.lk M 19), .ref (g.lk M 20), .ref (g.lk M 21), .ref (g.lk M 22), .ref (g.lk M 23), .ref (g.lk M 24), .ref (g.lk M 25), .ref (g.lk M 26), .ref (g.lk M 27), .ref (g.lk M 28), .ref (g.lk M 29), .ref (g.lk M 30), .ref (g.lk M 31), .int (nI tp1_228), .ref (g.lk M 33), .ref (g.lk M 34), .ref (g.lk M 35), .int (nI wa1_229), .int (nI gi1_230), .int (nI p7), .int (nI 3), .int (nI tr1_232), .int (nI sp1_233), .int ma1_234, .int lg1_235, .int mdu]) (C := "BigRunnerModel") (T := FT10) (N := 45) hx hb (hw10 hB _) (fun _ h9 => h9) TY10 ok10 nm10 hown hK hP hD hS (lo_in hL t_M (by decide)) e279 rfl 39 (by decide) (wd_986 hB _) rfl (by decide +kernel) rfl rfl (Nat.le_of_ble_eq_true rfl) rfl d_M_run_219 (fun f327 H locs e328 k329 hP hD hS => ?_)
                                          have eC := (k329 (g.lk M 6) (tg_ne (lo_k11_6 hL _ t_M) t_M (by decide))).trans eC
                                          have eA := (k329 (g.lk M 7) (tg_ne (lo_k11_7 hL _ t_M) t_M (by decide))).trans eA
                                          have e253 := (k329 (g.lk M 30) (tg_ne (lo_k11_30 hL _ t_M) t_M (by decide))).trans e253
                                          have e254 := (k329 (g.lk M 31) (tg_ne (lo_k11_31 hL _ t_M) t_M (by decide))).trans e254
                                          have e255 := (k329 (g.lk M 33) (tg_ne (lo_k11_33 hL _ t_M) t_M (by decide))).trans e255
                                          have e256 := (k329 (g.lk M 34) (tg_ne (lo_k11_34 hL _ t_M) t_M (by decide))).trans e256
                                          have e257 := (k329 (g.lk M 26) (tg_ne (lo_k11_26 hL _ t_M) t_M (by decide))).trans e257
                                          have e258 := (k329 (g.lk M 27) (tg_ne (lo_k11_27 hL _ t_M) t_M (by decide))).trans e258
                                          have e259 := (k329 (g.lk M 28) (tg_ne (lo_k11_28 hL _ t_M) t_M (by decide))).trans e259
                                          have e260 := (k329 (g.lk M 29) (tg_ne (lo_k11_29 hL _ t_M) t_M (by decide))).trans e260
                                          have e261 := (k329 (g.lk M 35) (tg_ne (lo_k11_35 hL _ t_M) t_M (by decide))).trans e261
                                          have hu := hu.st k329 t_M (by decide)
                                          have hv43 := hv43.st k329 t_M (by decide)
                                          have hv281 := hv281.st k329 t_M (by decide)
                                          have hk330 : ∀ b, b ≠ M → f327 b = f275 b := k329
                                          have hstop9 : (pstep L q8).tr ≠ 0 ∨ (pstep L q8).pc = L.length := Or.inr (by rw [hpp9, hMCL.1]; omega)
                                          refine lv_goto (tgt := 56) hx hb d_M_run_222 (by decide) ?_
                                          have hI331 := iv_1 hI280 hL t_M (by decide) hk330 (oc_11.mk t_M (⟨(((nI 0))), mn, mdr, msz, mix, mdp, mwt, mop, tp1_228, wa1_229, gi1_230, p7, 3, tr1_232, sp1_233, ma1_234, lg1_235, mdu, e328, (by omega), (by omega), (by omega), (by omega), (by omega), (by omega), (by omega), (by omega), (by omega), (by omega), (by omega), (by omega), (by omega), (by omega), hmb14⟩))
                                          exact ih30 (md + 1) tp1_228 wa1_229 gi1_230 p7 3 tr1_232 sp1_233 ma1_234 lg1_235 ((pstep L q8)) hl_244 hs_245 hr_246 hq_247 hv_248 hw_249 ho_250 hp_251 hi_252 f327 H locs ls (by omega) (by omega) (by omega) (by omega) (by omega) (by omega) (by omega) (by omega) (by omega) (fun z => absurd z (by omega)) (by omega) (by rw [pst_q]; exact ⟨hmq267.1, hmq267.2.1, hmq267.2.2.1, hmq267.2.2.2.1, hmq267.2.2.2.2.1, hmq267.2.2.2.2.2.1, fun _ => by show p7 = (if (pstq L q8).tr = 0 then jmp L (pstq L q8).pc else (pstq L q8).pc); rw [if_pos htq9]; exact hjm9⟩) (Or.inr ⟨by decide, by rw [hP9, hkm, pr_step hns (by rw [← hMQ8.2.2.2.2.1]; omega) h9n, pr_stop hstop9] <;> rfl⟩) ⟨fun _ => hstop9, fun _ => by decide⟩ c262 c263 c264 c265 c266 e328 e253 e254 e255 e256 e257 e258 e259 e260 e261 hI331 hv43 hl hP hD hS
                                    · skip
                                      replace b314 := (nI_eq (a := w) (b := 12) (by omega) (by omega)).mp b314
                                      have hw12 : w = 12 := by omega
                                      have hjj := wo_j hWO hw12
                                      rw [hw12] at hat7
                                      have hf0 : fl = 0 := by rcases (show fl = 0 ∨ fl = 1 by omega) with q | q; exact q; exact absurd (hw.trans (congrArg nI hw12)) (hJF q)
                                      have hv36 := hjj.1
                                      rcases wo_jb hWO hw12 with hjf9 | ⟨w', hj1, hj2, hj3⟩
                                      · skip
                                        refine lv_aload_n hx hb d_M_run_175 rfl (lv_at hl 1 rfl) ?_
                                        refine lv_aload_n hx hb d_M_run_176 rfl (lv_at hl 1 rfl) ?_
                                        refine pf_get (v := .ref (g.lk M 7)) (C := "BigRunnerModel") (T := FT10) (N := 45) hx hb (hw10 hB _) (fun _ h9 => h9) hown hK hP (lo_in hL t_M (by decide)) e279 rfl 7 (by decide) (wd_954 hB _) rfl d_M_run_177 ?_
                                        refine lv_aload_n hx hb d_M_run_180 rfl (lv_at hl 1 rfl) ?_
                                        refine pf_get (v := .int (nI p7)) (C := "BigRunnerModel") (T := FT10) (N := 45) hx hb (hw10 hB _) (fun _ h9 => h9) hown hK hP (lo_in hL t_M (by decide)) e279 rfl 38 (by decide) (wd_985 hB _) rfl d_M_run_181 ?_
                                        refine pf_iald (i := p7) hx hb hK hP (lo_in hL (lo_k11_7 hL _ t_M) (by decide)) eA (lo_t44 hL _ (lo_k11_7 hL _ t_M)) (by omega) (by decide) d_M_run_184 ?_
                                        refine lv_topi (fun z_ hz_ => ?_)
                                        obtain rfl : z_ = nI v := hz_.trans hv
                                        refine pf_put (v := .int (nI v)) (ty := .int) (fs' := [.int ((nI 0)), .ref (g.lk M 1), .int (nI mn), .ref (g.lk M 3), .ref (g.lk M 4), .int (nI mdr), .ref (g.lk M 6), .ref (g.lk M 7), .ref (g.lk M 8), .int (nI msz), .int (nI mix), .int (nI mdp), .ref (g.lk M 12), .int (nI mwt), .ref (g.lk M 14), .ref (g.lk M 15), .int (nI mop), .ref (g.lk M 17), .ref (g.lk M 18), .ref (g.lk M 19), .ref (g.lk M 20), .ref (g.lk M 21), .ref (g.lk M 22), .ref (g.lk M 23), .ref (g.lk M 24), .ref (g.lk M 25), .ref (g.lk M 26), .ref (g.lk M 27), .ref (g.lk M 28), .ref (g.lk M 29), .ref (g.lk M 30), .ref (g.lk M 31), .int (nI tp1_228), .ref (g.lk M 33), .ref (g.lk M 34), .ref (g.lk M 35), .int (nI wa1_229), .int (nI gi1_230), .int (nI v), .int (nI s8), .int (nI tr1_232), .int (nI sp1_233), .int ma1_234, .int lg1_235, .int mdu]) (C := "BigRunnerModel") (T := FT10) (N := 45) hx hb (hw10 hB _) (fun _ h9 => h9) TY10 ok10 nm10 hown hK hP hD hS (lo_in hL t_M (by decide)) e279 rfl 38 (by decide) (wd_985 hB _) rfl (by decide +kernel) rfl rfl (Nat.le_of_ble_eq_true rfl) rfl d_M_run_185 (fun f332 H locs e333 k334 hP hD hS => ?_)
                                        have eC := (k334 (g.lk M 6) (tg_ne (lo_k11_6 hL _ t_M) t_M (by decide))).trans eC
                                        have eA := (k334 (g.lk M 7) (tg_ne (lo_k11_7 hL _ t_M) t_M (by decide))).trans eA
                                        have e253 := (k334 (g.lk M 30) (tg_ne (lo_k11_30 hL _ t_M) t_M (by decide))).trans e253
                                        have e254 := (k334 (g.lk M 31) (tg_ne (lo_k11_31 hL _ t_M) t_M (by decide))).trans e254
                                        have e255 := (k334 (g.lk M 33) (tg_ne (lo_k11_33 hL _ t_M) t_M (by decide))).trans e255
                                        have e256 := (k334 (g.lk M 34) (tg_ne (lo_k11_34 hL _ t_M) t_M (by decide))).trans e256
                                        have e257 := (k334 (g.lk M 26) (tg_ne (lo_k11_26 hL _ t_M) t_M (by decide))).trans e257
                                        have e258 := (k334 (g.lk M 27) (tg_ne (lo_k11_27 hL _ t_M) t_M (by decide))).trans e258
                                        have e259 := (k334 (g.lk M 28) (tg_ne (lo_k11_28 hL _ t_M) t_M (by decide))).trans e259
                                        have e260 := (k334 (g.lk M 29) (tg_ne (lo_k11_29 hL _ t_M) t_M (by decide))).trans e260
                                        have e261 := (k334 (g.lk M 35) (tg_ne (lo_k11_35 hL _ t_M) t_M (by decide))).trans e261
                                        have hu := hu.st k334 t_M (by decide)
                                        have hv43 := hv43.st k334 t_M (by decide)
                                        have hv281 := hv281.st k334 t_M (by decide)
                                        have hk335 : ∀ b, b ≠ M → f332 b = f275 b := k334
                                        refine lv_goto (tgt := 142) hx hb d_M_run_188 (by decide) ?_
                                        have hI336 := iv_1 hI280 hL t_M (by decide) hk335 (oc_11.mk t_M (⟨(((nI 0))), mn, mdr, msz, mix, mdp, mwt, mop, tp1_228, wa1_229, gi1_230, v, s8, tr1_232, sp1_233, ma1_234, lg1_235, mdu, e333, (by omega), (by omega), (by omega), (by omega), (by omega), (by omega), (by omega), (by omega), (by omega), (by omega), (by omega), (by omega), (by omega), (by omega), hmb14⟩))
                                        exact ih277 v 0 (jj + 1) f332 H locs ls (by omega) (by omega) hjj.2 (by omega) (fun z => absurd z (by omega)) (jf_s (by rw [hMCL.1]; omega) hat7 hjf) (by have z9 := hjc hf0; omega) (fun z9 => by have z8 := hjc hf0; omega) e333 hI336 hv281 hl hP hD hS
                                      · skip
                                        refine lv_aload_n hx hb d_M_run_175 rfl (lv_at hl 1 rfl) ?_
                                        refine lv_aload_n hx hb d_M_run_176 rfl (lv_at hl 1 rfl) ?_
                                        refine pf_get (v := .ref (g.lk M 7)) (C := "BigRunnerModel") (T := FT10) (N := 45) hx hb (hw10 hB _) (fun _ h9 => h9) hown hK hP (lo_in hL t_M (by decide)) e279 rfl 7 (by decide) (wd_954 hB _) rfl d_M_run_177 ?_
                                        refine lv_aload_n hx hb d_M_run_180 rfl (lv_at hl 1 rfl) ?_
                                        refine pf_get (v := .int (nI p7)) (C := "BigRunnerModel") (T := FT10) (N := 45) hx hb (hw10 hB _) (fun _ h9 => h9) hown hK hP (lo_in hL t_M (by decide)) e279 rfl 38 (by decide) (wd_985 hB _) rfl d_M_run_181 ?_
                                        refine pf_iald (i := p7) hx hb hK hP (lo_in hL (lo_k11_7 hL _ t_M) (by decide)) eA (lo_t44 hL _ (lo_k11_7 hL _ t_M)) (by omega) (by decide) d_M_run_184 ?_
                                        refine lv_topi (fun z_ hz_ => ?_)
                                        obtain rfl : z_ = nI v := hz_.trans hv
                                        refine pf_put (v := .int (nI v)) (ty := .int) (fs' := [.int ((nI 0)), .ref (g.lk M 1), .int (nI mn), .ref (g.lk M 3), .ref (g.lk M 4), .int (nI mdr), .ref (g.lk M 6), .ref (g.lk M 7), .ref (g.lk M 8), .int (nI msz), .int (nI mix), .int (nI mdp), .ref (g.lk M 12), .int (nI mwt), .ref (g.lk M 14), .ref (g.lk M 15), .int (nI mop), .ref (g.lk M 17), .ref (g.lk M 18), .ref (g.lk M 19), .ref (g.lk M 20), .ref (g.lk M 21), .ref (g.lk M 22), .ref (g.lk M 23), .ref (g.lk M 24), .ref (g.lk M 25), .ref (g.lk M 26), .ref (g.lk M 27), .ref (g.lk M 28), .ref (g.lk M 29), .ref (g.lk M 30), .ref (g.lk M 31), .int (nI tp1_228), .ref (g.lk M 33), .ref (g.lk M 34), .ref (g.lk M 35), .int (nI wa1_229), .int (nI gi1_230), .int (nI v), .int (nI s8), .int (nI tr1_232), .int (nI sp1_233), .int ma1_234, .int lg1_235, .int mdu]) (C := "BigRunnerModel") (T := FT10) (N := 45) hx hb (hw10 hB _) (fun _ h9 => h9) TY10 ok10 nm10 hown hK hP hD hS (lo_in hL t_M (by decide)) e279 rfl 38 (by decide) (wd_985 hB _) rfl (by decide +kernel) rfl rfl (Nat.le_of_ble_eq_true rfl) rfl d_M_run_185 (fun f337 H locs e338 k339 hP hD hS => ?_)
                                        have eC := (k339 (g.lk M 6) (tg_ne (lo_k11_6 hL _ t_M) t_M (by decide))).trans eC
                                        have eA := (k339 (g.lk M 7) (tg_ne (lo_k11_7 hL _ t_M) t_M (by decide))).trans eA
                                        have e253 := (k339 (g.lk M 30) (tg_ne (lo_k11_30 hL _ t_M) t_M (by decide))).trans e253
                                        have e254 := (k339 (g.lk M 31) (tg_ne (lo_k11_31 hL _ t_M) t_M (by decide))).trans e254
                                        have e255 := (k339 (g.lk M 33) (tg_ne (lo_k11_33 hL _ t_M) t_M (by decide))).trans e255
                                        have e256 := (k339 (g.lk M 34) (tg_ne (lo_k11_34 hL _ t_M) t_M (by decide))).trans e256
                                        have e257 := (k339 (g.lk M 26) (tg_ne (lo_k11_26 hL _ t_M) t_M (by decide))).trans e257
                                        have e258 := (k339 (g.lk M 27) (tg_ne (lo_k11_27 hL _ t_M) t_M (by decide))).trans e258
                                        have e259 := (k339 (g.lk M 28) (tg_ne (lo_k11_28 hL _ t_M) t_M (by decide))).trans e259
                                        have e260 := (k339 (g.lk M 29) (tg_ne (lo_k11_29 hL _ t_M) t_M (by decide))).trans e260
                                        have e261 := (k339 (g.lk M 35) (tg_ne (lo_k11_35 hL _ t_M) t_M (by decide))).trans e261
                                        have hu := hu.st k339 t_M (by decide)
                                        have hv43 := hv43.st k339 t_M (by decide)
                                        have hv281 := hv281.st k339 t_M (by decide)
                                        have hk340 : ∀ b, b ≠ M → f337 b = f275 b := k339
                                        refine lv_goto (tgt := 142) hx hb d_M_run_188 (by decide) ?_
                                        have hI341 := iv_1 hI280 hL t_M (by decide) hk340 (oc_11.mk t_M (⟨(((nI 0))), mn, mdr, msz, mix, mdp, mwt, mop, tp1_228, wa1_229, gi1_230, v, s8, tr1_232, sp1_233, ma1_234, lg1_235, mdu, e338, (by omega), (by omega), (by omega), (by omega), (by omega), (by omega), (by omega), (by omega), (by omega), (by omega), (by omega), (by omega), (by omega), (by omega), hmb14⟩))
                                        exact ih277 v 1 (jj + 1) f337 H locs ls (by omega) (by omega) hjj.2 (by omega) (fun _ z => absurd ((nI_eq (by omega) (by omega)).mp (hj1.symm.trans z)) (by omega)) (jf_s (by rw [hMCL.1]; omega) hat7 hjf) (by have z9 := hjc hf0; omega) (fun z9 => by have z8 := hjc hf0; omega) e338 hI341 hv281 hl hP hD hS
                            exact lp274 (msz + 2) pc1_231 0 0 f269 H locs ls (by omega) (by omega) j2 (by omega) (fun z => absurd z (by omega)) hpq9.symm (by omega) (by omega) e270 hI273 un.rf hl hP hD hS
                          · skip
                            replace b268 := mt (nI_leI (a := tr1_232) (b := 0) (by omega) (by omega)).mpr b268
                            refine lv_iconst (v := nI 4) hx hb d_M_run_131 (by decide) ?_
                            refine lv_goto (tgt := 139) hx hb d_M_run_132 (by decide) ?_
                            refine pf_put (v := .int (nI 4)) (ty := .int) (fs' := [.int (nI 0), .ref (g.lk M 1), .int (nI mn), .ref (g.lk M 3), .ref (g.lk M 4), .int (nI mdr), .ref (g.lk M 6), .ref (g.lk M 7), .ref (g.lk M 8), .int (nI msz), .int (nI mix), .int (nI mdp), .ref (g.lk M 12), .int (nI mwt), .ref (g.lk M 14), .ref (g.lk M 15), .int (nI mop), .ref (g.lk M 17), .ref (g.lk M 18), .ref (g.lk M 19), .ref (g.lk M 20), .ref (g.lk M 21), .ref (g.lk M 22), .ref (g.lk M 23), .ref (g.lk M 24), .ref (g.lk M 25), .ref (g.lk M 26), .ref (g.lk M 27), .ref (g.lk M 28), .ref (g.lk M 29), .ref (g.lk M 30), .ref (g.lk M 31), .int (nI tp1_228), .ref (g.lk M 33), .ref (g.lk M 34), .ref (g.lk M 35), .int (nI wa1_229), .int (nI gi1_230), .int (nI pc1_231), .int (nI 4), .int (nI tr1_232), .int (nI sp1_233), .int ma1_234, .int lg1_235, .int mdu]) (C := "BigRunnerModel") (T := FT10) (N := 45) hx hb (hw10 hB _) (fun _ h9 => h9) TY10 ok10 nm10 hown hK hP hD hS (lo_in hL t_M (by decide)) e227 rfl 39 (by decide) (wd_986 hB _) rfl (by decide +kernel) rfl rfl (Nat.le_of_ble_eq_true rfl) rfl d_M_run_139 (fun f342 H locs e343 k344 hP hD hS => ?_)
                            have eC := (k344 (g.lk M 6) (tg_ne (lo_k11_6 hL _ t_M) t_M (by decide))).trans eC
                            have eA := (k344 (g.lk M 7) (tg_ne (lo_k11_7 hL _ t_M) t_M (by decide))).trans eA
                            have e253 := (k344 (g.lk M 30) (tg_ne (lo_k11_30 hL _ t_M) t_M (by decide))).trans e253
                            have e254 := (k344 (g.lk M 31) (tg_ne (lo_k11_31 hL _ t_M) t_M (by decide))).trans e254
                            have e255 := (k344 (g.lk M 33) (tg_ne (lo_k11_33 hL _ t_M) t_M (by decide))).trans e255
                            have e256 := (k344 (g.lk M 34) (tg_ne (lo_k11_34 hL _ t_M) t_M (by decide))).trans e256
                            have e257 := (k344 (g.lk M 26) (tg_ne (lo_k11_26 hL _ t_M) t_M (by decide))).trans e257
                            have e258 := (k344 (g.lk M 27) (tg_ne (lo_k11_27 hL _ t_M) t_M (by decide))).trans e258
                            have e259 := (k344 (g.lk M 28) (tg_ne (lo_k11_28 hL _ t_M) t_M (by decide))).trans e259
                            have e260 := (k344 (g.lk M 29) (tg_ne (lo_k11_29 hL _ t_M) t_M (by decide))).trans e260
                            have e261 := (k344 (g.lk M 35) (tg_ne (lo_k11_35 hL _ t_M) t_M (by decide))).trans e261
                            have hu := hu.st k344 t_M (by decide)
                            have hv43 := hv43.st k344 t_M (by decide)
                            have hk345 : ∀ b, b ≠ M → f342 b = f222 b := k344
                            have hstop9 : (pstep L q8).tr ≠ 0 ∨ (pstep L q8).pc = L.length := Or.inl (by rw [pst_q]; show (pstq L q8).tr ≠ 0; omega)
                            refine lv_aload_n hx hb d_M_run_142 rfl (lv_at hl 1 rfl) ?_
                            refine pf_get (v := .int (nI 4)) (C := "BigRunnerModel") (T := FT10) (N := 45) hx hb (hw10 hB _) (fun _ h9 => h9) hown hK hP (lo_in hL t_M (by decide)) e343 rfl 39 (by decide) (wd_986 hB _) rfl d_M_run_143 ?_
                            refine lv_iconst (v := nI 1) hx hb d_M_run_146 (by decide) ?_
                            refine lv_icmp_ne (tgt := 191) hx hb d_M_run_147 (by decide) (fun b346 => ?_) (fun b346 => ?_)
                            · skip
                              replace b346 := mt (nI_eq (a := 4) (b := 1) (by omega) (by omega)).mpr b346
                              refine lv_aload_n hx hb d_M_run_191 rfl (lv_at hl 1 rfl) ?_
                              refine lv_aload_n hx hb d_M_run_192 rfl (lv_at hl 1 rfl) ?_
                              refine pf_get (v := .int (nI 4)) (C := "BigRunnerModel") (T := FT10) (N := 45) hx hb (hw10 hB _) (fun _ h9 => h9) hown hK hP (lo_in hL t_M (by decide)) e343 rfl 39 (by decide) (wd_986 hB _) rfl d_M_run_193 ?_
                              refine lv_iconst (v := nI 1) hx hb d_M_run_196 (by decide) ?_
                              refine lv_icmp_ne (tgt := 215) hx hb d_M_run_197 (by decide) (fun b347 => ?_) (fun b347 => ?_)
                              · skip
                                replace b347 := mt (nI_eq (a := 4) (b := 1) (by omega) (by omega)).mpr b347
                                refine lv_aload_n hx hb d_M_run_215 rfl (lv_at hl 1 rfl) ?_
                                refine pf_get (v := .int (nI 4)) (C := "BigRunnerModel") (T := FT10) (N := 45) hx hb (hw10 hB _) (fun _ h9 => h9) hown hK hP (lo_in hL t_M (by decide)) e343 rfl 39 (by decide) (wd_986 hB _) rfl d_M_run_216 ?_
                                refine pf_put (v := .int (nI 4)) (ty := .int) (fs' := [.int (nI 0), .ref (g.lk M 1), .int (nI mn), .ref (g.lk M 3), .ref (g.lk M 4), .int (nI mdr), .ref (g.lk M 6), .ref (g.lk M 7), .ref (g.lk M 8), .int (nI msz), .int (nI mix), .int (nI mdp), .ref (g.lk M 12), .int (nI mwt), .ref (g.lk M 14), .ref (g.lk M 15), .int (nI mop), .ref (g.lk M 17), .ref (g.lk M 18), .ref (g.lk M 19), .ref (g.lk M 20), .ref (g.lk M 21), .ref (g.lk M 22), .ref (g.lk M 23), .ref (g.lk M 24), .ref (g.lk M 25), .ref (g.lk M 26), .ref (g.lk M 27), .ref (g.lk M 28), .ref (g.lk M 29), .ref (g.lk M 30), .ref (g.lk M 31), .int (nI tp1_228), .ref (g.lk M 33), .ref (g.lk M 34), .ref (g.lk M 35), .int (nI wa1_229), .int (nI gi1_230), .int (nI pc1_231), .int (nI 4), .int (nI tr1_232), .int (nI sp1_233), .int ma1_234, .int lg1_235, .int mdu]) (C := "BigRunnerModel") (T := FT10) (N := 45) hx hb (hw10 hB _) (fun _ h9 => h9) TY10 ok10 nm10 hown hK hP hD hS (lo_in hL t_M (by decide)) e343 rfl 39 (by decide) (wd_986 hB _) rfl (by decide +kernel) rfl rfl (Nat.le_of_ble_eq_true rfl) rfl d_M_run_219 (fun f348 H locs e349 k350 hP hD hS => ?_)
                                have eC := (k350 (g.lk M 6) (tg_ne (lo_k11_6 hL _ t_M) t_M (by decide))).trans eC
                                have eA := (k350 (g.lk M 7) (tg_ne (lo_k11_7 hL _ t_M) t_M (by decide))).trans eA
                                have e253 := (k350 (g.lk M 30) (tg_ne (lo_k11_30 hL _ t_M) t_M (by decide))).trans e253
                                have e254 := (k350 (g.lk M 31) (tg_ne (lo_k11_31 hL _ t_M) t_M (by decide))).trans e254
                                have e255 := (k350 (g.lk M 33) (tg_ne (lo_k11_33 hL _ t_M) t_M (by decide))).trans e255
                                have e256 := (k350 (g.lk M 34) (tg_ne (lo_k11_34 hL _ t_M) t_M (by decide))).trans e256
                                have e257 := (k350 (g.lk M 26) (tg_ne (lo_k11_26 hL _ t_M) t_M (by decide))).trans e257
                                have e258 := (k350 (g.lk M 27) (tg_ne (lo_k11_27 hL _ t_M) t_M (by decide))).trans e258
                                have e259 := (k350 (g.lk M 28) (tg_ne (lo_k11_28 hL _ t_M) t_M (by decide))).trans e259
                                have e260 := (k350 (g.lk M 29) (tg_ne (lo_k11_29 hL _ t_M) t_M (by decide))).trans e260
                                have e261 := (k350 (g.lk M 35) (tg_ne (lo_k11_35 hL _ t_M) t_M (by decide))).trans e261
                                have hu := hu.st k350 t_M (by decide)
                                have hv43 := hv43.st k350 t_M (by decide)
                                have hk351 : ∀ b, b ≠ M → f348 b = f222 b := fun b q0 => (k350 b q0).trans (hk345 b q0)
                                refine lv_goto (tgt := 56) hx hb d_M_run_222 (by decide) ?_
                                have hI352 := iv_1 hI1_225 hL t_M (by decide) hk351 (oc_11.mk t_M (⟨((nI 0)), mn, mdr, msz, mix, mdp, mwt, mop, tp1_228, wa1_229, gi1_230, pc1_231, 4, tr1_232, sp1_233, ma1_234, lg1_235, mdu, e349, (by omega), (by omega), (by omega), (by omega), (by omega), (by omega), (by omega), (by omega), (by omega), (by omega), (by omega), (by omega), (by omega), (by omega), hmb14⟩))
                                exact ih30 (md + 1) tp1_228 wa1_229 gi1_230 pc1_231 4 tr1_232 sp1_233 ma1_234 lg1_235 ((pstep L q8)) hl_244 hs_245 hr_246 hq_247 hv_248 hw_249 ho_250 hp_251 hi_252 f348 H locs ls (by omega) (by omega) (by omega) (by omega) (by omega) (by omega) (by omega) (by omega) (by omega) (fun z => absurd z (by omega)) (by omega) (by rw [pst_q]; exact ⟨hmq267.1, hmq267.2.1, hmq267.2.2.1, hmq267.2.2.2.1, hmq267.2.2.2.2.1, hmq267.2.2.2.2.2.1, fun z => absurd z (by omega)⟩) (Or.inr ⟨by decide, by rw [hP9, hkm, pr_step hns (by rw [← hMQ8.2.2.2.2.1]; omega) h9n, pr_stop hstop9] <;> rfl⟩) ⟨fun _ => hstop9, fun _ => by decide⟩ c262 c263 c264 c265 c266 e349 e253 e254 e255 e256 e257 e258 e259 e260 e261 hI352 hv43 hl hP hD hS
                              · skip
                                replace b347 := (nI_eq (a := 4) (b := 1) (by omega) (by omega)).mp b347
                                exfalso; omega
                            · skip
                              replace b346 := (nI_eq (a := 4) (b := 1) (by omega) (by omega)).mp b346
                              exfalso; omega
                        · skip
                          replace b220 := (nI_eq (a := w8) (b := 0) (by omega) (by omega)).mp b220
                          have hwt9 : (at_ L q8.pc).1 = 9 ∧ q8.ins = [] := ⟨by rw [← hpc8, hat]; show w = 9; omega, List.eq_nil_of_length_eq_zero (by rw [← hMQ8.2.2.1.1]; omega)⟩
                          refine lv_aload_n hx hb d_M_run_108 rfl (lv_at hl 1 rfl) ?_
                          refine lv_iconst (v := nI 2) hx hb d_M_run_109 (by decide) ?_
                          refine pf_put (v := .int (nI 2)) (ty := .int) (fs' := [.int (nI 0), .ref (g.lk M 1), .int (nI mn), .ref (g.lk M 3), .ref (g.lk M 4), .int (nI mdr), .ref (g.lk M 6), .ref (g.lk M 7), .ref (g.lk M 8), .int (nI msz), .int (nI mix), .int (nI mdp), .ref (g.lk M 12), .int (nI mwt), .ref (g.lk M 14), .ref (g.lk M 15), .int (nI mop), .ref (g.lk M 17), .ref (g.lk M 18), .ref (g.lk M 19), .ref (g.lk M 20), .ref (g.lk M 21), .ref (g.lk M 22), .ref (g.lk M 23), .ref (g.lk M 24), .ref (g.lk M 25), .ref (g.lk M 26), .ref (g.lk M 27), .ref (g.lk M 28), .ref (g.lk M 29), .ref (g.lk M 30), .ref (g.lk M 31), .int (nI t8), .ref (g.lk M 33), .ref (g.lk M 34), .ref (g.lk M 35), .int (nI w8), .int (nI g8), .int (nI p8), .int (nI 2), .int (nI x8), .int (nI y8), .int ma8, .int lg8, .int mdu]) (C := "BigRunnerModel") (T := FT10) (N := 45) hx hb (hw10 hB _) (fun _ h9 => h9) TY10 ok10 nm10 hown hK hP hD hS (lo_in hL t_M (by decide)) e32 rfl 39 (by decide) (wd_986 hB _) rfl (by decide +kernel) rfl rfl (Nat.le_of_ble_eq_true rfl) rfl d_M_run_110 (fun f353 H locs e354 k355 hP hD hS => ?_)
                          have eC := (k355 (g.lk M 6) (tg_ne (lo_k11_6 hL _ t_M) t_M (by decide))).trans eC
                          have eA := (k355 (g.lk M 7) (tg_ne (lo_k11_7 hL _ t_M) t_M (by decide))).trans eA
                          have e33 := (k355 (g.lk M 30) (tg_ne (lo_k11_30 hL _ t_M) t_M (by decide))).trans e33
                          have e34 := (k355 (g.lk M 31) (tg_ne (lo_k11_31 hL _ t_M) t_M (by decide))).trans e34
                          have e35 := (k355 (g.lk M 33) (tg_ne (lo_k11_33 hL _ t_M) t_M (by decide))).trans e35
                          have e36 := (k355 (g.lk M 34) (tg_ne (lo_k11_34 hL _ t_M) t_M (by decide))).trans e36
                          have e37 := (k355 (g.lk M 26) (tg_ne (lo_k11_26 hL _ t_M) t_M (by decide))).trans e37
                          have e38 := (k355 (g.lk M 27) (tg_ne (lo_k11_27 hL _ t_M) t_M (by decide))).trans e38
                          have e39 := (k355 (g.lk M 28) (tg_ne (lo_k11_28 hL _ t_M) t_M (by decide))).trans e39
                          have e40 := (k355 (g.lk M 29) (tg_ne (lo_k11_29 hL _ t_M) t_M (by decide))).trans e40
                          have e41 := (k355 (g.lk M 35) (tg_ne (lo_k11_35 hL _ t_M) t_M (by decide))).trans e41
                          have hu := hu.st k355 t_M (by decide)
                          have hv43 := hv43.st k355 t_M (by decide)
                          have hk356 : ∀ b, b ≠ M → f353 b = f28 b := k355
                          refine lv_goto (tgt := 123) hx hb d_M_run_113 (by decide) ?_
                          refine lv_aload_n hx hb d_M_run_123 rfl (lv_at hl 1 rfl) ?_
                          refine lv_aload_n hx hb d_M_run_124 rfl (lv_at hl 1 rfl) ?_
                          refine pf_get (v := .int (nI x8)) (C := "BigRunnerModel") (T := FT10) (N := 45) hx hb (hw10 hB _) (fun _ h9 => h9) hown hK hP (lo_in hL t_M (by decide)) e354 rfl 40 (by decide) (wd_987 hB _) rfl d_M_run_125 ?_
                          refine lv_if_le (tgt := 135) hx hb d_M_run_128 (by decide) (fun b357 => ?_) (fun b357 => ?_)
                          · skip
                            replace b357 := (nI_leI (a := x8) (b := 0) (by omega) (by omega)).mp b357
                            refine lv_aload_n hx hb d_M_run_135 rfl (lv_at hl 1 rfl) ?_
                            refine pf_get (v := .int (nI 2)) (C := "BigRunnerModel") (T := FT10) (N := 45) hx hb (hw10 hB _) (fun _ h9 => h9) hown hK hP (lo_in hL t_M (by decide)) e354 rfl 39 (by decide) (wd_986 hB _) rfl d_M_run_136 ?_
                            refine pf_put (v := .int (nI 2)) (ty := .int) (fs' := [.int (nI 0), .ref (g.lk M 1), .int (nI mn), .ref (g.lk M 3), .ref (g.lk M 4), .int (nI mdr), .ref (g.lk M 6), .ref (g.lk M 7), .ref (g.lk M 8), .int (nI msz), .int (nI mix), .int (nI mdp), .ref (g.lk M 12), .int (nI mwt), .ref (g.lk M 14), .ref (g.lk M 15), .int (nI mop), .ref (g.lk M 17), .ref (g.lk M 18), .ref (g.lk M 19), .ref (g.lk M 20), .ref (g.lk M 21), .ref (g.lk M 22), .ref (g.lk M 23), .ref (g.lk M 24), .ref (g.lk M 25), .ref (g.lk M 26), .ref (g.lk M 27), .ref (g.lk M 28), .ref (g.lk M 29), .ref (g.lk M 30), .ref (g.lk M 31), .int (nI t8), .ref (g.lk M 33), .ref (g.lk M 34), .ref (g.lk M 35), .int (nI w8), .int (nI g8), .int (nI p8), .int (nI 2), .int (nI x8), .int (nI y8), .int ma8, .int lg8, .int mdu]) (C := "BigRunnerModel") (T := FT10) (N := 45) hx hb (hw10 hB _) (fun _ h9 => h9) TY10 ok10 nm10 hown hK hP hD hS (lo_in hL t_M (by decide)) e354 rfl 39 (by decide) (wd_986 hB _) rfl (by decide +kernel) rfl rfl (Nat.le_of_ble_eq_true rfl) rfl d_M_run_139 (fun f358 H locs e359 k360 hP hD hS => ?_)
                            have eC := (k360 (g.lk M 6) (tg_ne (lo_k11_6 hL _ t_M) t_M (by decide))).trans eC
                            have eA := (k360 (g.lk M 7) (tg_ne (lo_k11_7 hL _ t_M) t_M (by decide))).trans eA
                            have e33 := (k360 (g.lk M 30) (tg_ne (lo_k11_30 hL _ t_M) t_M (by decide))).trans e33
                            have e34 := (k360 (g.lk M 31) (tg_ne (lo_k11_31 hL _ t_M) t_M (by decide))).trans e34
                            have e35 := (k360 (g.lk M 33) (tg_ne (lo_k11_33 hL _ t_M) t_M (by decide))).trans e35
                            have e36 := (k360 (g.lk M 34) (tg_ne (lo_k11_34 hL _ t_M) t_M (by decide))).trans e36
                            have e37 := (k360 (g.lk M 26) (tg_ne (lo_k11_26 hL _ t_M) t_M (by decide))).trans e37
                            have e38 := (k360 (g.lk M 27) (tg_ne (lo_k11_27 hL _ t_M) t_M (by decide))).trans e38
                            have e39 := (k360 (g.lk M 28) (tg_ne (lo_k11_28 hL _ t_M) t_M (by decide))).trans e39
                            have e40 := (k360 (g.lk M 29) (tg_ne (lo_k11_29 hL _ t_M) t_M (by decide))).trans e40
                            have e41 := (k360 (g.lk M 35) (tg_ne (lo_k11_35 hL _ t_M) t_M (by decide))).trans e41
                            have hu := hu.st k360 t_M (by decide)
                            have hv43 := hv43.st k360 t_M (by decide)
                            have hk361 : ∀ b, b ≠ M → f358 b = f28 b := fun b q0 => (k360 b q0).trans (hk356 b q0)
                            refine lv_aload_n hx hb d_M_run_142 rfl (lv_at hl 1 rfl) ?_
                            refine pf_get (v := .int (nI 2)) (C := "BigRunnerModel") (T := FT10) (N := 45) hx hb (hw10 hB _) (fun _ h9 => h9) hown hK hP (lo_in hL t_M (by decide)) e359 rfl 39 (by decide) (wd_986 hB _) rfl d_M_run_143 ?_
                            refine lv_iconst (v := nI 1) hx hb d_M_run_146 (by decide) ?_
                            refine lv_icmp_ne (tgt := 191) hx hb d_M_run_147 (by decide) (fun b362 => ?_) (fun b362 => ?_)
                            · skip
                              replace b362 := mt (nI_eq (a := 2) (b := 1) (by omega) (by omega)).mpr b362
                              refine lv_aload_n hx hb d_M_run_191 rfl (lv_at hl 1 rfl) ?_
                              refine lv_aload_n hx hb d_M_run_192 rfl (lv_at hl 1 rfl) ?_
                              refine pf_get (v := .int (nI 2)) (C := "BigRunnerModel") (T := FT10) (N := 45) hx hb (hw10 hB _) (fun _ h9 => h9) hown hK hP (lo_in hL t_M (by decide)) e359 rfl 39 (by decide) (wd_986 hB _) rfl d_M_run_193 ?_
                              refine lv_iconst (v := nI 1) hx hb d_M_run_196 (by decide) ?_
                              refine lv_icmp_ne (tgt := 215) hx hb d_M_run_197 (by decide) (fun b363 => ?_) (fun b363 => ?_)
                              · skip
                                replace b363 := mt (nI_eq (a := 2) (b := 1) (by omega) (by omega)).mpr b363
                                refine lv_aload_n hx hb d_M_run_215 rfl (lv_at hl 1 rfl) ?_
                                refine pf_get (v := .int (nI 2)) (C := "BigRunnerModel") (T := FT10) (N := 45) hx hb (hw10 hB _) (fun _ h9 => h9) hown hK hP (lo_in hL t_M (by decide)) e359 rfl 39 (by decide) (wd_986 hB _) rfl d_M_run_216 ?_
                                refine pf_put (v := .int (nI 2)) (ty := .int) (fs' := [.int (nI 0), .ref (g.lk M 1), .int (nI mn), .ref (g.lk M 3), .ref (g.lk M 4), .int (nI mdr), .ref (g.lk M 6), .ref (g.lk M 7), .ref (g.lk M 8), .int (nI msz), .int (nI mix), .int (nI mdp), .ref (g.lk M 12), .int (nI mwt), .ref (g.lk M 14), .ref (g.lk M 15), .int (nI mop), .ref (g.lk M 17), .ref (g.lk M 18), .ref (g.lk M 19), .ref (g.lk M 20), .ref (g.lk M 21), .ref (g.lk M 22), .ref (g.lk M 23), .ref (g.lk M 24), .ref (g.lk M 25), .ref (g.lk M 26), .ref (g.lk M 27), .ref (g.lk M 28), .ref (g.lk M 29), .ref (g.lk M 30), .ref (g.lk M 31), .int (nI t8), .ref (g.lk M 33), .ref (g.lk M 34), .ref (g.lk M 35), .int (nI w8), .int (nI g8), .int (nI p8), .int (nI 2), .int (nI x8), .int (nI y8), .int ma8, .int lg8, .int mdu]) (C := "BigRunnerModel") (T := FT10) (N := 45) hx hb (hw10 hB _) (fun _ h9 => h9) TY10 ok10 nm10 hown hK hP hD hS (lo_in hL t_M (by decide)) e359 rfl 39 (by decide) (wd_986 hB _) rfl (by decide +kernel) rfl rfl (Nat.le_of_ble_eq_true rfl) rfl d_M_run_219 (fun f364 H locs e365 k366 hP hD hS => ?_)
                                have eC := (k366 (g.lk M 6) (tg_ne (lo_k11_6 hL _ t_M) t_M (by decide))).trans eC
                                have eA := (k366 (g.lk M 7) (tg_ne (lo_k11_7 hL _ t_M) t_M (by decide))).trans eA
                                have e33 := (k366 (g.lk M 30) (tg_ne (lo_k11_30 hL _ t_M) t_M (by decide))).trans e33
                                have e34 := (k366 (g.lk M 31) (tg_ne (lo_k11_31 hL _ t_M) t_M (by decide))).trans e34
                                have e35 := (k366 (g.lk M 33) (tg_ne (lo_k11_33 hL _ t_M) t_M (by decide))).trans e35
                                have e36 := (k366 (g.lk M 34) (tg_ne (lo_k11_34 hL _ t_M) t_M (by decide))).trans e36
                                have e37 := (k366 (g.lk M 26) (tg_ne (lo_k11_26 hL _ t_M) t_M (by decide))).trans e37
                                have e38 := (k366 (g.lk M 27) (tg_ne (lo_k11_27 hL _ t_M) t_M (by decide))).trans e38
                                have e39 := (k366 (g.lk M 28) (tg_ne (lo_k11_28 hL _ t_M) t_M (by decide))).trans e39
                                have e40 := (k366 (g.lk M 29) (tg_ne (lo_k11_29 hL _ t_M) t_M (by decide))).trans e40
                                have e41 := (k366 (g.lk M 35) (tg_ne (lo_k11_35 hL _ t_M) t_M (by decide))).trans e41
                                have hu := hu.st k366 t_M (by decide)
                                have hv43 := hv43.st k366 t_M (by decide)
                                have hk367 : ∀ b, b ≠ M → f364 b = f28 b := fun b q0 => (k366 b q0).trans (hk361 b q0)
                                refine lv_goto (tgt := 56) hx hb d_M_run_222 (by decide) ?_
                                have hI368 := iv_1 hI42 hL t_M (by decide) hk367 (oc_11.mk t_M (⟨((nI 0)), mn, mdr, msz, mix, mdp, mwt, mop, t8, w8, g8, p8, 2, x8, y8, ma8, lg8, mdu, e365, (by omega), (by omega), (by omega), (by omega), (by omega), (by omega), (by omega), (by omega), (by omega), (by omega), (by omega), (by omega), (by omega), (by omega), hmb14⟩))
                                exact ih30 md t8 w8 g8 p8 2 x8 y8 ma8 lg8 q8 aL aS aR aQ aV aW aO aP aI f364 H locs ls (by omega) (by omega) (by omega) (by omega) (by omega) (by omega) (by omega) (by omega) (by omega) (fun _ => ⟨by omega, q2, q3, by omega⟩) (by omega) hMQ8 (Or.inr ⟨by decide, by rw [hP9, pr_wait (by rw [← hMQ8.2.2.2.2.1]; omega) hwt9] <;> rfl⟩) ⟨fun z => absurd z (by decide), fun z => absurd z hns⟩ cL cR cQ cV cO e365 e33 e34 e35 e36 e37 e38 e39 e40 e41 hI368 hv43 hl hP hD hS
                              · skip
                                replace b363 := (nI_eq (a := 2) (b := 1) (by omega) (by omega)).mp b363
                                exfalso; omega
                            · skip
                              replace b362 := (nI_eq (a := 2) (b := 1) (by omega) (by omega)).mp b362
                              exfalso; omega
                          · skip
                            replace b357 := mt (nI_leI (a := x8) (b := 0) (by omega) (by omega)).mpr b357
                            refine lv_iconst (v := nI 4) hx hb d_M_run_131 (by decide) ?_
                            refine lv_goto (tgt := 139) hx hb d_M_run_132 (by decide) ?_
                            refine pf_put (v := .int (nI 4)) (ty := .int) (fs' := [.int (nI 0), .ref (g.lk M 1), .int (nI mn), .ref (g.lk M 3), .ref (g.lk M 4), .int (nI mdr), .ref (g.lk M 6), .ref (g.lk M 7), .ref (g.lk M 8), .int (nI msz), .int (nI mix), .int (nI mdp), .ref (g.lk M 12), .int (nI mwt), .ref (g.lk M 14), .ref (g.lk M 15), .int (nI mop), .ref (g.lk M 17), .ref (g.lk M 18), .ref (g.lk M 19), .ref (g.lk M 20), .ref (g.lk M 21), .ref (g.lk M 22), .ref (g.lk M 23), .ref (g.lk M 24), .ref (g.lk M 25), .ref (g.lk M 26), .ref (g.lk M 27), .ref (g.lk M 28), .ref (g.lk M 29), .ref (g.lk M 30), .ref (g.lk M 31), .int (nI t8), .ref (g.lk M 33), .ref (g.lk M 34), .ref (g.lk M 35), .int (nI w8), .int (nI g8), .int (nI p8), .int (nI 4), .int (nI x8), .int (nI y8), .int ma8, .int lg8, .int mdu]) (C := "BigRunnerModel") (T := FT10) (N := 45) hx hb (hw10 hB _) (fun _ h9 => h9) TY10 ok10 nm10 hown hK hP hD hS (lo_in hL t_M (by decide)) e354 rfl 39 (by decide) (wd_986 hB _) rfl (by decide +kernel) rfl rfl (Nat.le_of_ble_eq_true rfl) rfl d_M_run_139 (fun f369 H locs e370 k371 hP hD hS => ?_)
                            have eC := (k371 (g.lk M 6) (tg_ne (lo_k11_6 hL _ t_M) t_M (by decide))).trans eC
                            have eA := (k371 (g.lk M 7) (tg_ne (lo_k11_7 hL _ t_M) t_M (by decide))).trans eA
                            have e33 := (k371 (g.lk M 30) (tg_ne (lo_k11_30 hL _ t_M) t_M (by decide))).trans e33
                            have e34 := (k371 (g.lk M 31) (tg_ne (lo_k11_31 hL _ t_M) t_M (by decide))).trans e34
                            have e35 := (k371 (g.lk M 33) (tg_ne (lo_k11_33 hL _ t_M) t_M (by decide))).trans e35
                            have e36 := (k371 (g.lk M 34) (tg_ne (lo_k11_34 hL _ t_M) t_M (by decide))).trans e36
                            have e37 := (k371 (g.lk M 26) (tg_ne (lo_k11_26 hL _ t_M) t_M (by decide))).trans e37
                            have e38 := (k371 (g.lk M 27) (tg_ne (lo_k11_27 hL _ t_M) t_M (by decide))).trans e38
                            have e39 := (k371 (g.lk M 28) (tg_ne (lo_k11_28 hL _ t_M) t_M (by decide))).trans e39
                            have e40 := (k371 (g.lk M 29) (tg_ne (lo_k11_29 hL _ t_M) t_M (by decide))).trans e40
                            have e41 := (k371 (g.lk M 35) (tg_ne (lo_k11_35 hL _ t_M) t_M (by decide))).trans e41
                            have hu := hu.st k371 t_M (by decide)
                            have hv43 := hv43.st k371 t_M (by decide)
                            have hk372 : ∀ b, b ≠ M → f369 b = f28 b := fun b q0 => (k371 b q0).trans (hk356 b q0)
                            exfalso; omega
                    · skip
                      replace b86 := (nI_eq (a := y8) (b := 3000) (by omega) (by omega)).mp b86
                      refine lv_aload_n hx hb d_M_run_79 rfl (lv_at hl 1 rfl) ?_
                      refine lv_iconst (v := nI 3) hx hb d_M_run_80 (by decide) ?_
                      refine pf_put (v := .int (nI 3)) (ty := .int) (fs' := [.int (nI 0), .ref (g.lk M 1), .int (nI mn), .ref (g.lk M 3), .ref (g.lk M 4), .int (nI mdr), .ref (g.lk M 6), .ref (g.lk M 7), .ref (g.lk M 8), .int (nI msz), .int (nI mix), .int (nI mdp), .ref (g.lk M 12), .int (nI mwt), .ref (g.lk M 14), .ref (g.lk M 15), .int (nI mop), .ref (g.lk M 17), .ref (g.lk M 18), .ref (g.lk M 19), .ref (g.lk M 20), .ref (g.lk M 21), .ref (g.lk M 22), .ref (g.lk M 23), .ref (g.lk M 24), .ref (g.lk M 25), .ref (g.lk M 26), .ref (g.lk M 27), .ref (g.lk M 28), .ref (g.lk M 29), .ref (g.lk M 30), .ref (g.lk M 31), .int (nI t8), .ref (g.lk M 33), .ref (g.lk M 34), .ref (g.lk M 35), .int (nI w8), .int (nI g8), .int (nI p8), .int (nI s8), .int (nI 3), .int (nI y8), .int ma8, .int lg8, .int mdu]) (C := "BigRunnerModel") (T := FT10) (N := 45) hx hb (hw10 hB _) (fun _ h9 => h9) TY10 ok10 nm10 hown hK hP hD hS (lo_in hL t_M (by decide)) e32 rfl 40 (by decide) (wd_987 hB _) rfl (by decide +kernel) rfl rfl (Nat.le_of_ble_eq_true rfl) rfl d_M_run_81 (fun f373 H locs e374 k375 hP hD hS => ?_)
                      have eC := (k375 (g.lk M 6) (tg_ne (lo_k11_6 hL _ t_M) t_M (by decide))).trans eC
                      have eA := (k375 (g.lk M 7) (tg_ne (lo_k11_7 hL _ t_M) t_M (by decide))).trans eA
                      have e33 := (k375 (g.lk M 30) (tg_ne (lo_k11_30 hL _ t_M) t_M (by decide))).trans e33
                      have e34 := (k375 (g.lk M 31) (tg_ne (lo_k11_31 hL _ t_M) t_M (by decide))).trans e34
                      have e35 := (k375 (g.lk M 33) (tg_ne (lo_k11_33 hL _ t_M) t_M (by decide))).trans e35
                      have e36 := (k375 (g.lk M 34) (tg_ne (lo_k11_34 hL _ t_M) t_M (by decide))).trans e36
                      have e37 := (k375 (g.lk M 26) (tg_ne (lo_k11_26 hL _ t_M) t_M (by decide))).trans e37
                      have e38 := (k375 (g.lk M 27) (tg_ne (lo_k11_27 hL _ t_M) t_M (by decide))).trans e38
                      have e39 := (k375 (g.lk M 28) (tg_ne (lo_k11_28 hL _ t_M) t_M (by decide))).trans e39
                      have e40 := (k375 (g.lk M 29) (tg_ne (lo_k11_29 hL _ t_M) t_M (by decide))).trans e40
                      have e41 := (k375 (g.lk M 35) (tg_ne (lo_k11_35 hL _ t_M) t_M (by decide))).trans e41
                      have hu := hu.st k375 t_M (by decide)
                      have hv43 := hv43.st k375 t_M (by decide)
                      have hk376 : ∀ b, b ≠ M → f373 b = f28 b := k375
                      refine lv_goto (tgt := 123) hx hb d_M_run_84 (by decide) ?_
                      refine lv_aload_n hx hb d_M_run_123 rfl (lv_at hl 1 rfl) ?_
                      refine lv_aload_n hx hb d_M_run_124 rfl (lv_at hl 1 rfl) ?_
                      refine pf_get (v := .int (nI 3)) (C := "BigRunnerModel") (T := FT10) (N := 45) hx hb (hw10 hB _) (fun _ h9 => h9) hown hK hP (lo_in hL t_M (by decide)) e374 rfl 40 (by decide) (wd_987 hB _) rfl d_M_run_125 ?_
                      refine lv_if_le (tgt := 135) hx hb d_M_run_128 (by decide) (fun b377 => ?_) (fun b377 => ?_)
                      · skip
                        replace b377 := (nI_leI (a := 3) (b := 0) (by omega) (by omega)).mp b377
                        exfalso; omega
                      · skip
                        replace b377 := mt (nI_leI (a := 3) (b := 0) (by omega) (by omega)).mpr b377
                        refine lv_iconst (v := nI 4) hx hb d_M_run_131 (by decide) ?_
                        refine lv_goto (tgt := 139) hx hb d_M_run_132 (by decide) ?_
                        refine pf_put (v := .int (nI 4)) (ty := .int) (fs' := [.int (nI 0), .ref (g.lk M 1), .int (nI mn), .ref (g.lk M 3), .ref (g.lk M 4), .int (nI mdr), .ref (g.lk M 6), .ref (g.lk M 7), .ref (g.lk M 8), .int (nI msz), .int (nI mix), .int (nI mdp), .ref (g.lk M 12), .int (nI mwt), .ref (g.lk M 14), .ref (g.lk M 15), .int (nI mop), .ref (g.lk M 17), .ref (g.lk M 18), .ref (g.lk M 19), .ref (g.lk M 20), .ref (g.lk M 21), .ref (g.lk M 22), .ref (g.lk M 23), .ref (g.lk M 24), .ref (g.lk M 25), .ref (g.lk M 26), .ref (g.lk M 27), .ref (g.lk M 28), .ref (g.lk M 29), .ref (g.lk M 30), .ref (g.lk M 31), .int (nI t8), .ref (g.lk M 33), .ref (g.lk M 34), .ref (g.lk M 35), .int (nI w8), .int (nI g8), .int (nI p8), .int (nI 4), .int (nI 3), .int (nI y8), .int ma8, .int lg8, .int mdu]) (C := "BigRunnerModel") (T := FT10) (N := 45) hx hb (hw10 hB _) (fun _ h9 => h9) TY10 ok10 nm10 hown hK hP hD hS (lo_in hL t_M (by decide)) e374 rfl 39 (by decide) (wd_986 hB _) rfl (by decide +kernel) rfl rfl (Nat.le_of_ble_eq_true rfl) rfl d_M_run_139 (fun f378 H locs e379 k380 hP hD hS => ?_)
                        have eC := (k380 (g.lk M 6) (tg_ne (lo_k11_6 hL _ t_M) t_M (by decide))).trans eC
                        have eA := (k380 (g.lk M 7) (tg_ne (lo_k11_7 hL _ t_M) t_M (by decide))).trans eA
                        have e33 := (k380 (g.lk M 30) (tg_ne (lo_k11_30 hL _ t_M) t_M (by decide))).trans e33
                        have e34 := (k380 (g.lk M 31) (tg_ne (lo_k11_31 hL _ t_M) t_M (by decide))).trans e34
                        have e35 := (k380 (g.lk M 33) (tg_ne (lo_k11_33 hL _ t_M) t_M (by decide))).trans e35
                        have e36 := (k380 (g.lk M 34) (tg_ne (lo_k11_34 hL _ t_M) t_M (by decide))).trans e36
                        have e37 := (k380 (g.lk M 26) (tg_ne (lo_k11_26 hL _ t_M) t_M (by decide))).trans e37
                        have e38 := (k380 (g.lk M 27) (tg_ne (lo_k11_27 hL _ t_M) t_M (by decide))).trans e38
                        have e39 := (k380 (g.lk M 28) (tg_ne (lo_k11_28 hL _ t_M) t_M (by decide))).trans e39
                        have e40 := (k380 (g.lk M 29) (tg_ne (lo_k11_29 hL _ t_M) t_M (by decide))).trans e40
                        have e41 := (k380 (g.lk M 35) (tg_ne (lo_k11_35 hL _ t_M) t_M (by decide))).trans e41
                        have hu := hu.st k380 t_M (by decide)
                        have hv43 := hv43.st k380 t_M (by decide)
                        have hk381 : ∀ b, b ≠ M → f378 b = f28 b := fun b q0 => (k380 b q0).trans (hk376 b q0)
                        refine lv_aload_n hx hb d_M_run_142 rfl (lv_at hl 1 rfl) ?_
                        refine pf_get (v := .int (nI 4)) (C := "BigRunnerModel") (T := FT10) (N := 45) hx hb (hw10 hB _) (fun _ h9 => h9) hown hK hP (lo_in hL t_M (by decide)) e379 rfl 39 (by decide) (wd_986 hB _) rfl d_M_run_143 ?_
                        refine lv_iconst (v := nI 1) hx hb d_M_run_146 (by decide) ?_
                        refine lv_icmp_ne (tgt := 191) hx hb d_M_run_147 (by decide) (fun b382 => ?_) (fun b382 => ?_)
                        · skip
                          replace b382 := mt (nI_eq (a := 4) (b := 1) (by omega) (by omega)).mpr b382
                          refine lv_aload_n hx hb d_M_run_191 rfl (lv_at hl 1 rfl) ?_
                          refine lv_aload_n hx hb d_M_run_192 rfl (lv_at hl 1 rfl) ?_
                          refine pf_get (v := .int (nI 4)) (C := "BigRunnerModel") (T := FT10) (N := 45) hx hb (hw10 hB _) (fun _ h9 => h9) hown hK hP (lo_in hL t_M (by decide)) e379 rfl 39 (by decide) (wd_986 hB _) rfl d_M_run_193 ?_
                          refine lv_iconst (v := nI 1) hx hb d_M_run_196 (by decide) ?_
                          refine lv_icmp_ne (tgt := 215) hx hb d_M_run_197 (by decide) (fun b383 => ?_) (fun b383 => ?_)
                          · skip
                            replace b383 := mt (nI_eq (a := 4) (b := 1) (by omega) (by omega)).mpr b383
                            refine lv_aload_n hx hb d_M_run_215 rfl (lv_at hl 1 rfl) ?_
                            refine pf_get (v := .int (nI 4)) (C := "BigRunnerModel") (T := FT10) (N := 45) hx hb (hw10 hB _) (fun _ h9 => h9) hown hK hP (lo_in hL t_M (by decide)) e379 rfl 39 (by decide) (wd_986 hB _) rfl d_M_run_216 ?_
                            refine pf_put (v := .int (nI 4)) (ty := .int) (fs' := [.int (nI 0), .ref (g.lk M 1), .int (nI mn), .ref (g.lk M 3), .ref (g.lk M 4), .int (nI mdr), .ref (g.lk M 6), .ref (g.lk M 7), .ref (g.lk M 8), .int (nI msz), .int (nI mix), .int (nI mdp), .ref (g.lk M 12), .int (nI mwt), .ref (g.lk M 14), .ref (g.lk M 15), .int (nI mop), .ref (g.lk M 17), .ref (g.lk M 18), .ref (g.lk M 19), .ref (g.lk M 20), .ref (g.lk M 21), .ref (g.lk M 22), .ref (g.lk M 23), .ref (g.lk M 24), .ref (g.lk M 25), .ref (g.lk M 26), .ref (g.lk M 27), .ref (g.lk M 28), .ref (g.lk M 29), .ref (g.lk M 30), .ref (g.lk M 31), .int (nI t8), .ref (g.lk M 33), .ref (g.lk M 34), .ref (g.lk M 35), .int (nI w8), .int (nI g8), .int (nI p8), .int (nI 4), .int (nI 3), .int (nI y8), .int ma8, .int lg8, .int mdu]) (C := "BigRunnerModel") (T := FT10) (N := 45) hx hb (hw10 hB _) (fun _ h9 => h9) TY10 ok10 nm10 hown hK hP hD hS (lo_in hL t_M (by decide)) e379 rfl 39 (by decide) (wd_986 hB _) rfl (by decide +kernel) rfl rfl (Nat.le_of_ble_eq_true rfl) rfl d_M_run_219 (fun f384 H locs e385 k386 hP hD hS => ?_)
                            have eC := (k386 (g.lk M 6) (tg_ne (lo_k11_6 hL _ t_M) t_M (by decide))).trans eC
                            have eA := (k386 (g.lk M 7) (tg_ne (lo_k11_7 hL _ t_M) t_M (by decide))).trans eA
                            have e33 := (k386 (g.lk M 30) (tg_ne (lo_k11_30 hL _ t_M) t_M (by decide))).trans e33
                            have e34 := (k386 (g.lk M 31) (tg_ne (lo_k11_31 hL _ t_M) t_M (by decide))).trans e34
                            have e35 := (k386 (g.lk M 33) (tg_ne (lo_k11_33 hL _ t_M) t_M (by decide))).trans e35
                            have e36 := (k386 (g.lk M 34) (tg_ne (lo_k11_34 hL _ t_M) t_M (by decide))).trans e36
                            have e37 := (k386 (g.lk M 26) (tg_ne (lo_k11_26 hL _ t_M) t_M (by decide))).trans e37
                            have e38 := (k386 (g.lk M 27) (tg_ne (lo_k11_27 hL _ t_M) t_M (by decide))).trans e38
                            have e39 := (k386 (g.lk M 28) (tg_ne (lo_k11_28 hL _ t_M) t_M (by decide))).trans e39
                            have e40 := (k386 (g.lk M 29) (tg_ne (lo_k11_29 hL _ t_M) t_M (by decide))).trans e40
                            have e41 := (k386 (g.lk M 35) (tg_ne (lo_k11_35 hL _ t_M) t_M (by decide))).trans e41
                            have hu := hu.st k386 t_M (by decide)
                            have hv43 := hv43.st k386 t_M (by decide)
                            have hk387 : ∀ b, b ≠ M → f384 b = f28 b := fun b q0 => (k386 b q0).trans (hk381 b q0)
                            refine lv_goto (tgt := 56) hx hb d_M_run_222 (by decide) ?_
                            have hI388 := iv_1 hI42 hL t_M (by decide) hk387 (oc_11.mk t_M (⟨((nI 0)), mn, mdr, msz, mix, mdp, mwt, mop, t8, w8, g8, p8, 4, 3, y8, ma8, lg8, mdu, e385, (by omega), (by omega), (by omega), (by omega), (by omega), (by omega), (by omega), (by omega), (by omega), (by omega), (by omega), (by omega), (by omega), (by omega), hmb14⟩))
                            exact ih30 md t8 w8 g8 p8 4 3 y8 ma8 lg8 ((PS.mk q8.vr q8.ins q8.outs q8.pc q8.sp 3)) aL aS aR aQ aV aW aO aP aI f384 H locs ls (by omega) (by omega) (by omega) (by omega) (by omega) (by omega) (by omega) (by omega) (by omega) (fun z => absurd z (by omega)) (by omega) ⟨hMQ8.1, hMQ8.2.1, hMQ8.2.2.1, hMQ8.2.2.2.1, hMQ8.2.2.2.2.1, rfl, fun z => absurd z (by decide)⟩ (Or.inr ⟨by decide, by rw [hP9, hkm, pr_3 hns (by rw [← hMQ8.2.2.2.2.1]; omega)] <;> rfl⟩) ⟨fun _ => Or.inl (by show 3 ≠ 0; decide), fun _ => by decide⟩ cL cR cQ cV cO e385 e33 e34 e35 e36 e37 e38 e39 e40 e41 hI388 hv43 hl hP hD hS
                          · skip
                            replace b383 := (nI_eq (a := 4) (b := 1) (by omega) (by omega)).mp b383
                            exfalso; omega
                        · skip
                          replace b382 := (nI_eq (a := 4) (b := 1) (by omega) (by omega)).mp b382
                          exfalso; omega
            exact lp27 (kn + 2) 0 mtp mwa mgi mpc 1 mtr msp mma mlg s9 hLI hSI hRE hRS hVL hVS hOL hOS hIN f22 H locs ls (by omega) (by omega) (by omega) (by omega) (by omega) (by omega) (by omega) (by omega) (by omega) (fun _ => ⟨r1, r2, r3, r4⟩) (by omega) hMQ (Or.inl ⟨rfl, by rw [Nat.sub_zero, Nat.zero_add]⟩) ⟨fun z => absurd z (by decide), fun z => absurd z hns9⟩ c6LI c6RE c6RS c6VL c6OL e23 eLI eSI eRE eRS eVL eVS eOL eOS eIN hI26 un.rf hl hP hD hS
          · skip
            replace b21 := mt (nI_leI (a := 0) (b := 0) (by omega) (by omega)).mpr b21
            exfalso; omega
        · skip
          have hA9 : prunA L vn.toInt s9 = (2, 0, s9) := prA_2 hns9 (Or.inr (by have z9 := Int32.not_le.mp b16; rw [Int32.lt_iff_toInt_lt, nI_toInt (by decide)] at z9; exact z9))
          refine lv_iconst (v := nI 2) hx hb d_M_run_32 (by decide) ?_
          refine lv_goto (tgt := 37) hx hb d_M_run_33 (by decide) ?_
          refine pf_put (v := .int (nI 2)) (ty := .int) (fs' := [.int (nI 2), .ref (g.lk M 1), .int (nI mn), .ref (g.lk M 3), .ref (g.lk M 4), .int (nI mdr), .ref (g.lk M 6), .ref (g.lk M 7), .ref (g.lk M 8), .int (nI msz), .int (nI mix), .int (nI mdp), .ref (g.lk M 12), .int (nI mwt), .ref (g.lk M 14), .ref (g.lk M 15), .int (nI mop), .ref (g.lk M 17), .ref (g.lk M 18), .ref (g.lk M 19), .ref (g.lk M 20), .ref (g.lk M 21), .ref (g.lk M 22), .ref (g.lk M 23), .ref (g.lk M 24), .ref (g.lk M 25), .ref (g.lk M 26), .ref (g.lk M 27), .ref (g.lk M 28), .ref (g.lk M 29), .ref (g.lk M 30), .ref (g.lk M 31), .int (nI mtp), .ref (g.lk M 33), .ref (g.lk M 34), .ref (g.lk M 35), .int (nI mwa), .int (nI mgi), .int (nI mpc), .int (nI mst), .int (nI mtr), .int (nI msp), .int mma, .int mlg, .int mdu]) (C := "BigRunnerModel") (T := FT10) (N := 45) hx hb (hw10 hB _) (fun _ h9 => h9) TY10 ok10 nm10 hown hK hP hD hS (lo_in hL t_M (by decide)) eM rfl 0 (by decide) (wd_947 hB _) rfl (by decide +kernel) rfl rfl (Nat.le_of_ble_eq_true rfl) rfl d_M_run_37 (fun f389 H locs e390 k391 hP hD hS => ?_)
          have eC := (k391 (g.lk M 6) (tg_ne (lo_k11_6 hL _ t_M) t_M (by decide))).trans eC
          have eA := (k391 (g.lk M 7) (tg_ne (lo_k11_7 hL _ t_M) t_M (by decide))).trans eA
          have eLI := (k391 (g.lk M 30) (tg_ne (lo_k11_30 hL _ t_M) t_M (by decide))).trans eLI
          have eSI := (k391 (g.lk M 31) (tg_ne (lo_k11_31 hL _ t_M) t_M (by decide))).trans eSI
          have eRE := (k391 (g.lk M 33) (tg_ne (lo_k11_33 hL _ t_M) t_M (by decide))).trans eRE
          have eRS := (k391 (g.lk M 34) (tg_ne (lo_k11_34 hL _ t_M) t_M (by decide))).trans eRS
          have eVL := (k391 (g.lk M 26) (tg_ne (lo_k11_26 hL _ t_M) t_M (by decide))).trans eVL
          have eVS := (k391 (g.lk M 27) (tg_ne (lo_k11_27 hL _ t_M) t_M (by decide))).trans eVS
          have eOL := (k391 (g.lk M 28) (tg_ne (lo_k11_28 hL _ t_M) t_M (by decide))).trans eOL
          have eOS := (k391 (g.lk M 29) (tg_ne (lo_k11_29 hL _ t_M) t_M (by decide))).trans eOS
          have eIN := (k391 (g.lk M 35) (tg_ne (lo_k11_35 hL _ t_M) t_M (by decide))).trans eIN
          have hu := hu.st k391 t_M (by decide)
          have hk392 : ∀ b, b ≠ M → f389 b = f b := k391
          refine lv_aload_n hx hb d_M_run_40 rfl (lv_at hl 0 rfl) ?_
          refine pf_get (v := .int (nI 2)) (C := "BigRunnerModel") (T := FT10) (N := 45) hx hb (hw10 hB _) (fun _ h9 => h9) hown hK hP (lo_in hL t_M (by decide)) e390 rfl 0 (by decide) (wd_947 hB _) rfl d_M_run_41 ?_
          refine lv_if_le (tgt := 49) hx hb d_M_run_44 (by decide) (fun b393 => ?_) (fun b393 => ?_)
          · skip
            replace b393 := (nI_leI (a := 2) (b := 0) (by omega) (by omega)).mp b393
            exfalso; omega
          · skip
            replace b393 := mt (nI_leI (a := 2) (b := 0) (by omega) (by omega)).mpr b393
            refine lv_iconst (v := nI 0) hx hb d_M_run_47 (by decide) ?_
            have hI394 := iv_1 hI hL t_M (by decide) hk392 (oc_11.mk t_M (⟨((nI 2)), mn, mdr, msz, mix, mdp, mwt, mop, mtp, mwa, mgi, mpc, mst, mtr, msp, mma, mlg, mdu, e390, (by omega), (by omega), (by omega), (by omega), (by omega), (by omega), (by omega), (by omega), (by omega), (by omega), (by omega), (by omega), (by omega), (by omega), hmb14⟩))
            exact pe_iret hx hb hr hlocks hK hP hD hS d_M_run_48 ⟨⟨(nI 2), mtp, mwa, mgi, mpc, mst, mtr, msp, mma, mlg, by omega, by omega, by omega, by omega, by omega, by omega, by omega, hRI, (by omega), (by rw [hA9]), ⟨_, _, _, _, _, _, _, _, _, eLI, eSI, eRE, eRS, eVL, eVS, eOL, eOS, eIN, c6LI, c6RE, c6RS, c6VL, c6OL, (by rw [hA9]; exact hMQ), (by rw [hA9]; exact hMS)⟩, e390⟩, (by rw [hA9]), (by rw [hA9]; show 0 ≤ 200; omega), hI394, hu⟩
    · skip
      replace b8 := mt (nI_leI (a := mst) (b := 2) (by omega) (by omega)).mpr b8
      have hA9 : prunA L vn.toInt s9 = (1, 0, s9) := prA_1 (hMS.mp (by omega))
      refine lv_iconst (v := nI 1) hx hb d_M_run_16 (by decide) ?_
      refine lv_goto (tgt := 37) hx hb d_M_run_17 (by decide) ?_
      refine pf_put (v := .int (nI 1)) (ty := .int) (fs' := [.int (nI 1), .ref (g.lk M 1), .int (nI mn), .ref (g.lk M 3), .ref (g.lk M 4), .int (nI mdr), .ref (g.lk M 6), .ref (g.lk M 7), .ref (g.lk M 8), .int (nI msz), .int (nI mix), .int (nI mdp), .ref (g.lk M 12), .int (nI mwt), .ref (g.lk M 14), .ref (g.lk M 15), .int (nI mop), .ref (g.lk M 17), .ref (g.lk M 18), .ref (g.lk M 19), .ref (g.lk M 20), .ref (g.lk M 21), .ref (g.lk M 22), .ref (g.lk M 23), .ref (g.lk M 24), .ref (g.lk M 25), .ref (g.lk M 26), .ref (g.lk M 27), .ref (g.lk M 28), .ref (g.lk M 29), .ref (g.lk M 30), .ref (g.lk M 31), .int (nI mtp), .ref (g.lk M 33), .ref (g.lk M 34), .ref (g.lk M 35), .int (nI mwa), .int (nI mgi), .int (nI mpc), .int (nI mst), .int (nI mtr), .int (nI msp), .int mma, .int mlg, .int mdu]) (C := "BigRunnerModel") (T := FT10) (N := 45) hx hb (hw10 hB _) (fun _ h9 => h9) TY10 ok10 nm10 hown hK hP hD hS (lo_in hL t_M (by decide)) eM rfl 0 (by decide) (wd_947 hB _) rfl (by decide +kernel) rfl rfl (Nat.le_of_ble_eq_true rfl) rfl d_M_run_37 (fun f395 H locs e396 k397 hP hD hS => ?_)
      have eC := (k397 (g.lk M 6) (tg_ne (lo_k11_6 hL _ t_M) t_M (by decide))).trans eC
      have eA := (k397 (g.lk M 7) (tg_ne (lo_k11_7 hL _ t_M) t_M (by decide))).trans eA
      have eLI := (k397 (g.lk M 30) (tg_ne (lo_k11_30 hL _ t_M) t_M (by decide))).trans eLI
      have eSI := (k397 (g.lk M 31) (tg_ne (lo_k11_31 hL _ t_M) t_M (by decide))).trans eSI
      have eRE := (k397 (g.lk M 33) (tg_ne (lo_k11_33 hL _ t_M) t_M (by decide))).trans eRE
      have eRS := (k397 (g.lk M 34) (tg_ne (lo_k11_34 hL _ t_M) t_M (by decide))).trans eRS
      have eVL := (k397 (g.lk M 26) (tg_ne (lo_k11_26 hL _ t_M) t_M (by decide))).trans eVL
      have eVS := (k397 (g.lk M 27) (tg_ne (lo_k11_27 hL _ t_M) t_M (by decide))).trans eVS
      have eOL := (k397 (g.lk M 28) (tg_ne (lo_k11_28 hL _ t_M) t_M (by decide))).trans eOL
      have eOS := (k397 (g.lk M 29) (tg_ne (lo_k11_29 hL _ t_M) t_M (by decide))).trans eOS
      have eIN := (k397 (g.lk M 35) (tg_ne (lo_k11_35 hL _ t_M) t_M (by decide))).trans eIN
      have hu := hu.st k397 t_M (by decide)
      have hk398 : ∀ b, b ≠ M → f395 b = f b := k397
      refine lv_aload_n hx hb d_M_run_40 rfl (lv_at hl 0 rfl) ?_
      refine pf_get (v := .int (nI 1)) (C := "BigRunnerModel") (T := FT10) (N := 45) hx hb (hw10 hB _) (fun _ h9 => h9) hown hK hP (lo_in hL t_M (by decide)) e396 rfl 0 (by decide) (wd_947 hB _) rfl d_M_run_41 ?_
      refine lv_if_le (tgt := 49) hx hb d_M_run_44 (by decide) (fun b399 => ?_) (fun b399 => ?_)
      · skip
        replace b399 := (nI_leI (a := 1) (b := 0) (by omega) (by omega)).mp b399
        exfalso; omega
      · skip
        replace b399 := mt (nI_leI (a := 1) (b := 0) (by omega) (by omega)).mpr b399
        refine lv_iconst (v := nI 0) hx hb d_M_run_47 (by decide) ?_
        have hI400 := iv_1 hI hL t_M (by decide) hk398 (oc_11.mk t_M (⟨((nI 1)), mn, mdr, msz, mix, mdp, mwt, mop, mtp, mwa, mgi, mpc, mst, mtr, msp, mma, mlg, mdu, e396, (by omega), (by omega), (by omega), (by omega), (by omega), (by omega), (by omega), (by omega), (by omega), (by omega), (by omega), (by omega), (by omega), (by omega), hmb14⟩))
        exact pe_iret hx hb hr hlocks hK hP hD hS d_M_run_48 ⟨⟨(nI 1), mtp, mwa, mgi, mpc, mst, mtr, msp, mma, mlg, by omega, by omega, by omega, by omega, by omega, by omega, by omega, hRI, (by omega), (by rw [hA9]), ⟨_, _, _, _, _, _, _, _, _, eLI, eSI, eRE, eRS, eVL, eVS, eOL, eOS, eIN, c6LI, c6RE, c6RS, c6VL, c6OL, (by rw [hA9]; exact hMQ), (by rw [hA9]; exact hMS)⟩, e396⟩, (by rw [hA9]), (by rw [hA9]; show 0 ≤ 200; omega), hI400, hu⟩

