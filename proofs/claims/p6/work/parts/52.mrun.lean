def PZ0 (dpf : Nat → Nat) (sz p : Nat) : Prop := p < sz → dpf p = 0
set_option maxHeartbeats 4000000 in
set_option maxRecDepth 100000 in
theorem m_run (l : Launch) (g : Lay) (sz : Nat) (f : Nat → va_E) (M : Nat) (mth : Int32) (mn : Nat) (mdr : Nat) (msz : Nat) (mix : Nat) (mdp : Nat) (mwt : Nat) (mop : Nat) (mtp : Nat) (mwa : Nat) (mgi : Nat) (mpc : Nat) (mst : Nat) (mtr : Nat) (msp : Nat) (mma : Int32) (mlg : Int32) (mdu : Int32) (hC : Nat → Int32) (hA : Nat → Int32) (dpf : Nat → Nat) (vn : Int32) (hL : LO g) (t_M : g.tg M = 11) (hI : IV g f) (eM : f M = .inr (10, [.int mth, .ref (g.lk M 1), .int (nI mn), .ref (g.lk M 3), .ref (g.lk M 4), .int (nI mdr), .ref (g.lk M 6), .ref (g.lk M 7), .ref (g.lk M 8), .int (nI msz), .int (nI mix), .int (nI mdp), .ref (g.lk M 12), .int (nI mwt), .ref (g.lk M 14), .ref (g.lk M 15), .int (nI mop), .ref (g.lk M 17), .ref (g.lk M 18), .ref (g.lk M 19), .ref (g.lk M 20), .ref (g.lk M 21), .ref (g.lk M 22), .ref (g.lk M 23), .ref (g.lk M 24), .ref (g.lk M 25), .ref (g.lk M 26), .ref (g.lk M 27), .ref (g.lk M 28), .ref (g.lk M 29), .ref (g.lk M 30), .ref (g.lk M 31), .int (nI mtp), .ref (g.lk M 33), .ref (g.lk M 34), .ref (g.lk M 35), .int (nI mwa), .int (nI mgi), .int (nI mpc), .int (nI mst), .int (nI mtr), .int (nI msp), .int mma, .int mlg, .int mdu])) (hMB : mn ≤ 72 ∧ mdr ≤ 100 ∧ msz ≤ 100 ∧ mix ≤ 100 ∧ mdp ≤ 20 ∧ mwt ≤ 72 ∧ mop ≤ 40 ∧ mtp ≤ 80 ∧ mwa ≤ 20 ∧ mgi ≤ msp ∧ mpc ≤ 100 ∧ mst ≤ 4 ∧ mtr ≤ 3 ∧ msp ≤ 3000 ∧ (mdu = 0 ∨ mdu = 1)) (eC : f (g.lk M 6) = .inl (g.ac (g.lk M 6), 100, .inl hC)) (eA : f (g.lk M 7) = .inl (g.ac (g.lk M 7), 100, .inl hA)) (hWF : WF hC hA dpf msz) (hRI : RI hC dpf msz mst mpc mtr) : Met l ⟨"BigRunnerModel", "run", "(I)I"⟩ [Cond.code ⟨"BigRunnerModel", "run", "(I)I"⟩ prog_12_method_45_code 3 (some .int)] ({ frames := 5, cells := 0, slots := 0, locals := 124 }) (va_Pc [.ref M, .int vn] (pc_in g sz f)) (va_Qi (fun r f1 => (∃ (th1 : Int32) (tp1 : Nat) (wa1 : Nat) (gi1 : Nat) (pc1 : Nat) (st1 : Nat) (tr1 : Nat) (sp1 : Nat) (ma1 : Int32) (lg1 : Int32), (tp1 ≤ 80) ∧ (wa1 ≤ 20) ∧ (gi1 ≤ sp1) ∧ (pc1 ≤ 100) ∧ (st1 ≤ 4) ∧ (tr1 ≤ 3) ∧ (sp1 ≤ 3000) ∧ (RI hC dpf msz st1 pc1 tr1) ∧ f1 M = .inr (10, [.int th1, .ref (g.lk M 1), .int (nI mn), .ref (g.lk M 3), .ref (g.lk M 4), .int (nI mdr), .ref (g.lk M 6), .ref (g.lk M 7), .ref (g.lk M 8), .int (nI msz), .int (nI mix), .int (nI mdp), .ref (g.lk M 12), .int (nI mwt), .ref (g.lk M 14), .ref (g.lk M 15), .int (nI mop), .ref (g.lk M 17), .ref (g.lk M 18), .ref (g.lk M 19), .ref (g.lk M 20), .ref (g.lk M 21), .ref (g.lk M 22), .ref (g.lk M 23), .ref (g.lk M 24), .ref (g.lk M 25), .ref (g.lk M 26), .ref (g.lk M 27), .ref (g.lk M 28), .ref (g.lk M 29), .ref (g.lk M 30), .ref (g.lk M 31), .int (nI tp1), .ref (g.lk M 33), .ref (g.lk M 34), .ref (g.lk M 35), .int (nI wa1), .int (nI gi1), .int (nI pc1), .int (nI st1), .int (nI tr1), .int (nI sp1), .int ma1, .int lg1, .int mdu])) ∧ (IV g f1) ∧ (un [11, 58, 59, 60, 61, 62, 63, 64, 65, 66] g f f1)) (pc_out g sz) (pc_A g sz)) 0 0 (pc_A g sz) := by
  refine pe_ofW (cc := prog_12_method_45_code) (maxL := 3) (ret := (some .int)) (lv := [(0, .ref M), (1, .int vn)]) (by decide) (Nat.le_of_ble_eq_true rfl) rfl ?_
  intro p e s m args below meth c ls hx hb hr hml hlocks hown hB hP hK hD hsz hS hl
  subst hsz
  have hu : un [11, 58, 59, 60, 61, 62, 63, 64, 65, 66] g f f := un.rf
  obtain ⟨hmb0, hmb1, hmb2, hmb3, hmb4, hmb5, hmb6, hmb7, hmb8, hmb9, hmb10, hmb11, hmb12, hmb13, hmb14⟩ := hMB
  have hsz := hWF.1
  refine lv_aload_n hx hb d_M_run_0 rfl (lv_at hl 0 rfl) ?_
  refine lv_aload_n hx hb d_M_run_1 rfl (lv_at hl 0 rfl) ?_
  refine pf_get (v := .int (nI mst)) (C := "BigRunnerModel") (T := FT10) (N := 45) hx hb (hw10 hB _) (fun _ h9 => h9) hown hK hP (lo_in hL t_M (by decide)) eM rfl 39 (by decide) (wd_986 hB _) rfl d_M_run_2 ?_
  refine lv_if_eq (tgt := 16) hx hb d_M_run_5 (by decide) (fun b1 => ?_) (fun b1 => ?_)
  · skip
    replace b1 := (nI_eq (a := mst) (b := 0) (by omega) (by omega)).mp b1
    refine lv_iconst (v := nI 1) hx hb d_M_run_16 (by decide) ?_
    refine lv_goto (tgt := 37) hx hb d_M_run_17 (by decide) ?_
    refine pf_put (v := .int (nI 1)) (ty := .int) (fs' := [.int (nI 1), .ref (g.lk M 1), .int (nI mn), .ref (g.lk M 3), .ref (g.lk M 4), .int (nI mdr), .ref (g.lk M 6), .ref (g.lk M 7), .ref (g.lk M 8), .int (nI msz), .int (nI mix), .int (nI mdp), .ref (g.lk M 12), .int (nI mwt), .ref (g.lk M 14), .ref (g.lk M 15), .int (nI mop), .ref (g.lk M 17), .ref (g.lk M 18), .ref (g.lk M 19), .ref (g.lk M 20), .ref (g.lk M 21), .ref (g.lk M 22), .ref (g.lk M 23), .ref (g.lk M 24), .ref (g.lk M 25), .ref (g.lk M 26), .ref (g.lk M 27), .ref (g.lk M 28), .ref (g.lk M 29), .ref (g.lk M 30), .ref (g.lk M 31), .int (nI mtp), .ref (g.lk M 33), .ref (g.lk M 34), .ref (g.lk M 35), .int (nI mwa), .int (nI mgi), .int (nI mpc), .int (nI mst), .int (nI mtr), .int (nI msp), .int mma, .int mlg, .int mdu]) (C := "BigRunnerModel") (T := FT10) (N := 45) hx hb (hw10 hB _) (fun _ h9 => h9) TY10 ok10 nm10 hown hK hP hD hS (lo_in hL t_M (by decide)) eM rfl 0 (by decide) (wd_947 hB _) rfl (by decide +kernel) rfl rfl (Nat.le_of_ble_eq_true rfl) rfl d_M_run_37 (fun f2 H locs e3 k4 hP hD hS => ?_)
    have eC := (k4 (g.lk M 6) (tg_ne (lo_k11_6 hL _ t_M) t_M (by decide))).trans eC
    have eA := (k4 (g.lk M 7) (tg_ne (lo_k11_7 hL _ t_M) t_M (by decide))).trans eA
    have hu := hu.st k4 t_M (by decide)
    have hk5 : ∀ b, b ≠ M → f2 b = f b := k4
    refine lv_aload_n hx hb d_M_run_40 rfl (lv_at hl 0 rfl) ?_
    refine pf_get (v := .int (nI 1)) (C := "BigRunnerModel") (T := FT10) (N := 45) hx hb (hw10 hB _) (fun _ h9 => h9) hown hK hP (lo_in hL t_M (by decide)) e3 rfl 0 (by decide) (wd_947 hB _) rfl d_M_run_41 ?_
    refine lv_if_le (tgt := 49) hx hb d_M_run_44 (by decide) (fun b6 => ?_) (fun b6 => ?_)
    · skip
      replace b6 := (nI_leI (a := 1) (b := 0) (by omega) (by omega)).mp b6
      exfalso; omega
    · skip
      replace b6 := mt (nI_leI (a := 1) (b := 0) (by omega) (by omega)).mpr b6
      refine lv_iconst (v := nI 0) hx hb d_M_run_47 (by decide) ?_
      have hI7 := iv_1 hI hL t_M (by decide) hk5 (oc_11.mk t_M (⟨((nI 1)), mn, mdr, msz, mix, mdp, mwt, mop, mtp, mwa, mgi, mpc, mst, mtr, msp, mma, mlg, mdu, e3, (by omega), (by omega), (by omega), (by omega), (by omega), (by omega), (by omega), (by omega), (by omega), (by omega), (by omega), (by omega), (by omega), (by omega), hmb14⟩))
      exact pe_iret hx hb hr hlocks hK hP hD hS d_M_run_48 ⟨⟨(nI 1), mtp, mwa, mgi, mpc, mst, mtr, msp, mma, mlg, by omega, by omega, by omega, by omega, by omega, by omega, by omega, hRI, e3⟩, hI7, hu⟩
  · skip
    replace b1 := mt (nI_eq (a := mst) (b := 0) (by omega) (by omega)).mpr b1
    refine lv_aload_n hx hb d_M_run_8 rfl (lv_at hl 0 rfl) ?_
    refine pf_get (v := .int (nI mst)) (C := "BigRunnerModel") (T := FT10) (N := 45) hx hb (hw10 hB _) (fun _ h9 => h9) hown hK hP (lo_in hL t_M (by decide)) eM rfl 39 (by decide) (wd_986 hB _) rfl d_M_run_9 ?_
    refine lv_iconst (v := nI 2) hx hb d_M_run_12 (by decide) ?_
    refine lv_icmp_le (tgt := 20) hx hb d_M_run_13 (by decide) (fun b8 => ?_) (fun b8 => ?_)
    · skip
      replace b8 := (nI_leI (a := mst) (b := 2) (by omega) (by omega)).mp b8
      refine lv_iload_n hx hb d_M_run_20 rfl (lv_at hl 1 rfl) ?_
      refine lv_iconst (v := nI 1) hx hb d_M_run_21 (by decide) ?_
      refine lv_icmp_lt (tgt := 32) hx hb d_M_run_22 (by decide) (fun b9 => ?_) (fun b9 => ?_)
      · skip
        refine lv_iconst (v := nI 2) hx hb d_M_run_32 (by decide) ?_
        refine lv_goto (tgt := 37) hx hb d_M_run_33 (by decide) ?_
        refine pf_put (v := .int (nI 2)) (ty := .int) (fs' := [.int (nI 2), .ref (g.lk M 1), .int (nI mn), .ref (g.lk M 3), .ref (g.lk M 4), .int (nI mdr), .ref (g.lk M 6), .ref (g.lk M 7), .ref (g.lk M 8), .int (nI msz), .int (nI mix), .int (nI mdp), .ref (g.lk M 12), .int (nI mwt), .ref (g.lk M 14), .ref (g.lk M 15), .int (nI mop), .ref (g.lk M 17), .ref (g.lk M 18), .ref (g.lk M 19), .ref (g.lk M 20), .ref (g.lk M 21), .ref (g.lk M 22), .ref (g.lk M 23), .ref (g.lk M 24), .ref (g.lk M 25), .ref (g.lk M 26), .ref (g.lk M 27), .ref (g.lk M 28), .ref (g.lk M 29), .ref (g.lk M 30), .ref (g.lk M 31), .int (nI mtp), .ref (g.lk M 33), .ref (g.lk M 34), .ref (g.lk M 35), .int (nI mwa), .int (nI mgi), .int (nI mpc), .int (nI mst), .int (nI mtr), .int (nI msp), .int mma, .int mlg, .int mdu]) (C := "BigRunnerModel") (T := FT10) (N := 45) hx hb (hw10 hB _) (fun _ h9 => h9) TY10 ok10 nm10 hown hK hP hD hS (lo_in hL t_M (by decide)) eM rfl 0 (by decide) (wd_947 hB _) rfl (by decide +kernel) rfl rfl (Nat.le_of_ble_eq_true rfl) rfl d_M_run_37 (fun f10 H locs e11 k12 hP hD hS => ?_)
        have eC := (k12 (g.lk M 6) (tg_ne (lo_k11_6 hL _ t_M) t_M (by decide))).trans eC
        have eA := (k12 (g.lk M 7) (tg_ne (lo_k11_7 hL _ t_M) t_M (by decide))).trans eA
        have hu := hu.st k12 t_M (by decide)
        have hk13 : ∀ b, b ≠ M → f10 b = f b := k12
        refine lv_aload_n hx hb d_M_run_40 rfl (lv_at hl 0 rfl) ?_
        refine pf_get (v := .int (nI 2)) (C := "BigRunnerModel") (T := FT10) (N := 45) hx hb (hw10 hB _) (fun _ h9 => h9) hown hK hP (lo_in hL t_M (by decide)) e11 rfl 0 (by decide) (wd_947 hB _) rfl d_M_run_41 ?_
        refine lv_if_le (tgt := 49) hx hb d_M_run_44 (by decide) (fun b14 => ?_) (fun b14 => ?_)
        · skip
          replace b14 := (nI_leI (a := 2) (b := 0) (by omega) (by omega)).mp b14
          exfalso; omega
        · skip
          replace b14 := mt (nI_leI (a := 2) (b := 0) (by omega) (by omega)).mpr b14
          refine lv_iconst (v := nI 0) hx hb d_M_run_47 (by decide) ?_
          have hI15 := iv_1 hI hL t_M (by decide) hk13 (oc_11.mk t_M (⟨((nI 2)), mn, mdr, msz, mix, mdp, mwt, mop, mtp, mwa, mgi, mpc, mst, mtr, msp, mma, mlg, mdu, e11, (by omega), (by omega), (by omega), (by omega), (by omega), (by omega), (by omega), (by omega), (by omega), (by omega), (by omega), (by omega), (by omega), (by omega), hmb14⟩))
          exact pe_iret hx hb hr hlocks hK hP hD hS d_M_run_48 ⟨⟨(nI 2), mtp, mwa, mgi, mpc, mst, mtr, msp, mma, mlg, by omega, by omega, by omega, by omega, by omega, by omega, by omega, hRI, e11⟩, hI15, hu⟩
      · skip
        refine lv_iload_n hx hb d_M_run_25 rfl (lv_at hl 1 rfl) ?_
        refine lv_sipush (v := nI 200) hx hb d_M_run_26 (by decide) ?_
        refine lv_icmp_le (tgt := 36) hx hb d_M_run_29 (by decide) (fun b16 => ?_) (fun b16 => ?_)
        · skip
          obtain ⟨kn, hkn, rfl⟩ := rn_of b9 b16
          have hRI0 := hRI (by omega)
          obtain ⟨r1, r2, r3, r4⟩ := hRI0
          refine lv_iconst (v := nI 0) hx hb d_M_run_36 (by decide) ?_
          refine pf_put (v := .int (nI 0)) (ty := .int) (fs' := [.int (nI 0), .ref (g.lk M 1), .int (nI mn), .ref (g.lk M 3), .ref (g.lk M 4), .int (nI mdr), .ref (g.lk M 6), .ref (g.lk M 7), .ref (g.lk M 8), .int (nI msz), .int (nI mix), .int (nI mdp), .ref (g.lk M 12), .int (nI mwt), .ref (g.lk M 14), .ref (g.lk M 15), .int (nI mop), .ref (g.lk M 17), .ref (g.lk M 18), .ref (g.lk M 19), .ref (g.lk M 20), .ref (g.lk M 21), .ref (g.lk M 22), .ref (g.lk M 23), .ref (g.lk M 24), .ref (g.lk M 25), .ref (g.lk M 26), .ref (g.lk M 27), .ref (g.lk M 28), .ref (g.lk M 29), .ref (g.lk M 30), .ref (g.lk M 31), .int (nI mtp), .ref (g.lk M 33), .ref (g.lk M 34), .ref (g.lk M 35), .int (nI mwa), .int (nI mgi), .int (nI mpc), .int (nI mst), .int (nI mtr), .int (nI msp), .int mma, .int mlg, .int mdu]) (C := "BigRunnerModel") (T := FT10) (N := 45) hx hb (hw10 hB _) (fun _ h9 => h9) TY10 ok10 nm10 hown hK hP hD hS (lo_in hL t_M (by decide)) eM rfl 0 (by decide) (wd_947 hB _) rfl (by decide +kernel) rfl rfl (Nat.le_of_ble_eq_true rfl) rfl d_M_run_37 (fun f17 H locs e18 k19 hP hD hS => ?_)
          have eC := (k19 (g.lk M 6) (tg_ne (lo_k11_6 hL _ t_M) t_M (by decide))).trans eC
          have eA := (k19 (g.lk M 7) (tg_ne (lo_k11_7 hL _ t_M) t_M (by decide))).trans eA
          have hu := hu.st k19 t_M (by decide)
          have hk20 : ∀ b, b ≠ M → f17 b = f b := k19
          refine lv_aload_n hx hb d_M_run_40 rfl (lv_at hl 0 rfl) ?_
          refine pf_get (v := .int (nI 0)) (C := "BigRunnerModel") (T := FT10) (N := 45) hx hb (hw10 hB _) (fun _ h9 => h9) hown hK hP (lo_in hL t_M (by decide)) e18 rfl 0 (by decide) (wd_947 hB _) rfl d_M_run_41 ?_
          refine lv_if_le (tgt := 49) hx hb d_M_run_44 (by decide) (fun b21 => ?_) (fun b21 => ?_)
          · skip
            replace b21 := (nI_leI (a := 0) (b := 0) (by omega) (by omega)).mp b21
            refine lv_iconst (v := nI 0) hx hb d_M_run_49 (by decide) ?_
            refine lv_istore_n (lv' := [(2, .int (nI 0)), (0, .ref M), (1, .int (nI kn))]) hx hb d_M_run_50 rfl hl (by decide) rfl (fun ls hl => ?_)
            refine lv_aload_n hx hb d_M_run_51 rfl (lv_at hl 1 rfl) ?_
            refine lv_iconst (v := nI 1) hx hb d_M_run_52 (by decide) ?_
            refine pf_put (v := .int (nI 1)) (ty := .int) (fs' := [.int (nI 0), .ref (g.lk M 1), .int (nI mn), .ref (g.lk M 3), .ref (g.lk M 4), .int (nI mdr), .ref (g.lk M 6), .ref (g.lk M 7), .ref (g.lk M 8), .int (nI msz), .int (nI mix), .int (nI mdp), .ref (g.lk M 12), .int (nI mwt), .ref (g.lk M 14), .ref (g.lk M 15), .int (nI mop), .ref (g.lk M 17), .ref (g.lk M 18), .ref (g.lk M 19), .ref (g.lk M 20), .ref (g.lk M 21), .ref (g.lk M 22), .ref (g.lk M 23), .ref (g.lk M 24), .ref (g.lk M 25), .ref (g.lk M 26), .ref (g.lk M 27), .ref (g.lk M 28), .ref (g.lk M 29), .ref (g.lk M 30), .ref (g.lk M 31), .int (nI mtp), .ref (g.lk M 33), .ref (g.lk M 34), .ref (g.lk M 35), .int (nI mwa), .int (nI mgi), .int (nI mpc), .int (nI 1), .int (nI mtr), .int (nI msp), .int mma, .int mlg, .int mdu]) (C := "BigRunnerModel") (T := FT10) (N := 45) hx hb (hw10 hB _) (fun _ h9 => h9) TY10 ok10 nm10 hown hK hP hD hS (lo_in hL t_M (by decide)) e18 rfl 39 (by decide) (wd_986 hB _) rfl (by decide +kernel) rfl rfl (Nat.le_of_ble_eq_true rfl) rfl d_M_run_53 (fun f22 H locs e23 k24 hP hD hS => ?_)
            have eC := (k24 (g.lk M 6) (tg_ne (lo_k11_6 hL _ t_M) t_M (by decide))).trans eC
            have eA := (k24 (g.lk M 7) (tg_ne (lo_k11_7 hL _ t_M) t_M (by decide))).trans eA
            have hu := hu.st k24 t_M (by decide)
            have hk25 : ∀ b, b ≠ M → f22 b = f b := fun b q0 => (k24 b q0).trans (hk20 b q0)
            have hI26 := iv_1 hI hL t_M (by decide) hk25 (oc_11.mk t_M (⟨((nI 0)), mn, mdr, msz, mix, mdp, mwt, mop, mtp, mwa, mgi, mpc, 1, mtr, msp, mma, mlg, mdu, e23, (by omega), (by omega), (by omega), (by omega), (by omega), (by omega), (by omega), (by omega), (by omega), (by omega), (by omega), (by omega), (by omega), (by omega), hmb14⟩))
            have lp27 : ∀ (k29 : Nat) (md : Nat) (t8 : Nat) (w8 : Nat) (g8 : Nat) (p8 : Nat) (s8 : Nat) (x8 : Nat) (y8 : Nat) (ma8 : Int32) (lg8 : Int32) (f28 : Nat → va_E) (H : Heap) (locs : List Loc) (ls : Array Slot), (0 < k29 ∧ (s8 = 1 → kn < md + k29)) → (md ≤ 200) → (t8 ≤ 80) → (w8 ≤ 20) → (g8 ≤ y8) → (p8 ≤ 100) → (s8 ≤ 4) → (x8 ≤ 3) → (y8 ≤ 3000) → (RI hC dpf msz s8 p8 x8) → f28 M = .inr (10, [.int (nI 0), .ref (g.lk M 1), .int (nI mn), .ref (g.lk M 3), .ref (g.lk M 4), .int (nI mdr), .ref (g.lk M 6), .ref (g.lk M 7), .ref (g.lk M 8), .int (nI msz), .int (nI mix), .int (nI mdp), .ref (g.lk M 12), .int (nI mwt), .ref (g.lk M 14), .ref (g.lk M 15), .int (nI mop), .ref (g.lk M 17), .ref (g.lk M 18), .ref (g.lk M 19), .ref (g.lk M 20), .ref (g.lk M 21), .ref (g.lk M 22), .ref (g.lk M 23), .ref (g.lk M 24), .ref (g.lk M 25), .ref (g.lk M 26), .ref (g.lk M 27), .ref (g.lk M 28), .ref (g.lk M 29), .ref (g.lk M 30), .ref (g.lk M 31), .int (nI t8), .ref (g.lk M 33), .ref (g.lk M 34), .ref (g.lk M 35), .int (nI w8), .int (nI g8), .int (nI p8), .int (nI s8), .int (nI x8), .int (nI y8), .int ma8, .int lg8, .int mdu]) → IV g f28 → un [11, 58, 59, 60, 61, 62, 63, 64, 65, 66] g f22 f28 → lv_has ls 3 [(2, .int (nI md)), (0, .ref M), (1, .int (nI kn))] → va_P g.D vcl (va_pl g.LP f28) H → va_D (pc_A g s.heap.size) (va_pl g.LP f28) → va_S (pc_A g s.heap.size) s.heap H locs → W p l e ({ frames := 5, cells := 0, slots := 0, locals := 124 }) s m args below meth c H locs 0 0 (MQ below (va_Qi (fun r f1 => (∃ (th1 : Int32) (tp1 : Nat) (wa1 : Nat) (gi1 : Nat) (pc1 : Nat) (st1 : Nat) (tr1 : Nat) (sp1 : Nat) (ma1 : Int32) (lg1 : Int32), (tp1 ≤ 80) ∧ (wa1 ≤ 20) ∧ (gi1 ≤ sp1) ∧ (pc1 ≤ 100) ∧ (st1 ≤ 4) ∧ (tr1 ≤ 3) ∧ (sp1 ≤ 3000) ∧ (RI hC dpf msz st1 pc1 tr1) ∧ f1 M = .inr (10, [.int th1, .ref (g.lk M 1), .int (nI mn), .ref (g.lk M 3), .ref (g.lk M 4), .int (nI mdr), .ref (g.lk M 6), .ref (g.lk M 7), .ref (g.lk M 8), .int (nI msz), .int (nI mix), .int (nI mdp), .ref (g.lk M 12), .int (nI mwt), .ref (g.lk M 14), .ref (g.lk M 15), .int (nI mop), .ref (g.lk M 17), .ref (g.lk M 18), .ref (g.lk M 19), .ref (g.lk M 20), .ref (g.lk M 21), .ref (g.lk M 22), .ref (g.lk M 23), .ref (g.lk M 24), .ref (g.lk M 25), .ref (g.lk M 26), .ref (g.lk M 27), .ref (g.lk M 28), .ref (g.lk M 29), .ref (g.lk M 30), .ref (g.lk M 31), .int (nI tp1), .ref (g.lk M 33), .ref (g.lk M 34), .ref (g.lk M 35), .int (nI wa1), .int (nI gi1), .int (nI pc1), .int (nI st1), .int (nI tr1), .int (nI sp1), .int ma1, .int lg1, .int mdu])) ∧ (IV g f1) ∧ (un [11, 58, 59, 60, 61, 62, 63, 64, 65, 66] g f f1)) (pc_out g s.heap.size) (pc_A g s.heap.size)) args s 0 0 (pc_A g s.heap.size)) (F0 m 56 ls []) := by
              intro k29
              induction k29 with
              | zero => intros; exfalso; omega
              | succ k29 ih30 =>
                intro md t8 w8 g8 p8 s8 x8 y8 ma8 lg8 f28 H locs ls hfu31 hmd ht8 hw8 hg8 hp8 hs8 hx8 hy8 hri e32 hI33 hv34 hl hP hD hS
                have eC := hv34.at (lo_k11_6 hL _ t_M) (by decide) eC
                have eA := hv34.at (lo_k11_7 hL _ t_M) (by decide) eA
                have hu := hu.tr hv34 (by decide)
                refine lv_iload_n hx hb d_M_run_56 rfl (lv_at hl 0 rfl) ?_
                refine lv_iload_n hx hb d_M_run_57 rfl (lv_at hl 2 rfl) ?_
                refine lv_icmp_ge (tgt := 225) hx hb d_M_run_58 (by decide) (fun b35 => ?_) (fun b35 => ?_)
                · skip
                  replace b35 := (nI_leI (a := kn) (b := md) (by omega) (by omega)).mp b35
                  refine lv_aload_n hx hb d_M_run_225 rfl (lv_at hl 1 rfl) ?_
                  refine lv_aload_n hx hb d_M_run_226 rfl (lv_at hl 1 rfl) ?_
                  refine pf_get (v := .int (nI x8)) (C := "BigRunnerModel") (T := FT10) (N := 45) hx hb (hw10 hB _) (fun _ h9 => h9) hown hK hP (lo_in hL t_M (by decide)) e32 rfl 40 (by decide) (wd_987 hB _) rfl d_M_run_227 ?_
                  refine lv_if_ne (tgt := 237) hx hb d_M_run_230 (by decide) (fun b36 => ?_) (fun b36 => ?_)
                  · skip
                    replace b36 := mt (nI_eq (a := x8) (b := 0) (by omega) (by omega)).mpr b36
                    refine lv_aload_n hx hb d_M_run_237 rfl (lv_at hl 1 rfl) ?_
                    refine pf_get (v := .int (nI x8)) (C := "BigRunnerModel") (T := FT10) (N := 45) hx hb (hw10 hB _) (fun _ h9 => h9) hown hK hP (lo_in hL t_M (by decide)) e32 rfl 40 (by decide) (wd_987 hB _) rfl d_M_run_238 ?_
                    refine lv_iconst (v := nI 1) hx hb d_M_run_241 (by decide) ?_
                    refine lv_icmp_ne (tgt := 249) hx hb d_M_run_242 (by decide) (fun b37 => ?_) (fun b37 => ?_)
                    · skip
                      replace b37 := mt (nI_eq (a := x8) (b := 1) (by omega) (by omega)).mpr b37
                      refine lv_iconst (v := nI 4) hx hb d_M_run_249 (by decide) ?_
                      refine pf_put (v := .int (nI 4)) (ty := .int) (fs' := [.int (nI 4), .ref (g.lk M 1), .int (nI mn), .ref (g.lk M 3), .ref (g.lk M 4), .int (nI mdr), .ref (g.lk M 6), .ref (g.lk M 7), .ref (g.lk M 8), .int (nI msz), .int (nI mix), .int (nI mdp), .ref (g.lk M 12), .int (nI mwt), .ref (g.lk M 14), .ref (g.lk M 15), .int (nI mop), .ref (g.lk M 17), .ref (g.lk M 18), .ref (g.lk M 19), .ref (g.lk M 20), .ref (g.lk M 21), .ref (g.lk M 22), .ref (g.lk M 23), .ref (g.lk M 24), .ref (g.lk M 25), .ref (g.lk M 26), .ref (g.lk M 27), .ref (g.lk M 28), .ref (g.lk M 29), .ref (g.lk M 30), .ref (g.lk M 31), .int (nI t8), .ref (g.lk M 33), .ref (g.lk M 34), .ref (g.lk M 35), .int (nI w8), .int (nI g8), .int (nI p8), .int (nI s8), .int (nI x8), .int (nI y8), .int ma8, .int lg8, .int mdu]) (C := "BigRunnerModel") (T := FT10) (N := 45) hx hb (hw10 hB _) (fun _ h9 => h9) TY10 ok10 nm10 hown hK hP hD hS (lo_in hL t_M (by decide)) e32 rfl 0 (by decide) (wd_947 hB _) rfl (by decide +kernel) rfl rfl (Nat.le_of_ble_eq_true rfl) rfl d_M_run_250 (fun f38 H locs e39 k40 hP hD hS => ?_)
                      have eC := (k40 (g.lk M 6) (tg_ne (lo_k11_6 hL _ t_M) t_M (by decide))).trans eC
                      have eA := (k40 (g.lk M 7) (tg_ne (lo_k11_7 hL _ t_M) t_M (by decide))).trans eA
                      have hu := hu.st k40 t_M (by decide)
                      have hv34 := hv34.st k40 t_M (by decide)
                      have hk41 : ∀ b, b ≠ M → f38 b = f28 b := k40
                      refine lv_aload_n hx hb d_M_run_253 rfl (lv_at hl 1 rfl) ?_
                      refine pf_get (v := .int (nI 4)) (C := "BigRunnerModel") (T := FT10) (N := 45) hx hb (hw10 hB _) (fun _ h9 => h9) hown hK hP (lo_in hL t_M (by decide)) e39 rfl 0 (by decide) (wd_947 hB _) rfl d_M_run_254 ?_
                      refine lv_if_le (tgt := 264) hx hb d_M_run_257 (by decide) (fun b42 => ?_) (fun b42 => ?_)
                      · skip
                        replace b42 := (nI_leI (a := 4) (b := 0) (by omega) (by omega)).mp b42
                        exfalso; omega
                      · skip
                        replace b42 := mt (nI_leI (a := 4) (b := 0) (by omega) (by omega)).mpr b42
                        refine lv_iconst (v := nI 0) hx hb d_M_run_260 (by decide) ?_
                        refine lv_goto (tgt := 265) hx hb d_M_run_261 (by decide) ?_
                        have hI43 := iv_1 hI33 hL t_M (by decide) hk41 (oc_11.mk t_M (⟨((nI 4)), mn, mdr, msz, mix, mdp, mwt, mop, t8, w8, g8, p8, s8, x8, y8, ma8, lg8, mdu, e39, (by omega), (by omega), (by omega), (by omega), (by omega), (by omega), (by omega), (by omega), (by omega), (by omega), (by omega), (by omega), (by omega), (by omega), hmb14⟩))
                        exact pe_iret hx hb hr hlocks hK hP hD hS d_M_run_265 ⟨⟨(nI 4), t8, w8, g8, p8, s8, x8, y8, ma8, lg8, by omega, by omega, by omega, by omega, by omega, by omega, by omega, hri, e39⟩, hI43, hu⟩
                    · skip
                      replace b37 := (nI_eq (a := x8) (b := 1) (by omega) (by omega)).mp b37
                      refine lv_iconst (v := nI 3) hx hb d_M_run_245 (by decide) ?_
                      refine lv_goto (tgt := 250) hx hb d_M_run_246 (by decide) ?_
                      refine pf_put (v := .int (nI 3)) (ty := .int) (fs' := [.int (nI 3), .ref (g.lk M 1), .int (nI mn), .ref (g.lk M 3), .ref (g.lk M 4), .int (nI mdr), .ref (g.lk M 6), .ref (g.lk M 7), .ref (g.lk M 8), .int (nI msz), .int (nI mix), .int (nI mdp), .ref (g.lk M 12), .int (nI mwt), .ref (g.lk M 14), .ref (g.lk M 15), .int (nI mop), .ref (g.lk M 17), .ref (g.lk M 18), .ref (g.lk M 19), .ref (g.lk M 20), .ref (g.lk M 21), .ref (g.lk M 22), .ref (g.lk M 23), .ref (g.lk M 24), .ref (g.lk M 25), .ref (g.lk M 26), .ref (g.lk M 27), .ref (g.lk M 28), .ref (g.lk M 29), .ref (g.lk M 30), .ref (g.lk M 31), .int (nI t8), .ref (g.lk M 33), .ref (g.lk M 34), .ref (g.lk M 35), .int (nI w8), .int (nI g8), .int (nI p8), .int (nI s8), .int (nI x8), .int (nI y8), .int ma8, .int lg8, .int mdu]) (C := "BigRunnerModel") (T := FT10) (N := 45) hx hb (hw10 hB _) (fun _ h9 => h9) TY10 ok10 nm10 hown hK hP hD hS (lo_in hL t_M (by decide)) e32 rfl 0 (by decide) (wd_947 hB _) rfl (by decide +kernel) rfl rfl (Nat.le_of_ble_eq_true rfl) rfl d_M_run_250 (fun f44 H locs e45 k46 hP hD hS => ?_)
                      have eC := (k46 (g.lk M 6) (tg_ne (lo_k11_6 hL _ t_M) t_M (by decide))).trans eC
                      have eA := (k46 (g.lk M 7) (tg_ne (lo_k11_7 hL _ t_M) t_M (by decide))).trans eA
                      have hu := hu.st k46 t_M (by decide)
                      have hv34 := hv34.st k46 t_M (by decide)
                      have hk47 : ∀ b, b ≠ M → f44 b = f28 b := k46
                      refine lv_aload_n hx hb d_M_run_253 rfl (lv_at hl 1 rfl) ?_
                      refine pf_get (v := .int (nI 3)) (C := "BigRunnerModel") (T := FT10) (N := 45) hx hb (hw10 hB _) (fun _ h9 => h9) hown hK hP (lo_in hL t_M (by decide)) e45 rfl 0 (by decide) (wd_947 hB _) rfl d_M_run_254 ?_
                      refine lv_if_le (tgt := 264) hx hb d_M_run_257 (by decide) (fun b48 => ?_) (fun b48 => ?_)
                      · skip
                        replace b48 := (nI_leI (a := 3) (b := 0) (by omega) (by omega)).mp b48
                        exfalso; omega
                      · skip
                        replace b48 := mt (nI_leI (a := 3) (b := 0) (by omega) (by omega)).mpr b48
                        refine lv_iconst (v := nI 0) hx hb d_M_run_260 (by decide) ?_
                        refine lv_goto (tgt := 265) hx hb d_M_run_261 (by decide) ?_
                        have hI49 := iv_1 hI33 hL t_M (by decide) hk47 (oc_11.mk t_M (⟨((nI 3)), mn, mdr, msz, mix, mdp, mwt, mop, t8, w8, g8, p8, s8, x8, y8, ma8, lg8, mdu, e45, (by omega), (by omega), (by omega), (by omega), (by omega), (by omega), (by omega), (by omega), (by omega), (by omega), (by omega), (by omega), (by omega), (by omega), hmb14⟩))
                        exact pe_iret hx hb hr hlocks hK hP hD hS d_M_run_265 ⟨⟨(nI 3), t8, w8, g8, p8, s8, x8, y8, ma8, lg8, by omega, by omega, by omega, by omega, by omega, by omega, by omega, hri, e45⟩, hI49, hu⟩
                  · skip
                    replace b36 := (nI_eq (a := x8) (b := 0) (by omega) (by omega)).mp b36
                    refine lv_iconst (v := nI 0) hx hb d_M_run_233 (by decide) ?_
                    refine lv_goto (tgt := 250) hx hb d_M_run_234 (by decide) ?_
                    refine pf_put (v := .int (nI 0)) (ty := .int) (fs' := [.int (nI 0), .ref (g.lk M 1), .int (nI mn), .ref (g.lk M 3), .ref (g.lk M 4), .int (nI mdr), .ref (g.lk M 6), .ref (g.lk M 7), .ref (g.lk M 8), .int (nI msz), .int (nI mix), .int (nI mdp), .ref (g.lk M 12), .int (nI mwt), .ref (g.lk M 14), .ref (g.lk M 15), .int (nI mop), .ref (g.lk M 17), .ref (g.lk M 18), .ref (g.lk M 19), .ref (g.lk M 20), .ref (g.lk M 21), .ref (g.lk M 22), .ref (g.lk M 23), .ref (g.lk M 24), .ref (g.lk M 25), .ref (g.lk M 26), .ref (g.lk M 27), .ref (g.lk M 28), .ref (g.lk M 29), .ref (g.lk M 30), .ref (g.lk M 31), .int (nI t8), .ref (g.lk M 33), .ref (g.lk M 34), .ref (g.lk M 35), .int (nI w8), .int (nI g8), .int (nI p8), .int (nI s8), .int (nI x8), .int (nI y8), .int ma8, .int lg8, .int mdu]) (C := "BigRunnerModel") (T := FT10) (N := 45) hx hb (hw10 hB _) (fun _ h9 => h9) TY10 ok10 nm10 hown hK hP hD hS (lo_in hL t_M (by decide)) e32 rfl 0 (by decide) (wd_947 hB _) rfl (by decide +kernel) rfl rfl (Nat.le_of_ble_eq_true rfl) rfl d_M_run_250 (fun f50 H locs e51 k52 hP hD hS => ?_)
                    have eC := (k52 (g.lk M 6) (tg_ne (lo_k11_6 hL _ t_M) t_M (by decide))).trans eC
                    have eA := (k52 (g.lk M 7) (tg_ne (lo_k11_7 hL _ t_M) t_M (by decide))).trans eA
                    have hu := hu.st k52 t_M (by decide)
                    have hv34 := hv34.st k52 t_M (by decide)
                    have hk53 : ∀ b, b ≠ M → f50 b = f28 b := k52
                    refine lv_aload_n hx hb d_M_run_253 rfl (lv_at hl 1 rfl) ?_
                    refine pf_get (v := .int (nI 0)) (C := "BigRunnerModel") (T := FT10) (N := 45) hx hb (hw10 hB _) (fun _ h9 => h9) hown hK hP (lo_in hL t_M (by decide)) e51 rfl 0 (by decide) (wd_947 hB _) rfl d_M_run_254 ?_
                    refine lv_if_le (tgt := 264) hx hb d_M_run_257 (by decide) (fun b54 => ?_) (fun b54 => ?_)
                    · skip
                      replace b54 := (nI_leI (a := 0) (b := 0) (by omega) (by omega)).mp b54
                      refine lv_iload_n hx hb d_M_run_264 rfl (lv_at hl 0 rfl) ?_
                      have hI55 := iv_1 hI33 hL t_M (by decide) hk53 (oc_11.mk t_M (⟨((nI 0)), mn, mdr, msz, mix, mdp, mwt, mop, t8, w8, g8, p8, s8, x8, y8, ma8, lg8, mdu, e51, (by omega), (by omega), (by omega), (by omega), (by omega), (by omega), (by omega), (by omega), (by omega), (by omega), (by omega), (by omega), (by omega), (by omega), hmb14⟩))
                      exact pe_iret hx hb hr hlocks hK hP hD hS d_M_run_265 ⟨⟨(nI 0), t8, w8, g8, p8, s8, x8, y8, ma8, lg8, by omega, by omega, by omega, by omega, by omega, by omega, by omega, hri, e51⟩, hI55, hu⟩
                    · skip
                      replace b54 := mt (nI_leI (a := 0) (b := 0) (by omega) (by omega)).mpr b54
                      exfalso; omega
                · skip
                  replace b35 := mt (nI_leI (a := kn) (b := md) (by omega) (by omega)).mpr b35
                  refine lv_aload_n hx hb d_M_run_61 rfl (lv_at hl 1 rfl) ?_
                  refine pf_get (v := .int (nI s8)) (C := "BigRunnerModel") (T := FT10) (N := 45) hx hb (hw10 hB _) (fun _ h9 => h9) hown hK hP (lo_in hL t_M (by decide)) e32 rfl 39 (by decide) (wd_986 hB _) rfl d_M_run_62 ?_
                  refine lv_iconst (v := nI 1) hx hb d_M_run_65 (by decide) ?_
                  refine lv_icmp_ne (tgt := 225) hx hb d_M_run_66 (by decide) (fun b56 => ?_) (fun b56 => ?_)
                  · skip
                    replace b56 := mt (nI_eq (a := s8) (b := 1) (by omega) (by omega)).mpr b56
                    refine lv_aload_n hx hb d_M_run_225 rfl (lv_at hl 1 rfl) ?_
                    refine lv_aload_n hx hb d_M_run_226 rfl (lv_at hl 1 rfl) ?_
                    refine pf_get (v := .int (nI x8)) (C := "BigRunnerModel") (T := FT10) (N := 45) hx hb (hw10 hB _) (fun _ h9 => h9) hown hK hP (lo_in hL t_M (by decide)) e32 rfl 40 (by decide) (wd_987 hB _) rfl d_M_run_227 ?_
                    refine lv_if_ne (tgt := 237) hx hb d_M_run_230 (by decide) (fun b57 => ?_) (fun b57 => ?_)
                    · skip
                      replace b57 := mt (nI_eq (a := x8) (b := 0) (by omega) (by omega)).mpr b57
                      refine lv_aload_n hx hb d_M_run_237 rfl (lv_at hl 1 rfl) ?_
                      refine pf_get (v := .int (nI x8)) (C := "BigRunnerModel") (T := FT10) (N := 45) hx hb (hw10 hB _) (fun _ h9 => h9) hown hK hP (lo_in hL t_M (by decide)) e32 rfl 40 (by decide) (wd_987 hB _) rfl d_M_run_238 ?_
                      refine lv_iconst (v := nI 1) hx hb d_M_run_241 (by decide) ?_
                      refine lv_icmp_ne (tgt := 249) hx hb d_M_run_242 (by decide) (fun b58 => ?_) (fun b58 => ?_)
                      · skip
                        replace b58 := mt (nI_eq (a := x8) (b := 1) (by omega) (by omega)).mpr b58
                        refine lv_iconst (v := nI 4) hx hb d_M_run_249 (by decide) ?_
                        refine pf_put (v := .int (nI 4)) (ty := .int) (fs' := [.int (nI 4), .ref (g.lk M 1), .int (nI mn), .ref (g.lk M 3), .ref (g.lk M 4), .int (nI mdr), .ref (g.lk M 6), .ref (g.lk M 7), .ref (g.lk M 8), .int (nI msz), .int (nI mix), .int (nI mdp), .ref (g.lk M 12), .int (nI mwt), .ref (g.lk M 14), .ref (g.lk M 15), .int (nI mop), .ref (g.lk M 17), .ref (g.lk M 18), .ref (g.lk M 19), .ref (g.lk M 20), .ref (g.lk M 21), .ref (g.lk M 22), .ref (g.lk M 23), .ref (g.lk M 24), .ref (g.lk M 25), .ref (g.lk M 26), .ref (g.lk M 27), .ref (g.lk M 28), .ref (g.lk M 29), .ref (g.lk M 30), .ref (g.lk M 31), .int (nI t8), .ref (g.lk M 33), .ref (g.lk M 34), .ref (g.lk M 35), .int (nI w8), .int (nI g8), .int (nI p8), .int (nI s8), .int (nI x8), .int (nI y8), .int ma8, .int lg8, .int mdu]) (C := "BigRunnerModel") (T := FT10) (N := 45) hx hb (hw10 hB _) (fun _ h9 => h9) TY10 ok10 nm10 hown hK hP hD hS (lo_in hL t_M (by decide)) e32 rfl 0 (by decide) (wd_947 hB _) rfl (by decide +kernel) rfl rfl (Nat.le_of_ble_eq_true rfl) rfl d_M_run_250 (fun f59 H locs e60 k61 hP hD hS => ?_)
                        have eC := (k61 (g.lk M 6) (tg_ne (lo_k11_6 hL _ t_M) t_M (by decide))).trans eC
                        have eA := (k61 (g.lk M 7) (tg_ne (lo_k11_7 hL _ t_M) t_M (by decide))).trans eA
                        have hu := hu.st k61 t_M (by decide)
                        have hv34 := hv34.st k61 t_M (by decide)
                        have hk62 : ∀ b, b ≠ M → f59 b = f28 b := k61
                        refine lv_aload_n hx hb d_M_run_253 rfl (lv_at hl 1 rfl) ?_
                        refine pf_get (v := .int (nI 4)) (C := "BigRunnerModel") (T := FT10) (N := 45) hx hb (hw10 hB _) (fun _ h9 => h9) hown hK hP (lo_in hL t_M (by decide)) e60 rfl 0 (by decide) (wd_947 hB _) rfl d_M_run_254 ?_
                        refine lv_if_le (tgt := 264) hx hb d_M_run_257 (by decide) (fun b63 => ?_) (fun b63 => ?_)
                        · skip
                          replace b63 := (nI_leI (a := 4) (b := 0) (by omega) (by omega)).mp b63
                          exfalso; omega
                        · skip
                          replace b63 := mt (nI_leI (a := 4) (b := 0) (by omega) (by omega)).mpr b63
                          refine lv_iconst (v := nI 0) hx hb d_M_run_260 (by decide) ?_
                          refine lv_goto (tgt := 265) hx hb d_M_run_261 (by decide) ?_
                          have hI64 := iv_1 hI33 hL t_M (by decide) hk62 (oc_11.mk t_M (⟨((nI 4)), mn, mdr, msz, mix, mdp, mwt, mop, t8, w8, g8, p8, s8, x8, y8, ma8, lg8, mdu, e60, (by omega), (by omega), (by omega), (by omega), (by omega), (by omega), (by omega), (by omega), (by omega), (by omega), (by omega), (by omega), (by omega), (by omega), hmb14⟩))
                          exact pe_iret hx hb hr hlocks hK hP hD hS d_M_run_265 ⟨⟨(nI 4), t8, w8, g8, p8, s8, x8, y8, ma8, lg8, by omega, by omega, by omega, by omega, by omega, by omega, by omega, hri, e60⟩, hI64, hu⟩
                      · skip
                        replace b58 := (nI_eq (a := x8) (b := 1) (by omega) (by omega)).mp b58
                        refine lv_iconst (v := nI 3) hx hb d_M_run_245 (by decide) ?_
                        refine lv_goto (tgt := 250) hx hb d_M_run_246 (by decide) ?_
                        refine pf_put (v := .int (nI 3)) (ty := .int) (fs' := [.int (nI 3), .ref (g.lk M 1), .int (nI mn), .ref (g.lk M 3), .ref (g.lk M 4), .int (nI mdr), .ref (g.lk M 6), .ref (g.lk M 7), .ref (g.lk M 8), .int (nI msz), .int (nI mix), .int (nI mdp), .ref (g.lk M 12), .int (nI mwt), .ref (g.lk M 14), .ref (g.lk M 15), .int (nI mop), .ref (g.lk M 17), .ref (g.lk M 18), .ref (g.lk M 19), .ref (g.lk M 20), .ref (g.lk M 21), .ref (g.lk M 22), .ref (g.lk M 23), .ref (g.lk M 24), .ref (g.lk M 25), .ref (g.lk M 26), .ref (g.lk M 27), .ref (g.lk M 28), .ref (g.lk M 29), .ref (g.lk M 30), .ref (g.lk M 31), .int (nI t8), .ref (g.lk M 33), .ref (g.lk M 34), .ref (g.lk M 35), .int (nI w8), .int (nI g8), .int (nI p8), .int (nI s8), .int (nI x8), .int (nI y8), .int ma8, .int lg8, .int mdu]) (C := "BigRunnerModel") (T := FT10) (N := 45) hx hb (hw10 hB _) (fun _ h9 => h9) TY10 ok10 nm10 hown hK hP hD hS (lo_in hL t_M (by decide)) e32 rfl 0 (by decide) (wd_947 hB _) rfl (by decide +kernel) rfl rfl (Nat.le_of_ble_eq_true rfl) rfl d_M_run_250 (fun f65 H locs e66 k67 hP hD hS => ?_)
                        have eC := (k67 (g.lk M 6) (tg_ne (lo_k11_6 hL _ t_M) t_M (by decide))).trans eC
                        have eA := (k67 (g.lk M 7) (tg_ne (lo_k11_7 hL _ t_M) t_M (by decide))).trans eA
                        have hu := hu.st k67 t_M (by decide)
                        have hv34 := hv34.st k67 t_M (by decide)
                        have hk68 : ∀ b, b ≠ M → f65 b = f28 b := k67
                        refine lv_aload_n hx hb d_M_run_253 rfl (lv_at hl 1 rfl) ?_
                        refine pf_get (v := .int (nI 3)) (C := "BigRunnerModel") (T := FT10) (N := 45) hx hb (hw10 hB _) (fun _ h9 => h9) hown hK hP (lo_in hL t_M (by decide)) e66 rfl 0 (by decide) (wd_947 hB _) rfl d_M_run_254 ?_
                        refine lv_if_le (tgt := 264) hx hb d_M_run_257 (by decide) (fun b69 => ?_) (fun b69 => ?_)
                        · skip
                          replace b69 := (nI_leI (a := 3) (b := 0) (by omega) (by omega)).mp b69
                          exfalso; omega
                        · skip
                          replace b69 := mt (nI_leI (a := 3) (b := 0) (by omega) (by omega)).mpr b69
                          refine lv_iconst (v := nI 0) hx hb d_M_run_260 (by decide) ?_
                          refine lv_goto (tgt := 265) hx hb d_M_run_261 (by decide) ?_
                          have hI70 := iv_1 hI33 hL t_M (by decide) hk68 (oc_11.mk t_M (⟨((nI 3)), mn, mdr, msz, mix, mdp, mwt, mop, t8, w8, g8, p8, s8, x8, y8, ma8, lg8, mdu, e66, (by omega), (by omega), (by omega), (by omega), (by omega), (by omega), (by omega), (by omega), (by omega), (by omega), (by omega), (by omega), (by omega), (by omega), hmb14⟩))
                          exact pe_iret hx hb hr hlocks hK hP hD hS d_M_run_265 ⟨⟨(nI 3), t8, w8, g8, p8, s8, x8, y8, ma8, lg8, by omega, by omega, by omega, by omega, by omega, by omega, by omega, hri, e66⟩, hI70, hu⟩
                    · skip
                      replace b57 := (nI_eq (a := x8) (b := 0) (by omega) (by omega)).mp b57
                      refine lv_iconst (v := nI 0) hx hb d_M_run_233 (by decide) ?_
                      refine lv_goto (tgt := 250) hx hb d_M_run_234 (by decide) ?_
                      refine pf_put (v := .int (nI 0)) (ty := .int) (fs' := [.int (nI 0), .ref (g.lk M 1), .int (nI mn), .ref (g.lk M 3), .ref (g.lk M 4), .int (nI mdr), .ref (g.lk M 6), .ref (g.lk M 7), .ref (g.lk M 8), .int (nI msz), .int (nI mix), .int (nI mdp), .ref (g.lk M 12), .int (nI mwt), .ref (g.lk M 14), .ref (g.lk M 15), .int (nI mop), .ref (g.lk M 17), .ref (g.lk M 18), .ref (g.lk M 19), .ref (g.lk M 20), .ref (g.lk M 21), .ref (g.lk M 22), .ref (g.lk M 23), .ref (g.lk M 24), .ref (g.lk M 25), .ref (g.lk M 26), .ref (g.lk M 27), .ref (g.lk M 28), .ref (g.lk M 29), .ref (g.lk M 30), .ref (g.lk M 31), .int (nI t8), .ref (g.lk M 33), .ref (g.lk M 34), .ref (g.lk M 35), .int (nI w8), .int (nI g8), .int (nI p8), .int (nI s8), .int (nI x8), .int (nI y8), .int ma8, .int lg8, .int mdu]) (C := "BigRunnerModel") (T := FT10) (N := 45) hx hb (hw10 hB _) (fun _ h9 => h9) TY10 ok10 nm10 hown hK hP hD hS (lo_in hL t_M (by decide)) e32 rfl 0 (by decide) (wd_947 hB _) rfl (by decide +kernel) rfl rfl (Nat.le_of_ble_eq_true rfl) rfl d_M_run_250 (fun f71 H locs e72 k73 hP hD hS => ?_)
                      have eC := (k73 (g.lk M 6) (tg_ne (lo_k11_6 hL _ t_M) t_M (by decide))).trans eC
                      have eA := (k73 (g.lk M 7) (tg_ne (lo_k11_7 hL _ t_M) t_M (by decide))).trans eA
                      have hu := hu.st k73 t_M (by decide)
                      have hv34 := hv34.st k73 t_M (by decide)
                      have hk74 : ∀ b, b ≠ M → f71 b = f28 b := k73
                      refine lv_aload_n hx hb d_M_run_253 rfl (lv_at hl 1 rfl) ?_
                      refine pf_get (v := .int (nI 0)) (C := "BigRunnerModel") (T := FT10) (N := 45) hx hb (hw10 hB _) (fun _ h9 => h9) hown hK hP (lo_in hL t_M (by decide)) e72 rfl 0 (by decide) (wd_947 hB _) rfl d_M_run_254 ?_
                      refine lv_if_le (tgt := 264) hx hb d_M_run_257 (by decide) (fun b75 => ?_) (fun b75 => ?_)
                      · skip
                        replace b75 := (nI_leI (a := 0) (b := 0) (by omega) (by omega)).mp b75
                        refine lv_iload_n hx hb d_M_run_264 rfl (lv_at hl 0 rfl) ?_
                        have hI76 := iv_1 hI33 hL t_M (by decide) hk74 (oc_11.mk t_M (⟨((nI 0)), mn, mdr, msz, mix, mdp, mwt, mop, t8, w8, g8, p8, s8, x8, y8, ma8, lg8, mdu, e72, (by omega), (by omega), (by omega), (by omega), (by omega), (by omega), (by omega), (by omega), (by omega), (by omega), (by omega), (by omega), (by omega), (by omega), hmb14⟩))
                        exact pe_iret hx hb hr hlocks hK hP hD hS d_M_run_265 ⟨⟨(nI 0), t8, w8, g8, p8, s8, x8, y8, ma8, lg8, by omega, by omega, by omega, by omega, by omega, by omega, by omega, hri, e72⟩, hI76, hu⟩
                      · skip
                        replace b75 := mt (nI_leI (a := 0) (b := 0) (by omega) (by omega)).mpr b75
                        exfalso; omega
                  · skip
                    replace b56 := (nI_eq (a := s8) (b := 1) (by omega) (by omega)).mp b56
                    obtain ⟨q1, q2, q3, q4⟩ := hri (by omega)
                    refine lv_aload_n hx hb d_M_run_69 rfl (lv_at hl 1 rfl) ?_
                    refine pf_get (v := .int (nI y8)) (C := "BigRunnerModel") (T := FT10) (N := 45) hx hb (hw10 hB _) (fun _ h9 => h9) hown hK hP (lo_in hL t_M (by decide)) e32 rfl 41 (by decide) (wd_988 hB _) rfl d_M_run_70 ?_
                    refine lv_sipush (v := nI 3000) hx hb d_M_run_73 (by decide) ?_
                    refine lv_icmp_ne (tgt := 87) hx hb d_M_run_76 (by decide) (fun b77 => ?_) (fun b77 => ?_)
                    · skip
                      replace b77 := mt (nI_eq (a := y8) (b := 3000) (by omega) (by omega)).mpr b77
                      obtain ⟨w, v, hWO⟩ := hWF.2.2 p8 (by omega)
                      have hw := wo_c hWO
                      have z3 := wo_12 hWO
                      refine lv_aload_n hx hb d_M_run_87 rfl (lv_at hl 1 rfl) ?_
                      refine pf_get (v := .ref (g.lk M 6)) (C := "BigRunnerModel") (T := FT10) (N := 45) hx hb (hw10 hB _) (fun _ h9 => h9) hown hK hP (lo_in hL t_M (by decide)) e32 rfl 6 (by decide) (wd_953 hB _) rfl d_M_run_88 ?_
                      refine lv_aload_n hx hb d_M_run_91 rfl (lv_at hl 1 rfl) ?_
                      refine pf_get (v := .int (nI p8)) (C := "BigRunnerModel") (T := FT10) (N := 45) hx hb (hw10 hB _) (fun _ h9 => h9) hown hK hP (lo_in hL t_M (by decide)) e32 rfl 38 (by decide) (wd_985 hB _) rfl d_M_run_92 ?_
                      refine pf_iald (i := p8) hx hb hK hP (lo_in hL (lo_k11_6 hL _ t_M) (by decide)) eC (lo_t43 hL _ (lo_k11_6 hL _ t_M)) (by omega) (by decide) d_M_run_95 ?_
                      refine lv_topi (fun z_ hz_ => ?_)
                      obtain rfl : z_ = nI w := hz_.trans hw
                      refine lv_bipush (v := nI 9) hx hb d_M_run_96 (by decide) ?_
                      refine lv_icmp_ne (tgt := 116) hx hb d_M_run_98 (by decide) (fun b78 => ?_) (fun b78 => ?_)
                      · skip
                        replace b78 := mt (nI_eq (a := w) (b := 9) (by omega) (by omega)).mpr b78
                        refine lv_aload_n hx hb d_M_run_116 rfl (lv_at hl 1 rfl) ?_
                        refine pcc_v (va_runV (C := "BigRunnerModel") (As := []) (rest := []) ⟨hx, hb, hml, hown, tb_nil⟩ (m_step l g H.size f28 M ((nI 0)) mn mdr msz mix mdp mwt mop t8 w8 g8 p8 s8 x8 y8 ma8 lg8 mdu hC hA dpf hL t_M hI33 e32 ⟨(by omega), (by omega), (by omega), (by omega), (by omega), (by omega), (by omega), (by omega), (by omega), (by omega), (by omega), (by omega), (by omega), (by omega), hmb14⟩ eC eA hWF (by omega) (by omega) q3 (Or.inl (fun z => absurd ((nI_eq (by omega) (by omega)).mp (hw.symm.trans z)) (by omega))) (by omega) (by omega)) ⟨(callB_of 0 (tb_one (wd_1203 hB _)) tb_good1 rfl rfl rfl (wd_82 hB _) (wd_1200 hB _) (by decide +kernel) ⟨Nat.le_of_ble_eq_true rfl, Nat.le_of_ble_eq_true rfl⟩), (wd_1202 hB _), (wd_57 hB _)⟩ ⟨pe_bl, pg_recv (ci := 10) hK hP (lo_in hL t_M (by decide)) e32 rfl, pe_pre hB hK hP hD⟩ rfl rfl hl.1 rfl (lv_room (Nat.le_of_ble_eq_true rfl)) d_M_run_117 ⟨Nat.le_of_ble_eq_true rfl, Nat.le_of_ble_eq_true rfl⟩) hS (fun f80 H locs hq81 hP hD hS => ?_)
                        obtain ⟨x1_82, hI1_83, hu1_84⟩ := hq81
                        have hu := hu.tr hu1_84 (by decide)
                        have hv34 := hv34.tr hu1_84 (by decide)
                        have eC := hu1_84.at (lo_k11_6 hL _ t_M) (by decide) eC
                        have eA := hu1_84.at (lo_k11_7 hL _ t_M) (by decide) eA
                        obtain ⟨tp1_86, wa1_87, gi1_88, pc1_89, tr1_90, sp1_91, ma1_92, lg1_93, c94, c95, c96, c97, c98, c99, c100, e85⟩ := x1_82
                        refine lv_iinc (k := 0) (v := nI (md + 1)) (lv' := [(2, .int (nI (md + 1))), (0, .ref M), (1, .int (nI kn))]) hx hb d_M_run_120 hl rfl (by rw [nI_succ]; rfl) (by decide) rfl (fun ls hl => ?_)
                        refine lv_aload_n hx hb d_M_run_123 rfl (lv_at hl 1 rfl) ?_
                        refine lv_aload_n hx hb d_M_run_124 rfl (lv_at hl 1 rfl) ?_
                        refine pf_get (v := .int (nI tr1_90)) (C := "BigRunnerModel") (T := FT10) (N := 45) hx hb (hw10 hB _) (fun _ h9 => h9) hown hK hP (lo_in hL t_M (by decide)) e85 rfl 40 (by decide) (wd_987 hB _) rfl d_M_run_125 ?_
                        refine lv_if_le (tgt := 135) hx hb d_M_run_128 (by decide) (fun b101 => ?_) (fun b101 => ?_)
                        · skip
                          replace b101 := (nI_leI (a := tr1_90) (b := 0) (by omega) (by omega)).mp b101
                          refine lv_aload_n hx hb d_M_run_135 rfl (lv_at hl 1 rfl) ?_
                          refine pf_get (v := .int (nI s8)) (C := "BigRunnerModel") (T := FT10) (N := 45) hx hb (hw10 hB _) (fun _ h9 => h9) hown hK hP (lo_in hL t_M (by decide)) e85 rfl 39 (by decide) (wd_986 hB _) rfl d_M_run_136 ?_
                          refine pf_put (v := .int (nI s8)) (ty := .int) (fs' := [.int (nI 0), .ref (g.lk M 1), .int (nI mn), .ref (g.lk M 3), .ref (g.lk M 4), .int (nI mdr), .ref (g.lk M 6), .ref (g.lk M 7), .ref (g.lk M 8), .int (nI msz), .int (nI mix), .int (nI mdp), .ref (g.lk M 12), .int (nI mwt), .ref (g.lk M 14), .ref (g.lk M 15), .int (nI mop), .ref (g.lk M 17), .ref (g.lk M 18), .ref (g.lk M 19), .ref (g.lk M 20), .ref (g.lk M 21), .ref (g.lk M 22), .ref (g.lk M 23), .ref (g.lk M 24), .ref (g.lk M 25), .ref (g.lk M 26), .ref (g.lk M 27), .ref (g.lk M 28), .ref (g.lk M 29), .ref (g.lk M 30), .ref (g.lk M 31), .int (nI tp1_86), .ref (g.lk M 33), .ref (g.lk M 34), .ref (g.lk M 35), .int (nI wa1_87), .int (nI gi1_88), .int (nI pc1_89), .int (nI s8), .int (nI tr1_90), .int (nI sp1_91), .int ma1_92, .int lg1_93, .int mdu]) (C := "BigRunnerModel") (T := FT10) (N := 45) hx hb (hw10 hB _) (fun _ h9 => h9) TY10 ok10 nm10 hown hK hP hD hS (lo_in hL t_M (by decide)) e85 rfl 39 (by decide) (wd_986 hB _) rfl (by decide +kernel) rfl rfl (Nat.le_of_ble_eq_true rfl) rfl d_M_run_139 (fun f102 H locs e103 k104 hP hD hS => ?_)
                          have eC := (k104 (g.lk M 6) (tg_ne (lo_k11_6 hL _ t_M) t_M (by decide))).trans eC
                          have eA := (k104 (g.lk M 7) (tg_ne (lo_k11_7 hL _ t_M) t_M (by decide))).trans eA
                          have hu := hu.st k104 t_M (by decide)
                          have hv34 := hv34.st k104 t_M (by decide)
                          have hk105 : ∀ b, b ≠ M → f102 b = f80 b := k104
                          obtain ⟨j1, j2⟩ := c100 (by omega)
                          have hI106 := iv_1 hI1_83 hL t_M (by decide) hk105 (oc_11.mk t_M (⟨((nI 0)), mn, mdr, msz, mix, mdp, mwt, mop, tp1_86, wa1_87, gi1_88, pc1_89, s8, tr1_90, sp1_91, ma1_92, lg1_93, mdu, e103, (by omega), (by omega), (by omega), (by omega), (by omega), (by omega), (by omega), (by omega), (by omega), (by omega), (by omega), (by omega), (by omega), (by omega), hmb14⟩))
                          have lp107 : ∀ (k109 : Nat) (p7 : Nat) (fl : Nat) (f108 : Nat → va_E) (H : Heap) (locs : List Loc) (ls : Array Slot), ((fl = 0 ∧ msz < p7 + k109) ∨ (fl = 1 ∧ 0 < k109)) → (p7 ≤ msz) → (PZ0 dpf msz p7) → (fl ≤ 1) → (JF hC p7 fl) → f108 M = .inr (10, [.int ((nI 0)), .ref (g.lk M 1), .int (nI mn), .ref (g.lk M 3), .ref (g.lk M 4), .int (nI mdr), .ref (g.lk M 6), .ref (g.lk M 7), .ref (g.lk M 8), .int (nI msz), .int (nI mix), .int (nI mdp), .ref (g.lk M 12), .int (nI mwt), .ref (g.lk M 14), .ref (g.lk M 15), .int (nI mop), .ref (g.lk M 17), .ref (g.lk M 18), .ref (g.lk M 19), .ref (g.lk M 20), .ref (g.lk M 21), .ref (g.lk M 22), .ref (g.lk M 23), .ref (g.lk M 24), .ref (g.lk M 25), .ref (g.lk M 26), .ref (g.lk M 27), .ref (g.lk M 28), .ref (g.lk M 29), .ref (g.lk M 30), .ref (g.lk M 31), .int (nI tp1_86), .ref (g.lk M 33), .ref (g.lk M 34), .ref (g.lk M 35), .int (nI wa1_87), .int (nI gi1_88), .int (nI p7), .int (nI s8), .int (nI tr1_90), .int (nI sp1_91), .int ma1_92, .int lg1_93, .int mdu]) → IV g f108 → un [11] g f102 f108 → lv_has ls 3 [(2, .int (nI (md + 1))), (0, .ref M), (1, .int (nI kn))] → va_P g.D vcl (va_pl g.LP f108) H → va_D (pc_A g s.heap.size) (va_pl g.LP f108) → va_S (pc_A g s.heap.size) s.heap H locs → W p l e ({ frames := 5, cells := 0, slots := 0, locals := 124 }) s m args below meth c H locs 0 0 (MQ below (va_Qi (fun r f1 => (∃ (th1 : Int32) (tp1 : Nat) (wa1 : Nat) (gi1 : Nat) (pc1 : Nat) (st1 : Nat) (tr1 : Nat) (sp1 : Nat) (ma1 : Int32) (lg1 : Int32), (tp1 ≤ 80) ∧ (wa1 ≤ 20) ∧ (gi1 ≤ sp1) ∧ (pc1 ≤ 100) ∧ (st1 ≤ 4) ∧ (tr1 ≤ 3) ∧ (sp1 ≤ 3000) ∧ (RI hC dpf msz st1 pc1 tr1) ∧ f1 M = .inr (10, [.int th1, .ref (g.lk M 1), .int (nI mn), .ref (g.lk M 3), .ref (g.lk M 4), .int (nI mdr), .ref (g.lk M 6), .ref (g.lk M 7), .ref (g.lk M 8), .int (nI msz), .int (nI mix), .int (nI mdp), .ref (g.lk M 12), .int (nI mwt), .ref (g.lk M 14), .ref (g.lk M 15), .int (nI mop), .ref (g.lk M 17), .ref (g.lk M 18), .ref (g.lk M 19), .ref (g.lk M 20), .ref (g.lk M 21), .ref (g.lk M 22), .ref (g.lk M 23), .ref (g.lk M 24), .ref (g.lk M 25), .ref (g.lk M 26), .ref (g.lk M 27), .ref (g.lk M 28), .ref (g.lk M 29), .ref (g.lk M 30), .ref (g.lk M 31), .int (nI tp1), .ref (g.lk M 33), .ref (g.lk M 34), .ref (g.lk M 35), .int (nI wa1), .int (nI gi1), .int (nI pc1), .int (nI st1), .int (nI tr1), .int (nI sp1), .int ma1, .int lg1, .int mdu])) ∧ (IV g f1) ∧ (un [11, 58, 59, 60, 61, 62, 63, 64, 65, 66] g f f1)) (pc_out g s.heap.size) (pc_A g s.heap.size)) args s 0 0 (pc_A g s.heap.size)) (F0 m 142 ls []) := by
                            intro k109
                            induction k109 with
                            | zero => intros; exfalso; omega
                            | succ k109 ih110 =>
                              intro p7 fl f108 H locs ls hfu111 hp7 hp6 hfl hJF e112 hI113 hv114 hl hP hD hS
                              have eC := hv114.at (lo_k11_6 hL _ t_M) (by decide) eC
                              have eA := hv114.at (lo_k11_7 hL _ t_M) (by decide) eA
                              have hu := hu.tr hv114 (by decide)
                              have hv34 := hv34.tr hv114 (by decide)
                              refine lv_aload_n hx hb d_M_run_142 rfl (lv_at hl 1 rfl) ?_
                              refine pf_get (v := .int (nI s8)) (C := "BigRunnerModel") (T := FT10) (N := 45) hx hb (hw10 hB _) (fun _ h9 => h9) hown hK hP (lo_in hL t_M (by decide)) e112 rfl 39 (by decide) (wd_986 hB _) rfl d_M_run_143 ?_
                              refine lv_iconst (v := nI 1) hx hb d_M_run_146 (by decide) ?_
                              refine lv_icmp_ne (tgt := 191) hx hb d_M_run_147 (by decide) (fun b115 => ?_) (fun b115 => ?_)
                              · skip
                                replace b115 := mt (nI_eq (a := s8) (b := 1) (by omega) (by omega)).mpr b115
                                refine lv_aload_n hx hb d_M_run_191 rfl (lv_at hl 1 rfl) ?_
                                refine lv_aload_n hx hb d_M_run_192 rfl (lv_at hl 1 rfl) ?_
                                refine pf_get (v := .int (nI s8)) (C := "BigRunnerModel") (T := FT10) (N := 45) hx hb (hw10 hB _) (fun _ h9 => h9) hown hK hP (lo_in hL t_M (by decide)) e112 rfl 39 (by decide) (wd_986 hB _) rfl d_M_run_193 ?_
                                refine lv_iconst (v := nI 1) hx hb d_M_run_196 (by decide) ?_
                                refine lv_icmp_ne (tgt := 215) hx hb d_M_run_197 (by decide) (fun b116 => ?_) (fun b116 => ?_)
                                · skip
                                  replace b116 := mt (nI_eq (a := s8) (b := 1) (by omega) (by omega)).mpr b116
                                  refine lv_aload_n hx hb d_M_run_215 rfl (lv_at hl 1 rfl) ?_
                                  refine pf_get (v := .int (nI s8)) (C := "BigRunnerModel") (T := FT10) (N := 45) hx hb (hw10 hB _) (fun _ h9 => h9) hown hK hP (lo_in hL t_M (by decide)) e112 rfl 39 (by decide) (wd_986 hB _) rfl d_M_run_216 ?_
                                  refine pf_put (v := .int (nI s8)) (ty := .int) (fs' := [.int ((nI 0)), .ref (g.lk M 1), .int (nI mn), .ref (g.lk M 3), .ref (g.lk M 4), .int (nI mdr), .ref (g.lk M 6), .ref (g.lk M 7), .ref (g.lk M 8), .int (nI msz), .int (nI mix), .int (nI mdp), .ref (g.lk M 12), .int (nI mwt), .ref (g.lk M 14), .ref (g.lk M 15), .int (nI mop), .ref (g.lk M 17), .ref (g.lk M 18), .ref (g.lk M 19), .ref (g.lk M 20), .ref (g.lk M 21), .ref (g.lk M 22), .ref (g.lk M 23), .ref (g.lk M 24), .ref (g.lk M 25), .ref (g.lk M 26), .ref (g.lk M 27), .ref (g.lk M 28), .ref (g.lk M 29), .ref (g.lk M 30), .ref (g.lk M 31), .int (nI tp1_86), .ref (g.lk M 33), .ref (g.lk M 34), .ref (g.lk M 35), .int (nI wa1_87), .int (nI gi1_88), .int (nI p7), .int (nI s8), .int (nI tr1_90), .int (nI sp1_91), .int ma1_92, .int lg1_93, .int mdu]) (C := "BigRunnerModel") (T := FT10) (N := 45) hx hb (hw10 hB _) (fun _ h9 => h9) TY10 ok10 nm10 hown hK hP hD hS (lo_in hL t_M (by decide)) e112 rfl 39 (by decide) (wd_986 hB _) rfl (by decide +kernel) rfl rfl (Nat.le_of_ble_eq_true rfl) rfl d_M_run_219 (fun f117 H locs e118 k119 hP hD hS => ?_)
                                  have eC := (k119 (g.lk M 6) (tg_ne (lo_k11_6 hL _ t_M) t_M (by decide))).trans eC
                                  have eA := (k119 (g.lk M 7) (tg_ne (lo_k11_7 hL _ t_M) t_M (by decide))).trans eA
                                  have hu := hu.st k119 t_M (by decide)
                                  have hv34 := hv34.st k119 t_M (by decide)
                                  have hv114 := hv114.st k119 t_M (by decide)
                                  have hk120 : ∀ b, b ≠ M → f117 b = f108 b := k119
                                  refine lv_goto (tgt := 56) hx hb d_M_run_222 (by decide) ?_
                                  have hI121 := iv_1 hI113 hL t_M (by decide) hk120 (oc_11.mk t_M (⟨(((nI 0))), mn, mdr, msz, mix, mdp, mwt, mop, tp1_86, wa1_87, gi1_88, p7, s8, tr1_90, sp1_91, ma1_92, lg1_93, mdu, e118, (by omega), (by omega), (by omega), (by omega), (by omega), (by omega), (by omega), (by omega), (by omega), (by omega), (by omega), (by omega), (by omega), (by omega), hmb14⟩))
                                  exact ih30 (md + 1) tp1_86 wa1_87 gi1_88 p7 s8 tr1_90 sp1_91 ma1_92 lg1_93 f117 H locs ls (by omega) (by omega) (by omega) (by omega) (by omega) (by omega) (by omega) (by omega) (by omega) (by exfalso; omega) e118 hI121 hv34 hl hP hD hS
                                · skip
                                  replace b116 := (nI_eq (a := s8) (b := 1) (by omega) (by omega)).mp b116
                                  refine lv_aload_n hx hb d_M_run_200 rfl (lv_at hl 1 rfl) ?_
                                  refine pf_get (v := .int (nI p7)) (C := "BigRunnerModel") (T := FT10) (N := 45) hx hb (hw10 hB _) (fun _ h9 => h9) hown hK hP (lo_in hL t_M (by decide)) e112 rfl 38 (by decide) (wd_985 hB _) rfl d_M_run_201 ?_
                                  refine lv_aload_n hx hb d_M_run_204 rfl (lv_at hl 1 rfl) ?_
                                  refine pf_get (v := .int (nI msz)) (C := "BigRunnerModel") (T := FT10) (N := 45) hx hb (hw10 hB _) (fun _ h9 => h9) hown hK hP (lo_in hL t_M (by decide)) e112 rfl 9 (by decide) (wd_956 hB _) rfl d_M_run_205 ?_
                                  refine lv_icmp_ne (tgt := 215) hx hb d_M_run_208 (by decide) (fun b122 => ?_) (fun b122 => ?_)
                                  · skip
                                    replace b122 := mt (nI_eq (a := p7) (b := msz) (by omega) (by omega)).mpr b122
                                    refine lv_aload_n hx hb d_M_run_215 rfl (lv_at hl 1 rfl) ?_
                                    refine pf_get (v := .int (nI s8)) (C := "BigRunnerModel") (T := FT10) (N := 45) hx hb (hw10 hB _) (fun _ h9 => h9) hown hK hP (lo_in hL t_M (by decide)) e112 rfl 39 (by decide) (wd_986 hB _) rfl d_M_run_216 ?_
                                    refine pf_put (v := .int (nI s8)) (ty := .int) (fs' := [.int ((nI 0)), .ref (g.lk M 1), .int (nI mn), .ref (g.lk M 3), .ref (g.lk M 4), .int (nI mdr), .ref (g.lk M 6), .ref (g.lk M 7), .ref (g.lk M 8), .int (nI msz), .int (nI mix), .int (nI mdp), .ref (g.lk M 12), .int (nI mwt), .ref (g.lk M 14), .ref (g.lk M 15), .int (nI mop), .ref (g.lk M 17), .ref (g.lk M 18), .ref (g.lk M 19), .ref (g.lk M 20), .ref (g.lk M 21), .ref (g.lk M 22), .ref (g.lk M 23), .ref (g.lk M 24), .ref (g.lk M 25), .ref (g.lk M 26), .ref (g.lk M 27), .ref (g.lk M 28), .ref (g.lk M 29), .ref (g.lk M 30), .ref (g.lk M 31), .int (nI tp1_86), .ref (g.lk M 33), .ref (g.lk M 34), .ref (g.lk M 35), .int (nI wa1_87), .int (nI gi1_88), .int (nI p7), .int (nI s8), .int (nI tr1_90), .int (nI sp1_91), .int ma1_92, .int lg1_93, .int mdu]) (C := "BigRunnerModel") (T := FT10) (N := 45) hx hb (hw10 hB _) (fun _ h9 => h9) TY10 ok10 nm10 hown hK hP hD hS (lo_in hL t_M (by decide)) e112 rfl 39 (by decide) (wd_986 hB _) rfl (by decide +kernel) rfl rfl (Nat.le_of_ble_eq_true rfl) rfl d_M_run_219 (fun f123 H locs e124 k125 hP hD hS => ?_)
                                    have eC := (k125 (g.lk M 6) (tg_ne (lo_k11_6 hL _ t_M) t_M (by decide))).trans eC
                                    have eA := (k125 (g.lk M 7) (tg_ne (lo_k11_7 hL _ t_M) t_M (by decide))).trans eA
                                    have hu := hu.st k125 t_M (by decide)
                                    have hv34 := hv34.st k125 t_M (by decide)
                                    have hv114 := hv114.st k125 t_M (by decide)
                                    have hk126 : ∀ b, b ≠ M → f123 b = f108 b := k125
                                    refine lv_goto (tgt := 56) hx hb d_M_run_222 (by decide) ?_
                                    have hI127 := iv_1 hI113 hL t_M (by decide) hk126 (oc_11.mk t_M (⟨(((nI 0))), mn, mdr, msz, mix, mdp, mwt, mop, tp1_86, wa1_87, gi1_88, p7, s8, tr1_90, sp1_91, ma1_92, lg1_93, mdu, e124, (by omega), (by omega), (by omega), (by omega), (by omega), (by omega), (by omega), (by omega), (by omega), (by omega), (by omega), (by omega), (by omega), (by omega), hmb14⟩))
                                    exact ih30 (md + 1) tp1_86 wa1_87 gi1_88 p7 s8 tr1_90 sp1_91 ma1_92 lg1_93 f123 H locs ls (by omega) (by omega) (by omega) (by omega) (by omega) (by omega) (by omega) (by omega) (by omega) (by exfalso; omega) e124 hI127 hv34 hl hP hD hS
                                  · skip
                                    replace b122 := (nI_eq (a := p7) (b := msz) (by omega) (by omega)).mp b122
                                    refine lv_iconst (v := nI 3) hx hb d_M_run_211 (by decide) ?_
                                    refine lv_goto (tgt := 219) hx hb d_M_run_212 (by decide) ?_
                                    refine pf_put (v := .int (nI 3)) (ty := .int) (fs' := [.int ((nI 0)), .ref (g.lk M 1), .int (nI mn), .ref (g.lk M 3), .ref (g.lk M 4), .int (nI mdr), .ref (g.lk M 6), .ref (g.lk M 7), .ref (g.lk M 8), .int (nI msz), .int (nI mix), .int (nI mdp), .ref (g.lk M 12), .int (nI mwt), .ref (g.lk M 14), .ref (g.lk M 15), .int (nI mop), .ref (g.lk M 17), .ref (g.lk M 18), .ref (g.lk M 19), .ref (g.lk M 20), .ref (g.lk M 21), .ref (g.lk M 22), .ref (g.lk M 23), .ref (g.lk M 24), .ref (g.lk M 25), .ref (g.lk M 26), .ref (g.lk M 27), .ref (g.lk M 28), .ref (g.lk M 29), .ref (g.lk M 30), .ref (g.lk M 31), .int (nI tp1_86), .ref (g.lk M 33), .ref (g.lk M 34), .ref (g.lk M 35), .int (nI wa1_87), .int (nI gi1_88), .int (nI p7), .int (nI 3), .int (nI tr1_90), .int (nI sp1_91), .int ma1_92, .int lg1_93, .int mdu]) (C := "BigRunnerModel") (T := FT10) (N := 45) hx hb (hw10 hB _) (fun _ h9 => h9) TY10 ok10 nm10 hown hK hP hD hS (lo_in hL t_M (by decide)) e112 rfl 39 (by decide) (wd_986 hB _) rfl (by decide +kernel) rfl rfl (Nat.le_of_ble_eq_true rfl) rfl d_M_run_219 (fun f128 H locs e129 k130 hP hD hS => ?_)
                                    have eC := (k130 (g.lk M 6) (tg_ne (lo_k11_6 hL _ t_M) t_M (by decide))).trans eC
                                    have eA := (k130 (g.lk M 7) (tg_ne (lo_k11_7 hL _ t_M) t_M (by decide))).trans eA
                                    have hu := hu.st k130 t_M (by decide)
                                    have hv34 := hv34.st k130 t_M (by decide)
                                    have hv114 := hv114.st k130 t_M (by decide)
                                    have hk131 : ∀ b, b ≠ M → f128 b = f108 b := k130
                                    refine lv_goto (tgt := 56) hx hb d_M_run_222 (by decide) ?_
                                    have hI132 := iv_1 hI113 hL t_M (by decide) hk131 (oc_11.mk t_M (⟨(((nI 0))), mn, mdr, msz, mix, mdp, mwt, mop, tp1_86, wa1_87, gi1_88, p7, 3, tr1_90, sp1_91, ma1_92, lg1_93, mdu, e129, (by omega), (by omega), (by omega), (by omega), (by omega), (by omega), (by omega), (by omega), (by omega), (by omega), (by omega), (by omega), (by omega), (by omega), hmb14⟩))
                                    exact ih30 (md + 1) tp1_86 wa1_87 gi1_88 p7 3 tr1_90 sp1_91 ma1_92 lg1_93 f128 H locs ls (by omega) (by omega) (by omega) (by omega) (by omega) (by omega) (by omega) (by omega) (by omega) (fun z => absurd z (by omega)) e129 hI132 hv34 hl hP hD hS
                              · skip
                                replace b115 := (nI_eq (a := s8) (b := 1) (by omega) (by omega)).mp b115
                                refine lv_aload_n hx hb d_M_run_150 rfl (lv_at hl 1 rfl) ?_
                                refine pf_get (v := .int (nI p7)) (C := "BigRunnerModel") (T := FT10) (N := 45) hx hb (hw10 hB _) (fun _ h9 => h9) hown hK hP (lo_in hL t_M (by decide)) e112 rfl 38 (by decide) (wd_985 hB _) rfl d_M_run_151 ?_
                                refine lv_aload_n hx hb d_M_run_154 rfl (lv_at hl 1 rfl) ?_
                                refine pf_get (v := .int (nI msz)) (C := "BigRunnerModel") (T := FT10) (N := 45) hx hb (hw10 hB _) (fun _ h9 => h9) hown hK hP (lo_in hL t_M (by decide)) e112 rfl 9 (by decide) (wd_956 hB _) rfl d_M_run_155 ?_
                                refine lv_icmp_ge (tgt := 191) hx hb d_M_run_158 (by decide) (fun b133 => ?_) (fun b133 => ?_)
                                · skip
                                  replace b133 := (nI_leI (a := msz) (b := p7) (by omega) (by omega)).mp b133
                                  refine lv_aload_n hx hb d_M_run_191 rfl (lv_at hl 1 rfl) ?_
                                  refine lv_aload_n hx hb d_M_run_192 rfl (lv_at hl 1 rfl) ?_
                                  refine pf_get (v := .int (nI s8)) (C := "BigRunnerModel") (T := FT10) (N := 45) hx hb (hw10 hB _) (fun _ h9 => h9) hown hK hP (lo_in hL t_M (by decide)) e112 rfl 39 (by decide) (wd_986 hB _) rfl d_M_run_193 ?_
                                  refine lv_iconst (v := nI 1) hx hb d_M_run_196 (by decide) ?_
                                  refine lv_icmp_ne (tgt := 215) hx hb d_M_run_197 (by decide) (fun b134 => ?_) (fun b134 => ?_)
                                  · skip
                                    replace b134 := mt (nI_eq (a := s8) (b := 1) (by omega) (by omega)).mpr b134
                                    refine lv_aload_n hx hb d_M_run_215 rfl (lv_at hl 1 rfl) ?_
                                    refine pf_get (v := .int (nI s8)) (C := "BigRunnerModel") (T := FT10) (N := 45) hx hb (hw10 hB _) (fun _ h9 => h9) hown hK hP (lo_in hL t_M (by decide)) e112 rfl 39 (by decide) (wd_986 hB _) rfl d_M_run_216 ?_
                                    refine pf_put (v := .int (nI s8)) (ty := .int) (fs' := [.int ((nI 0)), .ref (g.lk M 1), .int (nI mn), .ref (g.lk M 3), .ref (g.lk M 4), .int (nI mdr), .ref (g.lk M 6), .ref (g.lk M 7), .ref (g.lk M 8), .int (nI msz), .int (nI mix), .int (nI mdp), .ref (g.lk M 12), .int (nI mwt), .ref (g.lk M 14), .ref (g.lk M 15), .int (nI mop), .ref (g.lk M 17), .ref (g.lk M 18), .ref (g.lk M 19), .ref (g.lk M 20), .ref (g.lk M 21), .ref (g.lk M 22), .ref (g.lk M 23), .ref (g.lk M 24), .ref (g.lk M 25), .ref (g.lk M 26), .ref (g.lk M 27), .ref (g.lk M 28), .ref (g.lk M 29), .ref (g.lk M 30), .ref (g.lk M 31), .int (nI tp1_86), .ref (g.lk M 33), .ref (g.lk M 34), .ref (g.lk M 35), .int (nI wa1_87), .int (nI gi1_88), .int (nI p7), .int (nI s8), .int (nI tr1_90), .int (nI sp1_91), .int ma1_92, .int lg1_93, .int mdu]) (C := "BigRunnerModel") (T := FT10) (N := 45) hx hb (hw10 hB _) (fun _ h9 => h9) TY10 ok10 nm10 hown hK hP hD hS (lo_in hL t_M (by decide)) e112 rfl 39 (by decide) (wd_986 hB _) rfl (by decide +kernel) rfl rfl (Nat.le_of_ble_eq_true rfl) rfl d_M_run_219 (fun f135 H locs e136 k137 hP hD hS => ?_)
                                    have eC := (k137 (g.lk M 6) (tg_ne (lo_k11_6 hL _ t_M) t_M (by decide))).trans eC
                                    have eA := (k137 (g.lk M 7) (tg_ne (lo_k11_7 hL _ t_M) t_M (by decide))).trans eA
                                    have hu := hu.st k137 t_M (by decide)
                                    have hv34 := hv34.st k137 t_M (by decide)
                                    have hv114 := hv114.st k137 t_M (by decide)
                                    have hk138 : ∀ b, b ≠ M → f135 b = f108 b := k137
                                    refine lv_goto (tgt := 56) hx hb d_M_run_222 (by decide) ?_
                                    have hI139 := iv_1 hI113 hL t_M (by decide) hk138 (oc_11.mk t_M (⟨(((nI 0))), mn, mdr, msz, mix, mdp, mwt, mop, tp1_86, wa1_87, gi1_88, p7, s8, tr1_90, sp1_91, ma1_92, lg1_93, mdu, e136, (by omega), (by omega), (by omega), (by omega), (by omega), (by omega), (by omega), (by omega), (by omega), (by omega), (by omega), (by omega), (by omega), (by omega), hmb14⟩))
                                    exact ih30 (md + 1) tp1_86 wa1_87 gi1_88 p7 s8 tr1_90 sp1_91 ma1_92 lg1_93 f135 H locs ls (by omega) (by omega) (by omega) (by omega) (by omega) (by omega) (by omega) (by omega) (by omega) (by exfalso; omega) e136 hI139 hv34 hl hP hD hS
                                  · skip
                                    replace b134 := (nI_eq (a := s8) (b := 1) (by omega) (by omega)).mp b134
                                    refine lv_aload_n hx hb d_M_run_200 rfl (lv_at hl 1 rfl) ?_
                                    refine pf_get (v := .int (nI p7)) (C := "BigRunnerModel") (T := FT10) (N := 45) hx hb (hw10 hB _) (fun _ h9 => h9) hown hK hP (lo_in hL t_M (by decide)) e112 rfl 38 (by decide) (wd_985 hB _) rfl d_M_run_201 ?_
                                    refine lv_aload_n hx hb d_M_run_204 rfl (lv_at hl 1 rfl) ?_
                                    refine pf_get (v := .int (nI msz)) (C := "BigRunnerModel") (T := FT10) (N := 45) hx hb (hw10 hB _) (fun _ h9 => h9) hown hK hP (lo_in hL t_M (by decide)) e112 rfl 9 (by decide) (wd_956 hB _) rfl d_M_run_205 ?_
                                    refine lv_icmp_ne (tgt := 215) hx hb d_M_run_208 (by decide) (fun b140 => ?_) (fun b140 => ?_)
                                    · skip
                                      replace b140 := mt (nI_eq (a := p7) (b := msz) (by omega) (by omega)).mpr b140
                                      refine lv_aload_n hx hb d_M_run_215 rfl (lv_at hl 1 rfl) ?_
                                      refine pf_get (v := .int (nI s8)) (C := "BigRunnerModel") (T := FT10) (N := 45) hx hb (hw10 hB _) (fun _ h9 => h9) hown hK hP (lo_in hL t_M (by decide)) e112 rfl 39 (by decide) (wd_986 hB _) rfl d_M_run_216 ?_
                                      refine pf_put (v := .int (nI s8)) (ty := .int) (fs' := [.int ((nI 0)), .ref (g.lk M 1), .int (nI mn), .ref (g.lk M 3), .ref (g.lk M 4), .int (nI mdr), .ref (g.lk M 6), .ref (g.lk M 7), .ref (g.lk M 8), .int (nI msz), .int (nI mix), .int (nI mdp), .ref (g.lk M 12), .int (nI mwt), .ref (g.lk M 14), .ref (g.lk M 15), .int (nI mop), .ref (g.lk M 17), .ref (g.lk M 18), .ref (g.lk M 19), .ref (g.lk M 20), .ref (g.lk M 21), .ref (g.lk M 22), .ref (g.lk M 23), .ref (g.lk M 24), .ref (g.lk M 25), .ref (g.lk M 26), .ref (g.lk M 27), .ref (g.lk M 28), .ref (g.lk M 29), .ref (g.lk M 30), .ref (g.lk M 31), .int (nI tp1_86), .ref (g.lk M 33), .ref (g.lk M 34), .ref (g.lk M 35), .int (nI wa1_87), .int (nI gi1_88), .int (nI p7), .int (nI s8), .int (nI tr1_90), .int (nI sp1_91), .int ma1_92, .int lg1_93, .int mdu]) (C := "BigRunnerModel") (T := FT10) (N := 45) hx hb (hw10 hB _) (fun _ h9 => h9) TY10 ok10 nm10 hown hK hP hD hS (lo_in hL t_M (by decide)) e112 rfl 39 (by decide) (wd_986 hB _) rfl (by decide +kernel) rfl rfl (Nat.le_of_ble_eq_true rfl) rfl d_M_run_219 (fun f141 H locs e142 k143 hP hD hS => ?_)
                                      have eC := (k143 (g.lk M 6) (tg_ne (lo_k11_6 hL _ t_M) t_M (by decide))).trans eC
                                      have eA := (k143 (g.lk M 7) (tg_ne (lo_k11_7 hL _ t_M) t_M (by decide))).trans eA
                                      have hu := hu.st k143 t_M (by decide)
                                      have hv34 := hv34.st k143 t_M (by decide)
                                      have hv114 := hv114.st k143 t_M (by decide)
                                      have hk144 : ∀ b, b ≠ M → f141 b = f108 b := k143
                                      refine lv_goto (tgt := 56) hx hb d_M_run_222 (by decide) ?_
                                      have hI145 := iv_1 hI113 hL t_M (by decide) hk144 (oc_11.mk t_M (⟨(((nI 0))), mn, mdr, msz, mix, mdp, mwt, mop, tp1_86, wa1_87, gi1_88, p7, s8, tr1_90, sp1_91, ma1_92, lg1_93, mdu, e142, (by omega), (by omega), (by omega), (by omega), (by omega), (by omega), (by omega), (by omega), (by omega), (by omega), (by omega), (by omega), (by omega), (by omega), hmb14⟩))
                                      exact ih30 (md + 1) tp1_86 wa1_87 gi1_88 p7 s8 tr1_90 sp1_91 ma1_92 lg1_93 f141 H locs ls (by omega) (by omega) (by omega) (by omega) (by omega) (by omega) (by omega) (by omega) (by omega) (by exfalso; omega) e142 hI145 hv34 hl hP hD hS
                                    · skip
                                      replace b140 := (nI_eq (a := p7) (b := msz) (by omega) (by omega)).mp b140
                                      refine lv_iconst (v := nI 3) hx hb d_M_run_211 (by decide) ?_
                                      refine lv_goto (tgt := 219) hx hb d_M_run_212 (by decide) ?_
                                      refine pf_put (v := .int (nI 3)) (ty := .int) (fs' := [.int ((nI 0)), .ref (g.lk M 1), .int (nI mn), .ref (g.lk M 3), .ref (g.lk M 4), .int (nI mdr), .ref (g.lk M 6), .ref (g.lk M 7), .ref (g.lk M 8), .int (nI msz), .int (nI mix), .int (nI mdp), .ref (g.lk M 12), .int (nI mwt), .ref (g.lk M 14), .ref (g.lk M 15), .int (nI mop), .ref (g.lk M 17), .ref (g.lk M 18), .ref (g.lk M 19), .ref (g.lk M 20), .ref (g.lk M 21), .ref (g.lk M 22), .ref (g.lk M 23), .ref (g.lk M 24), .ref (g.lk M 25), .ref (g.lk M 26), .ref (g.lk M 27), .ref (g.lk M 28), .ref (g.lk M 29), .ref (g.lk M 30), .ref (g.lk M 31), .int (nI tp1_86), .ref (g.lk M 33), .ref (g.lk M 34), .ref (g.lk M 35), .int (nI wa1_87), .int (nI gi1_88), .int (nI p7), .int (nI 3), .int (nI tr1_90), .int (nI sp1_91), .int ma1_92, .int lg1_93, .int mdu]) (C := "BigRunnerModel") (T := FT10) (N := 45) hx hb (hw10 hB _) (fun _ h9 => h9) TY10 ok10 nm10 hown hK hP hD hS (lo_in hL t_M (by decide)) e112 rfl 39 (by decide) (wd_986 hB _) rfl (by decide +kernel) rfl rfl (Nat.le_of_ble_eq_true rfl) rfl d_M_run_219 (fun f146 H locs e147 k148 hP hD hS => ?_)
                                      have eC := (k148 (g.lk M 6) (tg_ne (lo_k11_6 hL _ t_M) t_M (by decide))).trans eC
                                      have eA := (k148 (g.lk M 7) (tg_ne (lo_k11_7 hL _ t_M) t_M (by decide))).trans eA
                                      have hu := hu.st k148 t_M (by decide)
                                      have hv34 := hv34.st k148 t_M (by decide)
                                      have hv114 := hv114.st k148 t_M (by decide)
                                      have hk149 : ∀ b, b ≠ M → f146 b = f108 b := k148
                                      refine lv_goto (tgt := 56) hx hb d_M_run_222 (by decide) ?_
                                      have hI150 := iv_1 hI113 hL t_M (by decide) hk149 (oc_11.mk t_M (⟨(((nI 0))), mn, mdr, msz, mix, mdp, mwt, mop, tp1_86, wa1_87, gi1_88, p7, 3, tr1_90, sp1_91, ma1_92, lg1_93, mdu, e147, (by omega), (by omega), (by omega), (by omega), (by omega), (by omega), (by omega), (by omega), (by omega), (by omega), (by omega), (by omega), (by omega), (by omega), hmb14⟩))
                                      exact ih30 (md + 1) tp1_86 wa1_87 gi1_88 p7 3 tr1_90 sp1_91 ma1_92 lg1_93 f146 H locs ls (by omega) (by omega) (by omega) (by omega) (by omega) (by omega) (by omega) (by omega) (by omega) (fun z => absurd z (by omega)) e147 hI150 hv34 hl hP hD hS
                                · skip
                                  replace b133 := mt (nI_leI (a := msz) (b := p7) (by omega) (by omega)).mpr b133
                                  obtain ⟨w, v, hWO⟩ := hWF.2.2 p7 (by omega)
                                  have hw := wo_c hWO
                                  have hv := wo_a hWO
                                  have z3 := wo_12 hWO
                                  have z4 := wo_b hWO
                                  refine lv_aload_n hx hb d_M_run_161 rfl (lv_at hl 1 rfl) ?_
                                  refine pf_get (v := .ref (g.lk M 6)) (C := "BigRunnerModel") (T := FT10) (N := 45) hx hb (hw10 hB _) (fun _ h9 => h9) hown hK hP (lo_in hL t_M (by decide)) e112 rfl 6 (by decide) (wd_953 hB _) rfl d_M_run_162 ?_
                                  refine lv_aload_n hx hb d_M_run_165 rfl (lv_at hl 1 rfl) ?_
                                  refine pf_get (v := .int (nI p7)) (C := "BigRunnerModel") (T := FT10) (N := 45) hx hb (hw10 hB _) (fun _ h9 => h9) hown hK hP (lo_in hL t_M (by decide)) e112 rfl 38 (by decide) (wd_985 hB _) rfl d_M_run_166 ?_
                                  refine pf_iald (i := p7) hx hb hK hP (lo_in hL (lo_k11_6 hL _ t_M) (by decide)) eC (lo_t43 hL _ (lo_k11_6 hL _ t_M)) (by omega) (by decide) d_M_run_169 ?_
                                  refine lv_topi (fun z_ hz_ => ?_)
                                  obtain rfl : z_ = nI w := hz_.trans hw
                                  refine lv_bipush (v := nI 12) hx hb d_M_run_170 (by decide) ?_
                                  refine lv_icmp_ne (tgt := 191) hx hb d_M_run_172 (by decide) (fun b151 => ?_) (fun b151 => ?_)
                                  · skip
                                    replace b151 := mt (nI_eq (a := w) (b := 12) (by omega) (by omega)).mpr b151
                                    refine lv_aload_n hx hb d_M_run_191 rfl (lv_at hl 1 rfl) ?_
                                    refine lv_aload_n hx hb d_M_run_192 rfl (lv_at hl 1 rfl) ?_
                                    refine pf_get (v := .int (nI s8)) (C := "BigRunnerModel") (T := FT10) (N := 45) hx hb (hw10 hB _) (fun _ h9 => h9) hown hK hP (lo_in hL t_M (by decide)) e112 rfl 39 (by decide) (wd_986 hB _) rfl d_M_run_193 ?_
                                    refine lv_iconst (v := nI 1) hx hb d_M_run_196 (by decide) ?_
                                    refine lv_icmp_ne (tgt := 215) hx hb d_M_run_197 (by decide) (fun b152 => ?_) (fun b152 => ?_)
                                    · skip
                                      replace b152 := mt (nI_eq (a := s8) (b := 1) (by omega) (by omega)).mpr b152
                                      refine lv_aload_n hx hb d_M_run_215 rfl (lv_at hl 1 rfl) ?_
                                      refine pf_get (v := .int (nI s8)) (C := "BigRunnerModel") (T := FT10) (N := 45) hx hb (hw10 hB _) (fun _ h9 => h9) hown hK hP (lo_in hL t_M (by decide)) e112 rfl 39 (by decide) (wd_986 hB _) rfl d_M_run_216 ?_
                                      refine pf_put (v := .int (nI s8)) (ty := .int) (fs' := [.int ((nI 0)), .ref (g.lk M 1), .int (nI mn), .ref (g.lk M 3), .ref (g.lk M 4), .int (nI mdr), .ref (g.lk M 6), .ref (g.lk M 7), .ref (g.lk M 8), .int (nI msz), .int (nI mix), .int (nI mdp), .ref (g.lk M 12), .int (nI mwt), .ref (g.lk M 14), .ref (g.lk M 15), .int (nI mop), .ref (g.lk M 17), .ref (g.lk M 18), .ref (g.lk M 19), .ref (g.lk M 20), .ref (g.lk M 21), .ref (g.lk M 22), .ref (g.lk M 23), .ref (g.lk M 24), .ref (g.lk M 25), .ref (g.lk M 26), .ref (g.lk M 27), .ref (g.lk M 28), .ref (g.lk M 29), .ref (g.lk M 30), .ref (g.lk M 31), .int (nI tp1_86), .ref (g.lk M 33), .ref (g.lk M 34), .ref (g.lk M 35), .int (nI wa1_87), .int (nI gi1_88), .int (nI p7), .int (nI s8), .int (nI tr1_90), .int (nI sp1_91), .int ma1_92, .int lg1_93, .int mdu]) (C := "BigRunnerModel") (T := FT10) (N := 45) hx hb (hw10 hB _) (fun _ h9 => h9) TY10 ok10 nm10 hown hK hP hD hS (lo_in hL t_M (by decide)) e112 rfl 39 (by decide) (wd_986 hB _) rfl (by decide +kernel) rfl rfl (Nat.le_of_ble_eq_true rfl) rfl d_M_run_219 (fun f153 H locs e154 k155 hP hD hS => ?_)
                                      have eC := (k155 (g.lk M 6) (tg_ne (lo_k11_6 hL _ t_M) t_M (by decide))).trans eC
                                      have eA := (k155 (g.lk M 7) (tg_ne (lo_k11_7 hL _ t_M) t_M (by decide))).trans eA
                                      have hu := hu.st k155 t_M (by decide)
                                      have hv34 := hv34.st k155 t_M (by decide)
                                      have hv114 := hv114.st k155 t_M (by decide)
                                      have hk156 : ∀ b, b ≠ M → f153 b = f108 b := k155
                                      refine lv_goto (tgt := 56) hx hb d_M_run_222 (by decide) ?_
                                      have hI157 := iv_1 hI113 hL t_M (by decide) hk156 (oc_11.mk t_M (⟨(((nI 0))), mn, mdr, msz, mix, mdp, mwt, mop, tp1_86, wa1_87, gi1_88, p7, s8, tr1_90, sp1_91, ma1_92, lg1_93, mdu, e154, (by omega), (by omega), (by omega), (by omega), (by omega), (by omega), (by omega), (by omega), (by omega), (by omega), (by omega), (by omega), (by omega), (by omega), hmb14⟩))
                                      exact ih30 (md + 1) tp1_86 wa1_87 gi1_88 p7 s8 tr1_90 sp1_91 ma1_92 lg1_93 f153 H locs ls (by omega) (by omega) (by omega) (by omega) (by omega) (by omega) (by omega) (by omega) (by omega) (fun _ => ⟨by omega, hp6 (by omega), fun z => absurd ((nI_eq (by omega) (by omega)).mp (hw.symm.trans z)) (by omega), by omega⟩) e154 hI157 hv34 hl hP hD hS
                                    · skip
                                      replace b152 := (nI_eq (a := s8) (b := 1) (by omega) (by omega)).mp b152
                                      refine lv_aload_n hx hb d_M_run_200 rfl (lv_at hl 1 rfl) ?_
                                      refine pf_get (v := .int (nI p7)) (C := "BigRunnerModel") (T := FT10) (N := 45) hx hb (hw10 hB _) (fun _ h9 => h9) hown hK hP (lo_in hL t_M (by decide)) e112 rfl 38 (by decide) (wd_985 hB _) rfl d_M_run_201 ?_
                                      refine lv_aload_n hx hb d_M_run_204 rfl (lv_at hl 1 rfl) ?_
                                      refine pf_get (v := .int (nI msz)) (C := "BigRunnerModel") (T := FT10) (N := 45) hx hb (hw10 hB _) (fun _ h9 => h9) hown hK hP (lo_in hL t_M (by decide)) e112 rfl 9 (by decide) (wd_956 hB _) rfl d_M_run_205 ?_
                                      refine lv_icmp_ne (tgt := 215) hx hb d_M_run_208 (by decide) (fun b158 => ?_) (fun b158 => ?_)
                                      · skip
                                        replace b158 := mt (nI_eq (a := p7) (b := msz) (by omega) (by omega)).mpr b158
                                        refine lv_aload_n hx hb d_M_run_215 rfl (lv_at hl 1 rfl) ?_
                                        refine pf_get (v := .int (nI s8)) (C := "BigRunnerModel") (T := FT10) (N := 45) hx hb (hw10 hB _) (fun _ h9 => h9) hown hK hP (lo_in hL t_M (by decide)) e112 rfl 39 (by decide) (wd_986 hB _) rfl d_M_run_216 ?_
                                        refine pf_put (v := .int (nI s8)) (ty := .int) (fs' := [.int ((nI 0)), .ref (g.lk M 1), .int (nI mn), .ref (g.lk M 3), .ref (g.lk M 4), .int (nI mdr), .ref (g.lk M 6), .ref (g.lk M 7), .ref (g.lk M 8), .int (nI msz), .int (nI mix), .int (nI mdp), .ref (g.lk M 12), .int (nI mwt), .ref (g.lk M 14), .ref (g.lk M 15), .int (nI mop), .ref (g.lk M 17), .ref (g.lk M 18), .ref (g.lk M 19), .ref (g.lk M 20), .ref (g.lk M 21), .ref (g.lk M 22), .ref (g.lk M 23), .ref (g.lk M 24), .ref (g.lk M 25), .ref (g.lk M 26), .ref (g.lk M 27), .ref (g.lk M 28), .ref (g.lk M 29), .ref (g.lk M 30), .ref (g.lk M 31), .int (nI tp1_86), .ref (g.lk M 33), .ref (g.lk M 34), .ref (g.lk M 35), .int (nI wa1_87), .int (nI gi1_88), .int (nI p7), .int (nI s8), .int (nI tr1_90), .int (nI sp1_91), .int ma1_92, .int lg1_93, .int mdu]) (C := "BigRunnerModel") (T := FT10) (N := 45) hx hb (hw10 hB _) (fun _ h9 => h9) TY10 ok10 nm10 hown hK hP hD hS (lo_in hL t_M (by decide)) e112 rfl 39 (by decide) (wd_986 hB _) rfl (by decide +kernel) rfl rfl (Nat.le_of_ble_eq_true rfl) rfl d_M_run_219 (fun f159 H locs e160 k161 hP hD hS => ?_)
                                        have eC := (k161 (g.lk M 6) (tg_ne (lo_k11_6 hL _ t_M) t_M (by decide))).trans eC
                                        have eA := (k161 (g.lk M 7) (tg_ne (lo_k11_7 hL _ t_M) t_M (by decide))).trans eA
                                        have hu := hu.st k161 t_M (by decide)
                                        have hv34 := hv34.st k161 t_M (by decide)
                                        have hv114 := hv114.st k161 t_M (by decide)
                                        have hk162 : ∀ b, b ≠ M → f159 b = f108 b := k161
                                        refine lv_goto (tgt := 56) hx hb d_M_run_222 (by decide) ?_
                                        have hI163 := iv_1 hI113 hL t_M (by decide) hk162 (oc_11.mk t_M (⟨(((nI 0))), mn, mdr, msz, mix, mdp, mwt, mop, tp1_86, wa1_87, gi1_88, p7, s8, tr1_90, sp1_91, ma1_92, lg1_93, mdu, e160, (by omega), (by omega), (by omega), (by omega), (by omega), (by omega), (by omega), (by omega), (by omega), (by omega), (by omega), (by omega), (by omega), (by omega), hmb14⟩))
                                        exact ih30 (md + 1) tp1_86 wa1_87 gi1_88 p7 s8 tr1_90 sp1_91 ma1_92 lg1_93 f159 H locs ls (by omega) (by omega) (by omega) (by omega) (by omega) (by omega) (by omega) (by omega) (by omega) (fun _ => ⟨by omega, hp6 (by omega), fun z => absurd ((nI_eq (by omega) (by omega)).mp (hw.symm.trans z)) (by omega), by omega⟩) e160 hI163 hv34 hl hP hD hS
                                      · skip
                                        replace b158 := (nI_eq (a := p7) (b := msz) (by omega) (by omega)).mp b158
                                        refine lv_iconst (v := nI 3) hx hb d_M_run_211 (by decide) ?_
                                        refine lv_goto (tgt := 219) hx hb d_M_run_212 (by decide) ?_
                                        refine pf_put (v := .int (nI 3)) (ty := .int) (fs' := [.int ((nI 0)), .ref (g.lk M 1), .int (nI mn), .ref (g.lk M 3), .ref (g.lk M 4), .int (nI mdr), .ref (g.lk M 6), .ref (g.lk M 7), .ref (g.lk M 8), .int (nI msz), .int (nI mix), .int (nI mdp), .ref (g.lk M 12), .int (nI mwt), .ref (g.lk M 14), .ref (g.lk M 15), .int (nI mop), .ref (g.lk M 17), .ref (g.lk M 18), .ref (g.lk M 19), .ref (g.lk M 20), .ref (g.lk M 21), .ref (g.lk M 22), .ref (g.lk M 23), .ref (g.lk M 24), .ref (g.lk M 25), .ref (g.lk M 26), .ref (g.lk M 27), .ref (g.lk M 28), .ref (g.lk M 29), .ref (g.lk M 30), .ref (g.lk M 31), .int (nI tp1_86), .ref (g.lk M 33), .ref (g.lk M 34), .ref (g.lk M 35), .int (nI wa1_87), .int (nI gi1_88), .int (nI p7), .int (nI 3), .int (nI tr1_90), .int (nI sp1_91), .int ma1_92, .int lg1_93, .int mdu]) (C := "BigRunnerModel") (T := FT10) (N := 45) hx hb (hw10 hB _) (fun _ h9 => h9) TY10 ok10 nm10 hown hK hP hD hS (lo_in hL t_M (by decide)) e112 rfl 39 (by decide) (wd_986 hB _) rfl (by decide +kernel) rfl rfl (Nat.le_of_ble_eq_true rfl) rfl d_M_run_219 (fun f164 H locs e165 k166 hP hD hS => ?_)
                                        have eC := (k166 (g.lk M 6) (tg_ne (lo_k11_6 hL _ t_M) t_M (by decide))).trans eC
                                        have eA := (k166 (g.lk M 7) (tg_ne (lo_k11_7 hL _ t_M) t_M (by decide))).trans eA
                                        have hu := hu.st k166 t_M (by decide)
                                        have hv34 := hv34.st k166 t_M (by decide)
                                        have hv114 := hv114.st k166 t_M (by decide)
                                        have hk167 : ∀ b, b ≠ M → f164 b = f108 b := k166
                                        refine lv_goto (tgt := 56) hx hb d_M_run_222 (by decide) ?_
                                        have hI168 := iv_1 hI113 hL t_M (by decide) hk167 (oc_11.mk t_M (⟨(((nI 0))), mn, mdr, msz, mix, mdp, mwt, mop, tp1_86, wa1_87, gi1_88, p7, 3, tr1_90, sp1_91, ma1_92, lg1_93, mdu, e165, (by omega), (by omega), (by omega), (by omega), (by omega), (by omega), (by omega), (by omega), (by omega), (by omega), (by omega), (by omega), (by omega), (by omega), hmb14⟩))
                                        exact ih30 (md + 1) tp1_86 wa1_87 gi1_88 p7 3 tr1_90 sp1_91 ma1_92 lg1_93 f164 H locs ls (by omega) (by omega) (by omega) (by omega) (by omega) (by omega) (by omega) (by omega) (by omega) (fun z => absurd z (by omega)) e165 hI168 hv34 hl hP hD hS
                                  · skip
                                    replace b151 := (nI_eq (a := w) (b := 12) (by omega) (by omega)).mp b151
                                    have hw12 : w = 12 := by omega
                                    have hjj := wo_j hWO hw12
                                    have hf0 : fl = 0 := by rcases (show fl = 0 ∨ fl = 1 by omega) with q | q; exact q; exact absurd (hw.trans (congrArg nI hw12)) (hJF q)
                                    have hv36 := hjj.1
                                    rcases wo_jb hWO hw12 with hjf | ⟨w', hj1, hj2, hj3⟩
                                    · skip
                                      refine lv_aload_n hx hb d_M_run_175 rfl (lv_at hl 1 rfl) ?_
                                      refine lv_aload_n hx hb d_M_run_176 rfl (lv_at hl 1 rfl) ?_
                                      refine pf_get (v := .ref (g.lk M 7)) (C := "BigRunnerModel") (T := FT10) (N := 45) hx hb (hw10 hB _) (fun _ h9 => h9) hown hK hP (lo_in hL t_M (by decide)) e112 rfl 7 (by decide) (wd_954 hB _) rfl d_M_run_177 ?_
                                      refine lv_aload_n hx hb d_M_run_180 rfl (lv_at hl 1 rfl) ?_
                                      refine pf_get (v := .int (nI p7)) (C := "BigRunnerModel") (T := FT10) (N := 45) hx hb (hw10 hB _) (fun _ h9 => h9) hown hK hP (lo_in hL t_M (by decide)) e112 rfl 38 (by decide) (wd_985 hB _) rfl d_M_run_181 ?_
                                      refine pf_iald (i := p7) hx hb hK hP (lo_in hL (lo_k11_7 hL _ t_M) (by decide)) eA (lo_t44 hL _ (lo_k11_7 hL _ t_M)) (by omega) (by decide) d_M_run_184 ?_
                                      refine lv_topi (fun z_ hz_ => ?_)
                                      obtain rfl : z_ = nI v := hz_.trans hv
                                      refine pf_put (v := .int (nI v)) (ty := .int) (fs' := [.int ((nI 0)), .ref (g.lk M 1), .int (nI mn), .ref (g.lk M 3), .ref (g.lk M 4), .int (nI mdr), .ref (g.lk M 6), .ref (g.lk M 7), .ref (g.lk M 8), .int (nI msz), .int (nI mix), .int (nI mdp), .ref (g.lk M 12), .int (nI mwt), .ref (g.lk M 14), .ref (g.lk M 15), .int (nI mop), .ref (g.lk M 17), .ref (g.lk M 18), .ref (g.lk M 19), .ref (g.lk M 20), .ref (g.lk M 21), .ref (g.lk M 22), .ref (g.lk M 23), .ref (g.lk M 24), .ref (g.lk M 25), .ref (g.lk M 26), .ref (g.lk M 27), .ref (g.lk M 28), .ref (g.lk M 29), .ref (g.lk M 30), .ref (g.lk M 31), .int (nI tp1_86), .ref (g.lk M 33), .ref (g.lk M 34), .ref (g.lk M 35), .int (nI wa1_87), .int (nI gi1_88), .int (nI v), .int (nI s8), .int (nI tr1_90), .int (nI sp1_91), .int ma1_92, .int lg1_93, .int mdu]) (C := "BigRunnerModel") (T := FT10) (N := 45) hx hb (hw10 hB _) (fun _ h9 => h9) TY10 ok10 nm10 hown hK hP hD hS (lo_in hL t_M (by decide)) e112 rfl 38 (by decide) (wd_985 hB _) rfl (by decide +kernel) rfl rfl (Nat.le_of_ble_eq_true rfl) rfl d_M_run_185 (fun f169 H locs e170 k171 hP hD hS => ?_)
                                      have eC := (k171 (g.lk M 6) (tg_ne (lo_k11_6 hL _ t_M) t_M (by decide))).trans eC
                                      have eA := (k171 (g.lk M 7) (tg_ne (lo_k11_7 hL _ t_M) t_M (by decide))).trans eA
                                      have hu := hu.st k171 t_M (by decide)
                                      have hv34 := hv34.st k171 t_M (by decide)
                                      have hv114 := hv114.st k171 t_M (by decide)
                                      have hk172 : ∀ b, b ≠ M → f169 b = f108 b := k171
                                      refine lv_goto (tgt := 142) hx hb d_M_run_188 (by decide) ?_
                                      have hI173 := iv_1 hI113 hL t_M (by decide) hk172 (oc_11.mk t_M (⟨(((nI 0))), mn, mdr, msz, mix, mdp, mwt, mop, tp1_86, wa1_87, gi1_88, v, s8, tr1_90, sp1_91, ma1_92, lg1_93, mdu, e170, (by omega), (by omega), (by omega), (by omega), (by omega), (by omega), (by omega), (by omega), (by omega), (by omega), (by omega), (by omega), (by omega), (by omega), hmb14⟩))
                                      exact ih110 v 0 f169 H locs ls (by omega) (by omega) hjj.2 (by omega) (fun z => absurd z (by omega)) e170 hI173 hv114 hl hP hD hS
                                    · skip
                                      refine lv_aload_n hx hb d_M_run_175 rfl (lv_at hl 1 rfl) ?_
                                      refine lv_aload_n hx hb d_M_run_176 rfl (lv_at hl 1 rfl) ?_
                                      refine pf_get (v := .ref (g.lk M 7)) (C := "BigRunnerModel") (T := FT10) (N := 45) hx hb (hw10 hB _) (fun _ h9 => h9) hown hK hP (lo_in hL t_M (by decide)) e112 rfl 7 (by decide) (wd_954 hB _) rfl d_M_run_177 ?_
                                      refine lv_aload_n hx hb d_M_run_180 rfl (lv_at hl 1 rfl) ?_
                                      refine pf_get (v := .int (nI p7)) (C := "BigRunnerModel") (T := FT10) (N := 45) hx hb (hw10 hB _) (fun _ h9 => h9) hown hK hP (lo_in hL t_M (by decide)) e112 rfl 38 (by decide) (wd_985 hB _) rfl d_M_run_181 ?_
                                      refine pf_iald (i := p7) hx hb hK hP (lo_in hL (lo_k11_7 hL _ t_M) (by decide)) eA (lo_t44 hL _ (lo_k11_7 hL _ t_M)) (by omega) (by decide) d_M_run_184 ?_
                                      refine lv_topi (fun z_ hz_ => ?_)
                                      obtain rfl : z_ = nI v := hz_.trans hv
                                      refine pf_put (v := .int (nI v)) (ty := .int) (fs' := [.int ((nI 0)), .ref (g.lk M 1), .int (nI mn), .ref (g.lk M 3), .ref (g.lk M 4), .int (nI mdr), .ref (g.lk M 6), .ref (g.lk M 7), .ref (g.lk M 8), .int (nI msz), .int (nI mix), .int (nI mdp), .ref (g.lk M 12), .int (nI mwt), .ref (g.lk M 14), .ref (g.lk M 15), .int (nI mop), .ref (g.lk M 17), .ref (g.lk M 18), .ref (g.lk M 19), .ref (g.lk M 20), .ref (g.lk M 21), .ref (g.lk M 22), .ref (g.lk M 23), .ref (g.lk M 24), .ref (g.lk M 25), .ref (g.lk M 26), .ref (g.lk M 27), .ref (g.lk M 28), .ref (g.lk M 29), .ref (g.lk M 30), .ref (g.lk M 31), .int (nI tp1_86), .ref (g.lk M 33), .ref (g.lk M 34), .ref (g.lk M 35), .int (nI wa1_87), .int (nI gi1_88), .int (nI v), .int (nI s8), .int (nI tr1_90), .int (nI sp1_91), .int ma1_92, .int lg1_93, .int mdu]) (C := "BigRunnerModel") (T := FT10) (N := 45) hx hb (hw10 hB _) (fun _ h9 => h9) TY10 ok10 nm10 hown hK hP hD hS (lo_in hL t_M (by decide)) e112 rfl 38 (by decide) (wd_985 hB _) rfl (by decide +kernel) rfl rfl (Nat.le_of_ble_eq_true rfl) rfl d_M_run_185 (fun f174 H locs e175 k176 hP hD hS => ?_)
                                      have eC := (k176 (g.lk M 6) (tg_ne (lo_k11_6 hL _ t_M) t_M (by decide))).trans eC
                                      have eA := (k176 (g.lk M 7) (tg_ne (lo_k11_7 hL _ t_M) t_M (by decide))).trans eA
                                      have hu := hu.st k176 t_M (by decide)
                                      have hv34 := hv34.st k176 t_M (by decide)
                                      have hv114 := hv114.st k176 t_M (by decide)
                                      have hk177 : ∀ b, b ≠ M → f174 b = f108 b := k176
                                      refine lv_goto (tgt := 142) hx hb d_M_run_188 (by decide) ?_
                                      have hI178 := iv_1 hI113 hL t_M (by decide) hk177 (oc_11.mk t_M (⟨(((nI 0))), mn, mdr, msz, mix, mdp, mwt, mop, tp1_86, wa1_87, gi1_88, v, s8, tr1_90, sp1_91, ma1_92, lg1_93, mdu, e175, (by omega), (by omega), (by omega), (by omega), (by omega), (by omega), (by omega), (by omega), (by omega), (by omega), (by omega), (by omega), (by omega), (by omega), hmb14⟩))
                                      exact ih110 v 1 f174 H locs ls (by omega) (by omega) hjj.2 (by omega) (fun _ z => absurd ((nI_eq (by omega) (by omega)).mp (hj1.symm.trans z)) (by omega)) e175 hI178 hv114 hl hP hD hS
                          exact lp107 (msz + 2) pc1_89 0 f102 H locs ls (by omega) (by omega) j2 (by omega) (fun z => absurd z (by omega)) e103 hI106 un.rf hl hP hD hS
                        · skip
                          replace b101 := mt (nI_leI (a := tr1_90) (b := 0) (by omega) (by omega)).mpr b101
                          refine lv_iconst (v := nI 4) hx hb d_M_run_131 (by decide) ?_
                          refine lv_goto (tgt := 139) hx hb d_M_run_132 (by decide) ?_
                          refine pf_put (v := .int (nI 4)) (ty := .int) (fs' := [.int (nI 0), .ref (g.lk M 1), .int (nI mn), .ref (g.lk M 3), .ref (g.lk M 4), .int (nI mdr), .ref (g.lk M 6), .ref (g.lk M 7), .ref (g.lk M 8), .int (nI msz), .int (nI mix), .int (nI mdp), .ref (g.lk M 12), .int (nI mwt), .ref (g.lk M 14), .ref (g.lk M 15), .int (nI mop), .ref (g.lk M 17), .ref (g.lk M 18), .ref (g.lk M 19), .ref (g.lk M 20), .ref (g.lk M 21), .ref (g.lk M 22), .ref (g.lk M 23), .ref (g.lk M 24), .ref (g.lk M 25), .ref (g.lk M 26), .ref (g.lk M 27), .ref (g.lk M 28), .ref (g.lk M 29), .ref (g.lk M 30), .ref (g.lk M 31), .int (nI tp1_86), .ref (g.lk M 33), .ref (g.lk M 34), .ref (g.lk M 35), .int (nI wa1_87), .int (nI gi1_88), .int (nI pc1_89), .int (nI 4), .int (nI tr1_90), .int (nI sp1_91), .int ma1_92, .int lg1_93, .int mdu]) (C := "BigRunnerModel") (T := FT10) (N := 45) hx hb (hw10 hB _) (fun _ h9 => h9) TY10 ok10 nm10 hown hK hP hD hS (lo_in hL t_M (by decide)) e85 rfl 39 (by decide) (wd_986 hB _) rfl (by decide +kernel) rfl rfl (Nat.le_of_ble_eq_true rfl) rfl d_M_run_139 (fun f179 H locs e180 k181 hP hD hS => ?_)
                          have eC := (k181 (g.lk M 6) (tg_ne (lo_k11_6 hL _ t_M) t_M (by decide))).trans eC
                          have eA := (k181 (g.lk M 7) (tg_ne (lo_k11_7 hL _ t_M) t_M (by decide))).trans eA
                          have hu := hu.st k181 t_M (by decide)
                          have hv34 := hv34.st k181 t_M (by decide)
                          have hk182 : ∀ b, b ≠ M → f179 b = f80 b := k181
                          refine lv_aload_n hx hb d_M_run_142 rfl (lv_at hl 1 rfl) ?_
                          refine pf_get (v := .int (nI 4)) (C := "BigRunnerModel") (T := FT10) (N := 45) hx hb (hw10 hB _) (fun _ h9 => h9) hown hK hP (lo_in hL t_M (by decide)) e180 rfl 39 (by decide) (wd_986 hB _) rfl d_M_run_143 ?_
                          refine lv_iconst (v := nI 1) hx hb d_M_run_146 (by decide) ?_
                          refine lv_icmp_ne (tgt := 191) hx hb d_M_run_147 (by decide) (fun b183 => ?_) (fun b183 => ?_)
                          · skip
                            replace b183 := mt (nI_eq (a := 4) (b := 1) (by omega) (by omega)).mpr b183
                            refine lv_aload_n hx hb d_M_run_191 rfl (lv_at hl 1 rfl) ?_
                            refine lv_aload_n hx hb d_M_run_192 rfl (lv_at hl 1 rfl) ?_
                            refine pf_get (v := .int (nI 4)) (C := "BigRunnerModel") (T := FT10) (N := 45) hx hb (hw10 hB _) (fun _ h9 => h9) hown hK hP (lo_in hL t_M (by decide)) e180 rfl 39 (by decide) (wd_986 hB _) rfl d_M_run_193 ?_
                            refine lv_iconst (v := nI 1) hx hb d_M_run_196 (by decide) ?_
                            refine lv_icmp_ne (tgt := 215) hx hb d_M_run_197 (by decide) (fun b184 => ?_) (fun b184 => ?_)
                            · skip
                              replace b184 := mt (nI_eq (a := 4) (b := 1) (by omega) (by omega)).mpr b184
                              refine lv_aload_n hx hb d_M_run_215 rfl (lv_at hl 1 rfl) ?_
                              refine pf_get (v := .int (nI 4)) (C := "BigRunnerModel") (T := FT10) (N := 45) hx hb (hw10 hB _) (fun _ h9 => h9) hown hK hP (lo_in hL t_M (by decide)) e180 rfl 39 (by decide) (wd_986 hB _) rfl d_M_run_216 ?_
                              refine pf_put (v := .int (nI 4)) (ty := .int) (fs' := [.int (nI 0), .ref (g.lk M 1), .int (nI mn), .ref (g.lk M 3), .ref (g.lk M 4), .int (nI mdr), .ref (g.lk M 6), .ref (g.lk M 7), .ref (g.lk M 8), .int (nI msz), .int (nI mix), .int (nI mdp), .ref (g.lk M 12), .int (nI mwt), .ref (g.lk M 14), .ref (g.lk M 15), .int (nI mop), .ref (g.lk M 17), .ref (g.lk M 18), .ref (g.lk M 19), .ref (g.lk M 20), .ref (g.lk M 21), .ref (g.lk M 22), .ref (g.lk M 23), .ref (g.lk M 24), .ref (g.lk M 25), .ref (g.lk M 26), .ref (g.lk M 27), .ref (g.lk M 28), .ref (g.lk M 29), .ref (g.lk M 30), .ref (g.lk M 31), .int (nI tp1_86), .ref (g.lk M 33), .ref (g.lk M 34), .ref (g.lk M 35), .int (nI wa1_87), .int (nI gi1_88), .int (nI pc1_89), .int (nI 4), .int (nI tr1_90), .int (nI sp1_91), .int ma1_92, .int lg1_93, .int mdu]) (C := "BigRunnerModel") (T := FT10) (N := 45) hx hb (hw10 hB _) (fun _ h9 => h9) TY10 ok10 nm10 hown hK hP hD hS (lo_in hL t_M (by decide)) e180 rfl 39 (by decide) (wd_986 hB _) rfl (by decide +kernel) rfl rfl (Nat.le_of_ble_eq_true rfl) rfl d_M_run_219 (fun f185 H locs e186 k187 hP hD hS => ?_)
                              have eC := (k187 (g.lk M 6) (tg_ne (lo_k11_6 hL _ t_M) t_M (by decide))).trans eC
                              have eA := (k187 (g.lk M 7) (tg_ne (lo_k11_7 hL _ t_M) t_M (by decide))).trans eA
                              have hu := hu.st k187 t_M (by decide)
                              have hv34 := hv34.st k187 t_M (by decide)
                              have hk188 : ∀ b, b ≠ M → f185 b = f80 b := fun b q0 => (k187 b q0).trans (hk182 b q0)
                              refine lv_goto (tgt := 56) hx hb d_M_run_222 (by decide) ?_
                              have hI189 := iv_1 hI1_83 hL t_M (by decide) hk188 (oc_11.mk t_M (⟨((nI 0)), mn, mdr, msz, mix, mdp, mwt, mop, tp1_86, wa1_87, gi1_88, pc1_89, 4, tr1_90, sp1_91, ma1_92, lg1_93, mdu, e186, (by omega), (by omega), (by omega), (by omega), (by omega), (by omega), (by omega), (by omega), (by omega), (by omega), (by omega), (by omega), (by omega), (by omega), hmb14⟩))
                              exact ih30 (md + 1) tp1_86 wa1_87 gi1_88 pc1_89 4 tr1_90 sp1_91 ma1_92 lg1_93 f185 H locs ls (by omega) (by omega) (by omega) (by omega) (by omega) (by omega) (by omega) (by omega) (by omega) (fun z => absurd z (by omega)) e186 hI189 hv34 hl hP hD hS
                            · skip
                              replace b184 := (nI_eq (a := 4) (b := 1) (by omega) (by omega)).mp b184
                              exfalso; omega
                          · skip
                            replace b183 := (nI_eq (a := 4) (b := 1) (by omega) (by omega)).mp b183
                            exfalso; omega
                      · skip
                        replace b78 := (nI_eq (a := w) (b := 9) (by omega) (by omega)).mp b78
                        refine lv_aload_n hx hb d_M_run_101 rfl (lv_at hl 1 rfl) ?_
                        refine pf_get (v := .int (nI w8)) (C := "BigRunnerModel") (T := FT10) (N := 45) hx hb (hw10 hB _) (fun _ h9 => h9) hown hK hP (lo_in hL t_M (by decide)) e32 rfl 36 (by decide) (wd_983 hB _) rfl d_M_run_102 ?_
                        refine lv_if_ne (tgt := 116) hx hb d_M_run_105 (by decide) (fun b190 => ?_) (fun b190 => ?_)
                        · skip
                          replace b190 := mt (nI_eq (a := w8) (b := 0) (by omega) (by omega)).mpr b190
                          refine lv_aload_n hx hb d_M_run_116 rfl (lv_at hl 1 rfl) ?_
                          refine pcc_v (va_runV (C := "BigRunnerModel") (As := []) (rest := []) ⟨hx, hb, hml, hown, tb_nil⟩ (m_step l g H.size f28 M ((nI 0)) mn mdr msz mix mdp mwt mop t8 w8 g8 p8 s8 x8 y8 ma8 lg8 mdu hC hA dpf hL t_M hI33 e32 ⟨(by omega), (by omega), (by omega), (by omega), (by omega), (by omega), (by omega), (by omega), (by omega), (by omega), (by omega), (by omega), (by omega), (by omega), hmb14⟩ eC eA hWF (by omega) (by omega) q3 (Or.inr (by omega)) (by omega) (by omega)) ⟨(callB_of 0 (tb_one (wd_1203 hB _)) tb_good1 rfl rfl rfl (wd_82 hB _) (wd_1200 hB _) (by decide +kernel) ⟨Nat.le_of_ble_eq_true rfl, Nat.le_of_ble_eq_true rfl⟩), (wd_1202 hB _), (wd_57 hB _)⟩ ⟨pe_bl, pg_recv (ci := 10) hK hP (lo_in hL t_M (by decide)) e32 rfl, pe_pre hB hK hP hD⟩ rfl rfl hl.1 rfl (lv_room (Nat.le_of_ble_eq_true rfl)) d_M_run_117 ⟨Nat.le_of_ble_eq_true rfl, Nat.le_of_ble_eq_true rfl⟩) hS (fun f192 H locs hq193 hP hD hS => ?_)
                          obtain ⟨x1_194, hI1_195, hu1_196⟩ := hq193
                          have hu := hu.tr hu1_196 (by decide)
                          have hv34 := hv34.tr hu1_196 (by decide)
                          have eC := hu1_196.at (lo_k11_6 hL _ t_M) (by decide) eC
                          have eA := hu1_196.at (lo_k11_7 hL _ t_M) (by decide) eA
                          obtain ⟨tp1_198, wa1_199, gi1_200, pc1_201, tr1_202, sp1_203, ma1_204, lg1_205, c206, c207, c208, c209, c210, c211, c212, e197⟩ := x1_194
                          refine lv_iinc (k := 0) (v := nI (md + 1)) (lv' := [(2, .int (nI (md + 1))), (0, .ref M), (1, .int (nI kn))]) hx hb d_M_run_120 hl rfl (by rw [nI_succ]; rfl) (by decide) rfl (fun ls hl => ?_)
                          refine lv_aload_n hx hb d_M_run_123 rfl (lv_at hl 1 rfl) ?_
                          refine lv_aload_n hx hb d_M_run_124 rfl (lv_at hl 1 rfl) ?_
                          refine pf_get (v := .int (nI tr1_202)) (C := "BigRunnerModel") (T := FT10) (N := 45) hx hb (hw10 hB _) (fun _ h9 => h9) hown hK hP (lo_in hL t_M (by decide)) e197 rfl 40 (by decide) (wd_987 hB _) rfl d_M_run_125 ?_
                          refine lv_if_le (tgt := 135) hx hb d_M_run_128 (by decide) (fun b213 => ?_) (fun b213 => ?_)
                          · skip
                            replace b213 := (nI_leI (a := tr1_202) (b := 0) (by omega) (by omega)).mp b213
                            refine lv_aload_n hx hb d_M_run_135 rfl (lv_at hl 1 rfl) ?_
                            refine pf_get (v := .int (nI s8)) (C := "BigRunnerModel") (T := FT10) (N := 45) hx hb (hw10 hB _) (fun _ h9 => h9) hown hK hP (lo_in hL t_M (by decide)) e197 rfl 39 (by decide) (wd_986 hB _) rfl d_M_run_136 ?_
                            refine pf_put (v := .int (nI s8)) (ty := .int) (fs' := [.int (nI 0), .ref (g.lk M 1), .int (nI mn), .ref (g.lk M 3), .ref (g.lk M 4), .int (nI mdr), .ref (g.lk M 6), .ref (g.lk M 7), .ref (g.lk M 8), .int (nI msz), .int (nI mix), .int (nI mdp), .ref (g.lk M 12), .int (nI mwt), .ref (g.lk M 14), .ref (g.lk M 15), .int (nI mop), .ref (g.lk M 17), .ref (g.lk M 18), .ref (g.lk M 19), .ref (g.lk M 20), .ref (g.lk M 21), .ref (g.lk M 22), .ref (g.lk M 23), .ref (g.lk M 24), .ref (g.lk M 25), .ref (g.lk M 26), .ref (g.lk M 27), .ref (g.lk M 28), .ref (g.lk M 29), .ref (g.lk M 30), .ref (g.lk M 31), .int (nI tp1_198), .ref (g.lk M 33), .ref (g.lk M 34), .ref (g.lk M 35), .int (nI wa1_199), .int (nI gi1_200), .int (nI pc1_201), .int (nI s8), .int (nI tr1_202), .int (nI sp1_203), .int ma1_204, .int lg1_205, .int mdu]) (C := "BigRunnerModel") (T := FT10) (N := 45) hx hb (hw10 hB _) (fun _ h9 => h9) TY10 ok10 nm10 hown hK hP hD hS (lo_in hL t_M (by decide)) e197 rfl 39 (by decide) (wd_986 hB _) rfl (by decide +kernel) rfl rfl (Nat.le_of_ble_eq_true rfl) rfl d_M_run_139 (fun f214 H locs e215 k216 hP hD hS => ?_)
                            have eC := (k216 (g.lk M 6) (tg_ne (lo_k11_6 hL _ t_M) t_M (by decide))).trans eC
                            have eA := (k216 (g.lk M 7) (tg_ne (lo_k11_7 hL _ t_M) t_M (by decide))).trans eA
                            have hu := hu.st k216 t_M (by decide)
                            have hv34 := hv34.st k216 t_M (by decide)
                            have hk217 : ∀ b, b ≠ M → f214 b = f192 b := k216
                            obtain ⟨j1, j2⟩ := c212 (by omega)
                            have hI218 := iv_1 hI1_195 hL t_M (by decide) hk217 (oc_11.mk t_M (⟨((nI 0)), mn, mdr, msz, mix, mdp, mwt, mop, tp1_198, wa1_199, gi1_200, pc1_201, s8, tr1_202, sp1_203, ma1_204, lg1_205, mdu, e215, (by omega), (by omega), (by omega), (by omega), (by omega), (by omega), (by omega), (by omega), (by omega), (by omega), (by omega), (by omega), (by omega), (by omega), hmb14⟩))
                            have lp219 : ∀ (k221 : Nat) (p7 : Nat) (fl : Nat) (f220 : Nat → va_E) (H : Heap) (locs : List Loc) (ls : Array Slot), ((fl = 0 ∧ msz < p7 + k221) ∨ (fl = 1 ∧ 0 < k221)) → (p7 ≤ msz) → (PZ0 dpf msz p7) → (fl ≤ 1) → (JF hC p7 fl) → f220 M = .inr (10, [.int ((nI 0)), .ref (g.lk M 1), .int (nI mn), .ref (g.lk M 3), .ref (g.lk M 4), .int (nI mdr), .ref (g.lk M 6), .ref (g.lk M 7), .ref (g.lk M 8), .int (nI msz), .int (nI mix), .int (nI mdp), .ref (g.lk M 12), .int (nI mwt), .ref (g.lk M 14), .ref (g.lk M 15), .int (nI mop), .ref (g.lk M 17), .ref (g.lk M 18), .ref (g.lk M 19), .ref (g.lk M 20), .ref (g.lk M 21), .ref (g.lk M 22), .ref (g.lk M 23), .ref (g.lk M 24), .ref (g.lk M 25), .ref (g.lk M 26), .ref (g.lk M 27), .ref (g.lk M 28), .ref (g.lk M 29), .ref (g.lk M 30), .ref (g.lk M 31), .int (nI tp1_198), .ref (g.lk M 33), .ref (g.lk M 34), .ref (g.lk M 35), .int (nI wa1_199), .int (nI gi1_200), .int (nI p7), .int (nI s8), .int (nI tr1_202), .int (nI sp1_203), .int ma1_204, .int lg1_205, .int mdu]) → IV g f220 → un [11] g f214 f220 → lv_has ls 3 [(2, .int (nI (md + 1))), (0, .ref M), (1, .int (nI kn))] → va_P g.D vcl (va_pl g.LP f220) H → va_D (pc_A g s.heap.size) (va_pl g.LP f220) → va_S (pc_A g s.heap.size) s.heap H locs → W p l e ({ frames := 5, cells := 0, slots := 0, locals := 124 }) s m args below meth c H locs 0 0 (MQ below (va_Qi (fun r f1 => (∃ (th1 : Int32) (tp1 : Nat) (wa1 : Nat) (gi1 : Nat) (pc1 : Nat) (st1 : Nat) (tr1 : Nat) (sp1 : Nat) (ma1 : Int32) (lg1 : Int32), (tp1 ≤ 80) ∧ (wa1 ≤ 20) ∧ (gi1 ≤ sp1) ∧ (pc1 ≤ 100) ∧ (st1 ≤ 4) ∧ (tr1 ≤ 3) ∧ (sp1 ≤ 3000) ∧ (RI hC dpf msz st1 pc1 tr1) ∧ f1 M = .inr (10, [.int th1, .ref (g.lk M 1), .int (nI mn), .ref (g.lk M 3), .ref (g.lk M 4), .int (nI mdr), .ref (g.lk M 6), .ref (g.lk M 7), .ref (g.lk M 8), .int (nI msz), .int (nI mix), .int (nI mdp), .ref (g.lk M 12), .int (nI mwt), .ref (g.lk M 14), .ref (g.lk M 15), .int (nI mop), .ref (g.lk M 17), .ref (g.lk M 18), .ref (g.lk M 19), .ref (g.lk M 20), .ref (g.lk M 21), .ref (g.lk M 22), .ref (g.lk M 23), .ref (g.lk M 24), .ref (g.lk M 25), .ref (g.lk M 26), .ref (g.lk M 27), .ref (g.lk M 28), .ref (g.lk M 29), .ref (g.lk M 30), .ref (g.lk M 31), .int (nI tp1), .ref (g.lk M 33), .ref (g.lk M 34), .ref (g.lk M 35), .int (nI wa1), .int (nI gi1), .int (nI pc1), .int (nI st1), .int (nI tr1), .int (nI sp1), .int ma1, .int lg1, .int mdu])) ∧ (IV g f1) ∧ (un [11, 58, 59, 60, 61, 62, 63, 64, 65, 66] g f f1)) (pc_out g s.heap.size) (pc_A g s.heap.size)) args s 0 0 (pc_A g s.heap.size)) (F0 m 142 ls []) := by
                              intro k221
                              induction k221 with
                              | zero => intros; exfalso; omega
                              | succ k221 ih222 =>
                                intro p7 fl f220 H locs ls hfu223 hp7 hp6 hfl hJF e224 hI225 hv226 hl hP hD hS
                                have eC := hv226.at (lo_k11_6 hL _ t_M) (by decide) eC
                                have eA := hv226.at (lo_k11_7 hL _ t_M) (by decide) eA
                                have hu := hu.tr hv226 (by decide)
                                have hv34 := hv34.tr hv226 (by decide)
                                refine lv_aload_n hx hb d_M_run_142 rfl (lv_at hl 1 rfl) ?_
                                refine pf_get (v := .int (nI s8)) (C := "BigRunnerModel") (T := FT10) (N := 45) hx hb (hw10 hB _) (fun _ h9 => h9) hown hK hP (lo_in hL t_M (by decide)) e224 rfl 39 (by decide) (wd_986 hB _) rfl d_M_run_143 ?_
                                refine lv_iconst (v := nI 1) hx hb d_M_run_146 (by decide) ?_
                                refine lv_icmp_ne (tgt := 191) hx hb d_M_run_147 (by decide) (fun b227 => ?_) (fun b227 => ?_)
                                · skip
                                  replace b227 := mt (nI_eq (a := s8) (b := 1) (by omega) (by omega)).mpr b227
                                  refine lv_aload_n hx hb d_M_run_191 rfl (lv_at hl 1 rfl) ?_
                                  refine lv_aload_n hx hb d_M_run_192 rfl (lv_at hl 1 rfl) ?_
                                  refine pf_get (v := .int (nI s8)) (C := "BigRunnerModel") (T := FT10) (N := 45) hx hb (hw10 hB _) (fun _ h9 => h9) hown hK hP (lo_in hL t_M (by decide)) e224 rfl 39 (by decide) (wd_986 hB _) rfl d_M_run_193 ?_
                                  refine lv_iconst (v := nI 1) hx hb d_M_run_196 (by decide) ?_
                                  refine lv_icmp_ne (tgt := 215) hx hb d_M_run_197 (by decide) (fun b228 => ?_) (fun b228 => ?_)
                                  · skip
                                    replace b228 := mt (nI_eq (a := s8) (b := 1) (by omega) (by omega)).mpr b228
                                    refine lv_aload_n hx hb d_M_run_215 rfl (lv_at hl 1 rfl) ?_
                                    refine pf_get (v := .int (nI s8)) (C := "BigRunnerModel") (T := FT10) (N := 45) hx hb (hw10 hB _) (fun _ h9 => h9) hown hK hP (lo_in hL t_M (by decide)) e224 rfl 39 (by decide) (wd_986 hB _) rfl d_M_run_216 ?_
                                    refine pf_put (v := .int (nI s8)) (ty := .int) (fs' := [.int ((nI 0)), .ref (g.lk M 1), .int (nI mn), .ref (g.lk M 3), .ref (g.lk M 4), .int (nI mdr), .ref (g.lk M 6), .ref (g.lk M 7), .ref (g.lk M 8), .int (nI msz), .int (nI mix), .int (nI mdp), .ref (g.lk M 12), .int (nI mwt), .ref (g.lk M 14), .ref (g.lk M 15), .int (nI mop), .ref (g.lk M 17), .ref (g.lk M 18), .ref (g.lk M 19), .ref (g.lk M 20), .ref (g.lk M 21), .ref (g.lk M 22), .ref (g.lk M 23), .ref (g.lk M 24), .ref (g.lk M 25), .ref (g.lk M 26), .ref (g.lk M 27), .ref (g.lk M 28), .ref (g.lk M 29), .ref (g.lk M 30), .ref (g.lk M 31), .int (nI tp1_198), .ref (g.lk M 33), .ref (g.lk M 34), .ref (g.lk M 35), .int (nI wa1_199), .int (nI gi1_200), .int (nI p7), .int (nI s8), .int (nI tr1_202), .int (nI sp1_203), .int ma1_204, .int lg1_205, .int mdu]) (C := "BigRunnerModel") (T := FT10) (N := 45) hx hb (hw10 hB _) (fun _ h9 => h9) TY10 ok10 nm10 hown hK hP hD hS (lo_in hL t_M (by decide)) e224 rfl 39 (by decide) (wd_986 hB _) rfl (by decide +kernel) rfl rfl (Nat.le_of_ble_eq_true rfl) rfl d_M_run_219 (fun f229 H locs e230 k231 hP hD hS => ?_)
                                    have eC := (k231 (g.lk M 6) (tg_ne (lo_k11_6 hL _ t_M) t_M (by decide))).trans eC
                                    have eA := (k231 (g.lk M 7) (tg_ne (lo_k11_7 hL _ t_M) t_M (by decide))).trans eA
                                    have hu := hu.st k231 t_M (by decide)
                                    have hv34 := hv34.st k231 t_M (by decide)
                                    have hv226 := hv226.st k231 t_M (by decide)
                                    have hk232 : ∀ b, b ≠ M → f229 b = f220 b := k231
                                    refine lv_goto (tgt := 56) hx hb d_M_run_222 (by decide) ?_
                                    have hI233 := iv_1 hI225 hL t_M (by decide) hk232 (oc_11.mk t_M (⟨(((nI 0))), mn, mdr, msz, mix, mdp, mwt, mop, tp1_198, wa1_199, gi1_200, p7, s8, tr1_202, sp1_203, ma1_204, lg1_205, mdu, e230, (by omega), (by omega), (by omega), (by omega), (by omega), (by omega), (by omega), (by omega), (by omega), (by omega), (by omega), (by omega), (by omega), (by omega), hmb14⟩))
                                    exact ih30 (md + 1) tp1_198 wa1_199 gi1_200 p7 s8 tr1_202 sp1_203 ma1_204 lg1_205 f229 H locs ls (by omega) (by omega) (by omega) (by omega) (by omega) (by omega) (by omega) (by omega) (by omega) (by exfalso; omega) e230 hI233 hv34 hl hP hD hS
                                  · skip
                                    replace b228 := (nI_eq (a := s8) (b := 1) (by omega) (by omega)).mp b228
                                    refine lv_aload_n hx hb d_M_run_200 rfl (lv_at hl 1 rfl) ?_
                                    refine pf_get (v := .int (nI p7)) (C := "BigRunnerModel") (T := FT10) (N := 45) hx hb (hw10 hB _) (fun _ h9 => h9) hown hK hP (lo_in hL t_M (by decide)) e224 rfl 38 (by decide) (wd_985 hB _) rfl d_M_run_201 ?_
                                    refine lv_aload_n hx hb d_M_run_204 rfl (lv_at hl 1 rfl) ?_
                                    refine pf_get (v := .int (nI msz)) (C := "BigRunnerModel") (T := FT10) (N := 45) hx hb (hw10 hB _) (fun _ h9 => h9) hown hK hP (lo_in hL t_M (by decide)) e224 rfl 9 (by decide) (wd_956 hB _) rfl d_M_run_205 ?_
                                    refine lv_icmp_ne (tgt := 215) hx hb d_M_run_208 (by decide) (fun b234 => ?_) (fun b234 => ?_)
                                    · skip
                                      replace b234 := mt (nI_eq (a := p7) (b := msz) (by omega) (by omega)).mpr b234
                                      refine lv_aload_n hx hb d_M_run_215 rfl (lv_at hl 1 rfl) ?_
                                      refine pf_get (v := .int (nI s8)) (C := "BigRunnerModel") (T := FT10) (N := 45) hx hb (hw10 hB _) (fun _ h9 => h9) hown hK hP (lo_in hL t_M (by decide)) e224 rfl 39 (by decide) (wd_986 hB _) rfl d_M_run_216 ?_
                                      refine pf_put (v := .int (nI s8)) (ty := .int) (fs' := [.int ((nI 0)), .ref (g.lk M 1), .int (nI mn), .ref (g.lk M 3), .ref (g.lk M 4), .int (nI mdr), .ref (g.lk M 6), .ref (g.lk M 7), .ref (g.lk M 8), .int (nI msz), .int (nI mix), .int (nI mdp), .ref (g.lk M 12), .int (nI mwt), .ref (g.lk M 14), .ref (g.lk M 15), .int (nI mop), .ref (g.lk M 17), .ref (g.lk M 18), .ref (g.lk M 19), .ref (g.lk M 20), .ref (g.lk M 21), .ref (g.lk M 22), .ref (g.lk M 23), .ref (g.lk M 24), .ref (g.lk M 25), .ref (g.lk M 26), .ref (g.lk M 27), .ref (g.lk M 28), .ref (g.lk M 29), .ref (g.lk M 30), .ref (g.lk M 31), .int (nI tp1_198), .ref (g.lk M 33), .ref (g.lk M 34), .ref (g.lk M 35), .int (nI wa1_199), .int (nI gi1_200), .int (nI p7), .int (nI s8), .int (nI tr1_202), .int (nI sp1_203), .int ma1_204, .int lg1_205, .int mdu]) (C := "BigRunnerModel") (T := FT10) (N := 45) hx hb (hw10 hB _) (fun _ h9 => h9) TY10 ok10 nm10 hown hK hP hD hS (lo_in hL t_M (by decide)) e224 rfl 39 (by decide) (wd_986 hB _) rfl (by decide +kernel) rfl rfl (Nat.le_of_ble_eq_true rfl) rfl d_M_run_219 (fun f235 H locs e236 k237 hP hD hS => ?_)
                                      have eC := (k237 (g.lk M 6) (tg_ne (lo_k11_6 hL _ t_M) t_M (by decide))).trans eC
                                      have eA := (k237 (g.lk M 7) (tg_ne (lo_k11_7 hL _ t_M) t_M (by decide))).trans eA
                                      have hu := hu.st k237 t_M (by decide)
                                      have hv34 := hv34.st k237 t_M (by decide)
                                      have hv226 := hv226.st k237 t_M (by decide)
                                      have hk238 : ∀ b, b ≠ M → f235 b = f220 b := k237
                                      refine lv_goto (tgt := 56) hx hb d_M_run_222 (by decide) ?_
                                      have hI239 := iv_1 hI225 hL t_M (by decide) hk238 (oc_11.mk t_M (⟨(((nI 0))), mn, mdr, msz, mix, mdp, mwt, mop, tp1_198, wa1_199, gi1_200, p7, s8, tr1_202, sp1_203, ma1_204, lg1_205, mdu, e236, (by omega), (by omega), (by omega), (by omega), (by omega), (by omega), (by omega), (by omega), (by omega), (by omega), (by omega), (by omega), (by omega), (by omega), hmb14⟩))
                                      exact ih30 (md + 1) tp1_198 wa1_199 gi1_200 p7 s8 tr1_202 sp1_203 ma1_204 lg1_205 f235 H locs ls (by omega) (by omega) (by omega) (by omega) (by omega) (by omega) (by omega) (by omega) (by omega) (by exfalso; omega) e236 hI239 hv34 hl hP hD hS
                                    · skip
                                      replace b234 := (nI_eq (a := p7) (b := msz) (by omega) (by omega)).mp b234
                                      refine lv_iconst (v := nI 3) hx hb d_M_run_211 (by decide) ?_
                                      refine lv_goto (tgt := 219) hx hb d_M_run_212 (by decide) ?_
                                      refine pf_put (v := .int (nI 3)) (ty := .int) (fs' := [.int ((nI 0)), .ref (g.lk M 1), .int (nI mn), .ref (g.lk M 3), .ref (g.lk M 4), .int (nI mdr), .ref (g.lk M 6), .ref (g.lk M 7), .ref (g.lk M 8), .int (nI msz), .int (nI mix), .int (nI mdp), .ref (g.lk M 12), .int (nI mwt), .ref (g.lk M 14), .ref (g.lk M 15), .int (nI mop), .ref (g.lk M 17), .ref (g.lk M 18), .ref (g.lk M 19), .ref (g.lk M 20), .ref (g.lk M 21), .ref (g.lk M 22), .ref (g.lk M 23), .ref (g.lk M 24), .ref (g.lk M 25), .ref (g.lk M 26), .ref (g.lk M 27), .ref (g.lk M 28), .ref (g.lk M 29), .ref (g.lk M 30), .ref (g.lk M 31), .int (nI tp1_198), .ref (g.lk M 33), .ref (g.lk M 34), .ref (g.lk M 35), .int (nI wa1_199), .int (nI gi1_200), .int (nI p7), .int (nI 3), .int (nI tr1_202), .int (nI sp1_203), .int ma1_204, .int lg1_205, .int mdu]) (C := "BigRunnerModel") (T := FT10) (N := 45) hx hb (hw10 hB _) (fun _ h9 => h9) TY10 ok10 nm10 hown hK hP hD hS (lo_in hL t_M (by decide)) e224 rfl 39 (by decide) (wd_986 hB _) rfl (by decide +kernel) rfl rfl (Nat.le_of_ble_eq_true rfl) rfl d_M_run_219 (fun f240 H locs e241 k242 hP hD hS => ?_)
                                      have eC := (k242 (g.lk M 6) (tg_ne (lo_k11_6 hL _ t_M) t_M (by decide))).trans eC
                                      have eA := (k242 (g.lk M 7) (tg_ne (lo_k11_7 hL _ t_M) t_M (by decide))).trans eA
                                      have hu := hu.st k242 t_M (by decide)
                                      have hv34 := hv34.st k242 t_M (by decide)
                                      have hv226 := hv226.st k242 t_M (by decide)
                                      have hk243 : ∀ b, b ≠ M → f240 b = f220 b := k242
                                      refine lv_goto (tgt := 56) hx hb d_M_run_222 (by decide) ?_
                                      have hI244 := iv_1 hI225 hL t_M (by decide) hk243 (oc_11.mk t_M (⟨(((nI 0))), mn, mdr, msz, mix, mdp, mwt, mop, tp1_198, wa1_199, gi1_200, p7, 3, tr1_202, sp1_203, ma1_204, lg1_205, mdu, e241, (by omega), (by omega), (by omega), (by omega), (by omega), (by omega), (by omega), (by omega), (by omega), (by omega), (by omega), (by omega), (by omega), (by omega), hmb14⟩))
                                      exact ih30 (md + 1) tp1_198 wa1_199 gi1_200 p7 3 tr1_202 sp1_203 ma1_204 lg1_205 f240 H locs ls (by omega) (by omega) (by omega) (by omega) (by omega) (by omega) (by omega) (by omega) (by omega) (fun z => absurd z (by omega)) e241 hI244 hv34 hl hP hD hS
                                · skip
                                  replace b227 := (nI_eq (a := s8) (b := 1) (by omega) (by omega)).mp b227
                                  refine lv_aload_n hx hb d_M_run_150 rfl (lv_at hl 1 rfl) ?_
                                  refine pf_get (v := .int (nI p7)) (C := "BigRunnerModel") (T := FT10) (N := 45) hx hb (hw10 hB _) (fun _ h9 => h9) hown hK hP (lo_in hL t_M (by decide)) e224 rfl 38 (by decide) (wd_985 hB _) rfl d_M_run_151 ?_
                                  refine lv_aload_n hx hb d_M_run_154 rfl (lv_at hl 1 rfl) ?_
                                  refine pf_get (v := .int (nI msz)) (C := "BigRunnerModel") (T := FT10) (N := 45) hx hb (hw10 hB _) (fun _ h9 => h9) hown hK hP (lo_in hL t_M (by decide)) e224 rfl 9 (by decide) (wd_956 hB _) rfl d_M_run_155 ?_
                                  refine lv_icmp_ge (tgt := 191) hx hb d_M_run_158 (by decide) (fun b245 => ?_) (fun b245 => ?_)
                                  · skip
                                    replace b245 := (nI_leI (a := msz) (b := p7) (by omega) (by omega)).mp b245
                                    refine lv_aload_n hx hb d_M_run_191 rfl (lv_at hl 1 rfl) ?_
                                    refine lv_aload_n hx hb d_M_run_192 rfl (lv_at hl 1 rfl) ?_
                                    refine pf_get (v := .int (nI s8)) (C := "BigRunnerModel") (T := FT10) (N := 45) hx hb (hw10 hB _) (fun _ h9 => h9) hown hK hP (lo_in hL t_M (by decide)) e224 rfl 39 (by decide) (wd_986 hB _) rfl d_M_run_193 ?_
                                    refine lv_iconst (v := nI 1) hx hb d_M_run_196 (by decide) ?_
                                    refine lv_icmp_ne (tgt := 215) hx hb d_M_run_197 (by decide) (fun b246 => ?_) (fun b246 => ?_)
                                    · skip
                                      replace b246 := mt (nI_eq (a := s8) (b := 1) (by omega) (by omega)).mpr b246
                                      refine lv_aload_n hx hb d_M_run_215 rfl (lv_at hl 1 rfl) ?_
                                      refine pf_get (v := .int (nI s8)) (C := "BigRunnerModel") (T := FT10) (N := 45) hx hb (hw10 hB _) (fun _ h9 => h9) hown hK hP (lo_in hL t_M (by decide)) e224 rfl 39 (by decide) (wd_986 hB _) rfl d_M_run_216 ?_
                                      refine pf_put (v := .int (nI s8)) (ty := .int) (fs' := [.int ((nI 0)), .ref (g.lk M 1), .int (nI mn), .ref (g.lk M 3), .ref (g.lk M 4), .int (nI mdr), .ref (g.lk M 6), .ref (g.lk M 7), .ref (g.lk M 8), .int (nI msz), .int (nI mix), .int (nI mdp), .ref (g.lk M 12), .int (nI mwt), .ref (g.lk M 14), .ref (g.lk M 15), .int (nI mop), .ref (g.lk M 17), .ref (g.lk M 18), .ref (g.lk M 19), .ref (g.lk M 20), .ref (g.lk M 21), .ref (g.lk M 22), .ref (g.lk M 23), .ref (g.lk M 24), .ref (g.lk M 25), .ref (g.lk M 26), .ref (g.lk M 27), .ref (g.lk M 28), .ref (g.lk M 29), .ref (g.lk M 30), .ref (g.lk M 31), .int (nI tp1_198), .ref (g.lk M 33), .ref (g.lk M 34), .ref (g.lk M 35), .int (nI wa1_199), .int (nI gi1_200), .int (nI p7), .int (nI s8), .int (nI tr1_202), .int (nI sp1_203), .int ma1_204, .int lg1_205, .int mdu]) (C := "BigRunnerModel") (T := FT10) (N := 45) hx hb (hw10 hB _) (fun _ h9 => h9) TY10 ok10 nm10 hown hK hP hD hS (lo_in hL t_M (by decide)) e224 rfl 39 (by decide) (wd_986 hB _) rfl (by decide +kernel) rfl rfl (Nat.le_of_ble_eq_true rfl) rfl d_M_run_219 (fun f247 H locs e248 k249 hP hD hS => ?_)
                                      have eC := (k249 (g.lk M 6) (tg_ne (lo_k11_6 hL _ t_M) t_M (by decide))).trans eC
                                      have eA := (k249 (g.lk M 7) (tg_ne (lo_k11_7 hL _ t_M) t_M (by decide))).trans eA
                                      have hu := hu.st k249 t_M (by decide)
                                      have hv34 := hv34.st k249 t_M (by decide)
                                      have hv226 := hv226.st k249 t_M (by decide)
                                      have hk250 : ∀ b, b ≠ M → f247 b = f220 b := k249
                                      refine lv_goto (tgt := 56) hx hb d_M_run_222 (by decide) ?_
                                      have hI251 := iv_1 hI225 hL t_M (by decide) hk250 (oc_11.mk t_M (⟨(((nI 0))), mn, mdr, msz, mix, mdp, mwt, mop, tp1_198, wa1_199, gi1_200, p7, s8, tr1_202, sp1_203, ma1_204, lg1_205, mdu, e248, (by omega), (by omega), (by omega), (by omega), (by omega), (by omega), (by omega), (by omega), (by omega), (by omega), (by omega), (by omega), (by omega), (by omega), hmb14⟩))
                                      exact ih30 (md + 1) tp1_198 wa1_199 gi1_200 p7 s8 tr1_202 sp1_203 ma1_204 lg1_205 f247 H locs ls (by omega) (by omega) (by omega) (by omega) (by omega) (by omega) (by omega) (by omega) (by omega) (by exfalso; omega) e248 hI251 hv34 hl hP hD hS
                                    · skip
                                      replace b246 := (nI_eq (a := s8) (b := 1) (by omega) (by omega)).mp b246
                                      refine lv_aload_n hx hb d_M_run_200 rfl (lv_at hl 1 rfl) ?_
                                      refine pf_get (v := .int (nI p7)) (C := "BigRunnerModel") (T := FT10) (N := 45) hx hb (hw10 hB _) (fun _ h9 => h9) hown hK hP (lo_in hL t_M (by decide)) e224 rfl 38 (by decide) (wd_985 hB _) rfl d_M_run_201 ?_
                                      refine lv_aload_n hx hb d_M_run_204 rfl (lv_at hl 1 rfl) ?_
                                      refine pf_get (v := .int (nI msz)) (C := "BigRunnerModel") (T := FT10) (N := 45) hx hb (hw10 hB _) (fun _ h9 => h9) hown hK hP (lo_in hL t_M (by decide)) e224 rfl 9 (by decide) (wd_956 hB _) rfl d_M_run_205 ?_
                                      refine lv_icmp_ne (tgt := 215) hx hb d_M_run_208 (by decide) (fun b252 => ?_) (fun b252 => ?_)
                                      · skip
                                        replace b252 := mt (nI_eq (a := p7) (b := msz) (by omega) (by omega)).mpr b252
                                        refine lv_aload_n hx hb d_M_run_215 rfl (lv_at hl 1 rfl) ?_
                                        refine pf_get (v := .int (nI s8)) (C := "BigRunnerModel") (T := FT10) (N := 45) hx hb (hw10 hB _) (fun _ h9 => h9) hown hK hP (lo_in hL t_M (by decide)) e224 rfl 39 (by decide) (wd_986 hB _) rfl d_M_run_216 ?_
                                        refine pf_put (v := .int (nI s8)) (ty := .int) (fs' := [.int ((nI 0)), .ref (g.lk M 1), .int (nI mn), .ref (g.lk M 3), .ref (g.lk M 4), .int (nI mdr), .ref (g.lk M 6), .ref (g.lk M 7), .ref (g.lk M 8), .int (nI msz), .int (nI mix), .int (nI mdp), .ref (g.lk M 12), .int (nI mwt), .ref (g.lk M 14), .ref (g.lk M 15), .int (nI mop), .ref (g.lk M 17), .ref (g.lk M 18), .ref (g.lk M 19), .ref (g.lk M 20), .ref (g.lk M 21), .ref (g.lk M 22), .ref (g.lk M 23), .ref (g.lk M 24), .ref (g.lk M 25), .ref (g.lk M 26), .ref (g.lk M 27), .ref (g.lk M 28), .ref (g.lk M 29), .ref (g.lk M 30), .ref (g.lk M 31), .int (nI tp1_198), .ref (g.lk M 33), .ref (g.lk M 34), .ref (g.lk M 35), .int (nI wa1_199), .int (nI gi1_200), .int (nI p7), .int (nI s8), .int (nI tr1_202), .int (nI sp1_203), .int ma1_204, .int lg1_205, .int mdu]) (C := "BigRunnerModel") (T := FT10) (N := 45) hx hb (hw10 hB _) (fun _ h9 => h9) TY10 ok10 nm10 hown hK hP hD hS (lo_in hL t_M (by decide)) e224 rfl 39 (by decide) (wd_986 hB _) rfl (by decide +kernel) rfl rfl (Nat.le_of_ble_eq_true rfl) rfl d_M_run_219 (fun f253 H locs e254 k255 hP hD hS => ?_)
                                        have eC := (k255 (g.lk M 6) (tg_ne (lo_k11_6 hL _ t_M) t_M (by decide))).trans eC
                                        have eA := (k255 (g.lk M 7) (tg_ne (lo_k11_7 hL _ t_M) t_M (by decide))).trans eA
                                        have hu := hu.st k255 t_M (by decide)
                                        have hv34 := hv34.st k255 t_M (by decide)
                                        have hv226 := hv226.st k255 t_M (by decide)
                                        have hk256 : ∀ b, b ≠ M → f253 b = f220 b := k255
                                        refine lv_goto (tgt := 56) hx hb d_M_run_222 (by decide) ?_
                                        have hI257 := iv_1 hI225 hL t_M (by decide) hk256 (oc_11.mk t_M (⟨(((nI 0))), mn, mdr, msz, mix, mdp, mwt, mop, tp1_198, wa1_199, gi1_200, p7, s8, tr1_202, sp1_203, ma1_204, lg1_205, mdu, e254, (by omega), (by omega), (by omega), (by omega), (by omega), (by omega), (by omega), (by omega), (by omega), (by omega), (by omega), (by omega), (by omega), (by omega), hmb14⟩))
                                        exact ih30 (md + 1) tp1_198 wa1_199 gi1_200 p7 s8 tr1_202 sp1_203 ma1_204 lg1_205 f253 H locs ls (by omega) (by omega) (by omega) (by omega) (by omega) (by omega) (by omega) (by omega) (by omega) (by exfalso; omega) e254 hI257 hv34 hl hP hD hS
                                      · skip
                                        replace b252 := (nI_eq (a := p7) (b := msz) (by omega) (by omega)).mp b252
                                        refine lv_iconst (v := nI 3) hx hb d_M_run_211 (by decide) ?_
                                        refine lv_goto (tgt := 219) hx hb d_M_run_212 (by decide) ?_
                                        refine pf_put (v := .int (nI 3)) (ty := .int) (fs' := [.int ((nI 0)), .ref (g.lk M 1), .int (nI mn), .ref (g.lk M 3), .ref (g.lk M 4), .int (nI mdr), .ref (g.lk M 6), .ref (g.lk M 7), .ref (g.lk M 8), .int (nI msz), .int (nI mix), .int (nI mdp), .ref (g.lk M 12), .int (nI mwt), .ref (g.lk M 14), .ref (g.lk M 15), .int (nI mop), .ref (g.lk M 17), .ref (g.lk M 18), .ref (g.lk M 19), .ref (g.lk M 20), .ref (g.lk M 21), .ref (g.lk M 22), .ref (g.lk M 23), .ref (g.lk M 24), .ref (g.lk M 25), .ref (g.lk M 26), .ref (g.lk M 27), .ref (g.lk M 28), .ref (g.lk M 29), .ref (g.lk M 30), .ref (g.lk M 31), .int (nI tp1_198), .ref (g.lk M 33), .ref (g.lk M 34), .ref (g.lk M 35), .int (nI wa1_199), .int (nI gi1_200), .int (nI p7), .int (nI 3), .int (nI tr1_202), .int (nI sp1_203), .int ma1_204, .int lg1_205, .int mdu]) (C := "BigRunnerModel") (T := FT10) (N := 45) hx hb (hw10 hB _) (fun _ h9 => h9) TY10 ok10 nm10 hown hK hP hD hS (lo_in hL t_M (by decide)) e224 rfl 39 (by decide) (wd_986 hB _) rfl (by decide +kernel) rfl rfl (Nat.le_of_ble_eq_true rfl) rfl d_M_run_219 (fun f258 H locs e259 k260 hP hD hS => ?_)
                                        have eC := (k260 (g.lk M 6) (tg_ne (lo_k11_6 hL _ t_M) t_M (by decide))).trans eC
                                        have eA := (k260 (g.lk M 7) (tg_ne (lo_k11_7 hL _ t_M) t_M (by decide))).trans eA
                                        have hu := hu.st k260 t_M (by decide)
                                        have hv34 := hv34.st k260 t_M (by decide)
                                        have hv226 := hv226.st k260 t_M (by decide)
                                        have hk261 : ∀ b, b ≠ M → f258 b = f220 b := k260
                                        refine lv_goto (tgt := 56) hx hb d_M_run_222 (by decide) ?_
                                        have hI262 := iv_1 hI225 hL t_M (by decide) hk261 (oc_11.mk t_M (⟨(((nI 0))), mn, mdr, msz, mix, mdp, mwt, mop, tp1_198, wa1_199, gi1_200, p7, 3, tr1_202, sp1_203, ma1_204, lg1_205, mdu, e259, (by omega), (by omega), (by omega), (by omega), (by omega), (by omega), (by omega), (by omega), (by omega), (by omega), (by omega), (by omega), (by omega), (by omega), hmb14⟩))
                                        exact ih30 (md + 1) tp1_198 wa1_199 gi1_200 p7 3 tr1_202 sp1_203 ma1_204 lg1_205 f258 H locs ls (by omega) (by omega) (by omega) (by omega) (by omega) (by omega) (by omega) (by omega) (by omega) (fun z => absurd z (by omega)) e259 hI262 hv34 hl hP hD hS
                                  · skip
                                    replace b245 := mt (nI_leI (a := msz) (b := p7) (by omega) (by omega)).mpr b245
                                    obtain ⟨w, v, hWO⟩ := hWF.2.2 p7 (by omega)
                                    have hw := wo_c hWO
                                    have hv := wo_a hWO
                                    have z3 := wo_12 hWO
                                    have z4 := wo_b hWO
                                    refine lv_aload_n hx hb d_M_run_161 rfl (lv_at hl 1 rfl) ?_
                                    refine pf_get (v := .ref (g.lk M 6)) (C := "BigRunnerModel") (T := FT10) (N := 45) hx hb (hw10 hB _) (fun _ h9 => h9) hown hK hP (lo_in hL t_M (by decide)) e224 rfl 6 (by decide) (wd_953 hB _) rfl d_M_run_162 ?_
                                    refine lv_aload_n hx hb d_M_run_165 rfl (lv_at hl 1 rfl) ?_
                                    refine pf_get (v := .int (nI p7)) (C := "BigRunnerModel") (T := FT10) (N := 45) hx hb (hw10 hB _) (fun _ h9 => h9) hown hK hP (lo_in hL t_M (by decide)) e224 rfl 38 (by decide) (wd_985 hB _) rfl d_M_run_166 ?_
                                    refine pf_iald (i := p7) hx hb hK hP (lo_in hL (lo_k11_6 hL _ t_M) (by decide)) eC (lo_t43 hL _ (lo_k11_6 hL _ t_M)) (by omega) (by decide) d_M_run_169 ?_
                                    refine lv_topi (fun z_ hz_ => ?_)
                                    obtain rfl : z_ = nI w := hz_.trans hw
                                    refine lv_bipush (v := nI 12) hx hb d_M_run_170 (by decide) ?_
                                    refine lv_icmp_ne (tgt := 191) hx hb d_M_run_172 (by decide) (fun b263 => ?_) (fun b263 => ?_)
                                    · skip
                                      replace b263 := mt (nI_eq (a := w) (b := 12) (by omega) (by omega)).mpr b263
                                      refine lv_aload_n hx hb d_M_run_191 rfl (lv_at hl 1 rfl) ?_
                                      refine lv_aload_n hx hb d_M_run_192 rfl (lv_at hl 1 rfl) ?_
                                      refine pf_get (v := .int (nI s8)) (C := "BigRunnerModel") (T := FT10) (N := 45) hx hb (hw10 hB _) (fun _ h9 => h9) hown hK hP (lo_in hL t_M (by decide)) e224 rfl 39 (by decide) (wd_986 hB _) rfl d_M_run_193 ?_
                                      refine lv_iconst (v := nI 1) hx hb d_M_run_196 (by decide) ?_
                                      refine lv_icmp_ne (tgt := 215) hx hb d_M_run_197 (by decide) (fun b264 => ?_) (fun b264 => ?_)
                                      · skip
                                        replace b264 := mt (nI_eq (a := s8) (b := 1) (by omega) (by omega)).mpr b264
                                        refine lv_aload_n hx hb d_M_run_215 rfl (lv_at hl 1 rfl) ?_
                                        refine pf_get (v := .int (nI s8)) (C := "BigRunnerModel") (T := FT10) (N := 45) hx hb (hw10 hB _) (fun _ h9 => h9) hown hK hP (lo_in hL t_M (by decide)) e224 rfl 39 (by decide) (wd_986 hB _) rfl d_M_run_216 ?_
                                        refine pf_put (v := .int (nI s8)) (ty := .int) (fs' := [.int ((nI 0)), .ref (g.lk M 1), .int (nI mn), .ref (g.lk M 3), .ref (g.lk M 4), .int (nI mdr), .ref (g.lk M 6), .ref (g.lk M 7), .ref (g.lk M 8), .int (nI msz), .int (nI mix), .int (nI mdp), .ref (g.lk M 12), .int (nI mwt), .ref (g.lk M 14), .ref (g.lk M 15), .int (nI mop), .ref (g.lk M 17), .ref (g.lk M 18), .ref (g.lk M 19), .ref (g.lk M 20), .ref (g.lk M 21), .ref (g.lk M 22), .ref (g.lk M 23), .ref (g.lk M 24), .ref (g.lk M 25), .ref (g.lk M 26), .ref (g.lk M 27), .ref (g.lk M 28), .ref (g.lk M 29), .ref (g.lk M 30), .ref (g.lk M 31), .int (nI tp1_198), .ref (g.lk M 33), .ref (g.lk M 34), .ref (g.lk M 35), .int (nI wa1_199), .int (nI gi1_200), .int (nI p7), .int (nI s8), .int (nI tr1_202), .int (nI sp1_203), .int ma1_204, .int lg1_205, .int mdu]) (C := "BigRunnerModel") (T := FT10) (N := 45) hx hb (hw10 hB _) (fun _ h9 => h9) TY10 ok10 nm10 hown hK hP hD hS (lo_in hL t_M (by decide)) e224 rfl 39 (by decide) (wd_986 hB _) rfl (by decide +kernel) rfl rfl (Nat.le_of_ble_eq_true rfl) rfl d_M_run_219 (fun f265 H locs e266 k267 hP hD hS => ?_)
                                        have eC := (k267 (g.lk M 6) (tg_ne (lo_k11_6 hL _ t_M) t_M (by decide))).trans eC
                                        have eA := (k267 (g.lk M 7) (tg_ne (lo_k11_7 hL _ t_M) t_M (by decide))).trans eA
                                        have hu := hu.st k267 t_M (by decide)
                                        have hv34 := hv34.st k267 t_M (by decide)
                                        have hv226 := hv226.st k267 t_M (by decide)
                                        have hk268 : ∀ b, b ≠ M → f265 b = f220 b := k267
                                        refine lv_goto (tgt := 56) hx hb d_M_run_222 (by decide) ?_
                                        have hI269 := iv_1 hI225 hL t_M (by decide) hk268 (oc_11.mk t_M (⟨(((nI 0))), mn, mdr, msz, mix, mdp, mwt, mop, tp1_198, wa1_199, gi1_200, p7, s8, tr1_202, sp1_203, ma1_204, lg1_205, mdu, e266, (by omega), (by omega), (by omega), (by omega), (by omega), (by omega), (by omega), (by omega), (by omega), (by omega), (by omega), (by omega), (by omega), (by omega), hmb14⟩))
                                        exact ih30 (md + 1) tp1_198 wa1_199 gi1_200 p7 s8 tr1_202 sp1_203 ma1_204 lg1_205 f265 H locs ls (by omega) (by omega) (by omega) (by omega) (by omega) (by omega) (by omega) (by omega) (by omega) (fun _ => ⟨by omega, hp6 (by omega), fun z => absurd ((nI_eq (by omega) (by omega)).mp (hw.symm.trans z)) (by omega), by omega⟩) e266 hI269 hv34 hl hP hD hS
                                      · skip
                                        replace b264 := (nI_eq (a := s8) (b := 1) (by omega) (by omega)).mp b264
                                        refine lv_aload_n hx hb d_M_run_200 rfl (lv_at hl 1 rfl) ?_
                                        refine pf_get (v := .int (nI p7)) (C := "BigRunnerModel") (T := FT10) (N := 45) hx hb (hw10 hB _) (fun _ h9 => h9) hown hK hP (lo_in hL t_M (by decide)) e224 rfl 38 (by decide) (wd_985 hB _) rfl d_M_run_201 ?_
                                        refine lv_aload_n hx hb d_M_run_204 rfl (lv_at hl 1 rfl) ?_
                                        refine pf_get (v := .int (nI msz)) (C := "BigRunnerModel") (T := FT10) (N := 45) hx hb (hw10 hB _) (fun _ h9 => h9) hown hK hP (lo_in hL t_M (by decide)) e224 rfl 9 (by decide) (wd_956 hB _) rfl d_M_run_205 ?_
                                        refine lv_icmp_ne (tgt := 215) hx hb d_M_run_208 (by decide) (fun b270 => ?_) (fun b270 => ?_)
                                        · skip
                                          replace b270 := mt (nI_eq (a := p7) (b := msz) (by omega) (by omega)).mpr b270
                                          refine lv_aload_n hx hb d_M_run_215 rfl (lv_at hl 1 rfl) ?_
                                          refine pf_get (v := .int (nI s8)) (C := "BigRunnerModel") (T := FT10) (N := 45) hx hb (hw10 hB _) (fun _ h9 => h9) hown hK hP (lo_in hL t_M (by decide)) e224 rfl 39 (by decide) (wd_986 hB _) rfl d_M_run_216 ?_
                                          refine pf_put (v := .int (nI s8)) (ty := .int) (fs' := [.int ((nI 0)), .ref (g.lk M 1), .int (nI mn), .ref (g.lk M 3), .ref (g.lk M 4), .int (nI mdr), .ref (g.lk M 6), .ref (g.lk M 7), .ref (g.lk M 8), .int (nI msz), .int (nI mix), .int (nI mdp), .ref (g.lk M 12), .int (nI mwt), .ref (g.lk M 14), .ref (g.lk M 15), .int (nI mop), .ref (g.lk M 17), .ref (g.lk M 18), .ref (g.lk M 19), .ref (g.lk M 20), .ref (g.lk M 21), .ref (g.lk M 22), .ref (g.lk M 23), .ref (g.lk M 24), .ref (g.lk M 25), .ref (g.lk M 26), .ref (g.lk M 27), .ref (g.lk M 28), .ref (g.lk M 29), .ref (g.lk M 30), .ref (g.lk M 31), .int (nI tp1_198), .ref (g.lk M 33), .ref (g.lk M 34), .ref (g.lk M 35), .int (nI wa1_199), .int (nI gi1_200), .int (nI p7), .int (nI s8), .int (nI tr1_202), .int (nI sp1_203), .int ma1_204, .int lg1_205, .int mdu]) (C := "BigRunnerModel") (T := FT10) (N := 45) hx hb (hw10 hB _) (fun _ h9 => h9) TY10 ok10 nm10 hown hK hP hD hS (lo_in hL t_M (by decide)) e224 rfl 39 (by decide) (wd_986 hB _) rfl (by decide +kernel) rfl rfl (Nat.le_of_ble_eq_true rfl) rfl d_M_run_219 (fun f271 H locs e272 k273 hP hD hS => ?_)
                                          have eC := (k273 (g.lk M 6) (tg_ne (lo_k11_6 hL _ t_M) t_M (by decide))).trans eC
                                          have eA := (k273 (g.lk M 7) (tg_ne (lo_k11_7 hL _ t_M) t_M (by decide))).trans eA
                                          have hu := hu.st k273 t_M (by decide)
                                          have hv34 := hv34.st k273 t_M (by decide)
                                          have hv226 := hv226.st k273 t_M (by decide)
                                          have hk274 : ∀ b, b ≠ M → f271 b = f220 b := k273
                                          refine lv_goto (tgt := 56) hx hb d_M_run_222 (by decide) ?_
                                          have hI275 := iv_1 hI225 hL t_M (by decide) hk274 (oc_11.mk t_M (⟨(((nI 0))), mn, mdr, msz, mix, mdp, mwt, mop, tp1_198, wa1_199, gi1_200, p7, s8, tr1_202, sp1_203, ma1_204, lg1_205, mdu, e272, (by omega), (by omega), (by omega), (by omega), (by omega), (by omega), (by omega), (by omega), (by omega), (by omega), (by omega), (by omega), (by omega), (by omega), hmb14⟩))
                                          exact ih30 (md + 1) tp1_198 wa1_199 gi1_200 p7 s8 tr1_202 sp1_203 ma1_204 lg1_205 f271 H locs ls (by omega) (by omega) (by omega) (by omega) (by omega) (by omega) (by omega) (by omega) (by omega) (fun _ => ⟨by omega, hp6 (by omega), fun z => absurd ((nI_eq (by omega) (by omega)).mp (hw.symm.trans z)) (by omega), by omega⟩) e272 hI275 hv34 hl hP hD hS
                                        · skip
                                          replace b270 := (nI_eq (a := p7) (b := msz) (by omega) (by omega)).mp b270
                                          refine lv_iconst (v := nI 3) hx hb d_M_run_211 (by decide) ?_
                                          refine lv_goto (tgt := 219) hx hb d_M_run_212 (by decide) ?_
                                          refine pf_put (v := .int (nI 3)) (ty := .int) (fs' := [.int ((nI 0)), .ref (g.lk M 1), .int (nI mn), .ref (g.lk M 3), .ref (g.lk M 4), .int (nI mdr), .ref (g.lk M 6), .ref (g.lk M 7), .ref (g.lk M 8), .int (nI msz), .int (nI mix), .int (nI mdp), .ref (g.lk M 12), .int (nI mwt), .ref (g.lk M 14), .ref (g.lk M 15), .int (nI mop), .ref (g.lk M 17), .ref (g.lk M 18), .ref (g.lk M 19), .ref (g.lk M 20), .ref (g.lk M 21), .ref (g.lk M 22), .ref (g.lk M 23), .ref (g.lk M 24), .ref (g.lk M 25), .ref (g.lk M 26), .ref (g.lk M 27), .ref (g.lk M 28), .ref (g.lk M 29), .ref (g.lk M 30), .ref (g.lk M 31), .int (nI tp1_198), .ref (g.lk M 33), .ref (g.lk M 34), .ref (g.lk M 35), .int (nI wa1_199), .int (nI gi1_200), .int (nI p7), .int (nI 3), .int (nI tr1_202), .int (nI sp1_203), .int ma1_204, .int lg1_205, .int mdu]) (C := "BigRunnerModel") (T := FT10) (N := 45) hx hb (hw10 hB _) (fun _ h9 => h9) TY10 ok10 nm10 hown hK hP hD hS (lo_in hL t_M (by decide)) e224 rfl 39 (by decide) (wd_986 hB _) rfl (by decide +kernel) rfl rfl (Nat.le_of_ble_eq_true rfl) rfl d_M_run_219 (fun f276 H locs e277 k278 hP hD hS => ?_)
                                          have eC := (k278 (g.lk M 6) (tg_ne (lo_k11_6 hL _ t_M) t_M (by decide))).trans eC
                                          have eA := (k278 (g.lk M 7) (tg_ne (lo_k11_7 hL _ t_M) t_M (by decide))).trans eA
                                          have hu := hu.st k278 t_M (by decide)
                                          have hv34 := hv34.st k278 t_M (by decide)
                                          have hv226 := hv226.st k278 t_M (by decide)
                                          have hk279 : ∀ b, b ≠ M → f276 b = f220 b := k278
                                          refine lv_goto (tgt := 56) hx hb d_M_run_222 (by decide) ?_
                                          have hI280 := iv_1 hI225 hL t_M (by decide) hk279 (oc_11.mk t_M (⟨(((nI 0))), mn, mdr, msz, mix, mdp, mwt, mop, tp1_198, wa1_199, gi1_200, p7, 3, tr1_202, sp1_203, ma1_204, lg1_205, mdu, e277, (by omega), (by omega), (by omega), (by omega), (by omega), (by omega), (by omega), (by omega), (by omega), (by omega), (by omega), (by omega), (by omega), (by omega), hmb14⟩))
                                          exact ih30 (md + 1) tp1_198 wa1_199 gi1_200 p7 3 tr1_202 sp1_203 ma1_204 lg1_205 f276 H locs ls (by omega) (by omega) (by omega) (by omega) (by omega) (by omega) (by omega) (by omega) (by omega) (fun z => absurd z (by omega)) e277 hI280 hv34 hl hP hD hS
                                    · skip
                                      replace b263 := (nI_eq (a := w) (b := 12) (by omega) (by omega)).mp b263
                                      have hw12 : w = 12 := by omega
                                      have hjj := wo_j hWO hw12
                                      have hf0 : fl = 0 := by rcases (show fl = 0 ∨ fl = 1 by omega) with q | q; exact q; exact absurd (hw.trans (congrArg nI hw12)) (hJF q)
                                      have hv36 := hjj.1
                                      rcases wo_jb hWO hw12 with hjf | ⟨w', hj1, hj2, hj3⟩
                                      · skip
                                        refine lv_aload_n hx hb d_M_run_175 rfl (lv_at hl 1 rfl) ?_
                                        refine lv_aload_n hx hb d_M_run_176 rfl (lv_at hl 1 rfl) ?_
                                        refine pf_get (v := .ref (g.lk M 7)) (C := "BigRunnerModel") (T := FT10) (N := 45) hx hb (hw10 hB _) (fun _ h9 => h9) hown hK hP (lo_in hL t_M (by decide)) e224 rfl 7 (by decide) (wd_954 hB _) rfl d_M_run_177 ?_
                                        refine lv_aload_n hx hb d_M_run_180 rfl (lv_at hl 1 rfl) ?_
                                        refine pf_get (v := .int (nI p7)) (C := "BigRunnerModel") (T := FT10) (N := 45) hx hb (hw10 hB _) (fun _ h9 => h9) hown hK hP (lo_in hL t_M (by decide)) e224 rfl 38 (by decide) (wd_985 hB _) rfl d_M_run_181 ?_
                                        refine pf_iald (i := p7) hx hb hK hP (lo_in hL (lo_k11_7 hL _ t_M) (by decide)) eA (lo_t44 hL _ (lo_k11_7 hL _ t_M)) (by omega) (by decide) d_M_run_184 ?_
                                        refine lv_topi (fun z_ hz_ => ?_)
                                        obtain rfl : z_ = nI v := hz_.trans hv
                                        refine pf_put (v := .int (nI v)) (ty := .int) (fs' := [.int ((nI 0)), .ref (g.lk M 1), .int (nI mn), .ref (g.lk M 3), .ref (g.lk M 4), .int (nI mdr), .ref (g.lk M 6), .ref (g.lk M 7), .ref (g.lk M 8), .int (nI msz), .int (nI mix), .int (nI mdp), .ref (g.lk M 12), .int (nI mwt), .ref (g.lk M 14), .ref (g.lk M 15), .int (nI mop), .ref (g.lk M 17), .ref (g.lk M 18), .ref (g.lk M 19), .ref (g.lk M 20), .ref (g.lk M 21), .ref (g.lk M 22), .ref (g.lk M 23), .ref (g.lk M 24), .ref (g.lk M 25), .ref (g.lk M 26), .ref (g.lk M 27), .ref (g.lk M 28), .ref (g.lk M 29), .ref (g.lk M 30), .ref (g.lk M 31), .int (nI tp1_198), .ref (g.lk M 33), .ref (g.lk M 34), .ref (g.lk M 35), .int (nI wa1_199), .int (nI gi1_200), .int (nI v), .int (nI s8), .int (nI tr1_202), .int (nI sp1_203), .int ma1_204, .int lg1_205, .int mdu]) (C := "BigRunnerModel") (T := FT10) (N := 45) hx hb (hw10 hB _) (fun _ h9 => h9) TY10 ok10 nm10 hown hK hP hD hS (lo_in hL t_M (by decide)) e224 rfl 38 (by decide) (wd_985 hB _) rfl (by decide +kernel) rfl rfl (Nat.le_of_ble_eq_true rfl) rfl d_M_run_185 (fun f281 H locs e282 k283 hP hD hS => ?_)
                                        have eC := (k283 (g.lk M 6) (tg_ne (lo_k11_6 hL _ t_M) t_M (by decide))).trans eC
                                        have eA := (k283 (g.lk M 7) (tg_ne (lo_k11_7 hL _ t_M) t_M (by decide))).trans eA
                                        have hu := hu.st k283 t_M (by decide)
                                        have hv34 := hv34.st k283 t_M (by decide)
                                        have hv226 := hv226.st k283 t_M (by decide)
                                        have hk284 : ∀ b, b ≠ M → f281 b = f220 b := k283
                                        refine lv_goto (tgt := 142) hx hb d_M_run_188 (by decide) ?_
                                        have hI285 := iv_1 hI225 hL t_M (by decide) hk284 (oc_11.mk t_M (⟨(((nI 0))), mn, mdr, msz, mix, mdp, mwt, mop, tp1_198, wa1_199, gi1_200, v, s8, tr1_202, sp1_203, ma1_204, lg1_205, mdu, e282, (by omega), (by omega), (by omega), (by omega), (by omega), (by omega), (by omega), (by omega), (by omega), (by omega), (by omega), (by omega), (by omega), (by omega), hmb14⟩))
                                        exact ih222 v 0 f281 H locs ls (by omega) (by omega) hjj.2 (by omega) (fun z => absurd z (by omega)) e282 hI285 hv226 hl hP hD hS
                                      · skip
                                        refine lv_aload_n hx hb d_M_run_175 rfl (lv_at hl 1 rfl) ?_
                                        refine lv_aload_n hx hb d_M_run_176 rfl (lv_at hl 1 rfl) ?_
                                        refine pf_get (v := .ref (g.lk M 7)) (C := "BigRunnerModel") (T := FT10) (N := 45) hx hb (hw10 hB _) (fun _ h9 => h9) hown hK hP (lo_in hL t_M (by decide)) e224 rfl 7 (by decide) (wd_954 hB _) rfl d_M_run_177 ?_
                                        refine lv_aload_n hx hb d_M_run_180 rfl (lv_at hl 1 rfl) ?_
                                        refine pf_get (v := .int (nI p7)) (C := "BigRunnerModel") (T := FT10) (N := 45) hx hb (hw10 hB _) (fun _ h9 => h9) hown hK hP (lo_in hL t_M (by decide)) e224 rfl 38 (by decide) (wd_985 hB _) rfl d_M_run_181 ?_
                                        refine pf_iald (i := p7) hx hb hK hP (lo_in hL (lo_k11_7 hL _ t_M) (by decide)) eA (lo_t44 hL _ (lo_k11_7 hL _ t_M)) (by omega) (by decide) d_M_run_184 ?_
                                        refine lv_topi (fun z_ hz_ => ?_)
                                        obtain rfl : z_ = nI v := hz_.trans hv
                                        refine pf_put (v := .int (nI v)) (ty := .int) (fs' := [.int ((nI 0)), .ref (g.lk M 1), .int (nI mn), .ref (g.lk M 3), .ref (g.lk M 4), .int (nI mdr), .ref (g.lk M 6), .ref (g.lk M 7), .ref (g.lk M 8), .int (nI msz), .int (nI mix), .int (nI mdp), .ref (g.lk M 12), .int (nI mwt), .ref (g.lk M 14), .ref (g.lk M 15), .int (nI mop), .ref (g.lk M 17), .ref (g.lk M 18), .ref (g.lk M 19), .ref (g.lk M 20), .ref (g.lk M 21), .ref (g.lk M 22), .ref (g.lk M 23), .ref (g.lk M 24), .ref (g.lk M 25), .ref (g.lk M 26), .ref (g.lk M 27), .ref (g.lk M 28), .ref (g.lk M 29), .ref (g.lk M 30), .ref (g.lk M 31), .int (nI tp1_198), .ref (g.lk M 33), .ref (g.lk M 34), .ref (g.lk M 35), .int (nI wa1_199), .int (nI gi1_200), .int (nI v), .int (nI s8), .int (nI tr1_202), .int (nI sp1_203), .int ma1_204, .int lg1_205, .int mdu]) (C := "BigRunnerModel") (T := FT10) (N := 45) hx hb (hw10 hB _) (fun _ h9 => h9) TY10 ok10 nm10 hown hK hP hD hS (lo_in hL t_M (by decide)) e224 rfl 38 (by decide) (wd_985 hB _) rfl (by decide +kernel) rfl rfl (Nat.le_of_ble_eq_true rfl) rfl d_M_run_185 (fun f286 H locs e287 k288 hP hD hS => ?_)
                                        have eC := (k288 (g.lk M 6) (tg_ne (lo_k11_6 hL _ t_M) t_M (by decide))).trans eC
                                        have eA := (k288 (g.lk M 7) (tg_ne (lo_k11_7 hL _ t_M) t_M (by decide))).trans eA
                                        have hu := hu.st k288 t_M (by decide)
                                        have hv34 := hv34.st k288 t_M (by decide)
                                        have hv226 := hv226.st k288 t_M (by decide)
                                        have hk289 : ∀ b, b ≠ M → f286 b = f220 b := k288
                                        refine lv_goto (tgt := 142) hx hb d_M_run_188 (by decide) ?_
                                        have hI290 := iv_1 hI225 hL t_M (by decide) hk289 (oc_11.mk t_M (⟨(((nI 0))), mn, mdr, msz, mix, mdp, mwt, mop, tp1_198, wa1_199, gi1_200, v, s8, tr1_202, sp1_203, ma1_204, lg1_205, mdu, e287, (by omega), (by omega), (by omega), (by omega), (by omega), (by omega), (by omega), (by omega), (by omega), (by omega), (by omega), (by omega), (by omega), (by omega), hmb14⟩))
                                        exact ih222 v 1 f286 H locs ls (by omega) (by omega) hjj.2 (by omega) (fun _ z => absurd ((nI_eq (by omega) (by omega)).mp (hj1.symm.trans z)) (by omega)) e287 hI290 hv226 hl hP hD hS
                            exact lp219 (msz + 2) pc1_201 0 f214 H locs ls (by omega) (by omega) j2 (by omega) (fun z => absurd z (by omega)) e215 hI218 un.rf hl hP hD hS
                          · skip
                            replace b213 := mt (nI_leI (a := tr1_202) (b := 0) (by omega) (by omega)).mpr b213
                            refine lv_iconst (v := nI 4) hx hb d_M_run_131 (by decide) ?_
                            refine lv_goto (tgt := 139) hx hb d_M_run_132 (by decide) ?_
                            refine pf_put (v := .int (nI 4)) (ty := .int) (fs' := [.int (nI 0), .ref (g.lk M 1), .int (nI mn), .ref (g.lk M 3), .ref (g.lk M 4), .int (nI mdr), .ref (g.lk M 6), .ref (g.lk M 7), .ref (g.lk M 8), .int (nI msz), .int (nI mix), .int (nI mdp), .ref (g.lk M 12), .int (nI mwt), .ref (g.lk M 14), .ref (g.lk M 15), .int (nI mop), .ref (g.lk M 17), .ref (g.lk M 18), .ref (g.lk M 19), .ref (g.lk M 20), .ref (g.lk M 21), .ref (g.lk M 22), .ref (g.lk M 23), .ref (g.lk M 24), .ref (g.lk M 25), .ref (g.lk M 26), .ref (g.lk M 27), .ref (g.lk M 28), .ref (g.lk M 29), .ref (g.lk M 30), .ref (g.lk M 31), .int (nI tp1_198), .ref (g.lk M 33), .ref (g.lk M 34), .ref (g.lk M 35), .int (nI wa1_199), .int (nI gi1_200), .int (nI pc1_201), .int (nI 4), .int (nI tr1_202), .int (nI sp1_203), .int ma1_204, .int lg1_205, .int mdu]) (C := "BigRunnerModel") (T := FT10) (N := 45) hx hb (hw10 hB _) (fun _ h9 => h9) TY10 ok10 nm10 hown hK hP hD hS (lo_in hL t_M (by decide)) e197 rfl 39 (by decide) (wd_986 hB _) rfl (by decide +kernel) rfl rfl (Nat.le_of_ble_eq_true rfl) rfl d_M_run_139 (fun f291 H locs e292 k293 hP hD hS => ?_)
                            have eC := (k293 (g.lk M 6) (tg_ne (lo_k11_6 hL _ t_M) t_M (by decide))).trans eC
                            have eA := (k293 (g.lk M 7) (tg_ne (lo_k11_7 hL _ t_M) t_M (by decide))).trans eA
                            have hu := hu.st k293 t_M (by decide)
                            have hv34 := hv34.st k293 t_M (by decide)
                            have hk294 : ∀ b, b ≠ M → f291 b = f192 b := k293
                            refine lv_aload_n hx hb d_M_run_142 rfl (lv_at hl 1 rfl) ?_
                            refine pf_get (v := .int (nI 4)) (C := "BigRunnerModel") (T := FT10) (N := 45) hx hb (hw10 hB _) (fun _ h9 => h9) hown hK hP (lo_in hL t_M (by decide)) e292 rfl 39 (by decide) (wd_986 hB _) rfl d_M_run_143 ?_
                            refine lv_iconst (v := nI 1) hx hb d_M_run_146 (by decide) ?_
                            refine lv_icmp_ne (tgt := 191) hx hb d_M_run_147 (by decide) (fun b295 => ?_) (fun b295 => ?_)
                            · skip
                              replace b295 := mt (nI_eq (a := 4) (b := 1) (by omega) (by omega)).mpr b295
                              refine lv_aload_n hx hb d_M_run_191 rfl (lv_at hl 1 rfl) ?_
                              refine lv_aload_n hx hb d_M_run_192 rfl (lv_at hl 1 rfl) ?_
                              refine pf_get (v := .int (nI 4)) (C := "BigRunnerModel") (T := FT10) (N := 45) hx hb (hw10 hB _) (fun _ h9 => h9) hown hK hP (lo_in hL t_M (by decide)) e292 rfl 39 (by decide) (wd_986 hB _) rfl d_M_run_193 ?_
                              refine lv_iconst (v := nI 1) hx hb d_M_run_196 (by decide) ?_
                              refine lv_icmp_ne (tgt := 215) hx hb d_M_run_197 (by decide) (fun b296 => ?_) (fun b296 => ?_)
                              · skip
                                replace b296 := mt (nI_eq (a := 4) (b := 1) (by omega) (by omega)).mpr b296
                                refine lv_aload_n hx hb d_M_run_215 rfl (lv_at hl 1 rfl) ?_
                                refine pf_get (v := .int (nI 4)) (C := "BigRunnerModel") (T := FT10) (N := 45) hx hb (hw10 hB _) (fun _ h9 => h9) hown hK hP (lo_in hL t_M (by decide)) e292 rfl 39 (by decide) (wd_986 hB _) rfl d_M_run_216 ?_
                                refine pf_put (v := .int (nI 4)) (ty := .int) (fs' := [.int (nI 0), .ref (g.lk M 1), .int (nI mn), .ref (g.lk M 3), .ref (g.lk M 4), .int (nI mdr), .ref (g.lk M 6), .ref (g.lk M 7), .ref (g.lk M 8), .int (nI msz), .int (nI mix), .int (nI mdp), .ref (g.lk M 12), .int (nI mwt), .ref (g.lk M 14), .ref (g.lk M 15), .int (nI mop), .ref (g.lk M 17), .ref (g.lk M 18), .ref (g.lk M 19), .ref (g.lk M 20), .ref (g.lk M 21), .ref (g.lk M 22), .ref (g.lk M 23), .ref (g.lk M 24), .ref (g.lk M 25), .ref (g.lk M 26), .ref (g.lk M 27), .ref (g.lk M 28), .ref (g.lk M 29), .ref (g.lk M 30), .ref (g.lk M 31), .int (nI tp1_198), .ref (g.lk M 33), .ref (g.lk M 34), .ref (g.lk M 35), .int (nI wa1_199), .int (nI gi1_200), .int (nI pc1_201), .int (nI 4), .int (nI tr1_202), .int (nI sp1_203), .int ma1_204, .int lg1_205, .int mdu]) (C := "BigRunnerModel") (T := FT10) (N := 45) hx hb (hw10 hB _) (fun _ h9 => h9) TY10 ok10 nm10 hown hK hP hD hS (lo_in hL t_M (by decide)) e292 rfl 39 (by decide) (wd_986 hB _) rfl (by decide +kernel) rfl rfl (Nat.le_of_ble_eq_true rfl) rfl d_M_run_219 (fun f297 H locs e298 k299 hP hD hS => ?_)
                                have eC := (k299 (g.lk M 6) (tg_ne (lo_k11_6 hL _ t_M) t_M (by decide))).trans eC
                                have eA := (k299 (g.lk M 7) (tg_ne (lo_k11_7 hL _ t_M) t_M (by decide))).trans eA
                                have hu := hu.st k299 t_M (by decide)
                                have hv34 := hv34.st k299 t_M (by decide)
                                have hk300 : ∀ b, b ≠ M → f297 b = f192 b := fun b q0 => (k299 b q0).trans (hk294 b q0)
                                refine lv_goto (tgt := 56) hx hb d_M_run_222 (by decide) ?_
                                have hI301 := iv_1 hI1_195 hL t_M (by decide) hk300 (oc_11.mk t_M (⟨((nI 0)), mn, mdr, msz, mix, mdp, mwt, mop, tp1_198, wa1_199, gi1_200, pc1_201, 4, tr1_202, sp1_203, ma1_204, lg1_205, mdu, e298, (by omega), (by omega), (by omega), (by omega), (by omega), (by omega), (by omega), (by omega), (by omega), (by omega), (by omega), (by omega), (by omega), (by omega), hmb14⟩))
                                exact ih30 (md + 1) tp1_198 wa1_199 gi1_200 pc1_201 4 tr1_202 sp1_203 ma1_204 lg1_205 f297 H locs ls (by omega) (by omega) (by omega) (by omega) (by omega) (by omega) (by omega) (by omega) (by omega) (fun z => absurd z (by omega)) e298 hI301 hv34 hl hP hD hS
                              · skip
                                replace b296 := (nI_eq (a := 4) (b := 1) (by omega) (by omega)).mp b296
                                exfalso; omega
                            · skip
                              replace b295 := (nI_eq (a := 4) (b := 1) (by omega) (by omega)).mp b295
                              exfalso; omega
                        · skip
                          replace b190 := (nI_eq (a := w8) (b := 0) (by omega) (by omega)).mp b190
                          refine lv_aload_n hx hb d_M_run_108 rfl (lv_at hl 1 rfl) ?_
                          refine lv_iconst (v := nI 2) hx hb d_M_run_109 (by decide) ?_
                          refine pf_put (v := .int (nI 2)) (ty := .int) (fs' := [.int (nI 0), .ref (g.lk M 1), .int (nI mn), .ref (g.lk M 3), .ref (g.lk M 4), .int (nI mdr), .ref (g.lk M 6), .ref (g.lk M 7), .ref (g.lk M 8), .int (nI msz), .int (nI mix), .int (nI mdp), .ref (g.lk M 12), .int (nI mwt), .ref (g.lk M 14), .ref (g.lk M 15), .int (nI mop), .ref (g.lk M 17), .ref (g.lk M 18), .ref (g.lk M 19), .ref (g.lk M 20), .ref (g.lk M 21), .ref (g.lk M 22), .ref (g.lk M 23), .ref (g.lk M 24), .ref (g.lk M 25), .ref (g.lk M 26), .ref (g.lk M 27), .ref (g.lk M 28), .ref (g.lk M 29), .ref (g.lk M 30), .ref (g.lk M 31), .int (nI t8), .ref (g.lk M 33), .ref (g.lk M 34), .ref (g.lk M 35), .int (nI w8), .int (nI g8), .int (nI p8), .int (nI 2), .int (nI x8), .int (nI y8), .int ma8, .int lg8, .int mdu]) (C := "BigRunnerModel") (T := FT10) (N := 45) hx hb (hw10 hB _) (fun _ h9 => h9) TY10 ok10 nm10 hown hK hP hD hS (lo_in hL t_M (by decide)) e32 rfl 39 (by decide) (wd_986 hB _) rfl (by decide +kernel) rfl rfl (Nat.le_of_ble_eq_true rfl) rfl d_M_run_110 (fun f302 H locs e303 k304 hP hD hS => ?_)
                          have eC := (k304 (g.lk M 6) (tg_ne (lo_k11_6 hL _ t_M) t_M (by decide))).trans eC
                          have eA := (k304 (g.lk M 7) (tg_ne (lo_k11_7 hL _ t_M) t_M (by decide))).trans eA
                          have hu := hu.st k304 t_M (by decide)
                          have hv34 := hv34.st k304 t_M (by decide)
                          have hk305 : ∀ b, b ≠ M → f302 b = f28 b := k304
                          refine lv_goto (tgt := 123) hx hb d_M_run_113 (by decide) ?_
                          refine lv_aload_n hx hb d_M_run_123 rfl (lv_at hl 1 rfl) ?_
                          refine lv_aload_n hx hb d_M_run_124 rfl (lv_at hl 1 rfl) ?_
                          refine pf_get (v := .int (nI x8)) (C := "BigRunnerModel") (T := FT10) (N := 45) hx hb (hw10 hB _) (fun _ h9 => h9) hown hK hP (lo_in hL t_M (by decide)) e303 rfl 40 (by decide) (wd_987 hB _) rfl d_M_run_125 ?_
                          refine lv_if_le (tgt := 135) hx hb d_M_run_128 (by decide) (fun b306 => ?_) (fun b306 => ?_)
                          · skip
                            replace b306 := (nI_leI (a := x8) (b := 0) (by omega) (by omega)).mp b306
                            refine lv_aload_n hx hb d_M_run_135 rfl (lv_at hl 1 rfl) ?_
                            refine pf_get (v := .int (nI 2)) (C := "BigRunnerModel") (T := FT10) (N := 45) hx hb (hw10 hB _) (fun _ h9 => h9) hown hK hP (lo_in hL t_M (by decide)) e303 rfl 39 (by decide) (wd_986 hB _) rfl d_M_run_136 ?_
                            refine pf_put (v := .int (nI 2)) (ty := .int) (fs' := [.int (nI 0), .ref (g.lk M 1), .int (nI mn), .ref (g.lk M 3), .ref (g.lk M 4), .int (nI mdr), .ref (g.lk M 6), .ref (g.lk M 7), .ref (g.lk M 8), .int (nI msz), .int (nI mix), .int (nI mdp), .ref (g.lk M 12), .int (nI mwt), .ref (g.lk M 14), .ref (g.lk M 15), .int (nI mop), .ref (g.lk M 17), .ref (g.lk M 18), .ref (g.lk M 19), .ref (g.lk M 20), .ref (g.lk M 21), .ref (g.lk M 22), .ref (g.lk M 23), .ref (g.lk M 24), .ref (g.lk M 25), .ref (g.lk M 26), .ref (g.lk M 27), .ref (g.lk M 28), .ref (g.lk M 29), .ref (g.lk M 30), .ref (g.lk M 31), .int (nI t8), .ref (g.lk M 33), .ref (g.lk M 34), .ref (g.lk M 35), .int (nI w8), .int (nI g8), .int (nI p8), .int (nI 2), .int (nI x8), .int (nI y8), .int ma8, .int lg8, .int mdu]) (C := "BigRunnerModel") (T := FT10) (N := 45) hx hb (hw10 hB _) (fun _ h9 => h9) TY10 ok10 nm10 hown hK hP hD hS (lo_in hL t_M (by decide)) e303 rfl 39 (by decide) (wd_986 hB _) rfl (by decide +kernel) rfl rfl (Nat.le_of_ble_eq_true rfl) rfl d_M_run_139 (fun f307 H locs e308 k309 hP hD hS => ?_)
                            have eC := (k309 (g.lk M 6) (tg_ne (lo_k11_6 hL _ t_M) t_M (by decide))).trans eC
                            have eA := (k309 (g.lk M 7) (tg_ne (lo_k11_7 hL _ t_M) t_M (by decide))).trans eA
                            have hu := hu.st k309 t_M (by decide)
                            have hv34 := hv34.st k309 t_M (by decide)
                            have hk310 : ∀ b, b ≠ M → f307 b = f28 b := fun b q0 => (k309 b q0).trans (hk305 b q0)
                            refine lv_aload_n hx hb d_M_run_142 rfl (lv_at hl 1 rfl) ?_
                            refine pf_get (v := .int (nI 2)) (C := "BigRunnerModel") (T := FT10) (N := 45) hx hb (hw10 hB _) (fun _ h9 => h9) hown hK hP (lo_in hL t_M (by decide)) e308 rfl 39 (by decide) (wd_986 hB _) rfl d_M_run_143 ?_
                            refine lv_iconst (v := nI 1) hx hb d_M_run_146 (by decide) ?_
                            refine lv_icmp_ne (tgt := 191) hx hb d_M_run_147 (by decide) (fun b311 => ?_) (fun b311 => ?_)
                            · skip
                              replace b311 := mt (nI_eq (a := 2) (b := 1) (by omega) (by omega)).mpr b311
                              refine lv_aload_n hx hb d_M_run_191 rfl (lv_at hl 1 rfl) ?_
                              refine lv_aload_n hx hb d_M_run_192 rfl (lv_at hl 1 rfl) ?_
                              refine pf_get (v := .int (nI 2)) (C := "BigRunnerModel") (T := FT10) (N := 45) hx hb (hw10 hB _) (fun _ h9 => h9) hown hK hP (lo_in hL t_M (by decide)) e308 rfl 39 (by decide) (wd_986 hB _) rfl d_M_run_193 ?_
                              refine lv_iconst (v := nI 1) hx hb d_M_run_196 (by decide) ?_
                              refine lv_icmp_ne (tgt := 215) hx hb d_M_run_197 (by decide) (fun b312 => ?_) (fun b312 => ?_)
                              · skip
                                replace b312 := mt (nI_eq (a := 2) (b := 1) (by omega) (by omega)).mpr b312
                                refine lv_aload_n hx hb d_M_run_215 rfl (lv_at hl 1 rfl) ?_
                                refine pf_get (v := .int (nI 2)) (C := "BigRunnerModel") (T := FT10) (N := 45) hx hb (hw10 hB _) (fun _ h9 => h9) hown hK hP (lo_in hL t_M (by decide)) e308 rfl 39 (by decide) (wd_986 hB _) rfl d_M_run_216 ?_
                                refine pf_put (v := .int (nI 2)) (ty := .int) (fs' := [.int (nI 0), .ref (g.lk M 1), .int (nI mn), .ref (g.lk M 3), .ref (g.lk M 4), .int (nI mdr), .ref (g.lk M 6), .ref (g.lk M 7), .ref (g.lk M 8), .int (nI msz), .int (nI mix), .int (nI mdp), .ref (g.lk M 12), .int (nI mwt), .ref (g.lk M 14), .ref (g.lk M 15), .int (nI mop), .ref (g.lk M 17), .ref (g.lk M 18), .ref (g.lk M 19), .ref (g.lk M 20), .ref (g.lk M 21), .ref (g.lk M 22), .ref (g.lk M 23), .ref (g.lk M 24), .ref (g.lk M 25), .ref (g.lk M 26), .ref (g.lk M 27), .ref (g.lk M 28), .ref (g.lk M 29), .ref (g.lk M 30), .ref (g.lk M 31), .int (nI t8), .ref (g.lk M 33), .ref (g.lk M 34), .ref (g.lk M 35), .int (nI w8), .int (nI g8), .int (nI p8), .int (nI 2), .int (nI x8), .int (nI y8), .int ma8, .int lg8, .int mdu]) (C := "BigRunnerModel") (T := FT10) (N := 45) hx hb (hw10 hB _) (fun _ h9 => h9) TY10 ok10 nm10 hown hK hP hD hS (lo_in hL t_M (by decide)) e308 rfl 39 (by decide) (wd_986 hB _) rfl (by decide +kernel) rfl rfl (Nat.le_of_ble_eq_true rfl) rfl d_M_run_219 (fun f313 H locs e314 k315 hP hD hS => ?_)
                                have eC := (k315 (g.lk M 6) (tg_ne (lo_k11_6 hL _ t_M) t_M (by decide))).trans eC
                                have eA := (k315 (g.lk M 7) (tg_ne (lo_k11_7 hL _ t_M) t_M (by decide))).trans eA
                                have hu := hu.st k315 t_M (by decide)
                                have hv34 := hv34.st k315 t_M (by decide)
                                have hk316 : ∀ b, b ≠ M → f313 b = f28 b := fun b q0 => (k315 b q0).trans (hk310 b q0)
                                refine lv_goto (tgt := 56) hx hb d_M_run_222 (by decide) ?_
                                have hI317 := iv_1 hI33 hL t_M (by decide) hk316 (oc_11.mk t_M (⟨((nI 0)), mn, mdr, msz, mix, mdp, mwt, mop, t8, w8, g8, p8, 2, x8, y8, ma8, lg8, mdu, e314, (by omega), (by omega), (by omega), (by omega), (by omega), (by omega), (by omega), (by omega), (by omega), (by omega), (by omega), (by omega), (by omega), (by omega), hmb14⟩))
                                exact ih30 md t8 w8 g8 p8 2 x8 y8 ma8 lg8 f313 H locs ls (by omega) (by omega) (by omega) (by omega) (by omega) (by omega) (by omega) (by omega) (by omega) (fun _ => ⟨by omega, q2, q3, by omega⟩) e314 hI317 hv34 hl hP hD hS
                              · skip
                                replace b312 := (nI_eq (a := 2) (b := 1) (by omega) (by omega)).mp b312
                                exfalso; omega
                            · skip
                              replace b311 := (nI_eq (a := 2) (b := 1) (by omega) (by omega)).mp b311
                              exfalso; omega
                          · skip
                            replace b306 := mt (nI_leI (a := x8) (b := 0) (by omega) (by omega)).mpr b306
                            refine lv_iconst (v := nI 4) hx hb d_M_run_131 (by decide) ?_
                            refine lv_goto (tgt := 139) hx hb d_M_run_132 (by decide) ?_
                            refine pf_put (v := .int (nI 4)) (ty := .int) (fs' := [.int (nI 0), .ref (g.lk M 1), .int (nI mn), .ref (g.lk M 3), .ref (g.lk M 4), .int (nI mdr), .ref (g.lk M 6), .ref (g.lk M 7), .ref (g.lk M 8), .int (nI msz), .int (nI mix), .int (nI mdp), .ref (g.lk M 12), .int (nI mwt), .ref (g.lk M 14), .ref (g.lk M 15), .int (nI mop), .ref (g.lk M 17), .ref (g.lk M 18), .ref (g.lk M 19), .ref (g.lk M 20), .ref (g.lk M 21), .ref (g.lk M 22), .ref (g.lk M 23), .ref (g.lk M 24), .ref (g.lk M 25), .ref (g.lk M 26), .ref (g.lk M 27), .ref (g.lk M 28), .ref (g.lk M 29), .ref (g.lk M 30), .ref (g.lk M 31), .int (nI t8), .ref (g.lk M 33), .ref (g.lk M 34), .ref (g.lk M 35), .int (nI w8), .int (nI g8), .int (nI p8), .int (nI 4), .int (nI x8), .int (nI y8), .int ma8, .int lg8, .int mdu]) (C := "BigRunnerModel") (T := FT10) (N := 45) hx hb (hw10 hB _) (fun _ h9 => h9) TY10 ok10 nm10 hown hK hP hD hS (lo_in hL t_M (by decide)) e303 rfl 39 (by decide) (wd_986 hB _) rfl (by decide +kernel) rfl rfl (Nat.le_of_ble_eq_true rfl) rfl d_M_run_139 (fun f318 H locs e319 k320 hP hD hS => ?_)
                            have eC := (k320 (g.lk M 6) (tg_ne (lo_k11_6 hL _ t_M) t_M (by decide))).trans eC
                            have eA := (k320 (g.lk M 7) (tg_ne (lo_k11_7 hL _ t_M) t_M (by decide))).trans eA
                            have hu := hu.st k320 t_M (by decide)
                            have hv34 := hv34.st k320 t_M (by decide)
                            have hk321 : ∀ b, b ≠ M → f318 b = f28 b := fun b q0 => (k320 b q0).trans (hk305 b q0)
                            refine lv_aload_n hx hb d_M_run_142 rfl (lv_at hl 1 rfl) ?_
                            refine pf_get (v := .int (nI 4)) (C := "BigRunnerModel") (T := FT10) (N := 45) hx hb (hw10 hB _) (fun _ h9 => h9) hown hK hP (lo_in hL t_M (by decide)) e319 rfl 39 (by decide) (wd_986 hB _) rfl d_M_run_143 ?_
                            refine lv_iconst (v := nI 1) hx hb d_M_run_146 (by decide) ?_
                            refine lv_icmp_ne (tgt := 191) hx hb d_M_run_147 (by decide) (fun b322 => ?_) (fun b322 => ?_)
                            · skip
                              replace b322 := mt (nI_eq (a := 4) (b := 1) (by omega) (by omega)).mpr b322
                              refine lv_aload_n hx hb d_M_run_191 rfl (lv_at hl 1 rfl) ?_
                              refine lv_aload_n hx hb d_M_run_192 rfl (lv_at hl 1 rfl) ?_
                              refine pf_get (v := .int (nI 4)) (C := "BigRunnerModel") (T := FT10) (N := 45) hx hb (hw10 hB _) (fun _ h9 => h9) hown hK hP (lo_in hL t_M (by decide)) e319 rfl 39 (by decide) (wd_986 hB _) rfl d_M_run_193 ?_
                              refine lv_iconst (v := nI 1) hx hb d_M_run_196 (by decide) ?_
                              refine lv_icmp_ne (tgt := 215) hx hb d_M_run_197 (by decide) (fun b323 => ?_) (fun b323 => ?_)
                              · skip
                                replace b323 := mt (nI_eq (a := 4) (b := 1) (by omega) (by omega)).mpr b323
                                refine lv_aload_n hx hb d_M_run_215 rfl (lv_at hl 1 rfl) ?_
                                refine pf_get (v := .int (nI 4)) (C := "BigRunnerModel") (T := FT10) (N := 45) hx hb (hw10 hB _) (fun _ h9 => h9) hown hK hP (lo_in hL t_M (by decide)) e319 rfl 39 (by decide) (wd_986 hB _) rfl d_M_run_216 ?_
                                refine pf_put (v := .int (nI 4)) (ty := .int) (fs' := [.int (nI 0), .ref (g.lk M 1), .int (nI mn), .ref (g.lk M 3), .ref (g.lk M 4), .int (nI mdr), .ref (g.lk M 6), .ref (g.lk M 7), .ref (g.lk M 8), .int (nI msz), .int (nI mix), .int (nI mdp), .ref (g.lk M 12), .int (nI mwt), .ref (g.lk M 14), .ref (g.lk M 15), .int (nI mop), .ref (g.lk M 17), .ref (g.lk M 18), .ref (g.lk M 19), .ref (g.lk M 20), .ref (g.lk M 21), .ref (g.lk M 22), .ref (g.lk M 23), .ref (g.lk M 24), .ref (g.lk M 25), .ref (g.lk M 26), .ref (g.lk M 27), .ref (g.lk M 28), .ref (g.lk M 29), .ref (g.lk M 30), .ref (g.lk M 31), .int (nI t8), .ref (g.lk M 33), .ref (g.lk M 34), .ref (g.lk M 35), .int (nI w8), .int (nI g8), .int (nI p8), .int (nI 4), .int (nI x8), .int (nI y8), .int ma8, .int lg8, .int mdu]) (C := "BigRunnerModel") (T := FT10) (N := 45) hx hb (hw10 hB _) (fun _ h9 => h9) TY10 ok10 nm10 hown hK hP hD hS (lo_in hL t_M (by decide)) e319 rfl 39 (by decide) (wd_986 hB _) rfl (by decide +kernel) rfl rfl (Nat.le_of_ble_eq_true rfl) rfl d_M_run_219 (fun f324 H locs e325 k326 hP hD hS => ?_)
                                have eC := (k326 (g.lk M 6) (tg_ne (lo_k11_6 hL _ t_M) t_M (by decide))).trans eC
                                have eA := (k326 (g.lk M 7) (tg_ne (lo_k11_7 hL _ t_M) t_M (by decide))).trans eA
                                have hu := hu.st k326 t_M (by decide)
                                have hv34 := hv34.st k326 t_M (by decide)
                                have hk327 : ∀ b, b ≠ M → f324 b = f28 b := fun b q0 => (k326 b q0).trans (hk321 b q0)
                                refine lv_goto (tgt := 56) hx hb d_M_run_222 (by decide) ?_
                                have hI328 := iv_1 hI33 hL t_M (by decide) hk327 (oc_11.mk t_M (⟨((nI 0)), mn, mdr, msz, mix, mdp, mwt, mop, t8, w8, g8, p8, 4, x8, y8, ma8, lg8, mdu, e325, (by omega), (by omega), (by omega), (by omega), (by omega), (by omega), (by omega), (by omega), (by omega), (by omega), (by omega), (by omega), (by omega), (by omega), hmb14⟩))
                                exact ih30 md t8 w8 g8 p8 4 x8 y8 ma8 lg8 f324 H locs ls (by omega) (by omega) (by omega) (by omega) (by omega) (by omega) (by omega) (by omega) (by omega) (fun z => absurd z (by omega)) e325 hI328 hv34 hl hP hD hS
                              · skip
                                replace b323 := (nI_eq (a := 4) (b := 1) (by omega) (by omega)).mp b323
                                exfalso; omega
                            · skip
                              replace b322 := (nI_eq (a := 4) (b := 1) (by omega) (by omega)).mp b322
                              exfalso; omega
                    · skip
                      replace b77 := (nI_eq (a := y8) (b := 3000) (by omega) (by omega)).mp b77
                      refine lv_aload_n hx hb d_M_run_79 rfl (lv_at hl 1 rfl) ?_
                      refine lv_iconst (v := nI 3) hx hb d_M_run_80 (by decide) ?_
                      refine pf_put (v := .int (nI 3)) (ty := .int) (fs' := [.int (nI 0), .ref (g.lk M 1), .int (nI mn), .ref (g.lk M 3), .ref (g.lk M 4), .int (nI mdr), .ref (g.lk M 6), .ref (g.lk M 7), .ref (g.lk M 8), .int (nI msz), .int (nI mix), .int (nI mdp), .ref (g.lk M 12), .int (nI mwt), .ref (g.lk M 14), .ref (g.lk M 15), .int (nI mop), .ref (g.lk M 17), .ref (g.lk M 18), .ref (g.lk M 19), .ref (g.lk M 20), .ref (g.lk M 21), .ref (g.lk M 22), .ref (g.lk M 23), .ref (g.lk M 24), .ref (g.lk M 25), .ref (g.lk M 26), .ref (g.lk M 27), .ref (g.lk M 28), .ref (g.lk M 29), .ref (g.lk M 30), .ref (g.lk M 31), .int (nI t8), .ref (g.lk M 33), .ref (g.lk M 34), .ref (g.lk M 35), .int (nI w8), .int (nI g8), .int (nI p8), .int (nI s8), .int (nI 3), .int (nI y8), .int ma8, .int lg8, .int mdu]) (C := "BigRunnerModel") (T := FT10) (N := 45) hx hb (hw10 hB _) (fun _ h9 => h9) TY10 ok10 nm10 hown hK hP hD hS (lo_in hL t_M (by decide)) e32 rfl 40 (by decide) (wd_987 hB _) rfl (by decide +kernel) rfl rfl (Nat.le_of_ble_eq_true rfl) rfl d_M_run_81 (fun f329 H locs e330 k331 hP hD hS => ?_)
                      have eC := (k331 (g.lk M 6) (tg_ne (lo_k11_6 hL _ t_M) t_M (by decide))).trans eC
                      have eA := (k331 (g.lk M 7) (tg_ne (lo_k11_7 hL _ t_M) t_M (by decide))).trans eA
                      have hu := hu.st k331 t_M (by decide)
                      have hv34 := hv34.st k331 t_M (by decide)
                      have hk332 : ∀ b, b ≠ M → f329 b = f28 b := k331
                      refine lv_goto (tgt := 123) hx hb d_M_run_84 (by decide) ?_
                      refine lv_aload_n hx hb d_M_run_123 rfl (lv_at hl 1 rfl) ?_
                      refine lv_aload_n hx hb d_M_run_124 rfl (lv_at hl 1 rfl) ?_
                      refine pf_get (v := .int (nI 3)) (C := "BigRunnerModel") (T := FT10) (N := 45) hx hb (hw10 hB _) (fun _ h9 => h9) hown hK hP (lo_in hL t_M (by decide)) e330 rfl 40 (by decide) (wd_987 hB _) rfl d_M_run_125 ?_
                      refine lv_if_le (tgt := 135) hx hb d_M_run_128 (by decide) (fun b333 => ?_) (fun b333 => ?_)
                      · skip
                        replace b333 := (nI_leI (a := 3) (b := 0) (by omega) (by omega)).mp b333
                        exfalso; omega
                      · skip
                        replace b333 := mt (nI_leI (a := 3) (b := 0) (by omega) (by omega)).mpr b333
                        refine lv_iconst (v := nI 4) hx hb d_M_run_131 (by decide) ?_
                        refine lv_goto (tgt := 139) hx hb d_M_run_132 (by decide) ?_
                        refine pf_put (v := .int (nI 4)) (ty := .int) (fs' := [.int (nI 0), .ref (g.lk M 1), .int (nI mn), .ref (g.lk M 3), .ref (g.lk M 4), .int (nI mdr), .ref (g.lk M 6), .ref (g.lk M 7), .ref (g.lk M 8), .int (nI msz), .int (nI mix), .int (nI mdp), .ref (g.lk M 12), .int (nI mwt), .ref (g.lk M 14), .ref (g.lk M 15), .int (nI mop), .ref (g.lk M 17), .ref (g.lk M 18), .ref (g.lk M 19), .ref (g.lk M 20), .ref (g.lk M 21), .ref (g.lk M 22), .ref (g.lk M 23), .ref (g.lk M 24), .ref (g.lk M 25), .ref (g.lk M 26), .ref (g.lk M 27), .ref (g.lk M 28), .ref (g.lk M 29), .ref (g.lk M 30), .ref (g.lk M 31), .int (nI t8), .ref (g.lk M 33), .ref (g.lk M 34), .ref (g.lk M 35), .int (nI w8), .int (nI g8), .int (nI p8), .int (nI 4), .int (nI 3), .int (nI y8), .int ma8, .int lg8, .int mdu]) (C := "BigRunnerModel") (T := FT10) (N := 45) hx hb (hw10 hB _) (fun _ h9 => h9) TY10 ok10 nm10 hown hK hP hD hS (lo_in hL t_M (by decide)) e330 rfl 39 (by decide) (wd_986 hB _) rfl (by decide +kernel) rfl rfl (Nat.le_of_ble_eq_true rfl) rfl d_M_run_139 (fun f334 H locs e335 k336 hP hD hS => ?_)
                        have eC := (k336 (g.lk M 6) (tg_ne (lo_k11_6 hL _ t_M) t_M (by decide))).trans eC
                        have eA := (k336 (g.lk M 7) (tg_ne (lo_k11_7 hL _ t_M) t_M (by decide))).trans eA
                        have hu := hu.st k336 t_M (by decide)
                        have hv34 := hv34.st k336 t_M (by decide)
                        have hk337 : ∀ b, b ≠ M → f334 b = f28 b := fun b q0 => (k336 b q0).trans (hk332 b q0)
                        refine lv_aload_n hx hb d_M_run_142 rfl (lv_at hl 1 rfl) ?_
                        refine pf_get (v := .int (nI 4)) (C := "BigRunnerModel") (T := FT10) (N := 45) hx hb (hw10 hB _) (fun _ h9 => h9) hown hK hP (lo_in hL t_M (by decide)) e335 rfl 39 (by decide) (wd_986 hB _) rfl d_M_run_143 ?_
                        refine lv_iconst (v := nI 1) hx hb d_M_run_146 (by decide) ?_
                        refine lv_icmp_ne (tgt := 191) hx hb d_M_run_147 (by decide) (fun b338 => ?_) (fun b338 => ?_)
                        · skip
                          replace b338 := mt (nI_eq (a := 4) (b := 1) (by omega) (by omega)).mpr b338
                          refine lv_aload_n hx hb d_M_run_191 rfl (lv_at hl 1 rfl) ?_
                          refine lv_aload_n hx hb d_M_run_192 rfl (lv_at hl 1 rfl) ?_
                          refine pf_get (v := .int (nI 4)) (C := "BigRunnerModel") (T := FT10) (N := 45) hx hb (hw10 hB _) (fun _ h9 => h9) hown hK hP (lo_in hL t_M (by decide)) e335 rfl 39 (by decide) (wd_986 hB _) rfl d_M_run_193 ?_
                          refine lv_iconst (v := nI 1) hx hb d_M_run_196 (by decide) ?_
                          refine lv_icmp_ne (tgt := 215) hx hb d_M_run_197 (by decide) (fun b339 => ?_) (fun b339 => ?_)
                          · skip
                            replace b339 := mt (nI_eq (a := 4) (b := 1) (by omega) (by omega)).mpr b339
                            refine lv_aload_n hx hb d_M_run_215 rfl (lv_at hl 1 rfl) ?_
                            refine pf_get (v := .int (nI 4)) (C := "BigRunnerModel") (T := FT10) (N := 45) hx hb (hw10 hB _) (fun _ h9 => h9) hown hK hP (lo_in hL t_M (by decide)) e335 rfl 39 (by decide) (wd_986 hB _) rfl d_M_run_216 ?_
                            refine pf_put (v := .int (nI 4)) (ty := .int) (fs' := [.int (nI 0), .ref (g.lk M 1), .int (nI mn), .ref (g.lk M 3), .ref (g.lk M 4), .int (nI mdr), .ref (g.lk M 6), .ref (g.lk M 7), .ref (g.lk M 8), .int (nI msz), .int (nI mix), .int (nI mdp), .ref (g.lk M 12), .int (nI mwt), .ref (g.lk M 14), .ref (g.lk M 15), .int (nI mop), .ref (g.lk M 17), .ref (g.lk M 18), .ref (g.lk M 19), .ref (g.lk M 20), .ref (g.lk M 21), .ref (g.lk M 22), .ref (g.lk M 23), .ref (g.lk M 24), .ref (g.lk M 25), .ref (g.lk M 26), .ref (g.lk M 27), .ref (g.lk M 28), .ref (g.lk M 29), .ref (g.lk M 30), .ref (g.lk M 31), .int (nI t8), .ref (g.lk M 33), .ref (g.lk M 34), .ref (g.lk M 35), .int (nI w8), .int (nI g8), .int (nI p8), .int (nI 4), .int (nI 3), .int (nI y8), .int ma8, .int lg8, .int mdu]) (C := "BigRunnerModel") (T := FT10) (N := 45) hx hb (hw10 hB _) (fun _ h9 => h9) TY10 ok10 nm10 hown hK hP hD hS (lo_in hL t_M (by decide)) e335 rfl 39 (by decide) (wd_986 hB _) rfl (by decide +kernel) rfl rfl (Nat.le_of_ble_eq_true rfl) rfl d_M_run_219 (fun f340 H locs e341 k342 hP hD hS => ?_)
                            have eC := (k342 (g.lk M 6) (tg_ne (lo_k11_6 hL _ t_M) t_M (by decide))).trans eC
                            have eA := (k342 (g.lk M 7) (tg_ne (lo_k11_7 hL _ t_M) t_M (by decide))).trans eA
                            have hu := hu.st k342 t_M (by decide)
                            have hv34 := hv34.st k342 t_M (by decide)
                            have hk343 : ∀ b, b ≠ M → f340 b = f28 b := fun b q0 => (k342 b q0).trans (hk337 b q0)
                            refine lv_goto (tgt := 56) hx hb d_M_run_222 (by decide) ?_
                            have hI344 := iv_1 hI33 hL t_M (by decide) hk343 (oc_11.mk t_M (⟨((nI 0)), mn, mdr, msz, mix, mdp, mwt, mop, t8, w8, g8, p8, 4, 3, y8, ma8, lg8, mdu, e341, (by omega), (by omega), (by omega), (by omega), (by omega), (by omega), (by omega), (by omega), (by omega), (by omega), (by omega), (by omega), (by omega), (by omega), hmb14⟩))
                            exact ih30 md t8 w8 g8 p8 4 3 y8 ma8 lg8 f340 H locs ls (by omega) (by omega) (by omega) (by omega) (by omega) (by omega) (by omega) (by omega) (by omega) (fun z => absurd z (by omega)) e341 hI344 hv34 hl hP hD hS
                          · skip
                            replace b339 := (nI_eq (a := 4) (b := 1) (by omega) (by omega)).mp b339
                            exfalso; omega
                        · skip
                          replace b338 := (nI_eq (a := 4) (b := 1) (by omega) (by omega)).mp b338
                          exfalso; omega
            exact lp27 (kn + 2) 0 mtp mwa mgi mpc 1 mtr msp mma mlg f22 H locs ls (by omega) (by omega) (by omega) (by omega) (by omega) (by omega) (by omega) (by omega) (by omega) (fun _ => ⟨r1, r2, r3, r4⟩) e23 hI26 un.rf hl hP hD hS
          · skip
            replace b21 := mt (nI_leI (a := 0) (b := 0) (by omega) (by omega)).mpr b21
            exfalso; omega
        · skip
          refine lv_iconst (v := nI 2) hx hb d_M_run_32 (by decide) ?_
          refine lv_goto (tgt := 37) hx hb d_M_run_33 (by decide) ?_
          refine pf_put (v := .int (nI 2)) (ty := .int) (fs' := [.int (nI 2), .ref (g.lk M 1), .int (nI mn), .ref (g.lk M 3), .ref (g.lk M 4), .int (nI mdr), .ref (g.lk M 6), .ref (g.lk M 7), .ref (g.lk M 8), .int (nI msz), .int (nI mix), .int (nI mdp), .ref (g.lk M 12), .int (nI mwt), .ref (g.lk M 14), .ref (g.lk M 15), .int (nI mop), .ref (g.lk M 17), .ref (g.lk M 18), .ref (g.lk M 19), .ref (g.lk M 20), .ref (g.lk M 21), .ref (g.lk M 22), .ref (g.lk M 23), .ref (g.lk M 24), .ref (g.lk M 25), .ref (g.lk M 26), .ref (g.lk M 27), .ref (g.lk M 28), .ref (g.lk M 29), .ref (g.lk M 30), .ref (g.lk M 31), .int (nI mtp), .ref (g.lk M 33), .ref (g.lk M 34), .ref (g.lk M 35), .int (nI mwa), .int (nI mgi), .int (nI mpc), .int (nI mst), .int (nI mtr), .int (nI msp), .int mma, .int mlg, .int mdu]) (C := "BigRunnerModel") (T := FT10) (N := 45) hx hb (hw10 hB _) (fun _ h9 => h9) TY10 ok10 nm10 hown hK hP hD hS (lo_in hL t_M (by decide)) eM rfl 0 (by decide) (wd_947 hB _) rfl (by decide +kernel) rfl rfl (Nat.le_of_ble_eq_true rfl) rfl d_M_run_37 (fun f345 H locs e346 k347 hP hD hS => ?_)
          have eC := (k347 (g.lk M 6) (tg_ne (lo_k11_6 hL _ t_M) t_M (by decide))).trans eC
          have eA := (k347 (g.lk M 7) (tg_ne (lo_k11_7 hL _ t_M) t_M (by decide))).trans eA
          have hu := hu.st k347 t_M (by decide)
          have hk348 : ∀ b, b ≠ M → f345 b = f b := k347
          refine lv_aload_n hx hb d_M_run_40 rfl (lv_at hl 0 rfl) ?_
          refine pf_get (v := .int (nI 2)) (C := "BigRunnerModel") (T := FT10) (N := 45) hx hb (hw10 hB _) (fun _ h9 => h9) hown hK hP (lo_in hL t_M (by decide)) e346 rfl 0 (by decide) (wd_947 hB _) rfl d_M_run_41 ?_
          refine lv_if_le (tgt := 49) hx hb d_M_run_44 (by decide) (fun b349 => ?_) (fun b349 => ?_)
          · skip
            replace b349 := (nI_leI (a := 2) (b := 0) (by omega) (by omega)).mp b349
            exfalso; omega
          · skip
            replace b349 := mt (nI_leI (a := 2) (b := 0) (by omega) (by omega)).mpr b349
            refine lv_iconst (v := nI 0) hx hb d_M_run_47 (by decide) ?_
            have hI350 := iv_1 hI hL t_M (by decide) hk348 (oc_11.mk t_M (⟨((nI 2)), mn, mdr, msz, mix, mdp, mwt, mop, mtp, mwa, mgi, mpc, mst, mtr, msp, mma, mlg, mdu, e346, (by omega), (by omega), (by omega), (by omega), (by omega), (by omega), (by omega), (by omega), (by omega), (by omega), (by omega), (by omega), (by omega), (by omega), hmb14⟩))
            exact pe_iret hx hb hr hlocks hK hP hD hS d_M_run_48 ⟨⟨(nI 2), mtp, mwa, mgi, mpc, mst, mtr, msp, mma, mlg, by omega, by omega, by omega, by omega, by omega, by omega, by omega, hRI, e346⟩, hI350, hu⟩
    · skip
      replace b8 := mt (nI_leI (a := mst) (b := 2) (by omega) (by omega)).mpr b8
      refine lv_iconst (v := nI 1) hx hb d_M_run_16 (by decide) ?_
      refine lv_goto (tgt := 37) hx hb d_M_run_17 (by decide) ?_
      refine pf_put (v := .int (nI 1)) (ty := .int) (fs' := [.int (nI 1), .ref (g.lk M 1), .int (nI mn), .ref (g.lk M 3), .ref (g.lk M 4), .int (nI mdr), .ref (g.lk M 6), .ref (g.lk M 7), .ref (g.lk M 8), .int (nI msz), .int (nI mix), .int (nI mdp), .ref (g.lk M 12), .int (nI mwt), .ref (g.lk M 14), .ref (g.lk M 15), .int (nI mop), .ref (g.lk M 17), .ref (g.lk M 18), .ref (g.lk M 19), .ref (g.lk M 20), .ref (g.lk M 21), .ref (g.lk M 22), .ref (g.lk M 23), .ref (g.lk M 24), .ref (g.lk M 25), .ref (g.lk M 26), .ref (g.lk M 27), .ref (g.lk M 28), .ref (g.lk M 29), .ref (g.lk M 30), .ref (g.lk M 31), .int (nI mtp), .ref (g.lk M 33), .ref (g.lk M 34), .ref (g.lk M 35), .int (nI mwa), .int (nI mgi), .int (nI mpc), .int (nI mst), .int (nI mtr), .int (nI msp), .int mma, .int mlg, .int mdu]) (C := "BigRunnerModel") (T := FT10) (N := 45) hx hb (hw10 hB _) (fun _ h9 => h9) TY10 ok10 nm10 hown hK hP hD hS (lo_in hL t_M (by decide)) eM rfl 0 (by decide) (wd_947 hB _) rfl (by decide +kernel) rfl rfl (Nat.le_of_ble_eq_true rfl) rfl d_M_run_37 (fun f351 H locs e352 k353 hP hD hS => ?_)
      have eC := (k353 (g.lk M 6) (tg_ne (lo_k11_6 hL _ t_M) t_M (by decide))).trans eC
      have eA := (k353 (g.lk M 7) (tg_ne (lo_k11_7 hL _ t_M) t_M (by decide))).trans eA
      have hu := hu.st k353 t_M (by decide)
      have hk354 : ∀ b, b ≠ M → f351 b = f b := k353
      refine lv_aload_n hx hb d_M_run_40 rfl (lv_at hl 0 rfl) ?_
      refine pf_get (v := .int (nI 1)) (C := "BigRunnerModel") (T := FT10) (N := 45) hx hb (hw10 hB _) (fun _ h9 => h9) hown hK hP (lo_in hL t_M (by decide)) e352 rfl 0 (by decide) (wd_947 hB _) rfl d_M_run_41 ?_
      refine lv_if_le (tgt := 49) hx hb d_M_run_44 (by decide) (fun b355 => ?_) (fun b355 => ?_)
      · skip
        replace b355 := (nI_leI (a := 1) (b := 0) (by omega) (by omega)).mp b355
        exfalso; omega
      · skip
        replace b355 := mt (nI_leI (a := 1) (b := 0) (by omega) (by omega)).mpr b355
        refine lv_iconst (v := nI 0) hx hb d_M_run_47 (by decide) ?_
        have hI356 := iv_1 hI hL t_M (by decide) hk354 (oc_11.mk t_M (⟨((nI 1)), mn, mdr, msz, mix, mdp, mwt, mop, mtp, mwa, mgi, mpc, mst, mtr, msp, mma, mlg, mdu, e352, (by omega), (by omega), (by omega), (by omega), (by omega), (by omega), (by omega), (by omega), (by omega), (by omega), (by omega), (by omega), (by omega), (by omega), hmb14⟩))
        exact pe_iret hx hb hr hlocks hK hP hD hS d_M_run_48 ⟨⟨(nI 1), mtp, mwa, mgi, mpc, mst, mtr, msp, mma, mlg, by omega, by omega, by omega, by omega, by omega, by omega, by omega, hRI, e352⟩, hI356, hu⟩
