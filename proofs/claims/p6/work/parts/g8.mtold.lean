set_option maxHeartbeats 4000000 in
set_option maxRecDepth 100000 in
theorem m3_smallIn (l : Launch) (g : Lay) (sz : Nat) (f : Nat → va_E) (M : Nat) (mth : Int32) (mn : Nat) (mdr : Nat) (msz : Nat) (mix : Nat) (mdp : Nat) (mwt : Nat) (mop : Nat) (mtp : Nat) (mwa : Nat) (mgi : Nat) (mpc : Nat) (mst : Nat) (mtr : Nat) (msp : Nat) (mma : Int32) (mlg : Int32) (mdu : Int32) (hLW : Nat → Int64) (hHG : Nat → Int64) (hUN : Nat → Int32) (hOV : Nat → Int32) (en : Nat → IVL) (k9 : Nat) (hL : LO g) (t_M : g.tg M = 11) (hI : IV g f) (eM : f M = .inr (10, [.int mth, .ref (g.lk M 1), .int (nI mn), .ref (g.lk M 3), .ref (g.lk M 4), .int (nI mdr), .ref (g.lk M 6), .ref (g.lk M 7), .ref (g.lk M 8), .int (nI msz), .int (nI mix), .int (nI mdp), .ref (g.lk M 12), .int (nI mwt), .ref (g.lk M 14), .ref (g.lk M 15), .int (nI mop), .ref (g.lk M 17), .ref (g.lk M 18), .ref (g.lk M 19), .ref (g.lk M 20), .ref (g.lk M 21), .ref (g.lk M 22), .ref (g.lk M 23), .ref (g.lk M 24), .ref (g.lk M 25), .ref (g.lk M 26), .ref (g.lk M 27), .ref (g.lk M 28), .ref (g.lk M 29), .ref (g.lk M 30), .ref (g.lk M 31), .int (nI mtp), .ref (g.lk M 33), .ref (g.lk M 34), .ref (g.lk M 35), .int (nI mwa), .int (nI mgi), .int (nI mpc), .int (nI mst), .int (nI mtr), .int (nI msp), .int mma, .int mlg, .int mdu])) (hMB : mn ≤ 72 ∧ mdr ≤ 100 ∧ msz ≤ 100 ∧ mix ≤ 100 ∧ mdp ≤ 20 ∧ mwt ≤ 72 ∧ mop ≤ 40 ∧ mtp ≤ 80 ∧ mwa ≤ 20 ∧ mgi ≤ msp ∧ mpc ≤ 100 ∧ mst ≤ 4 ∧ mtr ≤ 3 ∧ msp ≤ 3000 ∧ (mdu = 0 ∨ mdu = 1)) (eLW : f (g.lk M 17) = .inl (g.ac (g.lk M 17), 10, .inr (.inl hLW))) (eHG : f (g.lk M 18) = .inl (g.ac (g.lk M 18), 10, .inr (.inl hHG))) (eUN : f (g.lk M 19) = .inl (g.ac (g.lk M 19), 10, .inl hUN)) (eOV : f (g.lk M 20) = .inl (g.ac (g.lk M 20), 10, .inl hOV)) (hk : k9 < 10) (hm0 : 0 < mst) (hVR : VR hLW hHG hUN hOV en) : Met l ⟨"BigRunnerModel", "small", "(I)Z"⟩ [Cond.code ⟨"BigRunnerModel", "small", "(I)Z"⟩ prog_12_method_48_code 2 (some .boolean)] ({ frames := 0, cells := 0, slots := 0, locals := 0 }) (va_Pc [.ref M, .int (nI k9)] (pc_in g sz f)) (va_Qi (fun r f1 => (r = bI ((en k9).1.isSome && (en k9).2.isSome)) ∧ (f1 M = .inr (10, [.int (nI 0), .ref (g.lk M 1), .int (nI mn), .ref (g.lk M 3), .ref (g.lk M 4), .int (nI mdr), .ref (g.lk M 6), .ref (g.lk M 7), .ref (g.lk M 8), .int (nI msz), .int (nI mix), .int (nI mdp), .ref (g.lk M 12), .int (nI mwt), .ref (g.lk M 14), .ref (g.lk M 15), .int (nI mop), .ref (g.lk M 17), .ref (g.lk M 18), .ref (g.lk M 19), .ref (g.lk M 20), .ref (g.lk M 21), .ref (g.lk M 22), .ref (g.lk M 23), .ref (g.lk M 24), .ref (g.lk M 25), .ref (g.lk M 26), .ref (g.lk M 27), .ref (g.lk M 28), .ref (g.lk M 29), .ref (g.lk M 30), .ref (g.lk M 31), .int (nI mtp), .ref (g.lk M 33), .ref (g.lk M 34), .ref (g.lk M 35), .int (nI mwa), .int (nI mgi), .int (nI mpc), .int (nI mst), .int (nI mtr), .int (nI msp), .int mma, .int mlg, .int mdu])) ∧ (IV g f1) ∧ (un [11] g f f1)) (pc_out g sz) (pc_A g sz)) 0 0 (pc_A g sz) := by
  refine pe_ofW (cc := prog_12_method_48_code) (maxL := 2) (ret := (some .boolean)) (lv := [(0, .ref M), (1, .int (nI k9))]) (by decide) (Nat.le_of_ble_eq_true rfl) rfl ?_
  intro p e s m args below meth c ls hx hb hr hml hlocks hown hB hP hK hD hsz hS hl
  subst hsz
  have hu : un [11] g f f := un.rf
  obtain ⟨hmb0, hmb1, hmb2, hmb3, hmb4, hmb5, hmb6, hmb7, hmb8, hmb9, hmb10, hmb11, hmb12, hmb13, hmb14⟩ := hMB
  refine lv_aload_n hx hb d_M_small_0 rfl (lv_at hl 0 rfl) ?_
  refine lv_iconst (v := nI 0) hx hb d_M_small_1 (by decide) ?_
  refine pf_put (v := .int (nI 0)) (ty := .int) (fs' := [.int (nI 0), .ref (g.lk M 1), .int (nI mn), .ref (g.lk M 3), .ref (g.lk M 4), .int (nI mdr), .ref (g.lk M 6), .ref (g.lk M 7), .ref (g.lk M 8), .int (nI msz), .int (nI mix), .int (nI mdp), .ref (g.lk M 12), .int (nI mwt), .ref (g.lk M 14), .ref (g.lk M 15), .int (nI mop), .ref (g.lk M 17), .ref (g.lk M 18), .ref (g.lk M 19), .ref (g.lk M 20), .ref (g.lk M 21), .ref (g.lk M 22), .ref (g.lk M 23), .ref (g.lk M 24), .ref (g.lk M 25), .ref (g.lk M 26), .ref (g.lk M 27), .ref (g.lk M 28), .ref (g.lk M 29), .ref (g.lk M 30), .ref (g.lk M 31), .int (nI mtp), .ref (g.lk M 33), .ref (g.lk M 34), .ref (g.lk M 35), .int (nI mwa), .int (nI mgi), .int (nI mpc), .int (nI mst), .int (nI mtr), .int (nI msp), .int mma, .int mlg, .int mdu]) (C := "BigRunnerModel") (T := FT10) (N := 45) hx hb (hw10 hB _) (fun _ h9 => h9) TY10 ok10 nm10 hown hK hP hD hS (lo_in hL t_M (by decide)) eM rfl 0 (by decide) (wd_947 hB _) rfl (by decide +kernel) rfl rfl (Nat.le_of_ble_eq_true rfl) rfl d_M_small_2 (fun f1 H locs e2 k3 hP hD hS => ?_)
  have eUN := (k3 (g.lk M 19) (tg_ne (lo_k11_19 hL _ t_M) t_M (by decide))).trans eUN
  have eOV := (k3 (g.lk M 20) (tg_ne (lo_k11_20 hL _ t_M) t_M (by decide))).trans eOV
  have eLW := (k3 (g.lk M 17) (tg_ne (lo_k11_17 hL _ t_M) t_M (by decide))).trans eLW
  have eHG := (k3 (g.lk M 18) (tg_ne (lo_k11_18 hL _ t_M) t_M (by decide))).trans eHG
  have hu := hu.st k3 t_M (by decide)
  have hk4 : ∀ b, b ≠ M → f1 b = f b := k3
  refine lv_iload_n hx hb d_M_small_5 rfl (lv_at hl 1 rfl) ?_
  refine lv_if_lt (tgt := 44) hx hb d_M_small_6 (by decide) (fun b5 => ?_) (fun b5 => ?_)
  · skip
    replace b5 := (nI_ltI (a := k9) (b := 0) (by omega) (by omega)).mp b5
    exfalso; omega
  · skip
    replace b5 := mt (nI_ltI (a := k9) (b := 0) (by omega) (by omega)).mpr b5
    refine lv_iload_n hx hb d_M_small_9 rfl (lv_at hl 1 rfl) ?_
    refine lv_bipush (v := nI 10) hx hb d_M_small_10 (by decide) ?_
    refine lv_icmp_ge (tgt := 44) hx hb d_M_small_12 (by decide) (fun b6 => ?_) (fun b6 => ?_)
    · skip
      replace b6 := (nI_leI (a := 10) (b := k9) (by omega) (by omega)).mp b6
      exfalso; omega
    · skip
      replace b6 := mt (nI_leI (a := 10) (b := k9) (by omega) (by omega)).mpr b6
      refine lv_aload_n hx hb d_M_small_15 rfl (lv_at hl 0 rfl) ?_
      refine pf_get (v := .int (nI mst)) (C := "BigRunnerModel") (T := FT10) (N := 45) hx hb (hw10 hB _) (fun _ h9 => h9) hown hK hP (lo_in hL t_M (by decide)) e2 rfl 39 (by decide) (wd_986 hB _) rfl d_M_small_16 ?_
      refine lv_if_le (tgt := 44) hx hb d_M_small_19 (by decide) (fun b7 => ?_) (fun b7 => ?_)
      · skip
        replace b7 := (nI_leI (a := mst) (b := 0) (by omega) (by omega)).mp b7
        exfalso; omega
      · skip
        replace b7 := mt (nI_leI (a := mst) (b := 0) (by omega) (by omega)).mpr b7
        refine lv_aload_n hx hb d_M_small_22 rfl (lv_at hl 0 rfl) ?_
        refine pf_get (v := .ref (g.lk M 19)) (C := "BigRunnerModel") (T := FT10) (N := 45) hx hb (hw10 hB _) (fun _ h9 => h9) hown hK hP (lo_in hL t_M (by decide)) e2 rfl 19 (by decide) (wd_966 hB _) rfl d_M_small_23 ?_
        refine lv_iload_n hx hb d_M_small_26 rfl (lv_at hl 1 rfl) ?_
        refine pf_zald (i := k9) hx hb hK hP (lo_in hL (lo_k11_19 hL _ t_M) (by decide)) eUN (lo_t51 hL _ (lo_k11_19 hL _ t_M)) (by omega) (by decide) d_M_small_27 ?_
        refine lv_if_ne (tgt := 44) hx hb d_M_small_28 (by decide) (fun b8 => ?_) (fun b8 => ?_)
        · skip
          replace b8 : ¬ (hUN k9) = nI 0 := b8
          refine lv_iconst (v := nI 0) hx hb d_M_small_44 (by decide) ?_
          have hI9 := iv_1 hI hL t_M (by decide) hk4 (oc_11.mk t_M (⟨((nI 0)), mn, mdr, msz, mix, mdp, mwt, mop, mtp, mwa, mgi, mpc, mst, mtr, msp, mma, mlg, mdu, e2, (by omega), (by omega), (by omega), (by omega), (by omega), (by omega), (by omega), (by omega), (by omega), (by omega), (by omega), (by omega), (by omega), (by omega), hmb14⟩))
          exact pe_zret hx hb hr hlocks hK hP hD hS d_M_small_45 rfl ⟨(by rw [← RV_d (hVR.2 k9 hk).1, ← RV_d (hVR.2 k9 hk).2]; simp [bI, b8]), e2, hI9, hu⟩
        · skip
          replace b8 : (hUN k9) = nI 0 := b8
          refine lv_aload_n hx hb d_M_small_31 rfl (lv_at hl 0 rfl) ?_
          refine pf_get (v := .ref (g.lk M 20)) (C := "BigRunnerModel") (T := FT10) (N := 45) hx hb (hw10 hB _) (fun _ h9 => h9) hown hK hP (lo_in hL t_M (by decide)) e2 rfl 20 (by decide) (wd_967 hB _) rfl d_M_small_32 ?_
          refine lv_iload_n hx hb d_M_small_35 rfl (lv_at hl 1 rfl) ?_
          refine pf_zald (i := k9) hx hb hK hP (lo_in hL (lo_k11_20 hL _ t_M) (by decide)) eOV (lo_t52 hL _ (lo_k11_20 hL _ t_M)) (by omega) (by decide) d_M_small_36 ?_
          refine lv_if_ne (tgt := 44) hx hb d_M_small_37 (by decide) (fun b10 => ?_) (fun b10 => ?_)
          · skip
            replace b10 : ¬ (hOV k9) = nI 0 := b10
            refine lv_iconst (v := nI 0) hx hb d_M_small_44 (by decide) ?_
            have hI11 := iv_1 hI hL t_M (by decide) hk4 (oc_11.mk t_M (⟨((nI 0)), mn, mdr, msz, mix, mdp, mwt, mop, mtp, mwa, mgi, mpc, mst, mtr, msp, mma, mlg, mdu, e2, (by omega), (by omega), (by omega), (by omega), (by omega), (by omega), (by omega), (by omega), (by omega), (by omega), (by omega), (by omega), (by omega), (by omega), hmb14⟩))
            exact pe_zret hx hb hr hlocks hK hP hD hS d_M_small_45 rfl ⟨(by rw [← RV_d (hVR.2 k9 hk).1, ← RV_d (hVR.2 k9 hk).2]; simp [bI, b8, b10]), e2, hI11, hu⟩
          · skip
            replace b10 : (hOV k9) = nI 0 := b10
            refine lv_iconst (v := nI 1) hx hb d_M_small_40 (by decide) ?_
            refine lv_goto (tgt := 45) hx hb d_M_small_41 (by decide) ?_
            have hI12 := iv_1 hI hL t_M (by decide) hk4 (oc_11.mk t_M (⟨((nI 0)), mn, mdr, msz, mix, mdp, mwt, mop, mtp, mwa, mgi, mpc, mst, mtr, msp, mma, mlg, mdu, e2, (by omega), (by omega), (by omega), (by omega), (by omega), (by omega), (by omega), (by omega), (by omega), (by omega), (by omega), (by omega), (by omega), (by omega), hmb14⟩))
            exact pe_zret hx hb hr hlocks hK hP hD hS d_M_small_45 rfl ⟨(by rw [← RV_d (hVR.2 k9 hk).1, ← RV_d (hVR.2 k9 hk).2]; simp [bI, b8, b10]), e2, hI12, hu⟩
set_option maxHeartbeats 4000000 in
set_option maxRecDepth 100000 in
theorem m3_smallOut (l : Launch) (g : Lay) (sz : Nat) (f : Nat → va_E) (M : Nat) (mth : Int32) (mn : Nat) (mdr : Nat) (msz : Nat) (mix : Nat) (mdp : Nat) (mwt : Nat) (mop : Nat) (mtp : Nat) (mwa : Nat) (mgi : Nat) (mpc : Nat) (mst : Nat) (mtr : Nat) (msp : Nat) (mma : Int32) (mlg : Int32) (mdu : Int32) (v : Int32) (hL : LO g) (t_M : g.tg M = 11) (hI : IV g f) (eM : f M = .inr (10, [.int mth, .ref (g.lk M 1), .int (nI mn), .ref (g.lk M 3), .ref (g.lk M 4), .int (nI mdr), .ref (g.lk M 6), .ref (g.lk M 7), .ref (g.lk M 8), .int (nI msz), .int (nI mix), .int (nI mdp), .ref (g.lk M 12), .int (nI mwt), .ref (g.lk M 14), .ref (g.lk M 15), .int (nI mop), .ref (g.lk M 17), .ref (g.lk M 18), .ref (g.lk M 19), .ref (g.lk M 20), .ref (g.lk M 21), .ref (g.lk M 22), .ref (g.lk M 23), .ref (g.lk M 24), .ref (g.lk M 25), .ref (g.lk M 26), .ref (g.lk M 27), .ref (g.lk M 28), .ref (g.lk M 29), .ref (g.lk M 30), .ref (g.lk M 31), .int (nI mtp), .ref (g.lk M 33), .ref (g.lk M 34), .ref (g.lk M 35), .int (nI mwa), .int (nI mgi), .int (nI mpc), .int (nI mst), .int (nI mtr), .int (nI msp), .int mma, .int mlg, .int mdu])) (hMB : mn ≤ 72 ∧ mdr ≤ 100 ∧ msz ≤ 100 ∧ mix ≤ 100 ∧ mdp ≤ 20 ∧ mwt ≤ 72 ∧ mop ≤ 40 ∧ mtp ≤ 80 ∧ mwa ≤ 20 ∧ mgi ≤ msp ∧ mpc ≤ 100 ∧ mst ≤ 4 ∧ mtr ≤ 3 ∧ msp ≤ 3000 ∧ (mdu = 0 ∨ mdu = 1)) (hno : vok v = false ∨ mst = 0) : Met l ⟨"BigRunnerModel", "small", "(I)Z"⟩ [Cond.code ⟨"BigRunnerModel", "small", "(I)Z"⟩ prog_12_method_48_code 2 (some .boolean)] ({ frames := 0, cells := 0, slots := 0, locals := 0 }) (va_Pc [.ref M, .int v] (pc_in g sz f)) (va_Qi (fun r f1 => (r = nI 0) ∧ (f1 M = .inr (10, [.int (nI 0), .ref (g.lk M 1), .int (nI mn), .ref (g.lk M 3), .ref (g.lk M 4), .int (nI mdr), .ref (g.lk M 6), .ref (g.lk M 7), .ref (g.lk M 8), .int (nI msz), .int (nI mix), .int (nI mdp), .ref (g.lk M 12), .int (nI mwt), .ref (g.lk M 14), .ref (g.lk M 15), .int (nI mop), .ref (g.lk M 17), .ref (g.lk M 18), .ref (g.lk M 19), .ref (g.lk M 20), .ref (g.lk M 21), .ref (g.lk M 22), .ref (g.lk M 23), .ref (g.lk M 24), .ref (g.lk M 25), .ref (g.lk M 26), .ref (g.lk M 27), .ref (g.lk M 28), .ref (g.lk M 29), .ref (g.lk M 30), .ref (g.lk M 31), .int (nI mtp), .ref (g.lk M 33), .ref (g.lk M 34), .ref (g.lk M 35), .int (nI mwa), .int (nI mgi), .int (nI mpc), .int (nI mst), .int (nI mtr), .int (nI msp), .int mma, .int mlg, .int mdu])) ∧ (IV g f1) ∧ (un [11] g f f1)) (pc_out g sz) (pc_A g sz)) 0 0 (pc_A g sz) := by
  refine pe_ofW (cc := prog_12_method_48_code) (maxL := 2) (ret := (some .boolean)) (lv := [(0, .ref M), (1, .int v)]) (by decide) (Nat.le_of_ble_eq_true rfl) rfl ?_
  intro p e s m args below meth c ls hx hb hr hml hlocks hown hB hP hK hD hsz hS hl
  subst hsz
  have hu : un [11] g f f := un.rf
  obtain ⟨hmb0, hmb1, hmb2, hmb3, hmb4, hmb5, hmb6, hmb7, hmb8, hmb9, hmb10, hmb11, hmb12, hmb13, hmb14⟩ := hMB
  refine lv_aload_n hx hb d_M_small_0 rfl (lv_at hl 0 rfl) ?_
  refine lv_iconst (v := nI 0) hx hb d_M_small_1 (by decide) ?_
  refine pf_put (v := .int (nI 0)) (ty := .int) (fs' := [.int (nI 0), .ref (g.lk M 1), .int (nI mn), .ref (g.lk M 3), .ref (g.lk M 4), .int (nI mdr), .ref (g.lk M 6), .ref (g.lk M 7), .ref (g.lk M 8), .int (nI msz), .int (nI mix), .int (nI mdp), .ref (g.lk M 12), .int (nI mwt), .ref (g.lk M 14), .ref (g.lk M 15), .int (nI mop), .ref (g.lk M 17), .ref (g.lk M 18), .ref (g.lk M 19), .ref (g.lk M 20), .ref (g.lk M 21), .ref (g.lk M 22), .ref (g.lk M 23), .ref (g.lk M 24), .ref (g.lk M 25), .ref (g.lk M 26), .ref (g.lk M 27), .ref (g.lk M 28), .ref (g.lk M 29), .ref (g.lk M 30), .ref (g.lk M 31), .int (nI mtp), .ref (g.lk M 33), .ref (g.lk M 34), .ref (g.lk M 35), .int (nI mwa), .int (nI mgi), .int (nI mpc), .int (nI mst), .int (nI mtr), .int (nI msp), .int mma, .int mlg, .int mdu]) (C := "BigRunnerModel") (T := FT10) (N := 45) hx hb (hw10 hB _) (fun _ h9 => h9) TY10 ok10 nm10 hown hK hP hD hS (lo_in hL t_M (by decide)) eM rfl 0 (by decide) (wd_947 hB _) rfl (by decide +kernel) rfl rfl (Nat.le_of_ble_eq_true rfl) rfl d_M_small_2 (fun f1 H locs e2 k3 hP hD hS => ?_)
  have hu := hu.st k3 t_M (by decide)
  have hk4 : ∀ b, b ≠ M → f1 b = f b := k3
  refine lv_iload_n hx hb d_M_small_5 rfl (lv_at hl 1 rfl) ?_
  refine lv_if_lt (tgt := 44) hx hb d_M_small_6 (by decide) (fun b5 => ?_) (fun b5 => ?_)
  · skip
    refine lv_iconst (v := nI 0) hx hb d_M_small_44 (by decide) ?_
    have hI6 := iv_1 hI hL t_M (by decide) hk4 (oc_11.mk t_M (⟨((nI 0)), mn, mdr, msz, mix, mdp, mwt, mop, mtp, mwa, mgi, mpc, mst, mtr, msp, mma, mlg, mdu, e2, (by omega), (by omega), (by omega), (by omega), (by omega), (by omega), (by omega), (by omega), (by omega), (by omega), (by omega), (by omega), (by omega), (by omega), hmb14⟩))
    exact pe_zret hx hb hr hlocks hK hP hD hS d_M_small_45 rfl ⟨rfl, e2, hI6, hu⟩
  · skip
    refine lv_iload_n hx hb d_M_small_9 rfl (lv_at hl 1 rfl) ?_
    refine lv_bipush (v := nI 10) hx hb d_M_small_10 (by decide) ?_
    refine lv_icmp_ge (tgt := 44) hx hb d_M_small_12 (by decide) (fun b7 => ?_) (fun b7 => ?_)
    · skip
      refine lv_iconst (v := nI 0) hx hb d_M_small_44 (by decide) ?_
      have hI8 := iv_1 hI hL t_M (by decide) hk4 (oc_11.mk t_M (⟨((nI 0)), mn, mdr, msz, mix, mdp, mwt, mop, mtp, mwa, mgi, mpc, mst, mtr, msp, mma, mlg, mdu, e2, (by omega), (by omega), (by omega), (by omega), (by omega), (by omega), (by omega), (by omega), (by omega), (by omega), (by omega), (by omega), (by omega), (by omega), hmb14⟩))
      exact pe_zret hx hb hr hlocks hK hP hD hS d_M_small_45 rfl ⟨rfl, e2, hI8, hu⟩
    · skip
      refine lv_aload_n hx hb d_M_small_15 rfl (lv_at hl 0 rfl) ?_
      refine pf_get (v := .int (nI mst)) (C := "BigRunnerModel") (T := FT10) (N := 45) hx hb (hw10 hB _) (fun _ h9 => h9) hown hK hP (lo_in hL t_M (by decide)) e2 rfl 39 (by decide) (wd_986 hB _) rfl d_M_small_16 ?_
      refine lv_if_le (tgt := 44) hx hb d_M_small_19 (by decide) (fun b9 => ?_) (fun b9 => ?_)
      · skip
        replace b9 := (nI_leI (a := mst) (b := 0) (by omega) (by omega)).mp b9
        refine lv_iconst (v := nI 0) hx hb d_M_small_44 (by decide) ?_
        have hI10 := iv_1 hI hL t_M (by decide) hk4 (oc_11.mk t_M (⟨((nI 0)), mn, mdr, msz, mix, mdp, mwt, mop, mtp, mwa, mgi, mpc, mst, mtr, msp, mma, mlg, mdu, e2, (by omega), (by omega), (by omega), (by omega), (by omega), (by omega), (by omega), (by omega), (by omega), (by omega), (by omega), (by omega), (by omega), (by omega), hmb14⟩))
        exact pe_zret hx hb hr hlocks hK hP hD hS d_M_small_45 rfl ⟨rfl, e2, hI10, hu⟩
      · skip
        replace b9 := mt (nI_leI (a := mst) (b := 0) (by omega) (by omega)).mpr b9
        exfalso
        rcases hno with hno | hno
        · simp [vok, b5, b7] at hno
        · omega
theorem RV_none {u : Int32} {a : Int64} {o : Option Int} (h : RV u a o) (q : ¬ u = nI 0) : o = none := by
  cases o with
  | none => rfl
  | some x => exact absurd (h.2 x rfl).1 q
theorem RV_some {u : Int32} {a : Int64} {o : Option Int} (h : RV u a o) (q : u = nI 0) : ∃ x, o = some x ∧ a = Int64.ofInt x := by
  cases o with
  | none => exact absurd ((h.1 rfl).symm.trans q) (by decide)
  | some x => exact ⟨x, rfl, by rw [← (h.2 x rfl).2.1, Int64.ofInt_toInt]⟩
set_option maxHeartbeats 4000000 in
set_option maxRecDepth 100000 in
theorem m3_boundIn (l : Launch) (g : Lay) (sz : Nat) (f : Nat → va_E) (M : Nat) (mth : Int32) (mn : Nat) (mdr : Nat) (msz : Nat) (mix : Nat) (mdp : Nat) (mwt : Nat) (mop : Nat) (mtp : Nat) (mwa : Nat) (mgi : Nat) (mpc : Nat) (mst : Nat) (mtr : Nat) (msp : Nat) (mma : Int32) (mlg : Int32) (mdu : Int32) (hLW : Nat → Int64) (hHG : Nat → Int64) (hUN : Nat → Int32) (hOV : Nat → Int32) (en : Nat → IVL) (k9 : Nat) (gr : Int32) (hL : LO g) (t_M : g.tg M = 11) (hI : IV g f) (eM : f M = .inr (10, [.int mth, .ref (g.lk M 1), .int (nI mn), .ref (g.lk M 3), .ref (g.lk M 4), .int (nI mdr), .ref (g.lk M 6), .ref (g.lk M 7), .ref (g.lk M 8), .int (nI msz), .int (nI mix), .int (nI mdp), .ref (g.lk M 12), .int (nI mwt), .ref (g.lk M 14), .ref (g.lk M 15), .int (nI mop), .ref (g.lk M 17), .ref (g.lk M 18), .ref (g.lk M 19), .ref (g.lk M 20), .ref (g.lk M 21), .ref (g.lk M 22), .ref (g.lk M 23), .ref (g.lk M 24), .ref (g.lk M 25), .ref (g.lk M 26), .ref (g.lk M 27), .ref (g.lk M 28), .ref (g.lk M 29), .ref (g.lk M 30), .ref (g.lk M 31), .int (nI mtp), .ref (g.lk M 33), .ref (g.lk M 34), .ref (g.lk M 35), .int (nI mwa), .int (nI mgi), .int (nI mpc), .int (nI mst), .int (nI mtr), .int (nI msp), .int mma, .int mlg, .int mdu])) (hMB : mn ≤ 72 ∧ mdr ≤ 100 ∧ msz ≤ 100 ∧ mix ≤ 100 ∧ mdp ≤ 20 ∧ mwt ≤ 72 ∧ mop ≤ 40 ∧ mtp ≤ 80 ∧ mwa ≤ 20 ∧ mgi ≤ msp ∧ mpc ≤ 100 ∧ mst ≤ 4 ∧ mtr ≤ 3 ∧ msp ≤ 3000 ∧ (mdu = 0 ∨ mdu = 1)) (eLW : f (g.lk M 17) = .inl (g.ac (g.lk M 17), 10, .inr (.inl hLW))) (eHG : f (g.lk M 18) = .inl (g.ac (g.lk M 18), 10, .inr (.inl hHG))) (eUN : f (g.lk M 19) = .inl (g.ac (g.lk M 19), 10, .inl hUN)) (eOV : f (g.lk M 20) = .inl (g.ac (g.lk M 20), 10, .inl hOV)) (hk : k9 < 10) (hm0 : 0 < mst) (hVR : VR hLW hHG hUN hOV en) : Met l ⟨"BigRunnerModel", "bound", "(IZ)J"⟩ [Cond.code ⟨"BigRunnerModel", "bound", "(IZ)J"⟩ prog_12_method_47_code 4 (some .long)] ({ frames := 0, cells := 0, slots := 0, locals := 0 }) (va_Pc [.ref M, .int (nI k9), .int gr] (pc_in g sz f)) (va_Ql (fun r f1 => (r = (obn (bsel en k9 gr)).2) ∧ (f1 M = .inr (10, [.int (nI (obn (bsel en k9 gr)).1), .ref (g.lk M 1), .int (nI mn), .ref (g.lk M 3), .ref (g.lk M 4), .int (nI mdr), .ref (g.lk M 6), .ref (g.lk M 7), .ref (g.lk M 8), .int (nI msz), .int (nI mix), .int (nI mdp), .ref (g.lk M 12), .int (nI mwt), .ref (g.lk M 14), .ref (g.lk M 15), .int (nI mop), .ref (g.lk M 17), .ref (g.lk M 18), .ref (g.lk M 19), .ref (g.lk M 20), .ref (g.lk M 21), .ref (g.lk M 22), .ref (g.lk M 23), .ref (g.lk M 24), .ref (g.lk M 25), .ref (g.lk M 26), .ref (g.lk M 27), .ref (g.lk M 28), .ref (g.lk M 29), .ref (g.lk M 30), .ref (g.lk M 31), .int (nI mtp), .ref (g.lk M 33), .ref (g.lk M 34), .ref (g.lk M 35), .int (nI mwa), .int (nI mgi), .int (nI mpc), .int (nI mst), .int (nI mtr), .int (nI msp), .int mma, .int mlg, .int mdu])) ∧ (IV g f1) ∧ (un [11] g f f1)) (pc_out g sz) (pc_A g sz)) 0 0 (pc_A g sz) := by
  refine pe_ofW (cc := prog_12_method_47_code) (maxL := 4) (ret := (some .long)) (lv := [(0, .ref M), (1, .int (nI k9)), (2, .int gr)]) (by decide) (Nat.le_of_ble_eq_true rfl) rfl ?_
  intro p e s m args below meth c ls hx hb hr hml hlocks hown hB hP hK hD hsz hS hl
  subst hsz
  have hu : un [11] g f f := un.rf
  obtain ⟨hmb0, hmb1, hmb2, hmb3, hmb4, hmb5, hmb6, hmb7, hmb8, hmb9, hmb10, hmb11, hmb12, hmb13, hmb14⟩ := hMB
  refine lv_iload_n hx hb d_M_bound_0 rfl (lv_at hl 1 rfl) ?_
  refine lv_if_lt (tgt := 21) hx hb d_M_bound_1 (by decide) (fun b1 => ?_) (fun b1 => ?_)
  · skip
    replace b1 := (nI_ltI (a := k9) (b := 0) (by omega) (by omega)).mp b1
    exfalso; omega
  · skip
    replace b1 := mt (nI_ltI (a := k9) (b := 0) (by omega) (by omega)).mpr b1
    refine lv_iload_n hx hb d_M_bound_4 rfl (lv_at hl 1 rfl) ?_
    refine lv_bipush (v := nI 10) hx hb d_M_bound_5 (by decide) ?_
    refine lv_icmp_ge (tgt := 21) hx hb d_M_bound_7 (by decide) (fun b2 => ?_) (fun b2 => ?_)
    · skip
      replace b2 := (nI_leI (a := 10) (b := k9) (by omega) (by omega)).mp b2
      exfalso; omega
    · skip
      replace b2 := mt (nI_leI (a := 10) (b := k9) (by omega) (by omega)).mpr b2
      refine lv_aload_n hx hb d_M_bound_10 rfl (lv_at hl 0 rfl) ?_
      refine pf_get (v := .int (nI mst)) (C := "BigRunnerModel") (T := FT10) (N := 45) hx hb (hw10 hB _) (fun _ h9 => h9) hown hK hP (lo_in hL t_M (by decide)) eM rfl 39 (by decide) (wd_986 hB _) rfl d_M_bound_11 ?_
      refine lv_if_le (tgt := 21) hx hb d_M_bound_14 (by decide) (fun b3 => ?_) (fun b3 => ?_)
      · skip
        replace b3 := (nI_leI (a := mst) (b := 0) (by omega) (by omega)).mp b3
        exfalso; omega
      · skip
        replace b3 := mt (nI_leI (a := mst) (b := 0) (by omega) (by omega)).mpr b3
        refine lv_iconst (v := nI 1) hx hb d_M_bound_17 (by decide) ?_
        refine lv_goto (tgt := 22) hx hb d_M_bound_18 (by decide) ?_
        refine lv_istore_n (lv' := [(3, .int (nI 1)), (0, .ref M), (1, .int (nI k9)), (2, .int gr)]) hx hb d_M_bound_22 rfl hl (by decide) rfl (fun ls hl => ?_)
        refine lv_aload_n hx hb d_M_bound_23 rfl (lv_at hl 1 rfl) ?_
        refine lv_iload_n hx hb d_M_bound_24 rfl (lv_at hl 0 rfl) ?_
        refine lv_if_eq (tgt := 32) hx hb d_M_bound_25 (by decide) (fun b4 => ?_) (fun b4 => ?_)
        · skip
          replace b4 := (nI_eq (a := 1) (b := 0) (by omega) (by omega)).mp b4
          exfalso; omega
        · skip
          replace b4 := mt (nI_eq (a := 1) (b := 0) (by omega) (by omega)).mpr b4
          refine lv_iconst (v := nI 0) hx hb d_M_bound_28 (by decide) ?_
          refine lv_goto (tgt := 33) hx hb d_M_bound_29 (by decide) ?_
          refine pf_put (v := .int (nI 0)) (ty := .int) (fs' := [.int (nI 0), .ref (g.lk M 1), .int (nI mn), .ref (g.lk M 3), .ref (g.lk M 4), .int (nI mdr), .ref (g.lk M 6), .ref (g.lk M 7), .ref (g.lk M 8), .int (nI msz), .int (nI mix), .int (nI mdp), .ref (g.lk M 12), .int (nI mwt), .ref (g.lk M 14), .ref (g.lk M 15), .int (nI mop), .ref (g.lk M 17), .ref (g.lk M 18), .ref (g.lk M 19), .ref (g.lk M 20), .ref (g.lk M 21), .ref (g.lk M 22), .ref (g.lk M 23), .ref (g.lk M 24), .ref (g.lk M 25), .ref (g.lk M 26), .ref (g.lk M 27), .ref (g.lk M 28), .ref (g.lk M 29), .ref (g.lk M 30), .ref (g.lk M 31), .int (nI mtp), .ref (g.lk M 33), .ref (g.lk M 34), .ref (g.lk M 35), .int (nI mwa), .int (nI mgi), .int (nI mpc), .int (nI mst), .int (nI mtr), .int (nI msp), .int mma, .int mlg, .int mdu]) (C := "BigRunnerModel") (T := FT10) (N := 45) hx hb (hw10 hB _) (fun _ h9 => h9) TY10 ok10 nm10 hown hK hP hD hS (lo_in hL t_M (by decide)) eM rfl 0 (by decide) (wd_947 hB _) rfl (by decide +kernel) rfl rfl (Nat.le_of_ble_eq_true rfl) rfl d_M_bound_33 (fun f5 H locs e6 k7 hP hD hS => ?_)
          have eUN := (k7 (g.lk M 19) (tg_ne (lo_k11_19 hL _ t_M) t_M (by decide))).trans eUN
          have eOV := (k7 (g.lk M 20) (tg_ne (lo_k11_20 hL _ t_M) t_M (by decide))).trans eOV
          have eLW := (k7 (g.lk M 17) (tg_ne (lo_k11_17 hL _ t_M) t_M (by decide))).trans eLW
          have eHG := (k7 (g.lk M 18) (tg_ne (lo_k11_18 hL _ t_M) t_M (by decide))).trans eHG
          have hu := hu.st k7 t_M (by decide)
          have hk8 : ∀ b, b ≠ M → f5 b = f b := k7
          refine lv_iload_n hx hb d_M_bound_36 rfl (lv_at hl 0 rfl) ?_
          refine lv_if_ne (tgt := 42) hx hb d_M_bound_37 (by decide) (fun b9 => ?_) (fun b9 => ?_)
          · skip
            replace b9 := mt (nI_eq (a := 1) (b := 0) (by omega) (by omega)).mpr b9
            refine lv_aload_n hx hb d_M_bound_42 rfl (lv_at hl 1 rfl) ?_
            refine lv_iload_n hx hb d_M_bound_43 rfl (lv_at hl 3 rfl) ?_
            refine lv_if_eq (tgt := 59) hx hb d_M_bound_44 (by decide) (fun b10 => ?_) (fun b10 => ?_)
            · skip
              replace b10 : gr = nI 0 := b10
              have hbs : bsel en k9 gr = (en k9).1 := if_pos b10
              have hRVx := (hVR.2 k9 hk).1
              refine lv_aload_n hx hb d_M_bound_59 rfl (lv_at hl 1 rfl) ?_
              refine pf_get (v := .ref (g.lk M 19)) (C := "BigRunnerModel") (T := FT10) (N := 45) hx hb (hw10 hB _) (fun _ h9 => h9) hown hK hP (lo_in hL t_M (by decide)) e6 rfl 19 (by decide) (wd_966 hB _) rfl d_M_bound_60 ?_
              refine lv_iload_n hx hb d_M_bound_63 rfl (lv_at hl 2 rfl) ?_
              refine pf_zald (i := k9) hx hb hK hP (lo_in hL (lo_k11_19 hL _ t_M) (by decide)) eUN (lo_t51 hL _ (lo_k11_19 hL _ t_M)) (by omega) (by decide) d_M_bound_64 ?_
              refine lv_if_eq (tgt := 72) hx hb d_M_bound_65 (by decide) (fun b11 => ?_) (fun b11 => ?_)
              · skip
                replace b11 : (hUN k9) = nI 0 := b11
                obtain ⟨x9, hx9, hy9⟩ := RV_some hRVx b11
                have hon : bsel en k9 gr = some x9 := by rw [hbs]; exact hx9
                refine lv_iconst (v := nI 0) hx hb d_M_bound_72 (by decide) ?_
                refine pf_put (v := .int (nI 0)) (ty := .int) (fs' := [.int (nI 0), .ref (g.lk M 1), .int (nI mn), .ref (g.lk M 3), .ref (g.lk M 4), .int (nI mdr), .ref (g.lk M 6), .ref (g.lk M 7), .ref (g.lk M 8), .int (nI msz), .int (nI mix), .int (nI mdp), .ref (g.lk M 12), .int (nI mwt), .ref (g.lk M 14), .ref (g.lk M 15), .int (nI mop), .ref (g.lk M 17), .ref (g.lk M 18), .ref (g.lk M 19), .ref (g.lk M 20), .ref (g.lk M 21), .ref (g.lk M 22), .ref (g.lk M 23), .ref (g.lk M 24), .ref (g.lk M 25), .ref (g.lk M 26), .ref (g.lk M 27), .ref (g.lk M 28), .ref (g.lk M 29), .ref (g.lk M 30), .ref (g.lk M 31), .int (nI mtp), .ref (g.lk M 33), .ref (g.lk M 34), .ref (g.lk M 35), .int (nI mwa), .int (nI mgi), .int (nI mpc), .int (nI mst), .int (nI mtr), .int (nI msp), .int mma, .int mlg, .int mdu]) (C := "BigRunnerModel") (T := FT10) (N := 45) hx hb (hw10 hB _) (fun _ h9 => h9) TY10 ok10 nm10 hown hK hP hD hS (lo_in hL t_M (by decide)) e6 rfl 0 (by decide) (wd_947 hB _) rfl (by decide +kernel) rfl rfl (Nat.le_of_ble_eq_true rfl) rfl d_M_bound_73 (fun f12 H locs e13 k14 hP hD hS => ?_)
                have eUN := (k14 (g.lk M 19) (tg_ne (lo_k11_19 hL _ t_M) t_M (by decide))).trans eUN
                have eOV := (k14 (g.lk M 20) (tg_ne (lo_k11_20 hL _ t_M) t_M (by decide))).trans eOV
                have eLW := (k14 (g.lk M 17) (tg_ne (lo_k11_17 hL _ t_M) t_M (by decide))).trans eLW
                have eHG := (k14 (g.lk M 18) (tg_ne (lo_k11_18 hL _ t_M) t_M (by decide))).trans eHG
                have hu := hu.st k14 t_M (by decide)
                have hk15 : ∀ b, b ≠ M → f12 b = f b := fun b q0 => (k14 b q0).trans (hk8 b q0)
                refine lv_aload_n hx hb d_M_bound_76 rfl (lv_at hl 1 rfl) ?_
                refine pf_get (v := .int (nI 0)) (C := "BigRunnerModel") (T := FT10) (N := 45) hx hb (hw10 hB _) (fun _ h9 => h9) hown hK hP (lo_in hL t_M (by decide)) e13 rfl 0 (by decide) (wd_947 hB _) rfl d_M_bound_77 ?_
                refine lv_if_le (tgt := 87) hx hb d_M_bound_80 (by decide) (fun b16 => ?_) (fun b16 => ?_)
                · skip
                  replace b16 := (nI_leI (a := 0) (b := 0) (by omega) (by omega)).mp b16
                  refine lv_iload_n hx hb d_M_bound_87 rfl (lv_at hl 3 rfl) ?_
                  refine lv_if_eq (tgt := 100) hx hb d_M_bound_88 (by decide) (fun b17 => ?_) (fun b17 => ?_)
                  · skip
                    replace b17 : gr = nI 0 := b17
                    refine lv_aload_n hx hb d_M_bound_100 rfl (lv_at hl 1 rfl) ?_
                    refine pf_get (v := .ref (g.lk M 17)) (C := "BigRunnerModel") (T := FT10) (N := 45) hx hb (hw10 hB _) (fun _ h9 => h9) hown hK hP (lo_in hL t_M (by decide)) e13 rfl 17 (by decide) (wd_964 hB _) rfl d_M_bound_101 ?_
                    refine lv_iload_n hx hb d_M_bound_104 rfl (lv_at hl 2 rfl) ?_
                    refine pf_lald (i := k9) hx hb hK hP (lo_in hL (lo_k11_17 hL _ t_M) (by decide)) eLW (lo_t49 hL _ (lo_k11_17 hL _ t_M)) (by omega) (by decide) d_M_bound_105 ?_
                    have hI18 := iv_1 hI hL t_M (by decide) hk15 (oc_11.mk t_M (⟨((nI 0)), mn, mdr, msz, mix, mdp, mwt, mop, mtp, mwa, mgi, mpc, mst, mtr, msp, mma, mlg, mdu, e13, (by omega), (by omega), (by omega), (by omega), (by omega), (by omega), (by omega), (by omega), (by omega), (by omega), (by omega), (by omega), (by omega), (by omega), hmb14⟩))
                    exact pe_lret hx hb hr hlocks hK hP hD hS d_M_bound_106 ⟨(by rw [hon]; exact hy9), (by rw [hon]; exact e13), hI18, hu⟩
                  · skip
                    replace b17 : ¬ gr = nI 0 := b17
                    exact absurd (by assumption) b17
                · skip
                  replace b16 := mt (nI_leI (a := 0) (b := 0) (by omega) (by omega)).mpr b16
                  exfalso; omega
              · skip
                replace b11 : ¬ (hUN k9) = nI 0 := b11
                have hon : bsel en k9 gr = none := by rw [hbs]; exact RV_none hRVx b11
                refine lv_iconst (v := nI 2) hx hb d_M_bound_68 (by decide) ?_
                refine lv_goto (tgt := 73) hx hb d_M_bound_69 (by decide) ?_
                refine pf_put (v := .int (nI 2)) (ty := .int) (fs' := [.int (nI 2), .ref (g.lk M 1), .int (nI mn), .ref (g.lk M 3), .ref (g.lk M 4), .int (nI mdr), .ref (g.lk M 6), .ref (g.lk M 7), .ref (g.lk M 8), .int (nI msz), .int (nI mix), .int (nI mdp), .ref (g.lk M 12), .int (nI mwt), .ref (g.lk M 14), .ref (g.lk M 15), .int (nI mop), .ref (g.lk M 17), .ref (g.lk M 18), .ref (g.lk M 19), .ref (g.lk M 20), .ref (g.lk M 21), .ref (g.lk M 22), .ref (g.lk M 23), .ref (g.lk M 24), .ref (g.lk M 25), .ref (g.lk M 26), .ref (g.lk M 27), .ref (g.lk M 28), .ref (g.lk M 29), .ref (g.lk M 30), .ref (g.lk M 31), .int (nI mtp), .ref (g.lk M 33), .ref (g.lk M 34), .ref (g.lk M 35), .int (nI mwa), .int (nI mgi), .int (nI mpc), .int (nI mst), .int (nI mtr), .int (nI msp), .int mma, .int mlg, .int mdu]) (C := "BigRunnerModel") (T := FT10) (N := 45) hx hb (hw10 hB _) (fun _ h9 => h9) TY10 ok10 nm10 hown hK hP hD hS (lo_in hL t_M (by decide)) e6 rfl 0 (by decide) (wd_947 hB _) rfl (by decide +kernel) rfl rfl (Nat.le_of_ble_eq_true rfl) rfl d_M_bound_73 (fun f19 H locs e20 k21 hP hD hS => ?_)
                have eUN := (k21 (g.lk M 19) (tg_ne (lo_k11_19 hL _ t_M) t_M (by decide))).trans eUN
                have eOV := (k21 (g.lk M 20) (tg_ne (lo_k11_20 hL _ t_M) t_M (by decide))).trans eOV
                have eLW := (k21 (g.lk M 17) (tg_ne (lo_k11_17 hL _ t_M) t_M (by decide))).trans eLW
                have eHG := (k21 (g.lk M 18) (tg_ne (lo_k11_18 hL _ t_M) t_M (by decide))).trans eHG
                have hu := hu.st k21 t_M (by decide)
                have hk22 : ∀ b, b ≠ M → f19 b = f b := fun b q0 => (k21 b q0).trans (hk8 b q0)
                refine lv_aload_n hx hb d_M_bound_76 rfl (lv_at hl 1 rfl) ?_
                refine pf_get (v := .int (nI 2)) (C := "BigRunnerModel") (T := FT10) (N := 45) hx hb (hw10 hB _) (fun _ h9 => h9) hown hK hP (lo_in hL t_M (by decide)) e20 rfl 0 (by decide) (wd_947 hB _) rfl d_M_bound_77 ?_
                refine lv_if_le (tgt := 87) hx hb d_M_bound_80 (by decide) (fun b23 => ?_) (fun b23 => ?_)
                · skip
                  replace b23 := (nI_leI (a := 2) (b := 0) (by omega) (by omega)).mp b23
                  exfalso; omega
                · skip
                  replace b23 := mt (nI_leI (a := 2) (b := 0) (by omega) (by omega)).mpr b23
                  refine lv_lconst (v := nL 0) hx hb d_M_bound_83 (by decide) ?_
                  refine lv_goto (tgt := 106) hx hb d_M_bound_84 (by decide) ?_
                  have hI24 := iv_1 hI hL t_M (by decide) hk22 (oc_11.mk t_M (⟨((nI 2)), mn, mdr, msz, mix, mdp, mwt, mop, mtp, mwa, mgi, mpc, mst, mtr, msp, mma, mlg, mdu, e20, (by omega), (by omega), (by omega), (by omega), (by omega), (by omega), (by omega), (by omega), (by omega), (by omega), (by omega), (by omega), (by omega), (by omega), hmb14⟩))
                  exact pe_lret hx hb hr hlocks hK hP hD hS d_M_bound_106 ⟨(by rw [hon]; rfl), (by rw [hon]; exact e20), hI24, hu⟩
            · skip
              replace b10 : ¬ gr = nI 0 := b10
              have hbs : bsel en k9 gr = (en k9).2 := if_neg b10
              have hRVx := (hVR.2 k9 hk).2
              refine lv_aload_n hx hb d_M_bound_47 rfl (lv_at hl 1 rfl) ?_
              refine pf_get (v := .ref (g.lk M 20)) (C := "BigRunnerModel") (T := FT10) (N := 45) hx hb (hw10 hB _) (fun _ h9 => h9) hown hK hP (lo_in hL t_M (by decide)) e6 rfl 20 (by decide) (wd_967 hB _) rfl d_M_bound_48 ?_
              refine lv_iload_n hx hb d_M_bound_51 rfl (lv_at hl 2 rfl) ?_
              refine pf_zald (i := k9) hx hb hK hP (lo_in hL (lo_k11_20 hL _ t_M) (by decide)) eOV (lo_t52 hL _ (lo_k11_20 hL _ t_M)) (by omega) (by decide) d_M_bound_52 ?_
              refine lv_if_eq (tgt := 72) hx hb d_M_bound_53 (by decide) (fun b25 => ?_) (fun b25 => ?_)
              · skip
                replace b25 : (hOV k9) = nI 0 := b25
                obtain ⟨x9, hx9, hy9⟩ := RV_some hRVx b25
                have hon : bsel en k9 gr = some x9 := by rw [hbs]; exact hx9
                refine lv_iconst (v := nI 0) hx hb d_M_bound_72 (by decide) ?_
                refine pf_put (v := .int (nI 0)) (ty := .int) (fs' := [.int (nI 0), .ref (g.lk M 1), .int (nI mn), .ref (g.lk M 3), .ref (g.lk M 4), .int (nI mdr), .ref (g.lk M 6), .ref (g.lk M 7), .ref (g.lk M 8), .int (nI msz), .int (nI mix), .int (nI mdp), .ref (g.lk M 12), .int (nI mwt), .ref (g.lk M 14), .ref (g.lk M 15), .int (nI mop), .ref (g.lk M 17), .ref (g.lk M 18), .ref (g.lk M 19), .ref (g.lk M 20), .ref (g.lk M 21), .ref (g.lk M 22), .ref (g.lk M 23), .ref (g.lk M 24), .ref (g.lk M 25), .ref (g.lk M 26), .ref (g.lk M 27), .ref (g.lk M 28), .ref (g.lk M 29), .ref (g.lk M 30), .ref (g.lk M 31), .int (nI mtp), .ref (g.lk M 33), .ref (g.lk M 34), .ref (g.lk M 35), .int (nI mwa), .int (nI mgi), .int (nI mpc), .int (nI mst), .int (nI mtr), .int (nI msp), .int mma, .int mlg, .int mdu]) (C := "BigRunnerModel") (T := FT10) (N := 45) hx hb (hw10 hB _) (fun _ h9 => h9) TY10 ok10 nm10 hown hK hP hD hS (lo_in hL t_M (by decide)) e6 rfl 0 (by decide) (wd_947 hB _) rfl (by decide +kernel) rfl rfl (Nat.le_of_ble_eq_true rfl) rfl d_M_bound_73 (fun f26 H locs e27 k28 hP hD hS => ?_)
                have eUN := (k28 (g.lk M 19) (tg_ne (lo_k11_19 hL _ t_M) t_M (by decide))).trans eUN
                have eOV := (k28 (g.lk M 20) (tg_ne (lo_k11_20 hL _ t_M) t_M (by decide))).trans eOV
                have eLW := (k28 (g.lk M 17) (tg_ne (lo_k11_17 hL _ t_M) t_M (by decide))).trans eLW
                have eHG := (k28 (g.lk M 18) (tg_ne (lo_k11_18 hL _ t_M) t_M (by decide))).trans eHG
                have hu := hu.st k28 t_M (by decide)
                have hk29 : ∀ b, b ≠ M → f26 b = f b := fun b q0 => (k28 b q0).trans (hk8 b q0)
                refine lv_aload_n hx hb d_M_bound_76 rfl (lv_at hl 1 rfl) ?_
                refine pf_get (v := .int (nI 0)) (C := "BigRunnerModel") (T := FT10) (N := 45) hx hb (hw10 hB _) (fun _ h9 => h9) hown hK hP (lo_in hL t_M (by decide)) e27 rfl 0 (by decide) (wd_947 hB _) rfl d_M_bound_77 ?_
                refine lv_if_le (tgt := 87) hx hb d_M_bound_80 (by decide) (fun b30 => ?_) (fun b30 => ?_)
                · skip
                  replace b30 := (nI_leI (a := 0) (b := 0) (by omega) (by omega)).mp b30
                  refine lv_iload_n hx hb d_M_bound_87 rfl (lv_at hl 3 rfl) ?_
                  refine lv_if_eq (tgt := 100) hx hb d_M_bound_88 (by decide) (fun b31 => ?_) (fun b31 => ?_)
                  · skip
                    replace b31 : gr = nI 0 := b31
                    exact absurd b31 (by assumption)
                  · skip
                    replace b31 : ¬ gr = nI 0 := b31
                    refine lv_aload_n hx hb d_M_bound_91 rfl (lv_at hl 1 rfl) ?_
                    refine pf_get (v := .ref (g.lk M 18)) (C := "BigRunnerModel") (T := FT10) (N := 45) hx hb (hw10 hB _) (fun _ h9 => h9) hown hK hP (lo_in hL t_M (by decide)) e27 rfl 18 (by decide) (wd_965 hB _) rfl d_M_bound_92 ?_
                    refine lv_iload_n hx hb d_M_bound_95 rfl (lv_at hl 2 rfl) ?_
                    refine pf_lald (i := k9) hx hb hK hP (lo_in hL (lo_k11_18 hL _ t_M) (by decide)) eHG (lo_t50 hL _ (lo_k11_18 hL _ t_M)) (by omega) (by decide) d_M_bound_96 ?_
                    refine lv_goto (tgt := 106) hx hb d_M_bound_97 (by decide) ?_
                    have hI32 := iv_1 hI hL t_M (by decide) hk29 (oc_11.mk t_M (⟨((nI 0)), mn, mdr, msz, mix, mdp, mwt, mop, mtp, mwa, mgi, mpc, mst, mtr, msp, mma, mlg, mdu, e27, (by omega), (by omega), (by omega), (by omega), (by omega), (by omega), (by omega), (by omega), (by omega), (by omega), (by omega), (by omega), (by omega), (by omega), hmb14⟩))
                    exact pe_lret hx hb hr hlocks hK hP hD hS d_M_bound_106 ⟨(by rw [hon]; exact hy9), (by rw [hon]; exact e27), hI32, hu⟩
                · skip
                  replace b30 := mt (nI_leI (a := 0) (b := 0) (by omega) (by omega)).mpr b30
                  exfalso; omega
              · skip
                replace b25 : ¬ (hOV k9) = nI 0 := b25
                refine lv_goto (tgt := 68) hx hb d_M_bound_56 (by decide) ?_
                have hon : bsel en k9 gr = none := by rw [hbs]; exact RV_none hRVx b25
                refine lv_iconst (v := nI 2) hx hb d_M_bound_68 (by decide) ?_
                refine lv_goto (tgt := 73) hx hb d_M_bound_69 (by decide) ?_
                refine pf_put (v := .int (nI 2)) (ty := .int) (fs' := [.int (nI 2), .ref (g.lk M 1), .int (nI mn), .ref (g.lk M 3), .ref (g.lk M 4), .int (nI mdr), .ref (g.lk M 6), .ref (g.lk M 7), .ref (g.lk M 8), .int (nI msz), .int (nI mix), .int (nI mdp), .ref (g.lk M 12), .int (nI mwt), .ref (g.lk M 14), .ref (g.lk M 15), .int (nI mop), .ref (g.lk M 17), .ref (g.lk M 18), .ref (g.lk M 19), .ref (g.lk M 20), .ref (g.lk M 21), .ref (g.lk M 22), .ref (g.lk M 23), .ref (g.lk M 24), .ref (g.lk M 25), .ref (g.lk M 26), .ref (g.lk M 27), .ref (g.lk M 28), .ref (g.lk M 29), .ref (g.lk M 30), .ref (g.lk M 31), .int (nI mtp), .ref (g.lk M 33), .ref (g.lk M 34), .ref (g.lk M 35), .int (nI mwa), .int (nI mgi), .int (nI mpc), .int (nI mst), .int (nI mtr), .int (nI msp), .int mma, .int mlg, .int mdu]) (C := "BigRunnerModel") (T := FT10) (N := 45) hx hb (hw10 hB _) (fun _ h9 => h9) TY10 ok10 nm10 hown hK hP hD hS (lo_in hL t_M (by decide)) e6 rfl 0 (by decide) (wd_947 hB _) rfl (by decide +kernel) rfl rfl (Nat.le_of_ble_eq_true rfl) rfl d_M_bound_73 (fun f33 H locs e34 k35 hP hD hS => ?_)
                have eUN := (k35 (g.lk M 19) (tg_ne (lo_k11_19 hL _ t_M) t_M (by decide))).trans eUN
                have eOV := (k35 (g.lk M 20) (tg_ne (lo_k11_20 hL _ t_M) t_M (by decide))).trans eOV
                have eLW := (k35 (g.lk M 17) (tg_ne (lo_k11_17 hL _ t_M) t_M (by decide))).trans eLW
                have eHG := (k35 (g.lk M 18) (tg_ne (lo_k11_18 hL _ t_M) t_M (by decide))).trans eHG
                have hu := hu.st k35 t_M (by decide)
                have hk36 : ∀ b, b ≠ M → f33 b = f b := fun b q0 => (k35 b q0).trans (hk8 b q0)
                refine lv_aload_n hx hb d_M_bound_76 rfl (lv_at hl 1 rfl) ?_
                refine pf_get (v := .int (nI 2)) (C := "BigRunnerModel") (T := FT10) (N := 45) hx hb (hw10 hB _) (fun _ h9 => h9) hown hK hP (lo_in hL t_M (by decide)) e34 rfl 0 (by decide) (wd_947 hB _) rfl d_M_bound_77 ?_
                refine lv_if_le (tgt := 87) hx hb d_M_bound_80 (by decide) (fun b37 => ?_) (fun b37 => ?_)
                · skip
                  replace b37 := (nI_leI (a := 2) (b := 0) (by omega) (by omega)).mp b37
                  exfalso; omega
                · skip
                  replace b37 := mt (nI_leI (a := 2) (b := 0) (by omega) (by omega)).mpr b37
                  refine lv_lconst (v := nL 0) hx hb d_M_bound_83 (by decide) ?_
                  refine lv_goto (tgt := 106) hx hb d_M_bound_84 (by decide) ?_
                  have hI38 := iv_1 hI hL t_M (by decide) hk36 (oc_11.mk t_M (⟨((nI 2)), mn, mdr, msz, mix, mdp, mwt, mop, mtp, mwa, mgi, mpc, mst, mtr, msp, mma, mlg, mdu, e34, (by omega), (by omega), (by omega), (by omega), (by omega), (by omega), (by omega), (by omega), (by omega), (by omega), (by omega), (by omega), (by omega), (by omega), hmb14⟩))
                  exact pe_lret hx hb hr hlocks hK hP hD hS d_M_bound_106 ⟨(by rw [hon]; rfl), (by rw [hon]; exact e34), hI38, hu⟩
          · skip
            replace b9 := (nI_eq (a := 1) (b := 0) (by omega) (by omega)).mp b9
            exfalso; omega
set_option maxHeartbeats 4000000 in
set_option maxRecDepth 100000 in
theorem m3_boundOut (l : Launch) (g : Lay) (sz : Nat) (f : Nat → va_E) (M : Nat) (mth : Int32) (mn : Nat) (mdr : Nat) (msz : Nat) (mix : Nat) (mdp : Nat) (mwt : Nat) (mop : Nat) (mtp : Nat) (mwa : Nat) (mgi : Nat) (mpc : Nat) (mst : Nat) (mtr : Nat) (msp : Nat) (mma : Int32) (mlg : Int32) (mdu : Int32) (v : Int32) (gr : Int32) (hL : LO g) (t_M : g.tg M = 11) (hI : IV g f) (eM : f M = .inr (10, [.int mth, .ref (g.lk M 1), .int (nI mn), .ref (g.lk M 3), .ref (g.lk M 4), .int (nI mdr), .ref (g.lk M 6), .ref (g.lk M 7), .ref (g.lk M 8), .int (nI msz), .int (nI mix), .int (nI mdp), .ref (g.lk M 12), .int (nI mwt), .ref (g.lk M 14), .ref (g.lk M 15), .int (nI mop), .ref (g.lk M 17), .ref (g.lk M 18), .ref (g.lk M 19), .ref (g.lk M 20), .ref (g.lk M 21), .ref (g.lk M 22), .ref (g.lk M 23), .ref (g.lk M 24), .ref (g.lk M 25), .ref (g.lk M 26), .ref (g.lk M 27), .ref (g.lk M 28), .ref (g.lk M 29), .ref (g.lk M 30), .ref (g.lk M 31), .int (nI mtp), .ref (g.lk M 33), .ref (g.lk M 34), .ref (g.lk M 35), .int (nI mwa), .int (nI mgi), .int (nI mpc), .int (nI mst), .int (nI mtr), .int (nI msp), .int mma, .int mlg, .int mdu])) (hMB : mn ≤ 72 ∧ mdr ≤ 100 ∧ msz ≤ 100 ∧ mix ≤ 100 ∧ mdp ≤ 20 ∧ mwt ≤ 72 ∧ mop ≤ 40 ∧ mtp ≤ 80 ∧ mwa ≤ 20 ∧ mgi ≤ msp ∧ mpc ≤ 100 ∧ mst ≤ 4 ∧ mtr ≤ 3 ∧ msp ≤ 3000 ∧ (mdu = 0 ∨ mdu = 1)) (hno : vok v = false ∨ mst = 0) : Met l ⟨"BigRunnerModel", "bound", "(IZ)J"⟩ [Cond.code ⟨"BigRunnerModel", "bound", "(IZ)J"⟩ prog_12_method_47_code 4 (some .long)] ({ frames := 0, cells := 0, slots := 0, locals := 0 }) (va_Pc [.ref M, .int v, .int gr] (pc_in g sz f)) (va_Ql (fun r f1 => (f1 M = .inr (10, [.int (nI 1), .ref (g.lk M 1), .int (nI mn), .ref (g.lk M 3), .ref (g.lk M 4), .int (nI mdr), .ref (g.lk M 6), .ref (g.lk M 7), .ref (g.lk M 8), .int (nI msz), .int (nI mix), .int (nI mdp), .ref (g.lk M 12), .int (nI mwt), .ref (g.lk M 14), .ref (g.lk M 15), .int (nI mop), .ref (g.lk M 17), .ref (g.lk M 18), .ref (g.lk M 19), .ref (g.lk M 20), .ref (g.lk M 21), .ref (g.lk M 22), .ref (g.lk M 23), .ref (g.lk M 24), .ref (g.lk M 25), .ref (g.lk M 26), .ref (g.lk M 27), .ref (g.lk M 28), .ref (g.lk M 29), .ref (g.lk M 30), .ref (g.lk M 31), .int (nI mtp), .ref (g.lk M 33), .ref (g.lk M 34), .ref (g.lk M 35), .int (nI mwa), .int (nI mgi), .int (nI mpc), .int (nI mst), .int (nI mtr), .int (nI msp), .int mma, .int mlg, .int mdu])) ∧ (IV g f1) ∧ (un [11] g f f1)) (pc_out g sz) (pc_A g sz)) 0 0 (pc_A g sz) := by
  refine pe_ofW (cc := prog_12_method_47_code) (maxL := 4) (ret := (some .long)) (lv := [(0, .ref M), (1, .int v), (2, .int gr)]) (by decide) (Nat.le_of_ble_eq_true rfl) rfl ?_
  intro p e s m args below meth c ls hx hb hr hml hlocks hown hB hP hK hD hsz hS hl
  subst hsz
  have hu : un [11] g f f := un.rf
  obtain ⟨hmb0, hmb1, hmb2, hmb3, hmb4, hmb5, hmb6, hmb7, hmb8, hmb9, hmb10, hmb11, hmb12, hmb13, hmb14⟩ := hMB
  refine lv_iload_n hx hb d_M_bound_0 rfl (lv_at hl 1 rfl) ?_
  refine lv_if_lt (tgt := 21) hx hb d_M_bound_1 (by decide) (fun b1 => ?_) (fun b1 => ?_)
  · skip
    refine lv_iconst (v := nI 0) hx hb d_M_bound_21 (by decide) ?_
    refine lv_istore_n (lv' := [(3, .int (nI 0)), (0, .ref M), (1, .int v), (2, .int gr)]) hx hb d_M_bound_22 rfl hl (by decide) rfl (fun ls hl => ?_)
    refine lv_aload_n hx hb d_M_bound_23 rfl (lv_at hl 1 rfl) ?_
    refine lv_iload_n hx hb d_M_bound_24 rfl (lv_at hl 0 rfl) ?_
    refine lv_if_eq (tgt := 32) hx hb d_M_bound_25 (by decide) (fun b2 => ?_) (fun b2 => ?_)
    · skip
      replace b2 := (nI_eq (a := 0) (b := 0) (by omega) (by omega)).mp b2
      refine lv_iconst (v := nI 1) hx hb d_M_bound_32 (by decide) ?_
      refine pf_put (v := .int (nI 1)) (ty := .int) (fs' := [.int (nI 1), .ref (g.lk M 1), .int (nI mn), .ref (g.lk M 3), .ref (g.lk M 4), .int (nI mdr), .ref (g.lk M 6), .ref (g.lk M 7), .ref (g.lk M 8), .int (nI msz), .int (nI mix), .int (nI mdp), .ref (g.lk M 12), .int (nI mwt), .ref (g.lk M 14), .ref (g.lk M 15), .int (nI mop), .ref (g.lk M 17), .ref (g.lk M 18), .ref (g.lk M 19), .ref (g.lk M 20), .ref (g.lk M 21), .ref (g.lk M 22), .ref (g.lk M 23), .ref (g.lk M 24), .ref (g.lk M 25), .ref (g.lk M 26), .ref (g.lk M 27), .ref (g.lk M 28), .ref (g.lk M 29), .ref (g.lk M 30), .ref (g.lk M 31), .int (nI mtp), .ref (g.lk M 33), .ref (g.lk M 34), .ref (g.lk M 35), .int (nI mwa), .int (nI mgi), .int (nI mpc), .int (nI mst), .int (nI mtr), .int (nI msp), .int mma, .int mlg, .int mdu]) (C := "BigRunnerModel") (T := FT10) (N := 45) hx hb (hw10 hB _) (fun _ h9 => h9) TY10 ok10 nm10 hown hK hP hD hS (lo_in hL t_M (by decide)) eM rfl 0 (by decide) (wd_947 hB _) rfl (by decide +kernel) rfl rfl (Nat.le_of_ble_eq_true rfl) rfl d_M_bound_33 (fun f3 H locs e4 k5 hP hD hS => ?_)
      have hu := hu.st k5 t_M (by decide)
      have hk6 : ∀ b, b ≠ M → f3 b = f b := k5
      refine lv_iload_n hx hb d_M_bound_36 rfl (lv_at hl 0 rfl) ?_
      refine lv_if_ne (tgt := 42) hx hb d_M_bound_37 (by decide) (fun b7 => ?_) (fun b7 => ?_)
      · skip
        replace b7 := mt (nI_eq (a := 0) (b := 0) (by omega) (by omega)).mpr b7
        exfalso; omega
      · skip
        replace b7 := (nI_eq (a := 0) (b := 0) (by omega) (by omega)).mp b7
        refine lv_lconst (v := nL 0) hx hb d_M_bound_40 (by decide) ?_
        have hI8 := iv_1 hI hL t_M (by decide) hk6 (oc_11.mk t_M (⟨((nI 1)), mn, mdr, msz, mix, mdp, mwt, mop, mtp, mwa, mgi, mpc, mst, mtr, msp, mma, mlg, mdu, e4, (by omega), (by omega), (by omega), (by omega), (by omega), (by omega), (by omega), (by omega), (by omega), (by omega), (by omega), (by omega), (by omega), (by omega), hmb14⟩))
        exact pe_lret hx hb hr hlocks hK hP hD hS d_M_bound_41 ⟨e4, hI8, hu⟩
    · skip
      replace b2 := mt (nI_eq (a := 0) (b := 0) (by omega) (by omega)).mpr b2
      exfalso; omega
  · skip
    refine lv_iload_n hx hb d_M_bound_4 rfl (lv_at hl 1 rfl) ?_
    refine lv_bipush (v := nI 10) hx hb d_M_bound_5 (by decide) ?_
    refine lv_icmp_ge (tgt := 21) hx hb d_M_bound_7 (by decide) (fun b9 => ?_) (fun b9 => ?_)
    · skip
      refine lv_iconst (v := nI 0) hx hb d_M_bound_21 (by decide) ?_
      refine lv_istore_n (lv' := [(3, .int (nI 0)), (0, .ref M), (1, .int v), (2, .int gr)]) hx hb d_M_bound_22 rfl hl (by decide) rfl (fun ls hl => ?_)
      refine lv_aload_n hx hb d_M_bound_23 rfl (lv_at hl 1 rfl) ?_
      refine lv_iload_n hx hb d_M_bound_24 rfl (lv_at hl 0 rfl) ?_
      refine lv_if_eq (tgt := 32) hx hb d_M_bound_25 (by decide) (fun b10 => ?_) (fun b10 => ?_)
      · skip
        replace b10 := (nI_eq (a := 0) (b := 0) (by omega) (by omega)).mp b10
        refine lv_iconst (v := nI 1) hx hb d_M_bound_32 (by decide) ?_
        refine pf_put (v := .int (nI 1)) (ty := .int) (fs' := [.int (nI 1), .ref (g.lk M 1), .int (nI mn), .ref (g.lk M 3), .ref (g.lk M 4), .int (nI mdr), .ref (g.lk M 6), .ref (g.lk M 7), .ref (g.lk M 8), .int (nI msz), .int (nI mix), .int (nI mdp), .ref (g.lk M 12), .int (nI mwt), .ref (g.lk M 14), .ref (g.lk M 15), .int (nI mop), .ref (g.lk M 17), .ref (g.lk M 18), .ref (g.lk M 19), .ref (g.lk M 20), .ref (g.lk M 21), .ref (g.lk M 22), .ref (g.lk M 23), .ref (g.lk M 24), .ref (g.lk M 25), .ref (g.lk M 26), .ref (g.lk M 27), .ref (g.lk M 28), .ref (g.lk M 29), .ref (g.lk M 30), .ref (g.lk M 31), .int (nI mtp), .ref (g.lk M 33), .ref (g.lk M 34), .ref (g.lk M 35), .int (nI mwa), .int (nI mgi), .int (nI mpc), .int (nI mst), .int (nI mtr), .int (nI msp), .int mma, .int mlg, .int mdu]) (C := "BigRunnerModel") (T := FT10) (N := 45) hx hb (hw10 hB _) (fun _ h9 => h9) TY10 ok10 nm10 hown hK hP hD hS (lo_in hL t_M (by decide)) eM rfl 0 (by decide) (wd_947 hB _) rfl (by decide +kernel) rfl rfl (Nat.le_of_ble_eq_true rfl) rfl d_M_bound_33 (fun f11 H locs e12 k13 hP hD hS => ?_)
        have hu := hu.st k13 t_M (by decide)
        have hk14 : ∀ b, b ≠ M → f11 b = f b := k13
        refine lv_iload_n hx hb d_M_bound_36 rfl (lv_at hl 0 rfl) ?_
        refine lv_if_ne (tgt := 42) hx hb d_M_bound_37 (by decide) (fun b15 => ?_) (fun b15 => ?_)
        · skip
          replace b15 := mt (nI_eq (a := 0) (b := 0) (by omega) (by omega)).mpr b15
          exfalso; omega
        · skip
          replace b15 := (nI_eq (a := 0) (b := 0) (by omega) (by omega)).mp b15
          refine lv_lconst (v := nL 0) hx hb d_M_bound_40 (by decide) ?_
          have hI16 := iv_1 hI hL t_M (by decide) hk14 (oc_11.mk t_M (⟨((nI 1)), mn, mdr, msz, mix, mdp, mwt, mop, mtp, mwa, mgi, mpc, mst, mtr, msp, mma, mlg, mdu, e12, (by omega), (by omega), (by omega), (by omega), (by omega), (by omega), (by omega), (by omega), (by omega), (by omega), (by omega), (by omega), (by omega), (by omega), hmb14⟩))
          exact pe_lret hx hb hr hlocks hK hP hD hS d_M_bound_41 ⟨e12, hI16, hu⟩
      · skip
        replace b10 := mt (nI_eq (a := 0) (b := 0) (by omega) (by omega)).mpr b10
        exfalso; omega
    · skip
      refine lv_aload_n hx hb d_M_bound_10 rfl (lv_at hl 0 rfl) ?_
      refine pf_get (v := .int (nI mst)) (C := "BigRunnerModel") (T := FT10) (N := 45) hx hb (hw10 hB _) (fun _ h9 => h9) hown hK hP (lo_in hL t_M (by decide)) eM rfl 39 (by decide) (wd_986 hB _) rfl d_M_bound_11 ?_
      refine lv_if_le (tgt := 21) hx hb d_M_bound_14 (by decide) (fun b17 => ?_) (fun b17 => ?_)
      · skip
        replace b17 := (nI_leI (a := mst) (b := 0) (by omega) (by omega)).mp b17
        refine lv_iconst (v := nI 0) hx hb d_M_bound_21 (by decide) ?_
        refine lv_istore_n (lv' := [(3, .int (nI 0)), (0, .ref M), (1, .int v), (2, .int gr)]) hx hb d_M_bound_22 rfl hl (by decide) rfl (fun ls hl => ?_)
        refine lv_aload_n hx hb d_M_bound_23 rfl (lv_at hl 1 rfl) ?_
        refine lv_iload_n hx hb d_M_bound_24 rfl (lv_at hl 0 rfl) ?_
        refine lv_if_eq (tgt := 32) hx hb d_M_bound_25 (by decide) (fun b18 => ?_) (fun b18 => ?_)
        · skip
          replace b18 := (nI_eq (a := 0) (b := 0) (by omega) (by omega)).mp b18
          refine lv_iconst (v := nI 1) hx hb d_M_bound_32 (by decide) ?_
          refine pf_put (v := .int (nI 1)) (ty := .int) (fs' := [.int (nI 1), .ref (g.lk M 1), .int (nI mn), .ref (g.lk M 3), .ref (g.lk M 4), .int (nI mdr), .ref (g.lk M 6), .ref (g.lk M 7), .ref (g.lk M 8), .int (nI msz), .int (nI mix), .int (nI mdp), .ref (g.lk M 12), .int (nI mwt), .ref (g.lk M 14), .ref (g.lk M 15), .int (nI mop), .ref (g.lk M 17), .ref (g.lk M 18), .ref (g.lk M 19), .ref (g.lk M 20), .ref (g.lk M 21), .ref (g.lk M 22), .ref (g.lk M 23), .ref (g.lk M 24), .ref (g.lk M 25), .ref (g.lk M 26), .ref (g.lk M 27), .ref (g.lk M 28), .ref (g.lk M 29), .ref (g.lk M 30), .ref (g.lk M 31), .int (nI mtp), .ref (g.lk M 33), .ref (g.lk M 34), .ref (g.lk M 35), .int (nI mwa), .int (nI mgi), .int (nI mpc), .int (nI mst), .int (nI mtr), .int (nI msp), .int mma, .int mlg, .int mdu]) (C := "BigRunnerModel") (T := FT10) (N := 45) hx hb (hw10 hB _) (fun _ h9 => h9) TY10 ok10 nm10 hown hK hP hD hS (lo_in hL t_M (by decide)) eM rfl 0 (by decide) (wd_947 hB _) rfl (by decide +kernel) rfl rfl (Nat.le_of_ble_eq_true rfl) rfl d_M_bound_33 (fun f19 H locs e20 k21 hP hD hS => ?_)
          have hu := hu.st k21 t_M (by decide)
          have hk22 : ∀ b, b ≠ M → f19 b = f b := k21
          refine lv_iload_n hx hb d_M_bound_36 rfl (lv_at hl 0 rfl) ?_
          refine lv_if_ne (tgt := 42) hx hb d_M_bound_37 (by decide) (fun b23 => ?_) (fun b23 => ?_)
          · skip
            replace b23 := mt (nI_eq (a := 0) (b := 0) (by omega) (by omega)).mpr b23
            exfalso; omega
          · skip
            replace b23 := (nI_eq (a := 0) (b := 0) (by omega) (by omega)).mp b23
            refine lv_lconst (v := nL 0) hx hb d_M_bound_40 (by decide) ?_
            have hI24 := iv_1 hI hL t_M (by decide) hk22 (oc_11.mk t_M (⟨((nI 1)), mn, mdr, msz, mix, mdp, mwt, mop, mtp, mwa, mgi, mpc, mst, mtr, msp, mma, mlg, mdu, e20, (by omega), (by omega), (by omega), (by omega), (by omega), (by omega), (by omega), (by omega), (by omega), (by omega), (by omega), (by omega), (by omega), (by omega), hmb14⟩))
            exact pe_lret hx hb hr hlocks hK hP hD hS d_M_bound_41 ⟨e20, hI24, hu⟩
        · skip
          replace b18 := mt (nI_eq (a := 0) (b := 0) (by omega) (by omega)).mpr b18
          exfalso; omega
      · skip
        replace b17 := mt (nI_leI (a := mst) (b := 0) (by omega) (by omega)).mpr b17
        exfalso
        rcases hno with hno | hno
        · simp [vok, b1, b9] at hno
        · omega
