set_option maxHeartbeats 4000000 in
set_option maxRecDepth 100000 in
theorem m3_smallIn (l : Launch) (g : Lay) (sz : Nat) (f : Nat → va_E) (M : Nat) (mth : Int32) (mn : Nat) (mdr : Nat) (msz : Nat) (mix : Nat) (mdp : Nat) (mwt : Nat) (mop : Nat) (mtp : Nat) (mwa : Nat) (mgi : Nat) (mpc : Nat) (mst : Nat) (mtr : Nat) (msp : Nat) (mma : Int32) (mlg : Int32) (mdu : Int32) (hLW : Nat → Int64) (hHG : Nat → Int64) (hUN : Nat → Int32) (hOV : Nat → Int32) (en : Nat → IVL) (k9 : Nat) (hL : LO g) (t_M : g.tg M = 11) (hI : IV g f) (eM : f M = .inr (10, [.int mth, .ref (g.lk M 1), .int (nI mn), .ref (g.lk M 3), .ref (g.lk M 4), .int (nI mdr), .ref (g.lk M 6), .ref (g.lk M 7), .ref (g.lk M 8), .int (nI msz), .int (nI mix), .int (nI mdp), .ref (g.lk M 12), .int (nI mwt), .ref (g.lk M 14), .ref (g.lk M 15), .int (nI mop), .ref (g.lk M 17), .ref (g.lk M 18), .ref (g.lk M 19), .ref (g.lk M 20), .ref (g.lk M 21), .ref (g.lk M 22), .ref (g.lk M 23), .ref (g.lk M 24), .ref (g.lk M 25), .ref (g.lk M 26), .ref (g.lk M 27), .ref (g.lk M 28), .ref (g.lk M 29), .ref (g.lk M 30), .ref (g.lk M 31), .int (nI mtp), .ref (g.lk M 33), .ref (g.lk M 34), .ref (g.lk M 35), .int (nI mwa), .int (nI mgi), .int (nI mpc), .int (nI mst), .int (nI mtr), .int (nI msp), .int mma, .int mlg, .int mdu])) (hMB : mn ≤ 72 ∧ mdr ≤ 100 ∧ msz ≤ 100 ∧ mix ≤ 100 ∧ mdp ≤ 20 ∧ mwt ≤ 72 ∧ mop ≤ 40 ∧ mtp ≤ 80 ∧ mwa ≤ 20 ∧ mgi ≤ msp ∧ mpc ≤ 100 ∧ mst ≤ 4 ∧ mtr ≤ 3 ∧ msp ≤ 3000 ∧ (mdu = 0 ∨ mdu = 1)) (eLW : f (g.lk M 17) = .inl (g.ac (g.lk M 17), 10, .inr (.inl hLW))) (eHG : f (g.lk M 18) = .inl (g.ac (g.lk M 18), 10, .inr (.inl hHG))) (eUN : f (g.lk M 19) = .inl (g.ac (g.lk M 19), 10, .inl hUN)) (eOV : f (g.lk M 20) = .inl (g.ac (g.lk M 20), 10, .inl hOV)) (hk : k9 < 10) (hm0 : 0 < mst) (hVR : VR hLW hHG hUN hOV en) : Met l ⟨"BigRunnerModel", "small", "(I)Z"⟩ [Cond.code ⟨"BigRunnerModel", "small", "(I)Z"⟩ prog_12_method_48_code 2 (some .boolean)] ({ frames := 0, cells := 0, slots := 0, locals := 0 }) (va_Pc [.ref M, .int (nI k9)] (pc_in g sz f)) (va_Qi (fun r f1 => (r = bI ((en k9).1.isSome && (en k9).2.isSome)) ∧ (f1 M = .inr (10, [.int (nI 0), .ref (g.lk M 1), .int (nI mn), .ref (g.lk M 3), .ref (g.lk M 4), .int (nI mdr), .ref (g.lk M 6), .ref (g.lk M 7), .ref (g.lk M 8), .int (nI msz), .int (nI mix), .int (nI mdp), .ref (g.lk M 12), .int (nI mwt), .ref (g.lk M 14), .ref (g.lk M 15), .int (nI mop), .ref (g.lk M 17), .ref (g.lk M 18), .ref (g.lk M 19), .ref (g.lk M 20), .ref (g.lk M 21), .ref (g.lk M 22), .ref (g.lk M 23), .ref (g.lk M 24), .ref (g.lk M 25), .ref (g.lk M 26), .ref (g.lk M 27), .ref (g.lk M 28), .ref (g.lk M 29), .ref (g.lk M 30), .ref (g.lk M 31), .int (nI mtp), .ref (g.lk M 33), .ref (g.lk M 34), .ref (g.lk M 35), .int (nI mwa), .int (nI mgi), .int (nI mpc), .int (nI mst), .int (nI mtr), .int (nI msp), .int mma, .int mlg, .int mdu])) ∧ (IV g f1) ∧ (un [11] g f f1)) (pc_out g sz) (pc_A g sz)) 0 0 (pc_A g sz) := by
  refine pe_ofW (cc := prog_12_method_48_code) (maxL := 2) (ret := (some .boolean)) (lv := [(0, .ref M), (1, .int (nI k9))]) (by decide) (Nat.le_of_ble_eq_true rfl) rfl ?_
  intro p e s m args below meth c ls hx hb hr hml hlocks hown hB hP hK hD hsz hS hl
  subst hsz
  have hu : un [11] g f f := un.rf
  obtain ⟨hmb0, hmb1, hmb2, hmb3, hmb4, hmb5, hmb6, hmb7, hmb8, hmb9, hmb10, hmb11, hmb12, hmb13, hmb14⟩ := hMB
  refine lv_aload_n hx hb d_M_small_0 rfl (lv_at hl 0 rfl) ?_
  refine lv_iconst (v := nI 0) hx hb d_M_small_1 (by decide) ?_
  refine pf_put (v := .int (nI 0)) (ty := .int) (fs' := [.int (nI 0), .ref (g.lk M 1), .int (nI mn), .ref (g.lk M 3), .ref (g.lk M 4), .int (nI mdr), .ref (g.lk M 6), .ref (g.lk M 7), .ref (g.lk M 8), .int (nI msz), .int (nI mix), .int (nI mdp), .ref (g.lk M 12), .int (nI mwt), .ref (g.lk M 14), .ref (g.lk M 15), .int (nI mop), .ref (g.lk M 17), .ref (g.lk M 18), .ref (g.lk M 19), .ref (g.lk M 20), .ref (g.lk M 21), .ref (g.lk M 22), .ref (g.lk M 23), .ref (g.lk M 24), .ref (g.lk M 25), .ref (g.lk M 26), .ref (g.lk M 27), .ref (g.lk M 28), .ref (g.lk M 29), .ref (g.lk M 30), .ref (g.lk M 31), .int (nI mtp), .ref (g.lk M 33), .ref (g.lk M 34), .ref (g.lk M 35), .int (nI mwa), .int (nI mgi), .int (nI mpc), .int (nI mst), .int (nI mtr), .int (nI msp), .int mma, .int mlg, .int mdu]) (C := "BigRunnerModel") (T := FT10) (N := 45) hx hb (hw10 hB _) (fun _ h9 => h9) TY10 ok10 nm10 hown hK hP hD hS (lo_in hL t_M (by decide)) eM rfl 0 (by decide) (wd_947 hB _) rfl (by decide +kernel) rfl rfl (Nat.le_of_ble_eq_true rfl) rfl d_M_small_2 (fun f1 H locs e2 k3 hP hD hS => ?_)
  have eUN := (k3 (g.lk M 19) (tg_ne (lo_k11_19 hL _ t_M) t_M (by decide))).trans eUN
  have eOV := (k3 (g.lk M 20) (tg_ne (lo_k11_20 hL _ t_M) t_M (by decide))).trans eOV
  have eLW := (k3 (g.lk M 17) (tg_ne (lo_k11_17 hL _ t_M) t_M (by decide))).trans eLW
  have eHG := (k3 (g.lk M 18) (tg_ne (lo_k11_18 hL _ t_M) t_M (by decide))).trans eHG
  have hu := hu.st k3 t_M (by decide)
  have hk4 : ∀ b, b ≠ M → f1 b = f b := k3
  refine lv_iload_n hx hb d_M_small_5 rfl (lv_at hl 1 rfl) ?_
  refine lv_if_lt (tgt := 44) hx hb d_M_small_6 (by decide) (fun b5 => ?_) (fun b5 => ?_)
  · skip
    replace b5 := (nI_ltI (a := k9) (b := 0) (by omega) (by omega)).mp b5
    exfalso; omega
  · skip
    replace b5 := mt (nI_ltI (a := k9) (b := 0) (by omega) (by omega)).mpr b5
    refine lv_iload_n hx hb d_M_small_9 rfl (lv_at hl 1 rfl) ?_
    refine lv_bipush (v := nI 10) hx hb d_M_small_10 (by decide) ?_
    refine lv_icmp_ge (tgt := 44) hx hb d_M_small_12 (by decide) (fun b6 => ?_) (fun b6 => ?_)
    · skip
      replace b6 := (nI_leI (a := 10) (b := k9) (by omega) (by omega)).mp b6
      exfalso; omega
    · skip
      replace b6 := mt (nI_leI (a := 10) (b := k9) (by omega) (by omega)).mpr b6
      refine lv_aload_n hx hb d_M_small_15 rfl (lv_at hl 0 rfl) ?_
      refine pf_get (v := .int (nI mst)) (C := "BigRunnerModel") (T := FT10) (N := 45) hx hb (hw10 hB _) (fun _ h9 => h9) hown hK hP (lo_in hL t_M (by decide)) e2 rfl 39 (by decide) (wd_986 hB _) rfl d_M_small_16 ?_
      refine lv_if_le (tgt := 44) hx hb d_M_small_19 (by decide) (fun b7 => ?_) (fun b7 => ?_)
      · skip
        replace b7 := (nI_leI (a := mst) (b := 0) (by omega) (by omega)).mp b7
        exfalso; omega
      · skip
        replace b7 := mt (nI_leI (a := mst) (b := 0) (by omega) (by omega)).mpr b7
        refine lv_aload_n hx hb d_M_small_22 rfl (lv_at hl 0 rfl) ?_
        refine pf_get (v := .ref (g.lk M 19)) (C := "BigRunnerModel") (T := FT10) (N := 45) hx hb (hw10 hB _) (fun _ h9 => h9) hown hK hP (lo_in hL t_M (by decide)) e2 rfl 19 (by decide) (wd_966 hB _) rfl d_M_small_23 ?_
        refine lv_iload_n hx hb d_M_small_26 rfl (lv_at hl 1 rfl) ?_
        refine pf_zald (i := k9) hx hb hK hP (lo_in hL (lo_k11_19 hL _ t_M) (by decide)) eUN (lo_t51 hL _ (lo_k11_19 hL _ t_M)) (by omega) (by decide) d_M_small_27 ?_
        refine lv_if_ne (tgt := 44) hx hb d_M_small_28 (by decide) (fun b8 => ?_) (fun b8 => ?_)
        · skip
          replace b8 : ¬ (hUN k9) = nI 0 := b8
          refine lv_iconst (v := nI 0) hx hb d_M_small_44 (by decide) ?_
          have hI9 := iv_1 hI hL t_M (by decide) hk4 (oc_11.mk t_M (⟨((nI 0)), mn, mdr, msz, mix, mdp, mwt, mop, mtp, mwa, mgi, mpc, mst, mtr, msp, mma, mlg, mdu, e2, (by omega), (by omega), (by omega), (by omega), (by omega), (by omega), (by omega), (by omega), (by omega), (by omega), (by omega), (by omega), (by omega), (by omega), hmb14⟩))
          exact pe_zret hx hb hr hlocks hK hP hD hS d_M_small_45 rfl ⟨(by rw [← RV_d (hVR.2 k9 hk).1, ← RV_d (hVR.2 k9 hk).2]; simp [bI, b8]), e2, hI9, hu⟩
        · skip
          replace b8 : (hUN k9) = nI 0 := b8
          refine lv_aload_n hx hb d_M_small_31 rfl (lv_at hl 0 rfl) ?_
          refine pf_get (v := .ref (g.lk M 20)) (C := "BigRunnerModel") (T := FT10) (N := 45) hx hb (hw10 hB _) (fun _ h9 => h9) hown hK hP (lo_in hL t_M (by decide)) e2 rfl 20 (by decide) (wd_967 hB _) rfl d_M_small_32 ?_
          refine lv_iload_n hx hb d_M_small_35 rfl (lv_at hl 1 rfl) ?_
          refine pf_zald (i := k9) hx hb hK hP (lo_in hL (lo_k11_20 hL _ t_M) (by decide)) eOV (lo_t52 hL _ (lo_k11_20 hL _ t_M)) (by omega) (by decide) d_M_small_36 ?_
          refine lv_if_ne (tgt := 44) hx hb d_M_small_37 (by decide) (fun b10 => ?_) (fun b10 => ?_)
          · skip
            replace b10 : ¬ (hOV k9) = nI 0 := b10
            refine lv_iconst (v := nI 0) hx hb d_M_small_44 (by decide) ?_
            have hI11 := iv_1 hI hL t_M (by decide) hk4 (oc_11.mk t_M (⟨((nI 0)), mn, mdr, msz, mix, mdp, mwt, mop, mtp, mwa, mgi, mpc, mst, mtr, msp, mma, mlg, mdu, e2, (by omega), (by omega), (by omega), (by omega), (by omega), (by omega), (by omega), (by omega), (by omega), (by omega), (by omega), (by omega), (by omega), (by omega), hmb14⟩))
            exact pe_zret hx hb hr hlocks hK hP hD hS d_M_small_45 rfl ⟨(by rw [← RV_d (hVR.2 k9 hk).1, ← RV_d (hVR.2 k9 hk).2]; simp [bI, b8, b10]), e2, hI11, hu⟩
          · skip
            replace b10 : (hOV k9) = nI 0 := b10
            refine lv_iconst (v := nI 1) hx hb d_M_small_40 (by decide) ?_
            refine lv_goto (tgt := 45) hx hb d_M_small_41 (by decide) ?_
            have hI12 := iv_1 hI hL t_M (by decide) hk4 (oc_11.mk t_M (⟨((nI 0)), mn, mdr, msz, mix, mdp, mwt, mop, mtp, mwa, mgi, mpc, mst, mtr, msp, mma, mlg, mdu, e2, (by omega), (by omega), (by omega), (by omega), (by omega), (by omega), (by omega), (by omega), (by omega), (by omega), (by omega), (by omega), (by omega), (by omega), hmb14⟩))
            exact pe_zret hx hb hr hlocks hK hP hD hS d_M_small_45 rfl ⟨(by rw [← RV_d (hVR.2 k9 hk).1, ← RV_d (hVR.2 k9 hk).2]; simp [bI, b8, b10]), e2, hI12, hu⟩
set_option maxHeartbeats 4000000 in
set_option maxRecDepth 100000 in
theorem m3_smallOut (l : Launch) (g : Lay) (sz : Nat) (f : Nat → va_E) (M : Nat) (mth : Int32) (mn : Nat) (mdr : Nat) (msz : Nat) (mix : Nat) (mdp : Nat) (mwt : Nat) (mop : Nat) (mtp : Nat) (mwa : Nat) (mgi : Nat) (mpc : Nat) (mst : Nat) (mtr : Nat) (msp : Nat) (mma : Int32) (mlg : Int32) (mdu : Int32) (v : Int32) (hL : LO g) (t_M : g.tg M = 11) (hI : IV g f) (eM : f M = .inr (10, [.int mth, .ref (g.lk M 1), .int (nI mn), .ref (g.lk M 3), .ref (g.lk M 4), .int (nI mdr), .ref (g.lk M 6), .ref (g.lk M 7), .ref (g.lk M 8), .int (nI msz), .int (nI mix), .int (nI mdp), .ref (g.lk M 12), .int (nI mwt), .ref (g.lk M 14), .ref (g.lk M 15), .int (nI mop), .ref (g.lk M 17), .ref (g.lk M 18), .ref (g.lk M 19), .ref (g.lk M 20), .ref (g.lk M 21), .ref (g.lk M 22), .ref (g.lk M 23), .ref (g.lk M 24), .ref (g.lk M 25), .ref (g.lk M 26), .ref (g.lk M 27), .ref (g.lk M 28), .ref (g.lk M 29), .ref (g.lk M 30), .ref (g.lk M 31), .int (nI mtp), .ref (g.lk M 33), .ref (g.lk M 34), .ref (g.lk M 35), .int (nI mwa), .int (nI mgi), .int (nI mpc), .int (nI mst), .int (nI mtr), .int (nI msp), .int mma, .int mlg, .int mdu])) (hMB : mn ≤ 72 ∧ mdr ≤ 100 ∧ msz ≤ 100 ∧ mix ≤ 100 ∧ mdp ≤ 20 ∧ mwt ≤ 72 ∧ mop ≤ 40 ∧ mtp ≤ 80 ∧ mwa ≤ 20 ∧ mgi ≤ msp ∧ mpc ≤ 100 ∧ mst ≤ 4 ∧ mtr ≤ 3 ∧ msp ≤ 3000 ∧ (mdu = 0 ∨ mdu = 1)) (hno : vok v = false ∨ mst = 0) : Met l ⟨"BigRunnerModel", "small", "(I)Z"⟩ [Cond.code ⟨"BigRunnerModel", "small", "(I)Z"⟩ prog_12_method_48_code 2 (some .boolean)] ({ frames := 0, cells := 0, slots := 0, locals := 0 }) (va_Pc [.ref M, .int v] (pc_in g sz f)) (va_Qi (fun r f1 => (r = nI 0) ∧ (f1 M = .inr (10, [.int (nI 0), .ref (g.lk M 1), .int (nI mn), .ref (g.lk M 3), .ref (g.lk M 4), .int (nI mdr), .ref (g.lk M 6), .ref (g.lk M 7), .ref (g.lk M 8), .int (nI msz), .int (nI mix), .int (nI mdp), .ref (g.lk M 12), .int (nI mwt), .ref (g.lk M 14), .ref (g.lk M 15), .int (nI mop), .ref (g.lk M 17), .ref (g.lk M 18), .ref (g.lk M 19), .ref (g.lk M 20), .ref (g.lk M 21), .ref (g.lk M 22), .ref (g.lk M 23), .ref (g.lk M 24), .ref (g.lk M 25), .ref (g.lk M 26), .ref (g.lk M 27), .ref (g.lk M 28), .ref (g.lk M 29), .ref (g.lk M 30), .ref (g.lk M 31), .int (nI mtp), .ref (g.lk M 33), .ref (g.lk M 34), .ref (g.lk M 35), .int (nI mwa), .int (nI mgi), .int (nI mpc), .int (nI mst), .int (nI mtr), .int (nI msp), .int mma, .int mlg, .int mdu])) ∧ (IV g f1) ∧ (un [11] g f f1)) (pc_out g sz) (pc_A g sz)) 0 0 (pc_A g sz) := by
  refine pe_ofW (cc := prog_12_method_48_code) (maxL := 2) (ret := (some .boolean)) (lv := [(0, .ref M), (1, .int v)]) (by decide) (Nat.le_of_ble_eq_true rfl) rfl ?_
  intro p e s m args below meth c ls hx hb hr hml hlocks hown hB hP hK hD hsz hS hl
  subst hsz
  have hu : un [11] g f f := un.rf
  obtain ⟨hmb0, hmb1, hmb2, hmb3, hmb4, hmb5, hmb6, hmb7, hmb8, hmb9, hmb10, hmb11, hmb12, hmb13, hmb14⟩ := hMB
  refine lv_aload_n hx hb d_M_small_0 rfl (lv_at hl 0 rfl) ?_
  refine lv_iconst (v := nI 0) hx hb d_M_small_1 (by decide) ?_
  refine pf_put (v := .int (nI 0)) (ty := .int) (fs' := [.int (nI 0), .ref (g.lk M 1), .int (nI mn), .ref (g.lk M 3), .ref (g.lk M 4), .int (nI mdr), .ref (g.lk M 6), .ref (g.lk M 7), .ref (g.lk M 8), .int (nI msz), .int (nI mix), .int (nI mdp), .ref (g.lk M 12), .int (nI mwt), .ref (g.lk M 14), .ref (g.lk M 15), .int (nI mop), .ref (g.lk M 17), .ref (g.lk M 18), .ref (g.lk M 19), .ref (g.lk M 20), .ref (g.lk M 21), .ref (g.lk M 22), .ref (g.lk M 23), .ref (g.lk M 24), .ref (g.lk M 25), .ref (g.lk M 26), .ref (g.lk M 27), .ref (g.lk M 28), .ref (g.lk M 29), .ref (g.lk M 30), .ref (g.lk M 31), .int (nI mtp), .ref (g.lk M 33), .ref (g.lk M 34), .ref (g.lk M 35), .int (nI mwa), .int (nI mgi), .int (nI mpc), .int (nI mst), .int (nI mtr), .int (nI msp), .int mma, .int mlg, .int mdu]) (C := "BigRunnerModel") (T := FT10) (N := 45) hx hb (hw10 hB _) (fun _ h9 => h9) TY10 ok10 nm10 hown hK hP hD hS (lo_in hL t_M (by decide)) eM rfl 0 (by decide) (wd_947 hB _) rfl (by decide +kernel) rfl rfl (Nat.le_of_ble_eq_true rfl) rfl d_M_small_2 (fun f1 H locs e2 k3 hP hD hS => ?_)
  have hu := hu.st k3 t_M (by decide)
  have hk4 : ∀ b, b ≠ M → f1 b = f b := k3
  refine lv_iload_n hx hb d_M_small_5 rfl (lv_at hl 1 rfl) ?_
  refine lv_if_lt (tgt := 44) hx hb d_M_small_6 (by decide) (fun b5 => ?_) (fun b5 => ?_)
  · skip
    refine lv_iconst (v := nI 0) hx hb d_M_small_44 (by decide) ?_
    have hI6 := iv_1 hI hL t_M (by decide) hk4 (oc_11.mk t_M (⟨((nI 0)), mn, mdr, msz, mix, mdp, mwt, mop, mtp, mwa, mgi, mpc, mst, mtr, msp, mma, mlg, mdu, e2, (by omega), (by omega), (by omega), (by omega), (by omega), (by omega), (by omega), (by omega), (by omega), (by omega), (by omega), (by omega), (by omega), (by omega), hmb14⟩))
    exact pe_zret hx hb hr hlocks hK hP hD hS d_M_small_45 rfl ⟨rfl, e2, hI6, hu⟩
  · skip
    refine lv_iload_n hx hb d_M_small_9 rfl (lv_at hl 1 rfl) ?_
    refine lv_bipush (v := nI 10) hx hb d_M_small_10 (by decide) ?_
    refine lv_icmp_ge (tgt := 44) hx hb d_M_small_12 (by decide) (fun b7 => ?_) (fun b7 => ?_)
    · skip
      refine lv_iconst (v := nI 0) hx hb d_M_small_44 (by decide) ?_
      have hI8 := iv_1 hI hL t_M (by decide) hk4 (oc_11.mk t_M (⟨((nI 0)), mn, mdr, msz, mix, mdp, mwt, mop, mtp, mwa, mgi, mpc, mst, mtr, msp, mma, mlg, mdu, e2, (by omega), (by omega), (by omega), (by omega), (by omega), (by omega), (by omega), (by omega), (by omega), (by omega), (by omega), (by omega), (by omega), (by omega), hmb14⟩))
      exact pe_zret hx hb hr hlocks hK hP hD hS d_M_small_45 rfl ⟨rfl, e2, hI8, hu⟩
    · skip
      refine lv_aload_n hx hb d_M_small_15 rfl (lv_at hl 0 rfl) ?_
      refine pf_get (v := .int (nI mst)) (C := "BigRunnerModel") (T := FT10) (N := 45) hx hb (hw10 hB _) (fun _ h9 => h9) hown hK hP (lo_in hL t_M (by decide)) e2 rfl 39 (by decide) (wd_986 hB _) rfl d_M_small_16 ?_
      refine lv_if_le (tgt := 44) hx hb d_M_small_19 (by decide) (fun b9 => ?_) (fun b9 => ?_)
      · skip
        replace b9 := (nI_leI (a := mst) (b := 0) (by omega) (by omega)).mp b9
        refine lv_iconst (v := nI 0) hx hb d_M_small_44 (by decide) ?_
        have hI10 := iv_1 hI hL t_M (by decide) hk4 (oc_11.mk t_M (⟨((nI 0)), mn, mdr, msz, mix, mdp, mwt, mop, mtp, mwa, mgi, mpc, mst, mtr, msp, mma, mlg, mdu, e2, (by omega), (by omega), (by omega), (by omega), (by omega), (by omega), (by omega), (by omega), (by omega), (by omega), (by omega), (by omega), (by omega), (by omega), hmb14⟩))
        exact pe_zret hx hb hr hlocks hK hP hD hS d_M_small_45 rfl ⟨rfl, e2, hI10, hu⟩
      · skip
        replace b9 := mt (nI_leI (a := mst) (b := 0) (by omega) (by omega)).mpr b9
        exfalso
        rcases hno with hno | hno
        · simp [vok, b5, b7] at hno
        · omega
