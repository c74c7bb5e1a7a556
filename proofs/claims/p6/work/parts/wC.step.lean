theorem evs_3 (vr : Nat → Int) (E : List (Nat × Nat)) : ∀ S, (evs vr E S).1 ≤ 2 := by
  induction E with
  | nil => intro S; exact Nat.zero_le _
  | cons x E ih =>
    intro S
    obtain ⟨w, a⟩ := x
    show (if (ev1 vr w a S).1 = 0 then evs vr E (ev1 vr w a S).2 else ev1 vr w a S).1 ≤ 2
    by_cases q : (ev1 vr w a S).1 = 0
    · rw [if_pos q]; exact ih _
    · rw [if_neg q]
      unfold ev1
      repeat' split
      all_goals first | exact Nat.zero_le _ | (show 1 ≤ 2; decide) | (show 2 ≤ 2; decide)
set_option maxHeartbeats 4000000 in
set_option maxRecDepth 100000 in
theorem v_makeStep (l : Launch) (g : Lay) (sz : Nat) (f : Nat → va_E) (X : Nat) (pr : Nat) (ix : Nat) (os : Nat) (st : Nat) (mo : Int32) (lo : Int32) (tr : Nat) (sn : Nat) (nn : Nat) (T : TT) (nb : Nat → Nat) (en : Nat → IVL) (L : List (Nat × Nat)) (s9 : PS) (hL : LO g) (t_X : g.tg X = 9) (t_pr : g.tg pr = 7) (hI : IV g f) (eX : f X = .inr (8, [.ref pr, .ref (g.lk X 1), .int (nI ix), .ref (g.lk X 3), .ref (g.lk X 4), .ref (g.lk X 5), .ref (g.lk X 6), .ref (g.lk X 7), .int (nI os), .int (nI st), .int mo, .int lo, .int (nI tr)])) (hix : ix ≤ 36) (hos : os ≤ st) (hst : st ≤ 3000) (htr : tr ≤ 3) (eP : f pr = .inr (6, [.ref (g.lk pr 0), .int (nI sn), .ref (g.lk pr 2), .int (nI nn), .ref (g.lk pr 4), .ref (g.lk pr 5)])) (hsn : sn ≤ 36) (hnn : nn ≤ 72) (hPT : PT T nb sn nn en L) (hRS : RNS g f X pr T nb sn en ix os st tr s9) (hin : ix < sn) (htr0 : tr = 0) (hwt : st < 3000 → T 5 ix = 1 → s9.ins ≠ []) : Met l ⟨"BigRunner$Runner", "makeStep", "()V"⟩ [Cond.code ⟨"BigRunner$Runner", "makeStep", "()V"⟩ prog_9_method_8_code 3 none] ({ frames := 6, cells := 0, slots := 0, locals := 160 }) (va_Pc [.ref X] (pc_in g sz f)) (va_Qv (fun f1 => (∃ (ix1 : Nat) (os1 : Nat) (st1 : Nat) (mo1 : Int32) (lo1 : Int32) (tr1 : Nat), (ix1 ≤ 36) ∧ (os1 ≤ st1) ∧ (st1 ≤ 3000) ∧ (tr1 ≤ 3) ∧ (RNS g f1 X pr T nb sn en ix1 os1 st1 tr1 (stp3 L s9)) ∧ f1 X = .inr (8, [.ref pr, .ref (g.lk X 1), .int (nI ix1), .ref (g.lk X 3), .ref (g.lk X 4), .ref (g.lk X 5), .ref (g.lk X 6), .ref (g.lk X 7), .int (nI os1), .int (nI st1), .int mo1, .int lo1, .int (nI tr1)])) ∧ (IV g f1) ∧ (un [2, 4, 5, 6, 9, 22, 23, 27] g f f1)) (pc_out g sz) (pc_A g sz)) 0 0 (pc_A g sz) := by
  refine pe_ofW (cc := prog_9_method_8_code) (maxL := 3) (ret := none) (lv := [(0, .ref X)]) (by decide) (Nat.le_of_ble_eq_true rfl) rfl ?_
  intro p e s m args below meth c ls hx hb hr hml hlocks hown hB hP hK hD hsz hS hl
  subst hsz
  have hu : un [2, 4, 5, 6, 9, 22, 23, 27] g f f := un.rf
  obtain ⟨hTP, hTS, hEV, hV, hVI, hIN, hOU, hol, hsp, htr9, hixn, hpc, hnj⟩ := hRS
  have hTB := hPT.2.2.2.2.2.2.2.2.2
  have hnj := hnj hin
  obtain ⟨hb5, hb6, hb7, hb8, hb9⟩ := hTB.2 ix (by omega)
  have huC : un [9] g f f := un.rf
  refine lv_aload_n hx hb d_NRunner_makeStep_0 rfl (lv_at hl 0 rfl) ?_
  refine pf_get (v := .int (nI st)) (C := "BigRunner$Runner") (T := FT8) (N := 13) hx hb (hw8 hB _) (fun _ h9 => h9) hown hK hP (lo_in hL t_X (by decide)) eX rfl 9 (by decide) (wd_343 hB _) rfl d_NRunner_makeStep_1 ?_
  refine lv_sipush (v := nI 3000) hx hb d_NRunner_makeStep_4 (by decide) ?_
  refine lv_icmp_lt (tgt := 16) hx hb d_NRunner_makeStep_7 (by decide) (fun b1 => ?_) (fun b1 => ?_)
  · skip
    replace b1 := (nI_ltI (a := st) (b := 3000) (by omega) (by omega)).mp b1
    refine lv_aload_n hx hb d_NRunner_makeStep_16 rfl (lv_at hl 0 rfl) ?_
    refine lv_dup hx hb d_NRunner_makeStep_17 rfl ?_
    refine pf_get (v := .int (nI st)) (C := "BigRunner$Runner") (T := FT8) (N := 13) hx hb (hw8 hB _) (fun _ h9 => h9) hown hK hP (lo_in hL t_X (by decide)) eX rfl 9 (by decide) (wd_343 hB _) rfl d_NRunner_makeStep_18 ?_
    refine lv_iconst (v := nI 1) hx hb d_NRunner_makeStep_21 (by decide) ?_
    refine pf_iaddN (x := st) (y := 1) hx hb d_NRunner_makeStep_22 ?_
    refine pf_put (v := .int (nI (st + 1))) (ty := .int) (fs' := [.ref pr, .ref (g.lk X 1), .int (nI ix), .ref (g.lk X 3), .ref (g.lk X 4), .ref (g.lk X 5), .ref (g.lk X 6), .ref (g.lk X 7), .int (nI os), .int (nI (st + 1)), .int mo, .int lo, .int (nI tr)]) (C := "BigRunner$Runner") (T := FT8) (N := 13) hx hb (hw8 hB _) (fun _ h9 => h9) TY8 ok8 nm8 hown hK hP hD hS (lo_in hL t_X (by decide)) eX rfl 9 (by decide) (wd_343 hB _) rfl (by decide +kernel) rfl rfl (Nat.le_of_ble_eq_true rfl) rfl d_NRunner_makeStep_23 (fun f2 H locs e3 k4 hP hD hS => ?_)
    have eP := (k4 pr (tg_ne t_pr t_X (by decide))).trans eP
    have hu := hu.st k4 t_X (by decide)
    have huC := huC.st k4 t_X (by decide)
    have hk5 : ∀ b, b ≠ X → f2 b = f b := k4
    refine lv_aload_n hx hb d_NRunner_makeStep_26 rfl (lv_at hl 0 rfl) ?_
    refine pf_get (v := .ref pr) (C := "BigRunner$Runner") (T := FT8) (N := 13) hx hb (hw8 hB _) (fun _ h9 => h9) hown hK hP (lo_in hL t_X (by decide)) e3 rfl 0 (by decide) (wd_330 hB _) rfl d_NRunner_makeStep_27 ?_
    refine pf_get (v := .ref (g.lk pr 0)) (C := "BigRunner$Program") (T := FT6) (N := 6) hx hb (hw6 hB _) (fun _ h9 => h9) hown hK hP (lo_in hL t_pr (by decide)) eP rfl 0 (by decide) (wd_243 hB _) rfl d_NRunner_makeStep_30 ?_
    refine lv_aload_n hx hb d_NRunner_makeStep_33 rfl (lv_at hl 0 rfl) ?_
    refine pf_get (v := .int (nI ix)) (C := "BigRunner$Runner") (T := FT8) (N := 13) hx hb (hw8 hB _) (fun _ h9 => h9) hown hK hP (lo_in hL t_X (by decide)) e3 rfl 2 (by decide) (wd_334 hB _) rfl d_NRunner_makeStep_34 ?_
    have e6 := oc_24.of (lo_k7_0 hL _ t_pr) (hI.1 (g.lk pr 0))
    replace e6 := (hk5 (g.lk pr 0) (tg_ne (lo_k7_0 hL _ t_pr) t_X (by decide))).trans e6
    refine pf_aald (i := ix) hx hb hK hP (lo_in hL (lo_k7_0 hL _ t_pr) (by decide)) e6 (lo_t24 hL _ (lo_k7_0 hL _ t_pr)) (by omega) (by decide) d_NRunner_makeStep_37 ?_
    have t7 := lo_e24 hL _ (lo_k7_0 hL _ t_pr) ix (by omega)
    have huc9 := huC
    have hTP := TPN_un hL t_pr hTP huc9 (by decide)
    have hTS := TPS_un hL t_pr hTS huc9 (by decide)
    have hEV := EV_un hL t_pr hEV huc9 (by decide)
    have hV := VARS_un hL t_X hV huc9 (by decide) (by decide) (by decide)
    have hIN := INS_un hL t_X hIN huc9 (by decide) (by decide)
    have hOU := OUTS_un hL t_X hOU huc9 (by decide) (by decide)
    obtain ⟨la9, eS9, hla9⟩ := hTS ix (by omega)
    obtain ⟨E9, w9, a9, B9, hdr9, hE8, hNR9, hW8, hW12, hTS9, hnb9, hE09, hx89, hx99⟩ := hPT.2.2.2.2.2.1 ix hin
    obtain ⟨ht8, ht9, ht10, ht11, ht12, htE, htT⟩ := hTS9
    rw [← hpc] at hdr9
    have hst9 : ¬ s9.sp = 3000 := by rw [hsp]; omega
    have hstp : stp3 L s9 = pstep L s9 := if_neg hst9
    refine lv_astore_n (lv' := [(1, .ref (g.lk (g.lk pr 0) ix)), (0, .ref X)]) hx hb d_NRunner_makeStep_38 rfl hl (by decide) rfl (fun ls hl => ?_)
    rcases (show w9 = 8 ∨ w9 = 9 ∨ w9 = 10 ∨ w9 = 11 ∨ w9 = 12 by omega) with rfl | rfl | rfl | rfl | rfl
    · skip
      obtain ⟨hkd9, hnm9⟩ := ht8 rfl
      rw [hkd9, hnm9] at eS9
      obtain ⟨hfn9, hlt9, hT89⟩ := htE (by decide) (by decide)
      obtain ⟨j9, hj9⟩ : ∃ j, nb ix + E9.length = j + 1 := ⟨nb ix + E9.length - 1, by omega⟩
      have hla8 := hla9 j9 (hT89.trans hj9)
      rw [hfn9, hla8] at eS9
      have hle9 := PT_mono hPT (sn - (ix + 1)) (ix + 1) (by omega)
      rw [show ix + 1 + (sn - (ix + 1)) = sn by omega, hPT.2.2.2.2.1, hnb9] at hle9
      have hj72 : j9 < 72 := by have := hPT.2.1; omega
      obtain ⟨ha9, hsu9⟩ := hx89 rfl
      refine lv_aload_n hx hb d_NRunner_makeStep_39 rfl (lv_at hl 0 rfl) ?_
      refine pf_get (v := .int (nI 0)) (C := "BigRunner$Statement") (T := FT9) (N := 5) hx hb (hw9 hB _) (fun _ h9 => h9) hown hK hP (lo_in hL t7 (by decide)) eS9 rfl 0 (by decide) (wd_145 hB _) rfl d_NRunner_makeStep_40 ?_
      refine lv_iconst (v := nI 1) hx hb d_NRunner_makeStep_43 (by decide) ?_
      refine lv_icmp_ne (tgt := 74) hx hb d_NRunner_makeStep_44 (by decide) (fun b8 => ?_) (fun b8 => ?_)
      · skip
        replace b8 := mt (nI_eq (a := 0) (b := 1) (by omega) (by omega)).mpr b8
        refine lv_aload_n hx hb d_NRunner_makeStep_74 rfl (lv_at hl 1 rfl) ?_
        refine lv_aload_n hx hb d_NRunner_makeStep_75 rfl (lv_at hl 1 rfl) ?_
        refine lv_aload_n hx hb d_NRunner_makeStep_76 rfl (lv_at hl 0 rfl) ?_
        have hI9 := iv_1 hI hL t_X (by decide) hk5 (oc_9.mk t_X (⟨pr, ix, os, (st + 1), mo, lo, tr, e3, t_pr, (by omega), (by omega), (by omega), (by omega)⟩))
        refine pcc_i (va_runV (C := "BigRunner$Runner") (As := [.ref (g.lk (g.lk pr 0) ix)]) (rest := [.ref X]) ⟨hx, hb, hml, hown, tb_nil⟩ (v_workOut l g H.size f2 X pr ix os ((st + 1)) mo lo tr ix 0 a9 ((nb ix)) j9 ((T 9 ix)) T en E9 s9.vr hL t_X t_pr hI9 e3 (by omega) (by omega) (by omega) (by omega) (by omega) eS9 hTP hTB hPT.2.2.2.2.2.2.2.2.1 hNR9 hj9.symm (by have := hPT.2.1; omega) (by omega) hV hVI) ⟨(callB_of 1 (tb_one (wd_738 hB _)) tb_good1 rfl rfl rfl (wd_79 hB _) (wd_735 hB _) (by decide +kernel) ⟨Nat.le_of_ble_eq_true rfl, Nat.le_of_ble_eq_true rfl⟩), (wd_737 hB _), (wd_26 hB _)⟩ ⟨pe_bl, pg_recv (ci := 8) hK hP (lo_in hL t_X (by decide)) e3 rfl, pe_pre hB hK hP hD⟩ rfl rfl hl.1 rfl (lv_room (Nat.le_of_ble_eq_true rfl)) d_NRunner_makeStep_77 ⟨Nat.le_of_ble_eq_true rfl, Nat.le_of_ble_eq_true rfl⟩) hS (fun r10 f11 H locs hq12 hP hD hS => ?_)
        obtain ⟨x1_13, q9_14, res_15, fw_16, tp_17, hI1_18, hu1_19⟩ := hq12
        subst q9_14
        have hu := hu.tr hu1_19 (by decide)
        have eP := hu1_19.at t_pr (by decide) eP
        have e6 := hu1_19.at (lo_k7_0 hL _ t_pr) (by decide) e6
        have eS9 := hu1_19.at t7 (by decide) eS9
        obtain ⟨mo_20, lo_21, e22⟩ := x1_13
        have hOU := OUTS_fw hL t_X hOU fw_16
        have hV := VARS_fw hL t_X hV fw_16 (hu1_19 _ (by rw [lo_k9_3 hL _ t_X]; decide))
        have huc9 := hu1_19
        have hTS := TPS_un hL t_pr hTS huc9 (by decide)
        have hEV := EV_un hL t_pr hEV huc9 (by decide)
        have hIN := INS_un hL t_X hIN huc9 (by decide) (by decide)
        have hTP := tp_17
        have hres9 := res_15
        have het9 := evs_3 s9.vr E9 []
        have huC : un [9] g f11 f11 := un.rf
        refine pf_put (v := .int (nI ((evs s9.vr E9 []).1))) (ty := .int) (fs' := [.ref pr, .ref (g.lk X 1), .int (nI ix), .ref (g.lk X 3), .ref (g.lk X 4), .ref (g.lk X 5), .ref (g.lk X 6), .ref (g.lk X 7), .int (nI os), .int (nI (st + 1)), .int mo_20, .int lo_21, .int (nI ((evs s9.vr E9 []).1))]) (C := "BigRunner$Runner") (T := FT8) (N := 13) hx hb (hw8 hB _) (fun _ h9 => h9) TY8 ok8 nm8 hown hK hP hD hS (lo_in hL t_X (by decide)) e22 rfl 12 (by decide) (wd_349 hB _) rfl (by decide +kernel) rfl rfl (Nat.le_of_ble_eq_true rfl) rfl d_NRunner_makeStep_80 (fun f23 H locs e24 k25 hP hD hS => ?_)
        have eP := (k25 pr (tg_ne t_pr t_X (by decide))).trans eP
        have e6 := (k25 (g.lk pr 0) (tg_ne (lo_k7_0 hL _ t_pr) t_X (by decide))).trans e6
        have eS9 := (k25 (g.lk (g.lk pr 0) ix) (tg_ne t7 t_X (by decide))).trans eS9
        have hu := hu.st k25 t_X (by decide)
        have huC := huC.st k25 t_X (by decide)
        have hk26 : ∀ b, b ≠ X → f23 b = f11 b := k25
        refine lv_aload_n hx hb d_NRunner_makeStep_83 rfl (lv_at hl 1 rfl) ?_
        refine pf_get (v := .int (nI ((evs s9.vr E9 []).1))) (C := "BigRunner$Runner") (T := FT8) (N := 13) hx hb (hw8 hB _) (fun _ h9 => h9) hown hK hP (lo_in hL t_X (by decide)) e24 rfl 12 (by decide) (wd_349 hB _) rfl d_NRunner_makeStep_84 ?_
        refine lv_if_eq (tgt := 91) hx hb d_NRunner_makeStep_87 (by decide) (fun b27 => ?_) (fun b27 => ?_)
        · skip
          replace b27 := (nI_eq (a := (evs s9.vr E9 []).1) (b := 0) (by omega) (by omega)).mp b27
          have het0 : (evs s9.vr E9 []).1 = 0 := by first | exact b27 | omega
          have huc9 := huC
          have hTP := TPN_un hL t_pr hTP huc9 (by decide)
          have hTS := TPS_un hL t_pr hTS huc9 (by decide)
          have hEV := EV_un hL t_pr hEV huc9 (by decide)
          have hV := VARS_un hL t_X hV huc9 (by decide) (by decide) (by decide)
          have hIN := INS_un hL t_X hIN huc9 (by decide) (by decide)
          have hOU := OUTS_un hL t_X hOU huc9 (by decide) (by decide)
          obtain ⟨hVL, hin9, hik9⟩ := hres9 het0
          have hVL := VL_un hL t_pr (by omega) hVL huc9 (by decide) (by decide) (by decide)
          refine lv_aload_n hx hb d_NRunner_makeStep_91 rfl (lv_at hl 1 rfl) ?_
          refine pf_get (v := .ref pr) (C := "BigRunner$Runner") (T := FT8) (N := 13) hx hb (hw8 hB _) (fun _ h9 => h9) hown hK hP (lo_in hL t_X (by decide)) e24 rfl 0 (by decide) (wd_330 hB _) rfl d_NRunner_makeStep_92 ?_
          refine pf_get (v := .ref (g.lk pr 2)) (C := "BigRunner$Program") (T := FT6) (N := 6) hx hb (hw6 hB _) (fun _ h9 => h9) hown hK hP (lo_in hL t_pr (by decide)) eP rfl 2 (by decide) (wd_249 hB _) rfl d_NRunner_makeStep_95 ?_
          refine lv_aload_n hx hb d_NRunner_makeStep_98 rfl (lv_at hl 0 rfl) ?_
          refine pf_get (v := .int (nI j9)) (C := "BigRunner$Statement") (T := FT9) (N := 5) hx hb (hw9 hB _) (fun _ h9 => h9) hown hK hP (lo_in hL t7 (by decide)) eS9 rfl 3 (by decide) (wd_157 hB _) rfl d_NRunner_makeStep_99 ?_
          have e28 := oc_25.of (lo_k7_2 hL _ t_pr) (hI1_18.1 (g.lk pr 2))
          replace e28 := (hk26 (g.lk pr 2) (tg_ne (lo_k7_2 hL _ t_pr) t_X (by decide))).trans e28
          refine pf_aald (i := j9) hx hb hK hP (lo_in hL (lo_k7_2 hL _ t_pr) (by decide)) e28 (lo_t25 hL _ (lo_k7_2 hL _ t_pr)) (by omega) (by decide) d_NRunner_makeStep_102 ?_
          have t29 := lo_e25 hL _ (lo_k7_2 hL _ t_pr) j9 (by omega)
          refine lv_astore_n (lv' := [(2, .ref (g.lk (g.lk pr 2) j9)), (1, .ref (g.lk (g.lk pr 0) ix)), (0, .ref X)]) hx hb d_NRunner_makeStep_103 rfl hl (by decide) rfl (fun ls hl => ?_)
          have hlt12 : ((evs s9.vr E9 []).2.headD 0).natAbs < T12 := by obtain ⟨_, _, _, _, _, _, _, z⟩ := hVL; exact z
          refine lv_aload_n hx hb d_NRunner_makeStep_104 rfl (lv_at hl 1 rfl) ?_
          refine pf_get (v := .int (nI 0)) (C := "BigRunner$Statement") (T := FT9) (N := 5) hx hb (hw9 hB _) (fun _ h9 => h9) hown hK hP (lo_in hL t7 (by decide)) eS9 rfl 0 (by decide) (wd_145 hB _) rfl d_NRunner_makeStep_105 ?_
          refine lv_if_ne (tgt := 123) hx hb d_NRunner_makeStep_108 (by decide) (fun b30 => ?_) (fun b30 => ?_)
          · skip
            replace b30 := mt (nI_eq (a := 0) (b := 0) (by omega) (by omega)).mpr b30
            exfalso; omega
          · skip
            replace b30 := (nI_eq (a := 0) (b := 0) (by omega) (by omega)).mp b30
            refine lv_aload_n hx hb d_NRunner_makeStep_111 rfl (lv_at hl 2 rfl) ?_
            refine lv_aload_n hx hb d_NRunner_makeStep_112 rfl (lv_at hl 1 rfl) ?_
            refine pf_get (v := .int (nI a9)) (C := "BigRunner$Statement") (T := FT9) (N := 5) hx hb (hw9 hB _) (fun _ h9 => h9) hown hK hP (lo_in hL t7 (by decide)) eS9 rfl 1 (by decide) (wd_149 hB _) rfl d_NRunner_makeStep_113 ?_
            refine lv_aload_n hx hb d_NRunner_makeStep_116 rfl (lv_at hl 0 rfl) ?_
            have hI31 := iv_1 hI1_18 hL t_X (by decide) hk26 (oc_9.mk t_X (⟨pr, ix, os, (st + 1), mo_20, lo_21, ((evs s9.vr E9 []).1), e24, t_pr, (by omega), (by omega), (by omega), (by omega)⟩))
            refine pcc_v (va_runV (C := "BigRunner$Runner") (As := [.int (nI a9), .ref (g.lk (g.lk pr 2) j9)]) (rest := []) ⟨hx, hb, hml, hown, tb_nil⟩ (v_assign l g H.size f23 X pr ix os ((st + 1)) mo_20 lo_21 (((evs s9.vr E9 []).1)) a9 j9 ((T 3 j9)) en s9.vr ((((evs s9.vr E9 []).2.headD 0))) hL t_X t_pr hI31 e24 (by omega) (by omega) (by omega) (by omega) (by omega) (by omega) hVL ((hTB.1 j9 hj72).2.2.2.2) (fun z9 => ivin_60 (ivin_sub hin9 hsu9) z9 (hPT.2.2.2.2.2.2.2.2.1 a9)) hEV hV) ⟨(callB_of 2 (tb_one (wd_834 hB _)) tb_good1 rfl rfl rfl (wd_79 hB _) (wd_831 hB _) (by decide +kernel) ⟨Nat.le_of_ble_eq_true rfl, Nat.le_of_ble_eq_true rfl⟩), (wd_833 hB _), (wd_38 hB _)⟩ ⟨pe_bl, pg_recv (ci := 8) hK hP (lo_in hL t_X (by decide)) e24 rfl, pe_pre hB hK hP hD⟩ rfl rfl hl.1 rfl (lv_room (Nat.le_of_ble_eq_true rfl)) d_NRunner_makeStep_117 ⟨Nat.le_of_ble_eq_true rfl, Nat.le_of_ble_eq_true rfl⟩) hS (fun f33 H locs hq34 hP hD hS => ?_)
            obtain ⟨va_35, fv_36, hI1_37, hu1_38⟩ := hq34
            have hu := hu.tr hu1_38 (by decide)
            have eP := hu1_38.at t_pr (by decide) eP
            have e6 := hu1_38.at (lo_k7_0 hL _ t_pr) (by decide) e6
            have eS9 := hu1_38.at t7 (by decide) eS9
            have e24 := hu1_38.at t_X (by decide) e24
            have e28 := hu1_38.at (lo_k7_2 hL _ t_pr) (by decide) e28
            have hOU := OUTS_fv hL t_X hOU fv_36
            have huc9 := hu1_38
            have hTP := TPN_un hL t_pr hTP huc9 (by decide)
            have hTS := TPS_un hL t_pr hTS huc9 (by decide)
            have hEV := EV_un hL t_pr hEV huc9 (by decide)
            have hIN := INS_un hL t_X hIN huc9 (by decide) (by decide)
            have hV := va_35
            refine lv_goto (tgt := 155) hx hb d_NRunner_makeStep_120 (by decide) ?_
            refine lv_aload_n hx hb d_NRunner_makeStep_155 rfl (lv_at hl 2 rfl) ?_
            refine lv_aload_n hx hb d_NRunner_makeStep_156 rfl (lv_at hl 2 rfl) ?_
            refine pf_get (v := .int (nI ix)) (C := "BigRunner$Runner") (T := FT8) (N := 13) hx hb (hw8 hB _) (fun _ h9 => h9) hown hK hP (lo_in hL t_X (by decide)) e24 rfl 2 (by decide) (wd_334 hB _) rfl d_NRunner_makeStep_157 ?_
            refine lv_iconst (v := nI 1) hx hb d_NRunner_makeStep_160 (by decide) ?_
            refine pf_iaddN (x := ix) (y := 1) hx hb d_NRunner_makeStep_161 ?_
            refine pcc_v (va_runV (C := "BigRunner$Runner") (As := [.int (nI (ix + 1))]) (rest := []) ⟨hx, hb, hml, hown, tb_nil⟩ (v_proceed l g H.size f33 X pr ix os ((st + 1)) mo_20 lo_21 (((evs s9.vr E9 []).1)) sn nn T nb en L ((ix + 1)) hL t_X t_pr hI1_37 e24 (by omega) (by omega) (by omega) (by omega) eP (by omega) (by omega) hPT hTS (by omega)) ⟨(callB_of 1 (tb_one (wd_734 hB _)) tb_good1 rfl rfl rfl (wd_79 hB _) (wd_731 hB _) (by decide +kernel) ⟨Nat.le_of_ble_eq_true rfl, Nat.le_of_ble_eq_true rfl⟩), (wd_733 hB _), (wd_25 hB _)⟩ ⟨pe_bl, pg_recv (ci := 8) hK hP (lo_in hL t_X (by decide)) e24 rfl, pe_pre hB hK hP hD⟩ rfl rfl hl.1 rfl (lv_room (Nat.le_of_ble_eq_true rfl)) d_NRunner_makeStep_162 ⟨Nat.le_of_ble_eq_true rfl, Nat.le_of_ble_eq_true rfl⟩) hS (fun f40 H locs hq41 hP hD hS => ?_)
            obtain ⟨x1_42, hI1_43, hk1_44⟩ := hq41
            have hu := hu.st hk1_44 t_X (by decide)
            have eP := (hk1_44 pr (tg_ne t_pr t_X (by decide))).trans eP
            have e6 := (hk1_44 (g.lk pr 0) (tg_ne (lo_k7_0 hL _ t_pr) t_X (by decide))).trans e6
            have eS9 := (hk1_44 (g.lk (g.lk pr 0) ix) (tg_ne t7 t_X (by decide))).trans eS9
            have e28 := (hk1_44 (g.lk pr 2) (tg_ne (lo_k7_2 hL _ t_pr) t_X (by decide))).trans e28
            obtain ⟨ix_45, c47, c48, c49, e46⟩ := x1_42
            have huc9 := un_1 hk1_44 t_X
            have hTP := TPN_un hL t_pr hTP huc9 (by decide)
            have hTS := TPS_un hL t_pr hTS huc9 (by decide)
            have hEV := EV_un hL t_pr hEV huc9 (by decide)
            have hV := VARS_un hL t_X hV huc9 (by decide) (by decide) (by decide)
            have hIN := INS_un hL t_X hIN huc9 (by decide) (by decide)
            have hOU := OUTS_un hL t_X hOU huc9 (by decide) (by decide)
            exact pe_vret hx hb hr hlocks hK hP hD hS d_NRunner_makeStep_165 ⟨⟨ix_45, os, (st + 1), mo_20, lo_21, ((evs s9.vr E9 []).1), (by omega), (by omega), (by omega), (by omega), (by rw [hstp, ps_8 hdr9 hE8 het0]; exact ⟨hTP, hTS, hEV, hV, (VIN_u hVI (ivin_sub hin9 hsu9) hlt12), hIN, hOU, hol, (congrArg (· + 1) hsp), het0.symm, c47, (show jmp L (s9.pc + E9.length + 1) = _ by rw [c48]; exact congrArg (jmp L) (by omega)), c49⟩), e46⟩, hI1_43, hu⟩
        · skip
          replace b27 := mt (nI_eq (a := (evs s9.vr E9 []).1) (b := 0) (by omega) (by omega)).mpr b27
          have huc9 := huC
          have hTP := TPN_un hL t_pr hTP huc9 (by decide)
          have hTS := TPS_un hL t_pr hTS huc9 (by decide)
          have hEV := EV_un hL t_pr hEV huc9 (by decide)
          have hV := VARS_un hL t_X hV huc9 (by decide) (by decide) (by decide)
          have hIN := INS_un hL t_X hIN huc9 (by decide) (by decide)
          have hOU := OUTS_un hL t_X hOU huc9 (by decide) (by decide)
          have hett : (evs s9.vr E9 []).1 ≠ 0 := by first | exact b27 | omega
          have hI50 := iv_1 hI1_18 hL t_X (by decide) hk26 (oc_9.mk t_X (⟨pr, ix, os, (st + 1), mo_20, lo_21, ((evs s9.vr E9 []).1), e24, t_pr, (by omega), (by omega), (by omega), (by omega)⟩))
          exact pe_vret hx hb hr hlocks hK hP hD hS d_NRunner_makeStep_90 ⟨⟨ix, os, (st + 1), mo_20, lo_21, ((evs s9.vr E9 []).1), (by omega), (by omega), (by omega), (by omega), (by rw [hstp, ps_t hdr9 hE8 (by decide) (by decide) hett]; exact ⟨hTP, hTS, hEV, hV, hVI, hIN, hOU, hol, congrArg (· + 1) hsp, rfl, hixn, hpc, fun _ => hnj⟩), e24⟩, hI50, hu⟩
      · skip
        replace b8 := (nI_eq (a := 0) (b := 1) (by omega) (by omega)).mp b8
        exfalso; omega
    · skip
      obtain ⟨hkd9, hnm9⟩ := ht9 rfl
      rw [hkd9, hnm9] at eS9
      obtain ⟨ha9, hsu9⟩ := hx99 rfl
      obtain rfl : E9 = [] := hE09 (Or.inl rfl)
      obtain ⟨x0, tl, hins9⟩ : ∃ x0 tl, s9.ins = x0 :: tl := by
        have z9 := hwt (by omega) hkd9
        cases z8 : s9.ins with
        | nil => exact absurd z8 z9
        | cons q r => exact ⟨q, r, rfl⟩
      rw [hins9] at hIN
      refine lv_aload_n hx hb d_NRunner_makeStep_39 rfl (lv_at hl 0 rfl) ?_
      refine pf_get (v := .int (nI 1)) (C := "BigRunner$Statement") (T := FT9) (N := 5) hx hb (hw9 hB _) (fun _ h9 => h9) hown hK hP (lo_in hL t7 (by decide)) eS9 rfl 0 (by decide) (wd_145 hB _) rfl d_NRunner_makeStep_40 ?_
      refine lv_iconst (v := nI 1) hx hb d_NRunner_makeStep_43 (by decide) ?_
      refine lv_icmp_ne (tgt := 74) hx hb d_NRunner_makeStep_44 (by decide) (fun b51 => ?_) (fun b51 => ?_)
      · skip
        replace b51 := mt (nI_eq (a := 1) (b := 1) (by omega) (by omega)).mpr b51
        exfalso; omega
      · skip
        replace b51 := (nI_eq (a := 1) (b := 1) (by omega) (by omega)).mp b51
        refine lv_aload_n hx hb d_NRunner_makeStep_47 rfl (lv_at hl 1 rfl) ?_
        refine lv_aload_n hx hb d_NRunner_makeStep_48 rfl (lv_at hl 0 rfl) ?_
        refine pf_get (v := .int (nI a9)) (C := "BigRunner$Statement") (T := FT9) (N := 5) hx hb (hw9 hB _) (fun _ h9 => h9) hown hK hP (lo_in hL t7 (by decide)) eS9 rfl 1 (by decide) (wd_149 hB _) rfl d_NRunner_makeStep_49 ?_
        refine lv_aload_n hx hb d_NRunner_makeStep_52 rfl (lv_at hl 1 rfl) ?_
        refine pf_get (v := .ref (g.lk X 1)) (C := "BigRunner$Runner") (T := FT8) (N := 13) hx hb (hw8 hB _) (fun _ h9 => h9) hown hK hP (lo_in hL t_X (by decide)) e3 rfl 1 (by decide) (wd_332 hB _) rfl d_NRunner_makeStep_53 ?_
        have hI52 := iv_1 hI hL t_X (by decide) hk5 (oc_9.mk t_X (⟨pr, ix, os, (st + 1), mo, lo, tr, e3, t_pr, (by omega), (by omega), (by omega), (by omega)⟩))
        obtain ⟨fi_54, wa_55, e53, c56, c57⟩ := oc_2.of (lo_k9_1 hL _ t_X) (hI52.1 (g.lk X 1))
        refine pcc_i (va_runV (C := "BigRunner$Inputs") (As := []) (rest := [.int (nI a9), .ref X]) ⟨hx, hb, hml, hown, tb_nil⟩ (v_take l g H.size f2 X x0 tl hL t_X hI52 hIN) ⟨(callB_of 0 (tb_one (wd_725 hB _)) tb_good1 rfl rfl rfl (wd_80 hB _) (wd_722 hB _) (by decide +kernel) ⟨Nat.le_of_ble_eq_true rfl, Nat.le_of_ble_eq_true rfl⟩), (wd_723 hB _), (wd_724 hB _)⟩ ⟨pe_bl, pg_recv (ci := 1) hK hP (lo_in hL (lo_k9_1 hL _ t_X) (by decide)) e53 rfl, pe_pre hB hK hP hD⟩ rfl rfl hl.1 rfl (lv_room (Nat.le_of_ble_eq_true rfl)) d_NRunner_makeStep_56 ⟨Nat.le_of_ble_eq_true rfl, Nat.le_of_ble_eq_true rfl⟩) hS (fun r58 f59 H locs hq60 hP hD hS => ?_)
        obtain ⟨q9_61, in9_62, hI1_63, hk1_64⟩ := hq60
        have hu := hu.st hk1_64 (lo_k9_1 hL _ t_X) (by decide)
        have eP := (hk1_64 pr (tg_ne t_pr (lo_k9_1 hL _ t_X) (by decide))).trans eP
        have e3 := (hk1_64 X (tg_ne t_X (lo_k9_1 hL _ t_X) (by decide))).trans e3
        have e6 := (hk1_64 (g.lk pr 0) (tg_ne (lo_k7_0 hL _ t_pr) (lo_k9_1 hL _ t_X) (by decide))).trans e6
        have eS9 := (hk1_64 (g.lk (g.lk pr 0) ix) (tg_ne t7 (lo_k9_1 hL _ t_X) (by decide))).trans eS9
        obtain ⟨hr9, hr10⟩ := q9_61
        have huc9 := un_1 hk1_64 (lo_k9_1 hL _ t_X)
        have hTP := TPN_un hL t_pr hTP huc9 (by decide)
        have hTS := TPS_un hL t_pr hTS huc9 (by decide)
        have hEV := EV_un hL t_pr hEV huc9 (by decide)
        have hV := VARS_un hL t_X hV huc9 (by decide) (by decide) (by decide)
        have hOU := OUTS_un hL t_X hOU huc9 (by decide) (by decide)
        have hIN := in9_62
        refine lv_i2l hx hb d_NRunner_makeStep_59 rfl ?_
        refine pcc_v (va_runV (C := "BigRunner$Runner") (As := [.int (nI a9), .long r58.toInt64]) (rest := []) ⟨hx, hb, hml, hown, tb_nil⟩ (v_store l g H.size f59 X pr ix os ((st + 1)) mo lo tr a9 r58.toInt64 en s9.vr x0 hL t_X t_pr hI1_63 e3 (by omega) (by omega) (by omega) (by omega) (by omega) ((i64_of r58).trans hr9) (by rw [i64_of, hr9]; omega) hEV hV) ⟨(callB_of 2 (tb_one (wd_729 hB _)) tb_good1 rfl rfl rfl (wd_79 hB _) (wd_726 hB _) (by decide +kernel) ⟨Nat.le_of_ble_eq_true rfl, Nat.le_of_ble_eq_true rfl⟩), (wd_728 hB _), (wd_24 hB _)⟩ ⟨pe_bl, pg_recv (ci := 8) hK hP (lo_in hL t_X (by decide)) e3 rfl, pe_pre hB hK hP hD⟩ rfl rfl hl.1 rfl (lv_room (Nat.le_of_ble_eq_true rfl)) d_NRunner_makeStep_60 ⟨Nat.le_of_ble_eq_true rfl, Nat.le_of_ble_eq_true rfl⟩) hS (fun f66 H locs hq67 hP hD hS => ?_)
        obtain ⟨va_68, fv_69, hI1_70, hu1_71⟩ := hq67
        have hu := hu.tr hu1_71 (by decide)
        have eP := hu1_71.at t_pr (by decide) eP
        have e3 := hu1_71.at t_X (by decide) e3
        have e6 := hu1_71.at (lo_k7_0 hL _ t_pr) (by decide) e6
        have eS9 := hu1_71.at t7 (by decide) eS9
        have hOU := OUTS_fv hL t_X hOU fv_69
        have huc9 := hu1_71
        have hTP := TPN_un hL t_pr hTP huc9 (by decide)
        have hTS := TPS_un hL t_pr hTS huc9 (by decide)
        have hEV := EV_un hL t_pr hEV huc9 (by decide)
        have hIN := INS_un hL t_X hIN huc9 (by decide) (by decide)
        have hV := va_68
        refine lv_aload_n hx hb d_NRunner_makeStep_63 rfl (lv_at hl 1 rfl) ?_
        refine lv_aload_n hx hb d_NRunner_makeStep_64 rfl (lv_at hl 1 rfl) ?_
        refine pf_get (v := .int (nI ix)) (C := "BigRunner$Runner") (T := FT8) (N := 13) hx hb (hw8 hB _) (fun _ h9 => h9) hown hK hP (lo_in hL t_X (by decide)) e3 rfl 2 (by decide) (wd_334 hB _) rfl d_NRunner_makeStep_65 ?_
        refine lv_iconst (v := nI 1) hx hb d_NRunner_makeStep_68 (by decide) ?_
        refine pf_iaddN (x := ix) (y := 1) hx hb d_NRunner_makeStep_69 ?_
        refine pcc_v (va_runV (C := "BigRunner$Runner") (As := [.int (nI (ix + 1))]) (rest := []) ⟨hx, hb, hml, hown, tb_nil⟩ (v_proceed l g H.size f66 X pr ix os ((st + 1)) mo lo tr sn nn T nb en L ((ix + 1)) hL t_X t_pr hI1_70 e3 (by omega) (by omega) (by omega) (by omega) eP (by omega) (by omega) hPT hTS (by omega)) ⟨(callB_of 1 (tb_one (wd_734 hB _)) tb_good1 rfl rfl rfl (wd_79 hB _) (wd_731 hB _) (by decide +kernel) ⟨Nat.le_of_ble_eq_true rfl, Nat.le_of_ble_eq_true rfl⟩), (wd_733 hB _), (wd_25 hB _)⟩ ⟨pe_bl, pg_recv (ci := 8) hK hP (lo_in hL t_X (by decide)) e3 rfl, pe_pre hB hK hP hD⟩ rfl rfl hl.1 rfl (lv_room (Nat.le_of_ble_eq_true rfl)) d_NRunner_makeStep_70 ⟨Nat.le_of_ble_eq_true rfl, Nat.le_of_ble_eq_true rfl⟩) hS (fun f73 H locs hq74 hP hD hS => ?_)
        obtain ⟨x1_75, hI1_76, hk1_77⟩ := hq74
        have hu := hu.st hk1_77 t_X (by decide)
        have eP := (hk1_77 pr (tg_ne t_pr t_X (by decide))).trans eP
        have e6 := (hk1_77 (g.lk pr 0) (tg_ne (lo_k7_0 hL _ t_pr) t_X (by decide))).trans e6
        have eS9 := (hk1_77 (g.lk (g.lk pr 0) ix) (tg_ne t7 t_X (by decide))).trans eS9
        obtain ⟨ix_78, c80, c81, c82, e79⟩ := x1_75
        have huc9 := un_1 hk1_77 t_X
        have hTP := TPN_un hL t_pr hTP huc9 (by decide)
        have hTS := TPS_un hL t_pr hTS huc9 (by decide)
        have hEV := EV_un hL t_pr hEV huc9 (by decide)
        have hV := VARS_un hL t_X hV huc9 (by decide) (by decide) (by decide)
        have hIN := INS_un hL t_X hIN huc9 (by decide) (by decide)
        have hOU := OUTS_un hL t_X hOU huc9 (by decide) (by decide)
        exact pe_vret hx hb hr hlocks hK hP hD hS d_NRunner_makeStep_73 ⟨⟨ix_78, os, (st + 1), mo, lo, tr, (by omega), (by omega), (by omega), (by omega), (by rw [hstp, ps_9 hdr9, hins9]; exact ⟨hTP, hTS, hEV, hV, (VIN_u hVI (ivin_sub (ivin_inp hr10) hsu9) (T12_60 (show x0.natAbs ≤ 1152921504606846976 by omega))), hIN, hOU, hol, (congrArg (· + 1) hsp), (show (0 : Nat) = tr by omega), c80, (show jmp L (s9.pc + 1) = _ by rw [c81]; exact congrArg (jmp L) (by have z9 : nb (ix + 1) = nb ix + 0 := hnb9; omega)), c82⟩), e79⟩, hI1_76, hu⟩
    · skip
      have hkd9 : T 5 ix = 2 := ht10 rfl
      rw [hkd9] at eS9
      obtain ⟨hfn9, hlt9, hT89⟩ := htE (by decide) (by decide)
      obtain ⟨j9, hj9⟩ : ∃ j, nb ix + E9.length = j + 1 := ⟨nb ix + E9.length - 1, by omega⟩
      have hla8 := hla9 j9 (hT89.trans hj9)
      rw [hfn9, hla8] at eS9
      have hle9 := PT_mono hPT (sn - (ix + 1)) (ix + 1) (by omega)
      rw [show ix + 1 + (sn - (ix + 1)) = sn by omega, hPT.2.2.2.2.1, hnb9] at hle9
      have hj72 : j9 < 72 := by have := hPT.2.1; omega
      refine lv_aload_n hx hb d_NRunner_makeStep_39 rfl (lv_at hl 0 rfl) ?_
      refine pf_get (v := .int (nI 2)) (C := "BigRunner$Statement") (T := FT9) (N := 5) hx hb (hw9 hB _) (fun _ h9 => h9) hown hK hP (lo_in hL t7 (by decide)) eS9 rfl 0 (by decide) (wd_145 hB _) rfl d_NRunner_makeStep_40 ?_
      refine lv_iconst (v := nI 1) hx hb d_NRunner_makeStep_43 (by decide) ?_
      refine lv_icmp_ne (tgt := 74) hx hb d_NRunner_makeStep_44 (by decide) (fun b83 => ?_) (fun b83 => ?_)
      · skip
        replace b83 := mt (nI_eq (a := 2) (b := 1) (by omega) (by omega)).mpr b83
        refine lv_aload_n hx hb d_NRunner_makeStep_74 rfl (lv_at hl 1 rfl) ?_
        refine lv_aload_n hx hb d_NRunner_makeStep_75 rfl (lv_at hl 1 rfl) ?_
        refine lv_aload_n hx hb d_NRunner_makeStep_76 rfl (lv_at hl 0 rfl) ?_
        have hI84 := iv_1 hI hL t_X (by decide) hk5 (oc_9.mk t_X (⟨pr, ix, os, (st + 1), mo, lo, tr, e3, t_pr, (by omega), (by omega), (by omega), (by omega)⟩))
        refine pcc_i (va_runV (C := "BigRunner$Runner") (As := [.ref (g.lk (g.lk pr 0) ix)]) (rest := [.ref X]) ⟨hx, hb, hml, hown, tb_nil⟩ (v_workOut l g H.size f2 X pr ix os ((st + 1)) mo lo tr ix 2 ((T 6 ix)) ((nb ix)) j9 ((T 9 ix)) T en E9 s9.vr hL t_X t_pr hI84 e3 (by omega) (by omega) (by omega) (by omega) (by omega) eS9 hTP hTB hPT.2.2.2.2.2.2.2.2.1 hNR9 hj9.symm (by have := hPT.2.1; omega) (by omega) hV hVI) ⟨(callB_of 1 (tb_one (wd_738 hB _)) tb_good1 rfl rfl rfl (wd_79 hB _) (wd_735 hB _) (by decide +kernel) ⟨Nat.le_of_ble_eq_true rfl, Nat.le_of_ble_eq_true rfl⟩), (wd_737 hB _), (wd_26 hB _)⟩ ⟨pe_bl, pg_recv (ci := 8) hK hP (lo_in hL t_X (by decide)) e3 rfl, pe_pre hB hK hP hD⟩ rfl rfl hl.1 rfl (lv_room (Nat.le_of_ble_eq_true rfl)) d_NRunner_makeStep_77 ⟨Nat.le_of_ble_eq_true rfl, Nat.le_of_ble_eq_true rfl⟩) hS (fun r85 f86 H locs hq87 hP hD hS => ?_)
        obtain ⟨x1_88, q9_89, res_90, fw_91, tp_92, hI1_93, hu1_94⟩ := hq87
        subst q9_89
        have hu := hu.tr hu1_94 (by decide)
        have eP := hu1_94.at t_pr (by decide) eP
        have e6 := hu1_94.at (lo_k7_0 hL _ t_pr) (by decide) e6
        have eS9 := hu1_94.at t7 (by decide) eS9
        obtain ⟨mo_95, lo_96, e97⟩ := x1_88
        have hOU := OUTS_fw hL t_X hOU fw_91
        have hV := VARS_fw hL t_X hV fw_91 (hu1_94 _ (by rw [lo_k9_3 hL _ t_X]; decide))
        have huc9 := hu1_94
        have hTS := TPS_un hL t_pr hTS huc9 (by decide)
        have hEV := EV_un hL t_pr hEV huc9 (by decide)
        have hIN := INS_un hL t_X hIN huc9 (by decide) (by decide)
        have hTP := tp_92
        have hres9 := res_90
        have het9 := evs_3 s9.vr E9 []
        have huC : un [9] g f86 f86 := un.rf
        refine pf_put (v := .int (nI ((evs s9.vr E9 []).1))) (ty := .int) (fs' := [.ref pr, .ref (g.lk X 1), .int (nI ix), .ref (g.lk X 3), .ref (g.lk X 4), .ref (g.lk X 5), .ref (g.lk X 6), .ref (g.lk X 7), .int (nI os), .int (nI (st + 1)), .int mo_95, .int lo_96, .int (nI ((evs s9.vr E9 []).1))]) (C := "BigRunner$Runner") (T := FT8) (N := 13) hx hb (hw8 hB _) (fun _ h9 => h9) TY8 ok8 nm8 hown hK hP hD hS (lo_in hL t_X (by decide)) e97 rfl 12 (by decide) (wd_349 hB _) rfl (by decide +kernel) rfl rfl (Nat.le_of_ble_eq_true rfl) rfl d_NRunner_makeStep_80 (fun f98 H locs e99 k100 hP hD hS => ?_)
        have eP := (k100 pr (tg_ne t_pr t_X (by decide))).trans eP
        have e6 := (k100 (g.lk pr 0) (tg_ne (lo_k7_0 hL _ t_pr) t_X (by decide))).trans e6
        have eS9 := (k100 (g.lk (g.lk pr 0) ix) (tg_ne t7 t_X (by decide))).trans eS9
        have hu := hu.st k100 t_X (by decide)
        have huC := huC.st k100 t_X (by decide)
        have hk101 : ∀ b, b ≠ X → f98 b = f86 b := k100
        refine lv_aload_n hx hb d_NRunner_makeStep_83 rfl (lv_at hl 1 rfl) ?_
        refine pf_get (v := .int (nI ((evs s9.vr E9 []).1))) (C := "BigRunner$Runner") (T := FT8) (N := 13) hx hb (hw8 hB _) (fun _ h9 => h9) hown hK hP (lo_in hL t_X (by decide)) e99 rfl 12 (by decide) (wd_349 hB _) rfl d_NRunner_makeStep_84 ?_
        refine lv_if_eq (tgt := 91) hx hb d_NRunner_makeStep_87 (by decide) (fun b102 => ?_) (fun b102 => ?_)
        · skip
          replace b102 := (nI_eq (a := (evs s9.vr E9 []).1) (b := 0) (by omega) (by omega)).mp b102
          have het0 : (evs s9.vr E9 []).1 = 0 := by first | exact b102 | omega
          have huc9 := huC
          have hTP := TPN_un hL t_pr hTP huc9 (by decide)
          have hTS := TPS_un hL t_pr hTS huc9 (by decide)
          have hEV := EV_un hL t_pr hEV huc9 (by decide)
          have hV := VARS_un hL t_X hV huc9 (by decide) (by decide) (by decide)
          have hIN := INS_un hL t_X hIN huc9 (by decide) (by decide)
          have hOU := OUTS_un hL t_X hOU huc9 (by decide) (by decide)
          obtain ⟨hVL, hin9, hik9⟩ := hres9 het0
          have hVL := VL_un hL t_pr (by omega) hVL huc9 (by decide) (by decide) (by decide)
          refine lv_aload_n hx hb d_NRunner_makeStep_91 rfl (lv_at hl 1 rfl) ?_
          refine pf_get (v := .ref pr) (C := "BigRunner$Runner") (T := FT8) (N := 13) hx hb (hw8 hB _) (fun _ h9 => h9) hown hK hP (lo_in hL t_X (by decide)) e99 rfl 0 (by decide) (wd_330 hB _) rfl d_NRunner_makeStep_92 ?_
          refine pf_get (v := .ref (g.lk pr 2)) (C := "BigRunner$Program") (T := FT6) (N := 6) hx hb (hw6 hB _) (fun _ h9 => h9) hown hK hP (lo_in hL t_pr (by decide)) eP rfl 2 (by decide) (wd_249 hB _) rfl d_NRunner_makeStep_95 ?_
          refine lv_aload_n hx hb d_NRunner_makeStep_98 rfl (lv_at hl 0 rfl) ?_
          refine pf_get (v := .int (nI j9)) (C := "BigRunner$Statement") (T := FT9) (N := 5) hx hb (hw9 hB _) (fun _ h9 => h9) hown hK hP (lo_in hL t7 (by decide)) eS9 rfl 3 (by decide) (wd_157 hB _) rfl d_NRunner_makeStep_99 ?_
          have e103 := oc_25.of (lo_k7_2 hL _ t_pr) (hI1_93.1 (g.lk pr 2))
          replace e103 := (hk101 (g.lk pr 2) (tg_ne (lo_k7_2 hL _ t_pr) t_X (by decide))).trans e103
          refine pf_aald (i := j9) hx hb hK hP (lo_in hL (lo_k7_2 hL _ t_pr) (by decide)) e103 (lo_t25 hL _ (lo_k7_2 hL _ t_pr)) (by omega) (by decide) d_NRunner_makeStep_102 ?_
          have t104 := lo_e25 hL _ (lo_k7_2 hL _ t_pr) j9 (by omega)
          refine lv_astore_n (lv' := [(2, .ref (g.lk (g.lk pr 2) j9)), (1, .ref (g.lk (g.lk pr 0) ix)), (0, .ref X)]) hx hb d_NRunner_makeStep_103 rfl hl (by decide) rfl (fun ls hl => ?_)
          have hlt12 : ((evs s9.vr E9 []).2.headD 0).natAbs < T12 := by obtain ⟨_, _, _, _, _, _, _, z⟩ := hVL; exact z
          refine lv_aload_n hx hb d_NRunner_makeStep_104 rfl (lv_at hl 1 rfl) ?_
          refine pf_get (v := .int (nI 2)) (C := "BigRunner$Statement") (T := FT9) (N := 5) hx hb (hw9 hB _) (fun _ h9 => h9) hown hK hP (lo_in hL t7 (by decide)) eS9 rfl 0 (by decide) (wd_145 hB _) rfl d_NRunner_makeStep_105 ?_
          refine lv_if_ne (tgt := 123) hx hb d_NRunner_makeStep_108 (by decide) (fun b105 => ?_) (fun b105 => ?_)
          · skip
            replace b105 := mt (nI_eq (a := 2) (b := 0) (by omega) (by omega)).mpr b105
            refine lv_aload_n hx hb d_NRunner_makeStep_123 rfl (lv_at hl 1 rfl) ?_
            refine pf_get (v := .int (nI 2)) (C := "BigRunner$Statement") (T := FT9) (N := 5) hx hb (hw9 hB _) (fun _ h9 => h9) hown hK hP (lo_in hL t7 (by decide)) eS9 rfl 0 (by decide) (wd_145 hB _) rfl d_NRunner_makeStep_124 ?_
            refine lv_iconst (v := nI 2) hx hb d_NRunner_makeStep_127 (by decide) ?_
            refine lv_icmp_ne (tgt := 139) hx hb d_NRunner_makeStep_128 (by decide) (fun b106 => ?_) (fun b106 => ?_)
            · skip
              replace b106 := mt (nI_eq (a := 2) (b := 2) (by omega) (by omega)).mpr b106
              exfalso; omega
            · skip
              replace b106 := (nI_eq (a := 2) (b := 2) (by omega) (by omega)).mp b106
              refine lv_aload_n hx hb d_NRunner_makeStep_131 rfl (lv_at hl 2 rfl) ?_
              refine lv_aload_n hx hb d_NRunner_makeStep_132 rfl (lv_at hl 0 rfl) ?_
              have hI107 := iv_1 hI1_93 hL t_X (by decide) hk101 (oc_9.mk t_X (⟨pr, ix, os, (st + 1), mo_95, lo_96, ((evs s9.vr E9 []).1), e99, t_pr, (by omega), (by omega), (by omega), (by omega)⟩))
              refine pcc_v (va_runV (C := "BigRunner$Runner") (As := [.ref (g.lk (g.lk pr 2) j9)]) (rest := []) ⟨hx, hb, hml, hown, tb_nil⟩ (v_keep l g H.size f98 X pr ix os ((st + 1)) mo_95 lo_96 (((evs s9.vr E9 []).1)) j9 ((T 3 j9)) ((((evs s9.vr E9 []).2.headD 0))) s9.outs hL t_X t_pr hI107 e99 (by omega) (by omega) (by omega) (by omega) (by omega) (by omega) hVL ((hTB.1 j9 hj72).2.2.2.2) hOU hol) ⟨(callB_of 1 (tb_one (wd_842 hB _)) tb_good1 rfl rfl rfl (wd_79 hB _) (wd_839 hB _) (by decide +kernel) ⟨Nat.le_of_ble_eq_true rfl, Nat.le_of_ble_eq_true rfl⟩), (wd_841 hB _), (wd_39 hB _)⟩ ⟨pe_bl, pg_recv (ci := 8) hK hP (lo_in hL t_X (by decide)) e99 rfl, pe_pre hB hK hP hD⟩ rfl rfl hl.1 rfl (lv_room (Nat.le_of_ble_eq_true rfl)) d_NRunner_makeStep_133 ⟨Nat.le_of_ble_eq_true rfl, Nat.le_of_ble_eq_true rfl⟩) hS (fun f109 H locs hq110 hP hD hS => ?_)
              obtain ⟨x1_111, ou_112, of_113, hI1_114, hu1_115⟩ := hq110
              have hu := hu.tr hu1_115 (by decide)
              have eP := hu1_115.at t_pr (by decide) eP
              have e6 := hu1_115.at (lo_k7_0 hL _ t_pr) (by decide) e6
              have eS9 := hu1_115.at t7 (by decide) eS9
              have e103 := hu1_115.at (lo_k7_2 hL _ t_pr) (by decide) e103
              have hV := VARS_of hL t_X hV of_113 (hu1_115 _ (by rw [lo_k9_3 hL _ t_X]; decide))
              have huc9 := hu1_115
              have hTP := TPN_un hL t_pr hTP huc9 (by decide)
              have hTS := TPS_un hL t_pr hTS huc9 (by decide)
              have hEV := EV_un hL t_pr hEV huc9 (by decide)
              have hIN := INS_un hL t_X hIN huc9 (by decide) (by decide)
              have hOU := ou_112
              refine lv_goto (tgt := 155) hx hb d_NRunner_makeStep_136 (by decide) ?_
              refine lv_aload_n hx hb d_NRunner_makeStep_155 rfl (lv_at hl 2 rfl) ?_
              refine lv_aload_n hx hb d_NRunner_makeStep_156 rfl (lv_at hl 2 rfl) ?_
              refine pf_get (v := .int (nI ix)) (C := "BigRunner$Runner") (T := FT8) (N := 13) hx hb (hw8 hB _) (fun _ h9 => h9) hown hK hP (lo_in hL t_X (by decide)) x1_111 rfl 2 (by decide) (wd_334 hB _) rfl d_NRunner_makeStep_157 ?_
              refine lv_iconst (v := nI 1) hx hb d_NRunner_makeStep_160 (by decide) ?_
              refine pf_iaddN (x := ix) (y := 1) hx hb d_NRunner_makeStep_161 ?_
              refine pcc_v (va_runV (C := "BigRunner$Runner") (As := [.int (nI (ix + 1))]) (rest := []) ⟨hx, hb, hml, hown, tb_nil⟩ (v_proceed l g H.size f109 X pr ix ((os + 1)) ((st + 1)) mo_95 lo_96 (((evs s9.vr E9 []).1)) sn nn T nb en L ((ix + 1)) hL t_X t_pr hI1_114 x1_111 (by omega) (by omega) (by omega) (by omega) eP (by omega) (by omega) hPT hTS (by omega)) ⟨(callB_of 1 (tb_one (wd_734 hB _)) tb_good1 rfl rfl rfl (wd_79 hB _) (wd_731 hB _) (by decide +kernel) ⟨Nat.le_of_ble_eq_true rfl, Nat.le_of_ble_eq_true rfl⟩), (wd_733 hB _), (wd_25 hB _)⟩ ⟨pe_bl, pg_recv (ci := 8) hK hP (lo_in hL t_X (by decide)) x1_111 rfl, pe_pre hB hK hP hD⟩ rfl rfl hl.1 rfl (lv_room (Nat.le_of_ble_eq_true rfl)) d_NRunner_makeStep_162 ⟨Nat.le_of_ble_eq_true rfl, Nat.le_of_ble_eq_true rfl⟩) hS (fun f117 H locs hq118 hP hD hS => ?_)
              obtain ⟨x1_119, hI1_120, hk1_121⟩ := hq118
              have hu := hu.st hk1_121 t_X (by decide)
              have eP := (hk1_121 pr (tg_ne t_pr t_X (by decide))).trans eP
              have e6 := (hk1_121 (g.lk pr 0) (tg_ne (lo_k7_0 hL _ t_pr) t_X (by decide))).trans e6
              have eS9 := (hk1_121 (g.lk (g.lk pr 0) ix) (tg_ne t7 t_X (by decide))).trans eS9
              have e103 := (hk1_121 (g.lk pr 2) (tg_ne (lo_k7_2 hL _ t_pr) t_X (by decide))).trans e103
              obtain ⟨ix_122, c124, c125, c126, e123⟩ := x1_119
              have huc9 := un_1 hk1_121 t_X
              have hTP := TPN_un hL t_pr hTP huc9 (by decide)
              have hTS := TPS_un hL t_pr hTS huc9 (by decide)
              have hEV := EV_un hL t_pr hEV huc9 (by decide)
              have hV := VARS_un hL t_X hV huc9 (by decide) (by decide) (by decide)
              have hIN := INS_un hL t_X hIN huc9 (by decide) (by decide)
              have hOU := OUTS_un hL t_X hOU huc9 (by decide) (by decide)
              exact pe_vret hx hb hr hlocks hK hP hD hS d_NRunner_makeStep_165 ⟨⟨ix_122, (os + 1), (st + 1), mo_95, lo_96, ((evs s9.vr E9 []).1), (by omega), (by omega), (by omega), (by omega), (by rw [hstp, ps_10 hdr9 hE8 het0]; exact ⟨hTP, hTS, hEV, hV, hVI, hIN, hOU, (by show (s9.outs ++ [_]).length = _; rw [List.length_append, List.length_singleton, hol]), (congrArg (· + 1) hsp), het0.symm, c124, (show jmp L (s9.pc + E9.length + 1) = _ by rw [c125]; exact congrArg (jmp L) (by omega)), c126⟩), e123⟩, hI1_120, hu⟩
          · skip
            replace b105 := (nI_eq (a := 2) (b := 0) (by omega) (by omega)).mp b105
            exfalso; omega
        · skip
          replace b102 := mt (nI_eq (a := (evs s9.vr E9 []).1) (b := 0) (by omega) (by omega)).mpr b102
          have huc9 := huC
          have hTP := TPN_un hL t_pr hTP huc9 (by decide)
          have hTS := TPS_un hL t_pr hTS huc9 (by decide)
          have hEV := EV_un hL t_pr hEV huc9 (by decide)
          have hV := VARS_un hL t_X hV huc9 (by decide) (by decide) (by decide)
          have hIN := INS_un hL t_X hIN huc9 (by decide) (by decide)
          have hOU := OUTS_un hL t_X hOU huc9 (by decide) (by decide)
          have hett : (evs s9.vr E9 []).1 ≠ 0 := by first | exact b102 | omega
          have hI127 := iv_1 hI1_93 hL t_X (by decide) hk101 (oc_9.mk t_X (⟨pr, ix, os, (st + 1), mo_95, lo_96, ((evs s9.vr E9 []).1), e99, t_pr, (by omega), (by omega), (by omega), (by omega)⟩))
          exact pe_vret hx hb hr hlocks hK hP hD hS d_NRunner_makeStep_90 ⟨⟨ix, os, (st + 1), mo_95, lo_96, ((evs s9.vr E9 []).1), (by omega), (by omega), (by omega), (by omega), (by rw [hstp, ps_t hdr9 hE8 (by decide) (by decide) hett]; exact ⟨hTP, hTS, hEV, hV, hVI, hIN, hOU, hol, congrArg (· + 1) hsp, rfl, hixn, hpc, fun _ => hnj⟩), e99⟩, hI127, hu⟩
      · skip
        replace b83 := (nI_eq (a := 2) (b := 1) (by omega) (by omega)).mp b83
        exfalso; omega
    · skip
      rcases ht11 rfl with hkd9 | hkd9
      · skip
        rw [hkd9] at eS9
        obtain ⟨hfn9, hlt9, hT89⟩ := htE (by decide) (by decide)
        obtain ⟨j9, hj9⟩ : ∃ j, nb ix + E9.length = j + 1 := ⟨nb ix + E9.length - 1, by omega⟩
        have hla8 := hla9 j9 (hT89.trans hj9)
        rw [hfn9, hla8] at eS9
        have hle9 := PT_mono hPT (sn - (ix + 1)) (ix + 1) (by omega)
        rw [show ix + 1 + (sn - (ix + 1)) = sn by omega, hPT.2.2.2.2.1, hnb9] at hle9
        have hj72 : j9 < 72 := by have := hPT.2.1; omega
        refine lv_aload_n hx hb d_NRunner_makeStep_39 rfl (lv_at hl 0 rfl) ?_
        refine pf_get (v := .int (nI 3)) (C := "BigRunner$Statement") (T := FT9) (N := 5) hx hb (hw9 hB _) (fun _ h9 => h9) hown hK hP (lo_in hL t7 (by decide)) eS9 rfl 0 (by decide) (wd_145 hB _) rfl d_NRunner_makeStep_40 ?_
        refine lv_iconst (v := nI 1) hx hb d_NRunner_makeStep_43 (by decide) ?_
        refine lv_icmp_ne (tgt := 74) hx hb d_NRunner_makeStep_44 (by decide) (fun b128 => ?_) (fun b128 => ?_)
        · skip
          replace b128 := mt (nI_eq (a := 3) (b := 1) (by omega) (by omega)).mpr b128
          refine lv_aload_n hx hb d_NRunner_makeStep_74 rfl (lv_at hl 1 rfl) ?_
          refine lv_aload_n hx hb d_NRunner_makeStep_75 rfl (lv_at hl 1 rfl) ?_
          refine lv_aload_n hx hb d_NRunner_makeStep_76 rfl (lv_at hl 0 rfl) ?_
          have hI129 := iv_1 hI hL t_X (by decide) hk5 (oc_9.mk t_X (⟨pr, ix, os, (st + 1), mo, lo, tr, e3, t_pr, (by omega), (by omega), (by omega), (by omega)⟩))
          refine pcc_i (va_runV (C := "BigRunner$Runner") (As := [.ref (g.lk (g.lk pr 0) ix)]) (rest := [.ref X]) ⟨hx, hb, hml, hown, tb_nil⟩ (v_workOut l g H.size f2 X pr ix os ((st + 1)) mo lo tr ix 3 ((T 6 ix)) ((nb ix)) j9 ((T 9 ix)) T en E9 s9.vr hL t_X t_pr hI129 e3 (by omega) (by omega) (by omega) (by omega) (by omega) eS9 hTP hTB hPT.2.2.2.2.2.2.2.2.1 hNR9 hj9.symm (by have := hPT.2.1; omega) (by omega) hV hVI) ⟨(callB_of 1 (tb_one (wd_738 hB _)) tb_good1 rfl rfl rfl (wd_79 hB _) (wd_735 hB _) (by decide +kernel) ⟨Nat.le_of_ble_eq_true rfl, Nat.le_of_ble_eq_true rfl⟩), (wd_737 hB _), (wd_26 hB _)⟩ ⟨pe_bl, pg_recv (ci := 8) hK hP (lo_in hL t_X (by decide)) e3 rfl, pe_pre hB hK hP hD⟩ rfl rfl hl.1 rfl (lv_room (Nat.le_of_ble_eq_true rfl)) d_NRunner_makeStep_77 ⟨Nat.le_of_ble_eq_true rfl, Nat.le_of_ble_eq_true rfl⟩) hS (fun r130 f131 H locs hq132 hP hD hS => ?_)
          obtain ⟨x1_133, q9_134, res_135, fw_136, tp_137, hI1_138, hu1_139⟩ := hq132
          subst q9_134
          have hu := hu.tr hu1_139 (by decide)
          have eP := hu1_139.at t_pr (by decide) eP
          have e6 := hu1_139.at (lo_k7_0 hL _ t_pr) (by decide) e6
          have eS9 := hu1_139.at t7 (by decide) eS9
          obtain ⟨mo_140, lo_141, e142⟩ := x1_133
          have hOU := OUTS_fw hL t_X hOU fw_136
          have hV := VARS_fw hL t_X hV fw_136 (hu1_139 _ (by rw [lo_k9_3 hL _ t_X]; decide))
          have huc9 := hu1_139
          have hTS := TPS_un hL t_pr hTS huc9 (by decide)
          have hEV := EV_un hL t_pr hEV huc9 (by decide)
          have hIN := INS_un hL t_X hIN huc9 (by decide) (by decide)
          have hTP := tp_137
          have hres9 := res_135
          have het9 := evs_3 s9.vr E9 []
          have huC : un [9] g f131 f131 := un.rf
          refine pf_put (v := .int (nI ((evs s9.vr E9 []).1))) (ty := .int) (fs' := [.ref pr, .ref (g.lk X 1), .int (nI ix), .ref (g.lk X 3), .ref (g.lk X 4), .ref (g.lk X 5), .ref (g.lk X 6), .ref (g.lk X 7), .int (nI os), .int (nI (st + 1)), .int mo_140, .int lo_141, .int (nI ((evs s9.vr E9 []).1))]) (C := "BigRunner$Runner") (T := FT8) (N := 13) hx hb (hw8 hB _) (fun _ h9 => h9) TY8 ok8 nm8 hown hK hP hD hS (lo_in hL t_X (by decide)) e142 rfl 12 (by decide) (wd_349 hB _) rfl (by decide +kernel) rfl rfl (Nat.le_of_ble_eq_true rfl) rfl d_NRunner_makeStep_80 (fun f143 H locs e144 k145 hP hD hS => ?_)
          have eP := (k145 pr (tg_ne t_pr t_X (by decide))).trans eP
          have e6 := (k145 (g.lk pr 0) (tg_ne (lo_k7_0 hL _ t_pr) t_X (by decide))).trans e6
          have eS9 := (k145 (g.lk (g.lk pr 0) ix) (tg_ne t7 t_X (by decide))).trans eS9
          have hu := hu.st k145 t_X (by decide)
          have huC := huC.st k145 t_X (by decide)
          have hk146 : ∀ b, b ≠ X → f143 b = f131 b := k145
          refine lv_aload_n hx hb d_NRunner_makeStep_83 rfl (lv_at hl 1 rfl) ?_
          refine pf_get (v := .int (nI ((evs s9.vr E9 []).1))) (C := "BigRunner$Runner") (T := FT8) (N := 13) hx hb (hw8 hB _) (fun _ h9 => h9) hown hK hP (lo_in hL t_X (by decide)) e144 rfl 12 (by decide) (wd_349 hB _) rfl d_NRunner_makeStep_84 ?_
          refine lv_if_eq (tgt := 91) hx hb d_NRunner_makeStep_87 (by decide) (fun b147 => ?_) (fun b147 => ?_)
          · skip
            replace b147 := (nI_eq (a := (evs s9.vr E9 []).1) (b := 0) (by omega) (by omega)).mp b147
            have het0 : (evs s9.vr E9 []).1 = 0 := by first | exact b147 | omega
            have huc9 := huC
            have hTP := TPN_un hL t_pr hTP huc9 (by decide)
            have hTS := TPS_un hL t_pr hTS huc9 (by decide)
            have hEV := EV_un hL t_pr hEV huc9 (by decide)
            have hV := VARS_un hL t_X hV huc9 (by decide) (by decide) (by decide)
            have hIN := INS_un hL t_X hIN huc9 (by decide) (by decide)
            have hOU := OUTS_un hL t_X hOU huc9 (by decide) (by decide)
            obtain ⟨hVL, hin9, hik9⟩ := hres9 het0
            have hVL := VL_un hL t_pr (by omega) hVL huc9 (by decide) (by decide) (by decide)
            refine lv_aload_n hx hb d_NRunner_makeStep_91 rfl (lv_at hl 1 rfl) ?_
            refine pf_get (v := .ref pr) (C := "BigRunner$Runner") (T := FT8) (N := 13) hx hb (hw8 hB _) (fun _ h9 => h9) hown hK hP (lo_in hL t_X (by decide)) e144 rfl 0 (by decide) (wd_330 hB _) rfl d_NRunner_makeStep_92 ?_
            refine pf_get (v := .ref (g.lk pr 2)) (C := "BigRunner$Program") (T := FT6) (N := 6) hx hb (hw6 hB _) (fun _ h9 => h9) hown hK hP (lo_in hL t_pr (by decide)) eP rfl 2 (by decide) (wd_249 hB _) rfl d_NRunner_makeStep_95 ?_
            refine lv_aload_n hx hb d_NRunner_makeStep_98 rfl (lv_at hl 0 rfl) ?_
            refine pf_get (v := .int (nI j9)) (C := "BigRunner$Statement") (T := FT9) (N := 5) hx hb (hw9 hB _) (fun _ h9 => h9) hown hK hP (lo_in hL t7 (by decide)) eS9 rfl 3 (by decide) (wd_157 hB _) rfl d_NRunner_makeStep_99 ?_
            have e148 := oc_25.of (lo_k7_2 hL _ t_pr) (hI1_138.1 (g.lk pr 2))
            replace e148 := (hk146 (g.lk pr 2) (tg_ne (lo_k7_2 hL _ t_pr) t_X (by decide))).trans e148
            refine pf_aald (i := j9) hx hb hK hP (lo_in hL (lo_k7_2 hL _ t_pr) (by decide)) e148 (lo_t25 hL _ (lo_k7_2 hL _ t_pr)) (by omega) (by decide) d_NRunner_makeStep_102 ?_
            have t149 := lo_e25 hL _ (lo_k7_2 hL _ t_pr) j9 (by omega)
            refine lv_astore_n (lv' := [(2, .ref (g.lk (g.lk pr 2) j9)), (1, .ref (g.lk (g.lk pr 0) ix)), (0, .ref X)]) hx hb d_NRunner_makeStep_103 rfl hl (by decide) rfl (fun ls hl => ?_)
            have hlt12 : ((evs s9.vr E9 []).2.headD 0).natAbs < T12 := by obtain ⟨_, _, _, _, _, _, _, z⟩ := hVL; exact z
            refine lv_aload_n hx hb d_NRunner_makeStep_104 rfl (lv_at hl 1 rfl) ?_
            refine pf_get (v := .int (nI 3)) (C := "BigRunner$Statement") (T := FT9) (N := 5) hx hb (hw9 hB _) (fun _ h9 => h9) hown hK hP (lo_in hL t7 (by decide)) eS9 rfl 0 (by decide) (wd_145 hB _) rfl d_NRunner_makeStep_105 ?_
            refine lv_if_ne (tgt := 123) hx hb d_NRunner_makeStep_108 (by decide) (fun b150 => ?_) (fun b150 => ?_)
            · skip
              replace b150 := mt (nI_eq (a := 3) (b := 0) (by omega) (by omega)).mpr b150
              refine lv_aload_n hx hb d_NRunner_makeStep_123 rfl (lv_at hl 1 rfl) ?_
              refine pf_get (v := .int (nI 3)) (C := "BigRunner$Statement") (T := FT9) (N := 5) hx hb (hw9 hB _) (fun _ h9 => h9) hown hK hP (lo_in hL t7 (by decide)) eS9 rfl 0 (by decide) (wd_145 hB _) rfl d_NRunner_makeStep_124 ?_
              refine lv_iconst (v := nI 2) hx hb d_NRunner_makeStep_127 (by decide) ?_
              refine lv_icmp_ne (tgt := 139) hx hb d_NRunner_makeStep_128 (by decide) (fun b151 => ?_) (fun b151 => ?_)
              · skip
                replace b151 := mt (nI_eq (a := 3) (b := 2) (by omega) (by omega)).mpr b151
                refine lv_aload_n hx hb d_NRunner_makeStep_139 rfl (lv_at hl 0 rfl) ?_
                obtain ⟨kx1, kx2, kx3, mx, eNx, hsx, hlx, htx⟩ := hVL
                rcases (hTB.1 j9 hj72).2.2.2.2 with h39 | h39
                · skip
                  rw [h39] at eNx hsx hlx
                  obtain ⟨sgx, nx, dx, eax, ebx, hNx⟩ := hlx rfl
                  have cbx : ∀ i, i < 15 → ∃ k, k < 1000000000 ∧ dx i = nI k := hNx.2.1
                  have hI152 := iv_1 hI1_138 hL t_X (by decide) hk146 (oc_9.mk t_X (⟨pr, ix, os, (st + 1), mo_140, lo_141, ((evs s9.vr E9 []).1), e144, t_pr, (by omega), (by omega), (by omega), (by omega)⟩))
                  refine pcc_i (va_runV (C := "BigRunner$Node") (As := []) (rest := []) ⟨hx, hb, hml, hown, tb_nil⟩ (v_nsignL l g H.size f143 ((g.lk (g.lk pr 2) j9)) kx1 kx2 kx3 mx sgx nx dx ((((evs s9.vr E9 []).2.headD 0))) hL t149 hI152.1 eNx eax ebx hNx) ⟨(callB_of 0 (tb_one (wd_846 hB _)) tb_good1 rfl rfl rfl (wd_77 hB _) (wd_843 hB _) (by decide +kernel) ⟨Nat.le_of_ble_eq_true rfl, Nat.le_of_ble_eq_true rfl⟩), (wd_844 hB _), (wd_845 hB _)⟩ ⟨pe_bl, pg_recv (ci := 5) hK hP (lo_in hL t149 (by decide)) eNx rfl, pe_pre hB hK hP hD⟩ rfl rfl hl.1 rfl (lv_room (Nat.le_of_ble_eq_true rfl)) d_NRunner_makeStep_140 ⟨Nat.le_of_ble_eq_true rfl, Nat.le_of_ble_eq_true rfl⟩) hS (fun r153 f154 H locs hq155 hP hD hS => ?_)
                  obtain ⟨sn_156, rfl⟩ := hq155
                  have hsn9 : r153 ≤ nI 0 ↔ ((evs s9.vr E9 []).2.headD 0) ≤ 0 := sn_156
                  refine lv_if_gt (tgt := 155) hx hb d_NRunner_makeStep_143 (by decide) (fun b157 => ?_) (fun b157 => ?_)
                  · skip
                    have hgt9 : ¬ ((evs s9.vr E9 []).2.headD 0) ≤ 0 := fun z9 => absurd (hsn9.mpr z9) (Int32.not_le.mpr b157)
                    refine lv_aload_n hx hb d_NRunner_makeStep_155 rfl (lv_at hl 2 rfl) ?_
                    refine lv_aload_n hx hb d_NRunner_makeStep_156 rfl (lv_at hl 2 rfl) ?_
                    refine pf_get (v := .int (nI ix)) (C := "BigRunner$Runner") (T := FT8) (N := 13) hx hb (hw8 hB _) (fun _ h9 => h9) hown hK hP (lo_in hL t_X (by decide)) e144 rfl 2 (by decide) (wd_334 hB _) rfl d_NRunner_makeStep_157 ?_
                    refine lv_iconst (v := nI 1) hx hb d_NRunner_makeStep_160 (by decide) ?_
                    refine pf_iaddN (x := ix) (y := 1) hx hb d_NRunner_makeStep_161 ?_
                    refine pcc_v (va_runV (C := "BigRunner$Runner") (As := [.int (nI (ix + 1))]) (rest := []) ⟨hx, hb, hml, hown, tb_nil⟩ (v_proceed l g H.size f143 X pr ix os ((st + 1)) mo_140 lo_141 (((evs s9.vr E9 []).1)) sn nn T nb en L ((ix + 1)) hL t_X t_pr hI152 e144 (by omega) (by omega) (by omega) (by omega) eP (by omega) (by omega) hPT hTS (by omega)) ⟨(callB_of 1 (tb_one (wd_734 hB _)) tb_good1 rfl rfl rfl (wd_79 hB _) (wd_731 hB _) (by decide +kernel) ⟨Nat.le_of_ble_eq_true rfl, Nat.le_of_ble_eq_true rfl⟩), (wd_733 hB _), (wd_25 hB _)⟩ ⟨pe_bl, pg_recv (ci := 8) hK hP (lo_in hL t_X (by decide)) e144 rfl, pe_pre hB hK hP hD⟩ rfl rfl hl.1 rfl (lv_room (Nat.le_of_ble_eq_true rfl)) d_NRunner_makeStep_162 ⟨Nat.le_of_ble_eq_true rfl, Nat.le_of_ble_eq_true rfl⟩) hS (fun f159 H locs hq160 hP hD hS => ?_)
                    obtain ⟨x1_161, hI1_162, hk1_163⟩ := hq160
                    have hu := hu.st hk1_163 t_X (by decide)
                    have eP := (hk1_163 pr (tg_ne t_pr t_X (by decide))).trans eP
                    have e6 := (hk1_163 (g.lk pr 0) (tg_ne (lo_k7_0 hL _ t_pr) t_X (by decide))).trans e6
                    have eS9 := (hk1_163 (g.lk (g.lk pr 0) ix) (tg_ne t7 t_X (by decide))).trans eS9
                    have e148 := (hk1_163 (g.lk pr 2) (tg_ne (lo_k7_2 hL _ t_pr) t_X (by decide))).trans e148
                    have eNx := (hk1_163 (g.lk (g.lk pr 2) j9) (tg_ne t149 t_X (by decide))).trans eNx
                    have eax := (hk1_163 (g.lk (g.lk (g.lk pr 2) j9) 6) (tg_ne (lo_k6_6 hL _ t149) t_X (by decide))).trans eax
                    have ebx := (hk1_163 (g.lk (g.lk (g.lk (g.lk pr 2) j9) 6) 2) (tg_ne (lo_k5_2 hL _ (lo_k6_6 hL _ t149)) t_X (by decide))).trans ebx
                    obtain ⟨ix_164, c166, c167, c168, e165⟩ := x1_161
                    have huc9 := un_1 hk1_163 t_X
                    have hTP := TPN_un hL t_pr hTP huc9 (by decide)
                    have hTS := TPS_un hL t_pr hTS huc9 (by decide)
                    have hEV := EV_un hL t_pr hEV huc9 (by decide)
                    have hV := VARS_un hL t_X hV huc9 (by decide) (by decide) (by decide)
                    have hIN := INS_un hL t_X hIN huc9 (by decide) (by decide)
                    have hOU := OUTS_un hL t_X hOU huc9 (by decide) (by decide)
                    exact pe_vret hx hb hr hlocks hK hP hD hS d_NRunner_makeStep_165 ⟨⟨ix_164, os, (st + 1), mo_140, lo_141, ((evs s9.vr E9 []).1), (by omega), (by omega), (by omega), (by omega), (by rw [hstp, ps_11 hdr9 hE8 het0, if_neg hgt9]; exact ⟨hTP, hTS, hEV, hV, hVI, hIN, hOU, hol, (congrArg (· + 1) hsp), het0.symm, c166, (show jmp L (s9.pc + E9.length + 1) = _ by rw [c167]; exact congrArg (jmp L) (by omega)), c168⟩), e165⟩, hI1_162, hu⟩
                  · skip
                    have hle0 : ((evs s9.vr E9 []).2.headD 0) ≤ 0 := hsn9.mp (Int32.not_lt.mp b157)
                    refine lv_aload_n hx hb d_NRunner_makeStep_146 rfl (lv_at hl 2 rfl) ?_
                    refine lv_aload_n hx hb d_NRunner_makeStep_147 rfl (lv_at hl 1 rfl) ?_
                    refine pf_get (v := .int (nI (T 9 ix))) (C := "BigRunner$Statement") (T := FT9) (N := 5) hx hb (hw9 hB _) (fun _ h9 => h9) hown hK hP (lo_in hL t7 (by decide)) eS9 rfl 4 (by decide) (wd_160 hB _) rfl d_NRunner_makeStep_148 ?_
                    have hta9 := hPT.2.2.2.2.2.2.2.1 ix hin (by omega)
                    refine pcc_v (va_runV (C := "BigRunner$Runner") (As := [.int (nI (T 9 ix))]) (rest := []) ⟨hx, hb, hml, hown, tb_nil⟩ (v_proceed l g H.size f143 X pr ix os ((st + 1)) mo_140 lo_141 (((evs s9.vr E9 []).1)) sn nn T nb en L ((T 9 ix)) hL t_X t_pr hI152 e144 (by omega) (by omega) (by omega) (by omega) eP (by omega) (by omega) hPT hTS (by omega)) ⟨(callB_of 1 (tb_one (wd_734 hB _)) tb_good1 rfl rfl rfl (wd_79 hB _) (wd_731 hB _) (by decide +kernel) ⟨Nat.le_of_ble_eq_true rfl, Nat.le_of_ble_eq_true rfl⟩), (wd_733 hB _), (wd_25 hB _)⟩ ⟨pe_bl, pg_recv (ci := 8) hK hP (lo_in hL t_X (by decide)) e144 rfl, pe_pre hB hK hP hD⟩ rfl rfl hl.1 rfl (lv_room (Nat.le_of_ble_eq_true rfl)) d_NRunner_makeStep_151 ⟨Nat.le_of_ble_eq_true rfl, Nat.le_of_ble_eq_true rfl⟩) hS (fun f170 H locs hq171 hP hD hS => ?_)
                    obtain ⟨x1_172, hI1_173, hk1_174⟩ := hq171
                    have hu := hu.st hk1_174 t_X (by decide)
                    have eP := (hk1_174 pr (tg_ne t_pr t_X (by decide))).trans eP
                    have e6 := (hk1_174 (g.lk pr 0) (tg_ne (lo_k7_0 hL _ t_pr) t_X (by decide))).trans e6
                    have eS9 := (hk1_174 (g.lk (g.lk pr 0) ix) (tg_ne t7 t_X (by decide))).trans eS9
                    have e148 := (hk1_174 (g.lk pr 2) (tg_ne (lo_k7_2 hL _ t_pr) t_X (by decide))).trans e148
                    have eNx := (hk1_174 (g.lk (g.lk pr 2) j9) (tg_ne t149 t_X (by decide))).trans eNx
                    have eax := (hk1_174 (g.lk (g.lk (g.lk pr 2) j9) 6) (tg_ne (lo_k6_6 hL _ t149) t_X (by decide))).trans eax
                    have ebx := (hk1_174 (g.lk (g.lk (g.lk (g.lk pr 2) j9) 6) 2) (tg_ne (lo_k5_2 hL _ (lo_k6_6 hL _ t149)) t_X (by decide))).trans ebx
                    obtain ⟨ix_175, c177, c178, c179, e176⟩ := x1_172
                    have huc9 := un_1 hk1_174 t_X
                    have hTP := TPN_un hL t_pr hTP huc9 (by decide)
                    have hTS := TPS_un hL t_pr hTS huc9 (by decide)
                    have hEV := EV_un hL t_pr hEV huc9 (by decide)
                    have hV := VARS_un hL t_X hV huc9 (by decide) (by decide) (by decide)
                    have hIN := INS_un hL t_X hIN huc9 (by decide) (by decide)
                    have hOU := OUTS_un hL t_X hOU huc9 (by decide) (by decide)
                    exact pe_vret hx hb hr hlocks hK hP hD hS d_NRunner_makeStep_154 ⟨⟨ix_175, os, (st + 1), mo_140, lo_141, ((evs s9.vr E9 []).1), (by omega), (by omega), (by omega), (by omega), (by rw [hstp, ps_11 hdr9 hE8 het0, if_pos hle0]; exact ⟨hTP, hTS, hEV, hV, hVI, hIN, hOU, hol, (congrArg (· + 1) hsp), het0.symm, c177, (show jmp L a9 = _ by rw [c178, htT (by decide)]), c179⟩), e176⟩, hI1_173, hu⟩
                · skip
                  rw [h39] at eNx hsx hlx
                  have hI180 := iv_1 hI1_138 hL t_X (by decide) hk146 (oc_9.mk t_X (⟨pr, ix, os, (st + 1), mo_140, lo_141, ((evs s9.vr E9 []).1), e144, t_pr, (by omega), (by omega), (by omega), (by omega)⟩))
                  refine pcc_i (va_runV (C := "BigRunner$Node") (As := []) (rest := []) ⟨hx, hb, hml, hown, tb_nil⟩ (v_nsignS l g H.size f143 ((g.lk (g.lk pr 2) j9)) kx1 kx2 kx3 mx hL t149 hI180.1 eNx (by rw [(hsx rfl).1]; exact (hsx rfl).2)) ⟨(callB_of 0 (tb_one (wd_846 hB _)) tb_good1 rfl rfl rfl (wd_77 hB _) (wd_843 hB _) (by decide +kernel) ⟨Nat.le_of_ble_eq_true rfl, Nat.le_of_ble_eq_true rfl⟩), (wd_844 hB _), (wd_845 hB _)⟩ ⟨pe_bl, pg_recv (ci := 5) hK hP (lo_in hL t149 (by decide)) eNx rfl, pe_pre hB hK hP hD⟩ rfl rfl hl.1 rfl (lv_room (Nat.le_of_ble_eq_true rfl)) d_NRunner_makeStep_140 ⟨Nat.le_of_ble_eq_true rfl, Nat.le_of_ble_eq_true rfl⟩) hS (fun r181 f182 H locs hq183 hP hD hS => ?_)
                  obtain ⟨sn_184, rfl⟩ := hq183
                  have hsn9 : r181 ≤ nI 0 ↔ ((evs s9.vr E9 []).2.headD 0) ≤ 0 := by rw [← (hsx rfl).1]; exact sn_184
                  refine lv_if_gt (tgt := 155) hx hb d_NRunner_makeStep_143 (by decide) (fun b185 => ?_) (fun b185 => ?_)
                  · skip
                    have hgt9 : ¬ ((evs s9.vr E9 []).2.headD 0) ≤ 0 := fun z9 => absurd (hsn9.mpr z9) (Int32.not_le.mpr b185)
                    refine lv_aload_n hx hb d_NRunner_makeStep_155 rfl (lv_at hl 2 rfl) ?_
                    refine lv_aload_n hx hb d_NRunner_makeStep_156 rfl (lv_at hl 2 rfl) ?_
                    refine pf_get (v := .int (nI ix)) (C := "BigRunner$Runner") (T := FT8) (N := 13) hx hb (hw8 hB _) (fun _ h9 => h9) hown hK hP (lo_in hL t_X (by decide)) e144 rfl 2 (by decide) (wd_334 hB _) rfl d_NRunner_makeStep_157 ?_
                    refine lv_iconst (v := nI 1) hx hb d_NRunner_makeStep_160 (by decide) ?_
                    refine pf_iaddN (x := ix) (y := 1) hx hb d_NRunner_makeStep_161 ?_
                    refine pcc_v (va_runV (C := "BigRunner$Runner") (As := [.int (nI (ix + 1))]) (rest := []) ⟨hx, hb, hml, hown, tb_nil⟩ (v_proceed l g H.size f143 X pr ix os ((st + 1)) mo_140 lo_141 (((evs s9.vr E9 []).1)) sn nn T nb en L ((ix + 1)) hL t_X t_pr hI180 e144 (by omega) (by omega) (by omega) (by omega) eP (by omega) (by omega) hPT hTS (by omega)) ⟨(callB_of 1 (tb_one (wd_734 hB _)) tb_good1 rfl rfl rfl (wd_79 hB _) (wd_731 hB _) (by decide +kernel) ⟨Nat.le_of_ble_eq_true rfl, Nat.le_of_ble_eq_true rfl⟩), (wd_733 hB _), (wd_25 hB _)⟩ ⟨pe_bl, pg_recv (ci := 8) hK hP (lo_in hL t_X (by decide)) e144 rfl, pe_pre hB hK hP hD⟩ rfl rfl hl.1 rfl (lv_room (Nat.le_of_ble_eq_true rfl)) d_NRunner_makeStep_162 ⟨Nat.le_of_ble_eq_true rfl, Nat.le_of_ble_eq_true rfl⟩) hS (fun f187 H locs hq188 hP hD hS => ?_)
                    obtain ⟨x1_189, hI1_190, hk1_191⟩ := hq188
                    have hu := hu.st hk1_191 t_X (by decide)
                    have eP := (hk1_191 pr (tg_ne t_pr t_X (by decide))).trans eP
                    have e6 := (hk1_191 (g.lk pr 0) (tg_ne (lo_k7_0 hL _ t_pr) t_X (by decide))).trans e6
                    have eS9 := (hk1_191 (g.lk (g.lk pr 0) ix) (tg_ne t7 t_X (by decide))).trans eS9
                    have e148 := (hk1_191 (g.lk pr 2) (tg_ne (lo_k7_2 hL _ t_pr) t_X (by decide))).trans e148
                    have eNx := (hk1_191 (g.lk (g.lk pr 2) j9) (tg_ne t149 t_X (by decide))).trans eNx
                    obtain ⟨ix_192, c194, c195, c196, e193⟩ := x1_189
                    have huc9 := un_1 hk1_191 t_X
                    have hTP := TPN_un hL t_pr hTP huc9 (by decide)
                    have hTS := TPS_un hL t_pr hTS huc9 (by decide)
                    have hEV := EV_un hL t_pr hEV huc9 (by decide)
                    have hV := VARS_un hL t_X hV huc9 (by decide) (by decide) (by decide)
                    have hIN := INS_un hL t_X hIN huc9 (by decide) (by decide)
                    have hOU := OUTS_un hL t_X hOU huc9 (by decide) (by decide)
                    exact pe_vret hx hb hr hlocks hK hP hD hS d_NRunner_makeStep_165 ⟨⟨ix_192, os, (st + 1), mo_140, lo_141, ((evs s9.vr E9 []).1), (by omega), (by omega), (by omega), (by omega), (by rw [hstp, ps_11 hdr9 hE8 het0, if_neg hgt9]; exact ⟨hTP, hTS, hEV, hV, hVI, hIN, hOU, hol, (congrArg (· + 1) hsp), het0.symm, c194, (show jmp L (s9.pc + E9.length + 1) = _ by rw [c195]; exact congrArg (jmp L) (by omega)), c196⟩), e193⟩, hI1_190, hu⟩
                  · skip
                    have hle0 : ((evs s9.vr E9 []).2.headD 0) ≤ 0 := hsn9.mp (Int32.not_lt.mp b185)
                    refine lv_aload_n hx hb d_NRunner_makeStep_146 rfl (lv_at hl 2 rfl) ?_
                    refine lv_aload_n hx hb d_NRunner_makeStep_147 rfl (lv_at hl 1 rfl) ?_
                    refine pf_get (v := .int (nI (T 9 ix))) (C := "BigRunner$Statement") (T := FT9) (N := 5) hx hb (hw9 hB _) (fun _ h9 => h9) hown hK hP (lo_in hL t7 (by decide)) eS9 rfl 4 (by decide) (wd_160 hB _) rfl d_NRunner_makeStep_148 ?_
                    have hta9 := hPT.2.2.2.2.2.2.2.1 ix hin (by omega)
                    refine pcc_v (va_runV (C := "BigRunner$Runner") (As := [.int (nI (T 9 ix))]) (rest := []) ⟨hx, hb, hml, hown, tb_nil⟩ (v_proceed l g H.size f143 X pr ix os ((st + 1)) mo_140 lo_141 (((evs s9.vr E9 []).1)) sn nn T nb en L ((T 9 ix)) hL t_X t_pr hI180 e144 (by omega) (by omega) (by omega) (by omega) eP (by omega) (by omega) hPT hTS (by omega)) ⟨(callB_of 1 (tb_one (wd_734 hB _)) tb_good1 rfl rfl rfl (wd_79 hB _) (wd_731 hB _) (by decide +kernel) ⟨Nat.le_of_ble_eq_true rfl, Nat.le_of_ble_eq_true rfl⟩), (wd_733 hB _), (wd_25 hB _)⟩ ⟨pe_bl, pg_recv (ci := 8) hK hP (lo_in hL t_X (by decide)) e144 rfl, pe_pre hB hK hP hD⟩ rfl rfl hl.1 rfl (lv_room (Nat.le_of_ble_eq_true rfl)) d_NRunner_makeStep_151 ⟨Nat.le_of_ble_eq_true rfl, Nat.le_of_ble_eq_true rfl⟩) hS (fun f198 H locs hq199 hP hD hS => ?_)
                    obtain ⟨x1_200, hI1_201, hk1_202⟩ := hq199
                    have hu := hu.st hk1_202 t_X (by decide)
                    have eP := (hk1_202 pr (tg_ne t_pr t_X (by decide))).trans eP
                    have e6 := (hk1_202 (g.lk pr 0) (tg_ne (lo_k7_0 hL _ t_pr) t_X (by decide))).trans e6
                    have eS9 := (hk1_202 (g.lk (g.lk pr 0) ix) (tg_ne t7 t_X (by decide))).trans eS9
                    have e148 := (hk1_202 (g.lk pr 2) (tg_ne (lo_k7_2 hL _ t_pr) t_X (by decide))).trans e148
                    have eNx := (hk1_202 (g.lk (g.lk pr 2) j9) (tg_ne t149 t_X (by decide))).trans eNx
                    obtain ⟨ix_203, c205, c206, c207, e204⟩ := x1_200
                    have huc9 := un_1 hk1_202 t_X
                    have hTP := TPN_un hL t_pr hTP huc9 (by decide)
                    have hTS := TPS_un hL t_pr hTS huc9 (by decide)
                    have hEV := EV_un hL t_pr hEV huc9 (by decide)
                    have hV := VARS_un hL t_X hV huc9 (by decide) (by decide) (by decide)
                    have hIN := INS_un hL t_X hIN huc9 (by decide) (by decide)
                    have hOU := OUTS_un hL t_X hOU huc9 (by decide) (by decide)
                    exact pe_vret hx hb hr hlocks hK hP hD hS d_NRunner_makeStep_154 ⟨⟨ix_203, os, (st + 1), mo_140, lo_141, ((evs s9.vr E9 []).1), (by omega), (by omega), (by omega), (by omega), (by rw [hstp, ps_11 hdr9 hE8 het0, if_pos hle0]; exact ⟨hTP, hTS, hEV, hV, hVI, hIN, hOU, hol, (congrArg (· + 1) hsp), het0.symm, c205, (show jmp L a9 = _ by rw [c206, htT (by decide)]), c207⟩), e204⟩, hI1_201, hu⟩
              · skip
                replace b151 := (nI_eq (a := 3) (b := 2) (by omega) (by omega)).mp b151
                exfalso; omega
            · skip
              replace b150 := (nI_eq (a := 3) (b := 0) (by omega) (by omega)).mp b150
              exfalso; omega
          · skip
            replace b147 := mt (nI_eq (a := (evs s9.vr E9 []).1) (b := 0) (by omega) (by omega)).mpr b147
            have huc9 := huC
            have hTP := TPN_un hL t_pr hTP huc9 (by decide)
            have hTS := TPS_un hL t_pr hTS huc9 (by decide)
            have hEV := EV_un hL t_pr hEV huc9 (by decide)
            have hV := VARS_un hL t_X hV huc9 (by decide) (by decide) (by decide)
            have hIN := INS_un hL t_X hIN huc9 (by decide) (by decide)
            have hOU := OUTS_un hL t_X hOU huc9 (by decide) (by decide)
            have hett : (evs s9.vr E9 []).1 ≠ 0 := by first | exact b147 | omega
            have hI208 := iv_1 hI1_138 hL t_X (by decide) hk146 (oc_9.mk t_X (⟨pr, ix, os, (st + 1), mo_140, lo_141, ((evs s9.vr E9 []).1), e144, t_pr, (by omega), (by omega), (by omega), (by omega)⟩))
            exact pe_vret hx hb hr hlocks hK hP hD hS d_NRunner_makeStep_90 ⟨⟨ix, os, (st + 1), mo_140, lo_141, ((evs s9.vr E9 []).1), (by omega), (by omega), (by omega), (by omega), (by rw [hstp, ps_t hdr9 hE8 (by decide) (by decide) hett]; exact ⟨hTP, hTS, hEV, hV, hVI, hIN, hOU, hol, congrArg (· + 1) hsp, rfl, hixn, hpc, fun _ => hnj⟩), e144⟩, hI208, hu⟩
        · skip
          replace b128 := (nI_eq (a := 3) (b := 1) (by omega) (by omega)).mp b128
          exfalso; omega
      · skip
        rw [hkd9] at eS9
        obtain ⟨hfn9, hlt9, hT89⟩ := htE (by decide) (by decide)
        obtain ⟨j9, hj9⟩ : ∃ j, nb ix + E9.length = j + 1 := ⟨nb ix + E9.length - 1, by omega⟩
        have hla8 := hla9 j9 (hT89.trans hj9)
        rw [hfn9, hla8] at eS9
        have hle9 := PT_mono hPT (sn - (ix + 1)) (ix + 1) (by omega)
        rw [show ix + 1 + (sn - (ix + 1)) = sn by omega, hPT.2.2.2.2.1, hnb9] at hle9
        have hj72 : j9 < 72 := by have := hPT.2.1; omega
        refine lv_aload_n hx hb d_NRunner_makeStep_39 rfl (lv_at hl 0 rfl) ?_
        refine pf_get (v := .int (nI 4)) (C := "BigRunner$Statement") (T := FT9) (N := 5) hx hb (hw9 hB _) (fun _ h9 => h9) hown hK hP (lo_in hL t7 (by decide)) eS9 rfl 0 (by decide) (wd_145 hB _) rfl d_NRunner_makeStep_40 ?_
        refine lv_iconst (v := nI 1) hx hb d_NRunner_makeStep_43 (by decide) ?_
        refine lv_icmp_ne (tgt := 74) hx hb d_NRunner_makeStep_44 (by decide) (fun b209 => ?_) (fun b209 => ?_)
        · skip
          replace b209 := mt (nI_eq (a := 4) (b := 1) (by omega) (by omega)).mpr b209
          refine lv_aload_n hx hb d_NRunner_makeStep_74 rfl (lv_at hl 1 rfl) ?_
          refine lv_aload_n hx hb d_NRunner_makeStep_75 rfl (lv_at hl 1 rfl) ?_
          refine lv_aload_n hx hb d_NRunner_makeStep_76 rfl (lv_at hl 0 rfl) ?_
          have hI210 := iv_1 hI hL t_X (by decide) hk5 (oc_9.mk t_X (⟨pr, ix, os, (st + 1), mo, lo, tr, e3, t_pr, (by omega), (by omega), (by omega), (by omega)⟩))
          refine pcc_i (va_runV (C := "BigRunner$Runner") (As := [.ref (g.lk (g.lk pr 0) ix)]) (rest := [.ref X]) ⟨hx, hb, hml, hown, tb_nil⟩ (v_workOut l g H.size f2 X pr ix os ((st + 1)) mo lo tr ix 4 ((T 6 ix)) ((nb ix)) j9 ((T 9 ix)) T en E9 s9.vr hL t_X t_pr hI210 e3 (by omega) (by omega) (by omega) (by omega) (by omega) eS9 hTP hTB hPT.2.2.2.2.2.2.2.2.1 hNR9 hj9.symm (by have := hPT.2.1; omega) (by omega) hV hVI) ⟨(callB_of 1 (tb_one (wd_738 hB _)) tb_good1 rfl rfl rfl (wd_79 hB _) (wd_735 hB _) (by decide +kernel) ⟨Nat.le_of_ble_eq_true rfl, Nat.le_of_ble_eq_true rfl⟩), (wd_737 hB _), (wd_26 hB _)⟩ ⟨pe_bl, pg_recv (ci := 8) hK hP (lo_in hL t_X (by decide)) e3 rfl, pe_pre hB hK hP hD⟩ rfl rfl hl.1 rfl (lv_room (Nat.le_of_ble_eq_true rfl)) d_NRunner_makeStep_77 ⟨Nat.le_of_ble_eq_true rfl, Nat.le_of_ble_eq_true rfl⟩) hS (fun r211 f212 H locs hq213 hP hD hS => ?_)
          obtain ⟨x1_214, q9_215, res_216, fw_217, tp_218, hI1_219, hu1_220⟩ := hq213
          subst q9_215
          have hu := hu.tr hu1_220 (by decide)
          have eP := hu1_220.at t_pr (by decide) eP
          have e6 := hu1_220.at (lo_k7_0 hL _ t_pr) (by decide) e6
          have eS9 := hu1_220.at t7 (by decide) eS9
          obtain ⟨mo_221, lo_222, e223⟩ := x1_214
          have hOU := OUTS_fw hL t_X hOU fw_217
          have hV := VARS_fw hL t_X hV fw_217 (hu1_220 _ (by rw [lo_k9_3 hL _ t_X]; decide))
          have huc9 := hu1_220
          have hTS := TPS_un hL t_pr hTS huc9 (by decide)
          have hEV := EV_un hL t_pr hEV huc9 (by decide)
          have hIN := INS_un hL t_X hIN huc9 (by decide) (by decide)
          have hTP := tp_218
          have hres9 := res_216
          have het9 := evs_3 s9.vr E9 []
          have huC : un [9] g f212 f212 := un.rf
          refine pf_put (v := .int (nI ((evs s9.vr E9 []).1))) (ty := .int) (fs' := [.ref pr, .ref (g.lk X 1), .int (nI ix), .ref (g.lk X 3), .ref (g.lk X 4), .ref (g.lk X 5), .ref (g.lk X 6), .ref (g.lk X 7), .int (nI os), .int (nI (st + 1)), .int mo_221, .int lo_222, .int (nI ((evs s9.vr E9 []).1))]) (C := "BigRunner$Runner") (T := FT8) (N := 13) hx hb (hw8 hB _) (fun _ h9 => h9) TY8 ok8 nm8 hown hK hP hD hS (lo_in hL t_X (by decide)) e223 rfl 12 (by decide) (wd_349 hB _) rfl (by decide +kernel) rfl rfl (Nat.le_of_ble_eq_true rfl) rfl d_NRunner_makeStep_80 (fun f224 H locs e225 k226 hP hD hS => ?_)
          have eP := (k226 pr (tg_ne t_pr t_X (by decide))).trans eP
          have e6 := (k226 (g.lk pr 0) (tg_ne (lo_k7_0 hL _ t_pr) t_X (by decide))).trans e6
          have eS9 := (k226 (g.lk (g.lk pr 0) ix) (tg_ne t7 t_X (by decide))).trans eS9
          have hu := hu.st k226 t_X (by decide)
          have huC := huC.st k226 t_X (by decide)
          have hk227 : ∀ b, b ≠ X → f224 b = f212 b := k226
          refine lv_aload_n hx hb d_NRunner_makeStep_83 rfl (lv_at hl 1 rfl) ?_
          refine pf_get (v := .int (nI ((evs s9.vr E9 []).1))) (C := "BigRunner$Runner") (T := FT8) (N := 13) hx hb (hw8 hB _) (fun _ h9 => h9) hown hK hP (lo_in hL t_X (by decide)) e225 rfl 12 (by decide) (wd_349 hB _) rfl d_NRunner_makeStep_84 ?_
          refine lv_if_eq (tgt := 91) hx hb d_NRunner_makeStep_87 (by decide) (fun b228 => ?_) (fun b228 => ?_)
          · skip
            replace b228 := (nI_eq (a := (evs s9.vr E9 []).1) (b := 0) (by omega) (by omega)).mp b228
            have het0 : (evs s9.vr E9 []).1 = 0 := by first | exact b228 | omega
            have huc9 := huC
            have hTP := TPN_un hL t_pr hTP huc9 (by decide)
            have hTS := TPS_un hL t_pr hTS huc9 (by decide)
            have hEV := EV_un hL t_pr hEV huc9 (by decide)
            have hV := VARS_un hL t_X hV huc9 (by decide) (by decide) (by decide)
            have hIN := INS_un hL t_X hIN huc9 (by decide) (by decide)
            have hOU := OUTS_un hL t_X hOU huc9 (by decide) (by decide)
            obtain ⟨hVL, hin9, hik9⟩ := hres9 het0
            have hVL := VL_un hL t_pr (by omega) hVL huc9 (by decide) (by decide) (by decide)
            refine lv_aload_n hx hb d_NRunner_makeStep_91 rfl (lv_at hl 1 rfl) ?_
            refine pf_get (v := .ref pr) (C := "BigRunner$Runner") (T := FT8) (N := 13) hx hb (hw8 hB _) (fun _ h9 => h9) hown hK hP (lo_in hL t_X (by decide)) e225 rfl 0 (by decide) (wd_330 hB _) rfl d_NRunner_makeStep_92 ?_
            refine pf_get (v := .ref (g.lk pr 2)) (C := "BigRunner$Program") (T := FT6) (N := 6) hx hb (hw6 hB _) (fun _ h9 => h9) hown hK hP (lo_in hL t_pr (by decide)) eP rfl 2 (by decide) (wd_249 hB _) rfl d_NRunner_makeStep_95 ?_
            refine lv_aload_n hx hb d_NRunner_makeStep_98 rfl (lv_at hl 0 rfl) ?_
            refine pf_get (v := .int (nI j9)) (C := "BigRunner$Statement") (T := FT9) (N := 5) hx hb (hw9 hB _) (fun _ h9 => h9) hown hK hP (lo_in hL t7 (by decide)) eS9 rfl 3 (by decide) (wd_157 hB _) rfl d_NRunner_makeStep_99 ?_
            have e229 := oc_25.of (lo_k7_2 hL _ t_pr) (hI1_219.1 (g.lk pr 2))
            replace e229 := (hk227 (g.lk pr 2) (tg_ne (lo_k7_2 hL _ t_pr) t_X (by decide))).trans e229
            refine pf_aald (i := j9) hx hb hK hP (lo_in hL (lo_k7_2 hL _ t_pr) (by decide)) e229 (lo_t25 hL _ (lo_k7_2 hL _ t_pr)) (by omega) (by decide) d_NRunner_makeStep_102 ?_
            have t230 := lo_e25 hL _ (lo_k7_2 hL _ t_pr) j9 (by omega)
            refine lv_astore_n (lv' := [(2, .ref (g.lk (g.lk pr 2) j9)), (1, .ref (g.lk (g.lk pr 0) ix)), (0, .ref X)]) hx hb d_NRunner_makeStep_103 rfl hl (by decide) rfl (fun ls hl => ?_)
            have hlt12 : ((evs s9.vr E9 []).2.headD 0).natAbs < T12 := by obtain ⟨_, _, _, _, _, _, _, z⟩ := hVL; exact z
            refine lv_aload_n hx hb d_NRunner_makeStep_104 rfl (lv_at hl 1 rfl) ?_
            refine pf_get (v := .int (nI 4)) (C := "BigRunner$Statement") (T := FT9) (N := 5) hx hb (hw9 hB _) (fun _ h9 => h9) hown hK hP (lo_in hL t7 (by decide)) eS9 rfl 0 (by decide) (wd_145 hB _) rfl d_NRunner_makeStep_105 ?_
            refine lv_if_ne (tgt := 123) hx hb d_NRunner_makeStep_108 (by decide) (fun b231 => ?_) (fun b231 => ?_)
            · skip
              replace b231 := mt (nI_eq (a := 4) (b := 0) (by omega) (by omega)).mpr b231
              refine lv_aload_n hx hb d_NRunner_makeStep_123 rfl (lv_at hl 1 rfl) ?_
              refine pf_get (v := .int (nI 4)) (C := "BigRunner$Statement") (T := FT9) (N := 5) hx hb (hw9 hB _) (fun _ h9 => h9) hown hK hP (lo_in hL t7 (by decide)) eS9 rfl 0 (by decide) (wd_145 hB _) rfl d_NRunner_makeStep_124 ?_
              refine lv_iconst (v := nI 2) hx hb d_NRunner_makeStep_127 (by decide) ?_
              refine lv_icmp_ne (tgt := 139) hx hb d_NRunner_makeStep_128 (by decide) (fun b232 => ?_) (fun b232 => ?_)
              · skip
                replace b232 := mt (nI_eq (a := 4) (b := 2) (by omega) (by omega)).mpr b232
                refine lv_aload_n hx hb d_NRunner_makeStep_139 rfl (lv_at hl 0 rfl) ?_
                obtain ⟨kx1, kx2, kx3, mx, eNx, hsx, hlx, htx⟩ := hVL
                rcases (hTB.1 j9 hj72).2.2.2.2 with h39 | h39
                · skip
                  rw [h39] at eNx hsx hlx
                  obtain ⟨sgx, nx, dx, eax, ebx, hNx⟩ := hlx rfl
                  have cbx : ∀ i, i < 15 → ∃ k, k < 1000000000 ∧ dx i = nI k := hNx.2.1
                  have hI233 := iv_1 hI1_219 hL t_X (by decide) hk227 (oc_9.mk t_X (⟨pr, ix, os, (st + 1), mo_221, lo_222, ((evs s9.vr E9 []).1), e225, t_pr, (by omega), (by omega), (by omega), (by omega)⟩))
                  refine pcc_i (va_runV (C := "BigRunner$Node") (As := []) (rest := []) ⟨hx, hb, hml, hown, tb_nil⟩ (v_nsignL l g H.size f224 ((g.lk (g.lk pr 2) j9)) kx1 kx2 kx3 mx sgx nx dx ((((evs s9.vr E9 []).2.headD 0))) hL t230 hI233.1 eNx eax ebx hNx) ⟨(callB_of 0 (tb_one (wd_846 hB _)) tb_good1 rfl rfl rfl (wd_77 hB _) (wd_843 hB _) (by decide +kernel) ⟨Nat.le_of_ble_eq_true rfl, Nat.le_of_ble_eq_true rfl⟩), (wd_844 hB _), (wd_845 hB _)⟩ ⟨pe_bl, pg_recv (ci := 5) hK hP (lo_in hL t230 (by decide)) eNx rfl, pe_pre hB hK hP hD⟩ rfl rfl hl.1 rfl (lv_room (Nat.le_of_ble_eq_true rfl)) d_NRunner_makeStep_140 ⟨Nat.le_of_ble_eq_true rfl, Nat.le_of_ble_eq_true rfl⟩) hS (fun r234 f235 H locs hq236 hP hD hS => ?_)
                  obtain ⟨sn_237, rfl⟩ := hq236
                  have hsn9 : r234 ≤ nI 0 ↔ ((evs s9.vr E9 []).2.headD 0) ≤ 0 := sn_237
                  refine lv_if_gt (tgt := 155) hx hb d_NRunner_makeStep_143 (by decide) (fun b238 => ?_) (fun b238 => ?_)
                  · skip
                    have hgt9 : ¬ ((evs s9.vr E9 []).2.headD 0) ≤ 0 := fun z9 => absurd (hsn9.mpr z9) (Int32.not_le.mpr b238)
                    refine lv_aload_n hx hb d_NRunner_makeStep_155 rfl (lv_at hl 2 rfl) ?_
                    refine lv_aload_n hx hb d_NRunner_makeStep_156 rfl (lv_at hl 2 rfl) ?_
                    refine pf_get (v := .int (nI ix)) (C := "BigRunner$Runner") (T := FT8) (N := 13) hx hb (hw8 hB _) (fun _ h9 => h9) hown hK hP (lo_in hL t_X (by decide)) e225 rfl 2 (by decide) (wd_334 hB _) rfl d_NRunner_makeStep_157 ?_
                    refine lv_iconst (v := nI 1) hx hb d_NRunner_makeStep_160 (by decide) ?_
                    refine pf_iaddN (x := ix) (y := 1) hx hb d_NRunner_makeStep_161 ?_
                    refine pcc_v (va_runV (C := "BigRunner$Runner") (As := [.int (nI (ix + 1))]) (rest := []) ⟨hx, hb, hml, hown, tb_nil⟩ (v_proceed l g H.size f224 X pr ix os ((st + 1)) mo_221 lo_222 (((evs s9.vr E9 []).1)) sn nn T nb en L ((ix + 1)) hL t_X t_pr hI233 e225 (by omega) (by omega) (by omega) (by omega) eP (by omega) (by omega) hPT hTS (by omega)) ⟨(callB_of 1 (tb_one (wd_734 hB _)) tb_good1 rfl rfl rfl (wd_79 hB _) (wd_731 hB _) (by decide +kernel) ⟨Nat.le_of_ble_eq_true rfl, Nat.le_of_ble_eq_true rfl⟩), (wd_733 hB _), (wd_25 hB _)⟩ ⟨pe_bl, pg_recv (ci := 8) hK hP (lo_in hL t_X (by decide)) e225 rfl, pe_pre hB hK hP hD⟩ rfl rfl hl.1 rfl (lv_room (Nat.le_of_ble_eq_true rfl)) d_NRunner_makeStep_162 ⟨Nat.le_of_ble_eq_true rfl, Nat.le_of_ble_eq_true rfl⟩) hS (fun f240 H locs hq241 hP hD hS => ?_)
                    obtain ⟨x1_242, hI1_243, hk1_244⟩ := hq241
                    have hu := hu.st hk1_244 t_X (by decide)
                    have eP := (hk1_244 pr (tg_ne t_pr t_X (by decide))).trans eP
                    have e6 := (hk1_244 (g.lk pr 0) (tg_ne (lo_k7_0 hL _ t_pr) t_X (by decide))).trans e6
                    have eS9 := (hk1_244 (g.lk (g.lk pr 0) ix) (tg_ne t7 t_X (by decide))).trans eS9
                    have e229 := (hk1_244 (g.lk pr 2) (tg_ne (lo_k7_2 hL _ t_pr) t_X (by decide))).trans e229
                    have eNx := (hk1_244 (g.lk (g.lk pr 2) j9) (tg_ne t230 t_X (by decide))).trans eNx
                    have eax := (hk1_244 (g.lk (g.lk (g.lk pr 2) j9) 6) (tg_ne (lo_k6_6 hL _ t230) t_X (by decide))).trans eax
                    have ebx := (hk1_244 (g.lk (g.lk (g.lk (g.lk pr 2) j9) 6) 2) (tg_ne (lo_k5_2 hL _ (lo_k6_6 hL _ t230)) t_X (by decide))).trans ebx
                    obtain ⟨ix_245, c247, c248, c249, e246⟩ := x1_242
                    have huc9 := un_1 hk1_244 t_X
                    have hTP := TPN_un hL t_pr hTP huc9 (by decide)
                    have hTS := TPS_un hL t_pr hTS huc9 (by decide)
                    have hEV := EV_un hL t_pr hEV huc9 (by decide)
                    have hV := VARS_un hL t_X hV huc9 (by decide) (by decide) (by decide)
                    have hIN := INS_un hL t_X hIN huc9 (by decide) (by decide)
                    have hOU := OUTS_un hL t_X hOU huc9 (by decide) (by decide)
                    exact pe_vret hx hb hr hlocks hK hP hD hS d_NRunner_makeStep_165 ⟨⟨ix_245, os, (st + 1), mo_221, lo_222, ((evs s9.vr E9 []).1), (by omega), (by omega), (by omega), (by omega), (by rw [hstp, ps_11 hdr9 hE8 het0, if_neg hgt9]; exact ⟨hTP, hTS, hEV, hV, hVI, hIN, hOU, hol, (congrArg (· + 1) hsp), het0.symm, c247, (show jmp L (s9.pc + E9.length + 1) = _ by rw [c248]; exact congrArg (jmp L) (by omega)), c249⟩), e246⟩, hI1_243, hu⟩
                  · skip
                    have hle0 : ((evs s9.vr E9 []).2.headD 0) ≤ 0 := hsn9.mp (Int32.not_lt.mp b238)
                    refine lv_aload_n hx hb d_NRunner_makeStep_146 rfl (lv_at hl 2 rfl) ?_
                    refine lv_aload_n hx hb d_NRunner_makeStep_147 rfl (lv_at hl 1 rfl) ?_
                    refine pf_get (v := .int (nI (T 9 ix))) (C := "BigRunner$Statement") (T := FT9) (N := 5) hx hb (hw9 hB _) (fun _ h9 => h9) hown hK hP (lo_in hL t7 (by decide)) eS9 rfl 4 (by decide) (wd_160 hB _) rfl d_NRunner_makeStep_148 ?_
                    have hta9 := hPT.2.2.2.2.2.2.2.1 ix hin (by omega)
                    refine pcc_v (va_runV (C := "BigRunner$Runner") (As := [.int (nI (T 9 ix))]) (rest := []) ⟨hx, hb, hml, hown, tb_nil⟩ (v_proceed l g H.size f224 X pr ix os ((st + 1)) mo_221 lo_222 (((evs s9.vr E9 []).1)) sn nn T nb en L ((T 9 ix)) hL t_X t_pr hI233 e225 (by omega) (by omega) (by omega) (by omega) eP (by omega) (by omega) hPT hTS (by omega)) ⟨(callB_of 1 (tb_one (wd_734 hB _)) tb_good1 rfl rfl rfl (wd_79 hB _) (wd_731 hB _) (by decide +kernel) ⟨Nat.le_of_ble_eq_true rfl, Nat.le_of_ble_eq_true rfl⟩), (wd_733 hB _), (wd_25 hB _)⟩ ⟨pe_bl, pg_recv (ci := 8) hK hP (lo_in hL t_X (by decide)) e225 rfl, pe_pre hB hK hP hD⟩ rfl rfl hl.1 rfl (lv_room (Nat.le_of_ble_eq_true rfl)) d_NRunner_makeStep_151 ⟨Nat.le_of_ble_eq_true rfl, Nat.le_of_ble_eq_true rfl⟩) hS (fun f251 H locs hq252 hP hD hS => ?_)
                    obtain ⟨x1_253, hI1_254, hk1_255⟩ := hq252
                    have hu := hu.st hk1_255 t_X (by decide)
                    have eP := (hk1_255 pr (tg_ne t_pr t_X (by decide))).trans eP
                    have e6 := (hk1_255 (g.lk pr 0) (tg_ne (lo_k7_0 hL _ t_pr) t_X (by decide))).trans e6
                    have eS9 := (hk1_255 (g.lk (g.lk pr 0) ix) (tg_ne t7 t_X (by decide))).trans eS9
                    have e229 := (hk1_255 (g.lk pr 2) (tg_ne (lo_k7_2 hL _ t_pr) t_X (by decide))).trans e229
                    have eNx := (hk1_255 (g.lk (g.lk pr 2) j9) (tg_ne t230 t_X (by decide))).trans eNx
                    have eax := (hk1_255 (g.lk (g.lk (g.lk pr 2) j9) 6) (tg_ne (lo_k6_6 hL _ t230) t_X (by decide))).trans eax
                    have ebx := (hk1_255 (g.lk (g.lk (g.lk (g.lk pr 2) j9) 6) 2) (tg_ne (lo_k5_2 hL _ (lo_k6_6 hL _ t230)) t_X (by decide))).trans ebx
                    obtain ⟨ix_256, c258, c259, c260, e257⟩ := x1_253
                    have huc9 := un_1 hk1_255 t_X
                    have hTP := TPN_un hL t_pr hTP huc9 (by decide)
                    have hTS := TPS_un hL t_pr hTS huc9 (by decide)
                    have hEV := EV_un hL t_pr hEV huc9 (by decide)
                    have hV := VARS_un hL t_X hV huc9 (by decide) (by decide) (by decide)
                    have hIN := INS_un hL t_X hIN huc9 (by decide) (by decide)
                    have hOU := OUTS_un hL t_X hOU huc9 (by decide) (by decide)
                    exact pe_vret hx hb hr hlocks hK hP hD hS d_NRunner_makeStep_154 ⟨⟨ix_256, os, (st + 1), mo_221, lo_222, ((evs s9.vr E9 []).1), (by omega), (by omega), (by omega), (by omega), (by rw [hstp, ps_11 hdr9 hE8 het0, if_pos hle0]; exact ⟨hTP, hTS, hEV, hV, hVI, hIN, hOU, hol, (congrArg (· + 1) hsp), het0.symm, c258, (show jmp L a9 = _ by rw [c259, htT (by decide)]), c260⟩), e257⟩, hI1_254, hu⟩
                · skip
                  rw [h39] at eNx hsx hlx
                  have hI261 := iv_1 hI1_219 hL t_X (by decide) hk227 (oc_9.mk t_X (⟨pr, ix, os, (st + 1), mo_221, lo_222, ((evs s9.vr E9 []).1), e225, t_pr, (by omega), (by omega), (by omega), (by omega)⟩))
                  refine pcc_i (va_runV (C := "BigRunner$Node") (As := []) (rest := []) ⟨hx, hb, hml, hown, tb_nil⟩ (v_nsignS l g H.size f224 ((g.lk (g.lk pr 2) j9)) kx1 kx2 kx3 mx hL t230 hI261.1 eNx (by rw [(hsx rfl).1]; exact (hsx rfl).2)) ⟨(callB_of 0 (tb_one (wd_846 hB _)) tb_good1 rfl rfl rfl (wd_77 hB _) (wd_843 hB _) (by decide +kernel) ⟨Nat.le_of_ble_eq_true rfl, Nat.le_of_ble_eq_true rfl⟩), (wd_844 hB _), (wd_845 hB _)⟩ ⟨pe_bl, pg_recv (ci := 5) hK hP (lo_in hL t230 (by decide)) eNx rfl, pe_pre hB hK hP hD⟩ rfl rfl hl.1 rfl (lv_room (Nat.le_of_ble_eq_true rfl)) d_NRunner_makeStep_140 ⟨Nat.le_of_ble_eq_true rfl, Nat.le_of_ble_eq_true rfl⟩) hS (fun r262 f263 H locs hq264 hP hD hS => ?_)
                  obtain ⟨sn_265, rfl⟩ := hq264
                  have hsn9 : r262 ≤ nI 0 ↔ ((evs s9.vr E9 []).2.headD 0) ≤ 0 := by rw [← (hsx rfl).1]; exact sn_265
                  refine lv_if_gt (tgt := 155) hx hb d_NRunner_makeStep_143 (by decide) (fun b266 => ?_) (fun b266 => ?_)
                  · skip
                    have hgt9 : ¬ ((evs s9.vr E9 []).2.headD 0) ≤ 0 := fun z9 => absurd (hsn9.mpr z9) (Int32.not_le.mpr b266)
                    refine lv_aload_n hx hb d_NRunner_makeStep_155 rfl (lv_at hl 2 rfl) ?_
                    refine lv_aload_n hx hb d_NRunner_makeStep_156 rfl (lv_at hl 2 rfl) ?_
                    refine pf_get (v := .int (nI ix)) (C := "BigRunner$Runner") (T := FT8) (N := 13) hx hb (hw8 hB _) (fun _ h9 => h9) hown hK hP (lo_in hL t_X (by decide)) e225 rfl 2 (by decide) (wd_334 hB _) rfl d_NRunner_makeStep_157 ?_
                    refine lv_iconst (v := nI 1) hx hb d_NRunner_makeStep_160 (by decide) ?_
                    refine pf_iaddN (x := ix) (y := 1) hx hb d_NRunner_makeStep_161 ?_
                    refine pcc_v (va_runV (C := "BigRunner$Runner") (As := [.int (nI (ix + 1))]) (rest := []) ⟨hx, hb, hml, hown, tb_nil⟩ (v_proceed l g H.size f224 X pr ix os ((st + 1)) mo_221 lo_222 (((evs s9.vr E9 []).1)) sn nn T nb en L ((ix + 1)) hL t_X t_pr hI261 e225 (by omega) (by omega) (by omega) (by omega) eP (by omega) (by omega) hPT hTS (by omega)) ⟨(callB_of 1 (tb_one (wd_734 hB _)) tb_good1 rfl rfl rfl (wd_79 hB _) (wd_731 hB _) (by decide +kernel) ⟨Nat.le_of_ble_eq_true rfl, Nat.le_of_ble_eq_true rfl⟩), (wd_733 hB _), (wd_25 hB _)⟩ ⟨pe_bl, pg_recv (ci := 8) hK hP (lo_in hL t_X (by decide)) e225 rfl, pe_pre hB hK hP hD⟩ rfl rfl hl.1 rfl (lv_room (Nat.le_of_ble_eq_true rfl)) d_NRunner_makeStep_162 ⟨Nat.le_of_ble_eq_true rfl, Nat.le_of_ble_eq_true rfl⟩) hS (fun f268 H locs hq269 hP hD hS => ?_)
                    obtain ⟨x1_270, hI1_271, hk1_272⟩ := hq269
                    have hu := hu.st hk1_272 t_X (by decide)
                    have eP := (hk1_272 pr (tg_ne t_pr t_X (by decide))).trans eP
                    have e6 := (hk1_272 (g.lk pr 0) (tg_ne (lo_k7_0 hL _ t_pr) t_X (by decide))).trans e6
                    have eS9 := (hk1_272 (g.lk (g.lk pr 0) ix) (tg_ne t7 t_X (by decide))).trans eS9
                    have e229 := (hk1_272 (g.lk pr 2) (tg_ne (lo_k7_2 hL _ t_pr) t_X (by decide))).trans e229
                    have eNx := (hk1_272 (g.lk (g.lk pr 2) j9) (tg_ne t230 t_X (by decide))).trans eNx
                    obtain ⟨ix_273, c275, c276, c277, e274⟩ := x1_270
                    have huc9 := un_1 hk1_272 t_X
                    have hTP := TPN_un hL t_pr hTP huc9 (by decide)
                    have hTS := TPS_un hL t_pr hTS huc9 (by decide)
                    have hEV := EV_un hL t_pr hEV huc9 (by decide)
                    have hV := VARS_un hL t_X hV huc9 (by decide) (by decide) (by decide)
                    have hIN := INS_un hL t_X hIN huc9 (by decide) (by decide)
                    have hOU := OUTS_un hL t_X hOU huc9 (by decide) (by decide)
                    exact pe_vret hx hb hr hlocks hK hP hD hS d_NRunner_makeStep_165 ⟨⟨ix_273, os, (st + 1), mo_221, lo_222, ((evs s9.vr E9 []).1), (by omega), (by omega), (by omega), (by omega), (by rw [hstp, ps_11 hdr9 hE8 het0, if_neg hgt9]; exact ⟨hTP, hTS, hEV, hV, hVI, hIN, hOU, hol, (congrArg (· + 1) hsp), het0.symm, c275, (show jmp L (s9.pc + E9.length + 1) = _ by rw [c276]; exact congrArg (jmp L) (by omega)), c277⟩), e274⟩, hI1_271, hu⟩
                  · skip
                    have hle0 : ((evs s9.vr E9 []).2.headD 0) ≤ 0 := hsn9.mp (Int32.not_lt.mp b266)
                    refine lv_aload_n hx hb d_NRunner_makeStep_146 rfl (lv_at hl 2 rfl) ?_
                    refine lv_aload_n hx hb d_NRunner_makeStep_147 rfl (lv_at hl 1 rfl) ?_
                    refine pf_get (v := .int (nI (T 9 ix))) (C := "BigRunner$Statement") (T := FT9) (N := 5) hx hb (hw9 hB _) (fun _ h9 => h9) hown hK hP (lo_in hL t7 (by decide)) eS9 rfl 4 (by decide) (wd_160 hB _) rfl d_NRunner_makeStep_148 ?_
                    have hta9 := hPT.2.2.2.2.2.2.2.1 ix hin (by omega)
                    refine pcc_v (va_runV (C := "BigRunner$Runner") (As := [.int (nI (T 9 ix))]) (rest := []) ⟨hx, hb, hml, hown, tb_nil⟩ (v_proceed l g H.size f224 X pr ix os ((st + 1)) mo_221 lo_222 (((evs s9.vr E9 []).1)) sn nn T nb en L ((T 9 ix)) hL t_X t_pr hI261 e225 (by omega) (by omega) (by omega) (by omega) eP (by omega) (by omega) hPT hTS (by omega)) ⟨(callB_of 1 (tb_one (wd_734 hB _)) tb_good1 rfl rfl rfl (wd_79 hB _) (wd_731 hB _) (by decide +kernel) ⟨Nat.le_of_ble_eq_true rfl, Nat.le_of_ble_eq_true rfl⟩), (wd_733 hB _), (wd_25 hB _)⟩ ⟨pe_bl, pg_recv (ci := 8) hK hP (lo_in hL t_X (by decide)) e225 rfl, pe_pre hB hK hP hD⟩ rfl rfl hl.1 rfl (lv_room (Nat.le_of_ble_eq_true rfl)) d_NRunner_makeStep_151 ⟨Nat.le_of_ble_eq_true rfl, Nat.le_of_ble_eq_true rfl⟩) hS (fun f279 H locs hq280 hP hD hS => ?_)
                    obtain ⟨x1_281, hI1_282, hk1_283⟩ := hq280
                    have hu := hu.st hk1_283 t_X (by decide)
                    have eP := (hk1_283 pr (tg_ne t_pr t_X (by decide))).trans eP
                    have e6 := (hk1_283 (g.lk pr 0) (tg_ne (lo_k7_0 hL _ t_pr) t_X (by decide))).trans e6
                    have eS9 := (hk1_283 (g.lk (g.lk pr 0) ix) (tg_ne t7 t_X (by decide))).trans eS9
                    have e229 := (hk1_283 (g.lk pr 2) (tg_ne (lo_k7_2 hL _ t_pr) t_X (by decide))).trans e229
                    have eNx := (hk1_283 (g.lk (g.lk pr 2) j9) (tg_ne t230 t_X (by decide))).trans eNx
                    obtain ⟨ix_284, c286, c287, c288, e285⟩ := x1_281
                    have huc9 := un_1 hk1_283 t_X
                    have hTP := TPN_un hL t_pr hTP huc9 (by decide)
                    have hTS := TPS_un hL t_pr hTS huc9 (by decide)
                    have hEV := EV_un hL t_pr hEV huc9 (by decide)
                    have hV := VARS_un hL t_X hV huc9 (by decide) (by decide) (by decide)
                    have hIN := INS_un hL t_X hIN huc9 (by decide) (by decide)
                    have hOU := OUTS_un hL t_X hOU huc9 (by decide) (by decide)
                    exact pe_vret hx hb hr hlocks hK hP hD hS d_NRunner_makeStep_154 ⟨⟨ix_284, os, (st + 1), mo_221, lo_222, ((evs s9.vr E9 []).1), (by omega), (by omega), (by omega), (by omega), (by rw [hstp, ps_11 hdr9 hE8 het0, if_pos hle0]; exact ⟨hTP, hTS, hEV, hV, hVI, hIN, hOU, hol, (congrArg (· + 1) hsp), het0.symm, c286, (show jmp L a9 = _ by rw [c287, htT (by decide)]), c288⟩), e285⟩, hI1_282, hu⟩
              · skip
                replace b232 := (nI_eq (a := 4) (b := 2) (by omega) (by omega)).mp b232
                exfalso; omega
            · skip
              replace b231 := (nI_eq (a := 4) (b := 0) (by omega) (by omega)).mp b231
              exfalso; omega
          · skip
            replace b228 := mt (nI_eq (a := (evs s9.vr E9 []).1) (b := 0) (by omega) (by omega)).mpr b228
            have huc9 := huC
            have hTP := TPN_un hL t_pr hTP huc9 (by decide)
            have hTS := TPS_un hL t_pr hTS huc9 (by decide)
            have hEV := EV_un hL t_pr hEV huc9 (by decide)
            have hV := VARS_un hL t_X hV huc9 (by decide) (by decide) (by decide)
            have hIN := INS_un hL t_X hIN huc9 (by decide) (by decide)
            have hOU := OUTS_un hL t_X hOU huc9 (by decide) (by decide)
            have hett : (evs s9.vr E9 []).1 ≠ 0 := by first | exact b228 | omega
            have hI289 := iv_1 hI1_219 hL t_X (by decide) hk227 (oc_9.mk t_X (⟨pr, ix, os, (st + 1), mo_221, lo_222, ((evs s9.vr E9 []).1), e225, t_pr, (by omega), (by omega), (by omega), (by omega)⟩))
            exact pe_vret hx hb hr hlocks hK hP hD hS d_NRunner_makeStep_90 ⟨⟨ix, os, (st + 1), mo_221, lo_222, ((evs s9.vr E9 []).1), (by omega), (by omega), (by omega), (by omega), (by rw [hstp, ps_t hdr9 hE8 (by decide) (by decide) hett]; exact ⟨hTP, hTS, hEV, hV, hVI, hIN, hOU, hol, congrArg (· + 1) hsp, rfl, hixn, hpc, fun _ => hnj⟩), e225⟩, hI289, hu⟩
        · skip
          replace b209 := (nI_eq (a := 4) (b := 1) (by omega) (by omega)).mp b209
          exfalso; omega
    · skip
      exfalso; have z9 := ht12 rfl; omega
  · skip
    replace b1 := mt (nI_ltI (a := st) (b := 3000) (by omega) (by omega)).mpr b1
    refine lv_aload_n hx hb d_NRunner_makeStep_10 rfl (lv_at hl 0 rfl) ?_
    refine lv_iconst (v := nI 3) hx hb d_NRunner_makeStep_11 (by decide) ?_
    refine pf_put (v := .int (nI 3)) (ty := .int) (fs' := [.ref pr, .ref (g.lk X 1), .int (nI ix), .ref (g.lk X 3), .ref (g.lk X 4), .ref (g.lk X 5), .ref (g.lk X 6), .ref (g.lk X 7), .int (nI os), .int (nI st), .int mo, .int lo, .int (nI 3)]) (C := "BigRunner$Runner") (T := FT8) (N := 13) hx hb (hw8 hB _) (fun _ h9 => h9) TY8 ok8 nm8 hown hK hP hD hS (lo_in hL t_X (by decide)) eX rfl 12 (by decide) (wd_349 hB _) rfl (by decide +kernel) rfl rfl (Nat.le_of_ble_eq_true rfl) rfl d_NRunner_makeStep_12 (fun f290 H locs e291 k292 hP hD hS => ?_)
    have eP := (k292 pr (tg_ne t_pr t_X (by decide))).trans eP
    have hu := hu.st k292 t_X (by decide)
    have huC := huC.st k292 t_X (by decide)
    have hk293 : ∀ b, b ≠ X → f290 b = f b := k292
    have hI294 := iv_1 hI hL t_X (by decide) hk293 (oc_9.mk t_X (⟨pr, ix, os, st, mo, lo, 3, e291, t_pr, (by omega), (by omega), (by omega), (by omega)⟩))
    have huc9 := huC
    have hTP := TPN_un hL t_pr hTP huc9 (by decide)
    have hTS := TPS_un hL t_pr hTS huc9 (by decide)
    have hEV := EV_un hL t_pr hEV huc9 (by decide)
    have hV := VARS_un hL t_X hV huc9 (by decide) (by decide) (by decide)
    have hIN := INS_un hL t_X hIN huc9 (by decide) (by decide)
    have hOU := OUTS_un hL t_X hOU huc9 (by decide) (by decide)
    have hs39 : stp3 L s9 = PS.mk s9.vr s9.ins s9.outs s9.pc s9.sp 3 := if_pos (by rw [hsp]; omega)
    exact pe_vret hx hb hr hlocks hK hP hD hS d_NRunner_makeStep_15 ⟨⟨ix, os, st, mo, lo, 3, (by omega), (by omega), (by omega), (by omega), (by rw [hs39]; exact ⟨hTP, hTS, hEV, hV, hVI, hIN, hOU, hol, hsp, rfl, hixn, hpc, fun _ => hnj⟩), e291⟩, hI294, hu⟩

