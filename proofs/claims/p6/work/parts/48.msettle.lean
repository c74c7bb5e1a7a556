set_option maxHeartbeats 4000000 in
set_option maxRecDepth 100000 in
theorem m_spanOf (l : Launch) (g : Lay) (sz : Nat) (f : Nat → va_E) (M : Nat) (mth : Int32) (mn : Nat) (mdr : Nat) (msz : Nat) (mix : Nat) (mdp : Nat) (mwt : Nat) (mop : Nat) (mtp : Nat) (mwa : Nat) (mgi : Nat) (mpc : Nat) (mst : Nat) (mtr : Nat) (msp : Nat) (mma : Int32) (mlg : Int32) (mdu : Int32) (hC : Nat → Int32) (hA : Nat → Int32) (p9 : Nat) (w : Nat) (v : Nat) (hL : LO g) (t_M : g.tg M = 11) (hI : IV g f) (eM : f M = .inr (10, [.int mth, .ref (g.lk M 1), .int (nI mn), .ref (g.lk M 3), .ref (g.lk M 4), .int (nI mdr), .ref (g.lk M 6), .ref (g.lk M 7), .ref (g.lk M 8), .int (nI msz), .int (nI mix), .int (nI mdp), .ref (g.lk M 12), .int (nI mwt), .ref (g.lk M 14), .ref (g.lk M 15), .int (nI mop), .ref (g.lk M 17), .ref (g.lk M 18), .ref (g.lk M 19), .ref (g.lk M 20), .ref (g.lk M 21), .ref (g.lk M 22), .ref (g.lk M 23), .ref (g.lk M 24), .ref (g.lk M 25), .ref (g.lk M 26), .ref (g.lk M 27), .ref (g.lk M 28), .ref (g.lk M 29), .ref (g.lk M 30), .ref (g.lk M 31), .int (nI mtp), .ref (g.lk M 33), .ref (g.lk M 34), .ref (g.lk M 35), .int (nI mwa), .int (nI mgi), .int (nI mpc), .int (nI mst), .int (nI mtr), .int (nI msp), .int mma, .int mlg, .int mdu])) (hMB : mn ≤ 72 ∧ mdr ≤ 100 ∧ msz ≤ 100 ∧ mix ≤ 100 ∧ mdp ≤ 20 ∧ mwt ≤ 72 ∧ mop ≤ 40 ∧ mtp ≤ 80 ∧ mwa ≤ 20 ∧ mgi ≤ msp ∧ mpc ≤ 100 ∧ mst ≤ 4 ∧ mtr ≤ 3 ∧ msp ≤ 3000 ∧ (mdu = 0 ∨ mdu = 1)) (eC : f (g.lk M 6) = .inl (g.ac (g.lk M 6), 100, .inl hC)) (eA : f (g.lk M 7) = .inl (g.ac (g.lk M 7), 100, .inl hA)) (hw : hC p9 = nI w) (hv : hA p9 = nI v) (hp9 : p9 < 100) (hv3 : v < 2147483648) (hws : WS w v mtp) (hw8 : w < 8) : Met l ⟨"BigRunnerModel", "spanOf", "(I)V"⟩ [Cond.code ⟨"BigRunnerModel", "spanOf", "(I)V"⟩ prog_12_method_22_code 4 none] ({ frames := 3, cells := 0, slots := 0, locals := 77 }) (va_Pc [.ref M, .int (nI p9)] (pc_in g sz f)) (va_Qv (fun f1 => (∃ (tp1 : Nat), (tp1 ≤ 80) ∧ (TR w mtp tp1) ∧ f1 M = .inr (10, [.int mth, .ref (g.lk M 1), .int (nI mn), .ref (g.lk M 3), .ref (g.lk M 4), .int (nI mdr), .ref (g.lk M 6), .ref (g.lk M 7), .ref (g.lk M 8), .int (nI msz), .int (nI mix), .int (nI mdp), .ref (g.lk M 12), .int (nI mwt), .ref (g.lk M 14), .ref (g.lk M 15), .int (nI mop), .ref (g.lk M 17), .ref (g.lk M 18), .ref (g.lk M 19), .ref (g.lk M 20), .ref (g.lk M 21), .ref (g.lk M 22), .ref (g.lk M 23), .ref (g.lk M 24), .ref (g.lk M 25), .ref (g.lk M 26), .ref (g.lk M 27), .ref (g.lk M 28), .ref (g.lk M 29), .ref (g.lk M 30), .ref (g.lk M 31), .int (nI tp1), .ref (g.lk M 33), .ref (g.lk M 34), .ref (g.lk M 35), .int (nI mwa), .int (nI mgi), .int (nI mpc), .int (nI mst), .int (nI mtr), .int (nI msp), .int mma, .int mlg, .int mdu])) ∧ (IV g f1) ∧ (un [11, 45, 53, 54, 55, 56, 57] g f f1)) (pc_out g sz) (pc_A g sz)) 0 0 (pc_A g sz) := by
  refine pe_ofW (cc := prog_12_method_22_code) (maxL := 4) (ret := none) (lv := [(0, .ref M), (1, .int (nI p9))]) (by decide) (Nat.le_of_ble_eq_true rfl) rfl ?_
  intro p e s m args below meth c ls hx hb hr hml hlocks hown hB hP hK hD hsz hS hl
  subst hsz
  have hu : un [11, 45, 53, 54, 55, 56, 57] g f f := un.rf
  obtain ⟨hmb0, hmb1, hmb2, hmb3, hmb4, hmb5, hmb6, hmb7, hmb8, hmb9, hmb10, hmb11, hmb12, hmb13, hmb14⟩ := hMB
  obtain ⟨hw1, hwt, hw7, hw2⟩ := hws
  refine lv_aload_n hx hb d_M_spanOf_0 rfl (lv_at hl 0 rfl) ?_
  refine pf_get (v := .ref (g.lk M 6)) (C := "BigRunnerModel") (T := FT10) (N := 45) hx hb (hw10 hB _) (fun _ h9 => h9) hown hK hP (lo_in hL t_M (by decide)) eM rfl 6 (by decide) (wd_953 hB _) rfl d_M_spanOf_1 ?_
  refine lv_iload_n hx hb d_M_spanOf_4 rfl (lv_at hl 1 rfl) ?_
  refine pf_iald (i := p9) hx hb hK hP (lo_in hL (lo_k11_6 hL _ t_M) (by decide)) eC (lo_t43 hL _ (lo_k11_6 hL _ t_M)) (by omega) (by decide) d_M_spanOf_5 ?_
  refine lv_topi (fun z_ hz_ => ?_)
  obtain rfl : z_ = nI w := hz_.trans hw
  refine lv_istore_n (lv' := [(2, .int (nI w)), (0, .ref M), (1, .int (nI p9))]) hx hb d_M_spanOf_6 rfl hl (by decide) rfl (fun ls hl => ?_)
  refine lv_iload_n hx hb d_M_spanOf_7 rfl (lv_at hl 0 rfl) ?_
  refine lv_iconst (v := nI 2) hx hb d_M_spanOf_8 (by decide) ?_
  refine lv_icmp_ge (tgt := 121) hx hb d_M_spanOf_9 (by decide) (fun b1 => ?_) (fun b1 => ?_)
  · skip
    replace b1 := (nI_leI (a := 2) (b := w) (by omega) (by omega)).mp b1
    refine lv_iload_n hx hb d_M_spanOf_121 rfl (lv_at hl 0 rfl) ?_
    refine lv_bipush (v := nI 7) hx hb d_M_spanOf_122 (by decide) ?_
    refine lv_icmp_ne (tgt := 201) hx hb d_M_spanOf_124 (by decide) (fun b2 => ?_) (fun b2 => ?_)
    · skip
      replace b2 := mt (nI_eq (a := w) (b := 7) (by omega) (by omega)).mpr b2
      refine lv_aload_n hx hb d_M_spanOf_201 rfl (lv_at hl 1 rfl) ?_
      refine lv_dup hx hb d_M_spanOf_202 rfl ?_
      refine pf_get (v := .int (nI mtp)) (C := "BigRunnerModel") (T := FT10) (N := 45) hx hb (hw10 hB _) (fun _ h9 => h9) hown hK hP (lo_in hL t_M (by decide)) eM rfl 32 (by decide) (wd_979 hB _) rfl d_M_spanOf_203 ?_
      refine lv_iconst (v := nI 1) hx hb d_M_spanOf_206 (by decide) ?_
      refine pf_isubN (x := mtp) (y := 1) hx hb (by omega) d_M_spanOf_207 ?_
      refine pf_put (v := .int (nI (mtp - 1))) (ty := .int) (fs' := [.int mth, .ref (g.lk M 1), .int (nI mn), .ref (g.lk M 3), .ref (g.lk M 4), .int (nI mdr), .ref (g.lk M 6), .ref (g.lk M 7), .ref (g.lk M 8), .int (nI msz), .int (nI mix), .int (nI mdp), .ref (g.lk M 12), .int (nI mwt), .ref (g.lk M 14), .ref (g.lk M 15), .int (nI mop), .ref (g.lk M 17), .ref (g.lk M 18), .ref (g.lk M 19), .ref (g.lk M 20), .ref (g.lk M 21), .ref (g.lk M 22), .ref (g.lk M 23), .ref (g.lk M 24), .ref (g.lk M 25), .ref (g.lk M 26), .ref (g.lk M 27), .ref (g.lk M 28), .ref (g.lk M 29), .ref (g.lk M 30), .ref (g.lk M 31), .int (nI (mtp - 1)), .ref (g.lk M 33), .ref (g.lk M 34), .ref (g.lk M 35), .int (nI mwa), .int (nI mgi), .int (nI mpc), .int (nI mst), .int (nI mtr), .int (nI msp), .int mma, .int mlg, .int mdu]) (C := "BigRunnerModel") (T := FT10) (N := 45) hx hb (hw10 hB _) (fun _ h9 => h9) TY10 ok10 nm10 hown hK hP hD hS (lo_in hL t_M (by decide)) eM rfl 32 (by decide) (wd_979 hB _) rfl (by decide +kernel) rfl rfl (Nat.le_of_ble_eq_true rfl) rfl d_M_spanOf_208 (fun f3 H locs e4 k5 hP hD hS => ?_)
      have eC := (k5 (g.lk M 6) (tg_ne (lo_k11_6 hL _ t_M) t_M (by decide))).trans eC
      have eA := (k5 (g.lk M 7) (tg_ne (lo_k11_7 hL _ t_M) t_M (by decide))).trans eA
      have hu := hu.st k5 t_M (by decide)
      have hk6 : ∀ b, b ≠ M → f3 b = f b := k5
      refine lv_aload_n hx hb d_M_spanOf_211 rfl (lv_at hl 1 rfl) ?_
      refine pf_get (v := .int (nI (mtp - 1))) (C := "BigRunnerModel") (T := FT10) (N := 45) hx hb (hw10 hB _) (fun _ h9 => h9) hown hK hP (lo_in hL t_M (by decide)) e4 rfl 32 (by decide) (wd_979 hB _) rfl d_M_spanOf_212 ?_
      refine lv_iconst (v := nI 1) hx hb d_M_spanOf_215 (by decide) ?_
      refine pf_isubN (x := mtp - 1) (y := 1) hx hb (by omega) d_M_spanOf_216 ?_
      refine lv_istore_n (lv' := [(3, .int (nI ((mtp - 1) - 1))), (2, .int (nI w)), (0, .ref M), (1, .int (nI p9))]) hx hb d_M_spanOf_217 rfl hl (by decide) rfl (fun ls hl => ?_)
      refine lv_iload_n hx hb d_M_spanOf_218 rfl (lv_at hl 1 rfl) ?_
      refine lv_iconst (v := nI 2) hx hb d_M_spanOf_219 (by decide) ?_
      refine lv_icmp_ne (tgt := 315) hx hb d_M_spanOf_220 (by decide) (fun b7 => ?_) (fun b7 => ?_)
      · skip
        replace b7 := mt (nI_eq (a := w) (b := 2) (by omega) (by omega)).mpr b7
        refine lv_iload_n hx hb d_M_spanOf_315 rfl (lv_at hl 1 rfl) ?_
        refine lv_iconst (v := nI 3) hx hb d_M_spanOf_316 (by decide) ?_
        refine lv_icmp_ne (tgt := 412) hx hb d_M_spanOf_317 (by decide) (fun b8 => ?_) (fun b8 => ?_)
        · skip
          replace b8 := mt (nI_eq (a := w) (b := 3) (by omega) (by omega)).mpr b8
          refine lv_iload_n hx hb d_M_spanOf_412 rfl (lv_at hl 1 rfl) ?_
          refine lv_iconst (v := nI 4) hx hb d_M_spanOf_413 (by decide) ?_
          refine lv_icmp_ne (tgt := 425) hx hb d_M_spanOf_414 (by decide) (fun b9 => ?_) (fun b9 => ?_)
          · skip
            replace b9 := mt (nI_eq (a := w) (b := 4) (by omega) (by omega)).mpr b9
            refine lv_aload_n hx hb d_M_spanOf_425 rfl (lv_at hl 2 rfl) ?_
            refine lv_iload_n hx hb d_M_spanOf_426 rfl (lv_at hl 0 rfl) ?_
            refine lv_iload_n hx hb d_M_spanOf_427 rfl (lv_at hl 1 rfl) ?_
            refine lv_bipush (v := nI 6) hx hb d_M_spanOf_428 (by decide) ?_
            refine lv_icmp_ne (tgt := 437) hx hb d_M_spanOf_430 (by decide) (fun b10 => ?_) (fun b10 => ?_)
            · skip
              replace b10 := mt (nI_eq (a := w) (b := 6) (by omega) (by omega)).mpr b10
              refine lv_iconst (v := nI 0) hx hb d_M_spanOf_437 (by decide) ?_
              have hI11 := iv_1 hI hL t_M (by decide) hk6 (oc_11.mk t_M (⟨mth, mn, mdr, msz, mix, mdp, mwt, mop, (mtp - 1), mwa, mgi, mpc, mst, mtr, msp, mma, mlg, mdu, e4, (by omega), (by omega), (by omega), (by omega), (by omega), (by omega), (by omega), (by omega), (by omega), (by omega), (by omega), (by omega), (by omega), (by omega), hmb14⟩))
              refine pcc_v (va_runV (C := "BigRunnerModel") (As := [.int (nI ((mtp - 1) - 1)), .int (nI 0)]) (rest := []) ⟨hx, hb, hml, hown, tb_nil⟩ (m_spanQuotient l g H.size f3 M (((mtp - 1) - 1)) ((nI 0)) hL t_M hI11 (by omega)) ⟨(callB_of 2 (tb_one (wd_1183 hB _)) tb_good1 rfl rfl rfl (wd_82 hB _) (wd_1180 hB _) (by decide +kernel) ⟨Nat.le_of_ble_eq_true rfl, Nat.le_of_ble_eq_true rfl⟩), (wd_1182 hB _), (wd_55 hB _)⟩ ⟨pe_bl, pg_recv (ci := 10) hK hP (lo_in hL t_M (by decide)) e4 rfl, pe_pre hB hK hP hD⟩ rfl rfl hl.1 rfl (lv_room (Nat.le_of_ble_eq_true rfl)) d_M_spanOf_438 ⟨Nat.le_of_ble_eq_true rfl, Nat.le_of_ble_eq_true rfl⟩) hS (fun f13 H locs hq14 hP hD hS => ?_)
              obtain ⟨hI1_15, hu1_16⟩ := hq14
              have hu := hu.tr hu1_16 (by decide)
              have eC := hu1_16.at (lo_k11_6 hL _ t_M) (by decide) eC
              have eA := hu1_16.at (lo_k11_7 hL _ t_M) (by decide) eA
              have e4 := hu1_16.at t_M (by decide) e4
              refine lv_aload_n hx hb d_M_spanOf_441 rfl (lv_at hl 2 rfl) ?_
              refine pf_get (v := .ref (g.lk M 25)) (C := "BigRunnerModel") (T := FT10) (N := 45) hx hb (hw10 hB _) (fun _ h9 => h9) hown hK hP (lo_in hL t_M (by decide)) e4 rfl 25 (by decide) (wd_972 hB _) rfl d_M_spanOf_442 ?_
              refine lv_iload_n hx hb d_M_spanOf_445 rfl (lv_at hl 0 rfl) ?_
              have jn17 : ∀ (bj18 : Int32) (H : Heap) (locs : List Loc), va_P g.D vcl (va_pl g.LP f13) H → va_D (pc_A g s.heap.size) (va_pl g.LP f13) → va_S (pc_A g s.heap.size) s.heap H locs → W p l e ({ frames := 3, cells := 0, slots := 0, locals := 77 }) s m args below meth c H locs 0 0 (MQ below (va_Qv (fun f1 => (∃ (tp1 : Nat), (tp1 ≤ 80) ∧ (TR w mtp tp1) ∧ f1 M = .inr (10, [.int mth, .ref (g.lk M 1), .int (nI mn), .ref (g.lk M 3), .ref (g.lk M 4), .int (nI mdr), .ref (g.lk M 6), .ref (g.lk M 7), .ref (g.lk M 8), .int (nI msz), .int (nI mix), .int (nI mdp), .ref (g.lk M 12), .int (nI mwt), .ref (g.lk M 14), .ref (g.lk M 15), .int (nI mop), .ref (g.lk M 17), .ref (g.lk M 18), .ref (g.lk M 19), .ref (g.lk M 20), .ref (g.lk M 21), .ref (g.lk M 22), .ref (g.lk M 23), .ref (g.lk M 24), .ref (g.lk M 25), .ref (g.lk M 26), .ref (g.lk M 27), .ref (g.lk M 28), .ref (g.lk M 29), .ref (g.lk M 30), .ref (g.lk M 31), .int (nI tp1), .ref (g.lk M 33), .ref (g.lk M 34), .ref (g.lk M 35), .int (nI mwa), .int (nI mgi), .int (nI mpc), .int (nI mst), .int (nI mtr), .int (nI msp), .int mma, .int mlg, .int mdu])) ∧ (IV g f1) ∧ (un [11, 45, 53, 54, 55, 56, 57] g f f1)) (pc_out g s.heap.size) (pc_A g s.heap.size)) args s 0 0 (pc_A g s.heap.size)) (F0 m 490 ls [.int bj18, .int (nI ((mtp - 1) - 1)), .ref (g.lk M 25)]) := by
                intro bj18 H locs hP hD hS
                obtain ⟨h_20, e19⟩ := oc_57.of (lo_k11_25 hL _ t_M) (hI1_15.1 (g.lk M 25))
                refine pf_zast (i := (mtp - 1) - 1) hx hb hK hP hD hS (lo_in hL (lo_k11_25 hL _ t_M) (by decide)) e19 (lo_t57 hL _ (lo_k11_25 hL _ t_M)) (by omega) (by decide) d_M_spanOf_490 (fun f22 H locs e23 k24 hP hD hS => ?_)
                have eC := (k24 (g.lk M 6) (tg_ne (lo_k11_6 hL _ t_M) (lo_k11_25 hL _ t_M) (by decide))).trans eC
                have eA := (k24 (g.lk M 7) (tg_ne (lo_k11_7 hL _ t_M) (lo_k11_25 hL _ t_M) (by decide))).trans eA
                have e4 := (k24 M (tg_ne t_M (lo_k11_25 hL _ t_M) (by decide))).trans e4
                have hu := hu.st k24 (lo_k11_25 hL _ t_M) (by decide)
                have hk25 : ∀ b, b ≠ (g.lk M 25) → f22 b = f13 b := k24
                refine lv_aload_n hx hb d_M_spanOf_491 rfl (lv_at hl 2 rfl) ?_
                refine pf_get (v := .ref (g.lk M 8)) (C := "BigRunnerModel") (T := FT10) (N := 45) hx hb (hw10 hB _) (fun _ h9 => h9) hown hK hP (lo_in hL t_M (by decide)) e4 rfl 8 (by decide) (wd_955 hB _) rfl d_M_spanOf_492 ?_
                refine lv_iload_n hx hb d_M_spanOf_495 rfl (lv_at hl 3 rfl) ?_
                refine lv_aload_n hx hb d_M_spanOf_496 rfl (lv_at hl 2 rfl) ?_
                refine pf_get (v := .ref (g.lk M 25)) (C := "BigRunnerModel") (T := FT10) (N := 45) hx hb (hw10 hB _) (fun _ h9 => h9) hown hK hP (lo_in hL t_M (by decide)) e4 rfl 25 (by decide) (wd_972 hB _) rfl d_M_spanOf_497 ?_
                refine lv_iload_n hx hb d_M_spanOf_500 rfl (lv_at hl 0 rfl) ?_
                refine pf_zald (i := (mtp - 1) - 1) hx hb hK hP (lo_in hL (lo_k11_25 hL _ t_M) (by decide)) e23 (lo_t57 hL _ (lo_k11_25 hL _ t_M)) (by omega) (by decide) d_M_spanOf_501 ?_
                refine lv_topi (fun iv26 _ => ?_)
                have hI27 := iv_1 hI1_15 hL (lo_k11_25 hL _ t_M) (by decide) hk25 (oc_57.mk (lo_k11_25 hL _ t_M) (⟨_, e23⟩))
                obtain ⟨h_29, e28⟩ := oc_45.of (lo_k11_8 hL _ t_M) (hI27.1 (g.lk M 8))
                refine pf_zast (i := p9) hx hb hK hP hD hS (lo_in hL (lo_k11_8 hL _ t_M) (by decide)) e28 (lo_t45 hL _ (lo_k11_8 hL _ t_M)) (by omega) (by decide) d_M_spanOf_502 (fun f31 H locs e32 k33 hP hD hS => ?_)
                have eC := (k33 (g.lk M 6) (tg_ne (lo_k11_6 hL _ t_M) (lo_k11_8 hL _ t_M) (by decide))).trans eC
                have eA := (k33 (g.lk M 7) (tg_ne (lo_k11_7 hL _ t_M) (lo_k11_8 hL _ t_M) (by decide))).trans eA
                have e4 := (k33 M (tg_ne t_M (lo_k11_8 hL _ t_M) (by decide))).trans e4
                have e23 := (k33 (g.lk M 25) (tg_ne (lo_k11_25 hL _ t_M) (lo_k11_8 hL _ t_M) (by decide))).trans e23
                have hu := hu.st k33 (lo_k11_8 hL _ t_M) (by decide)
                have hk34 : ∀ b, b ≠ (g.lk M 8) → f31 b = f22 b := k33
                have hI35 := iv_1 hI27 hL (lo_k11_8 hL _ t_M) (by decide) hk34 (oc_45.mk (lo_k11_8 hL _ t_M) (⟨_, e32⟩))
                exact pe_vret hx hb hr hlocks hK hP hD hS d_M_spanOf_503 ⟨⟨(mtp - 1), by omega, (TR.mk (fun _ => by omega) (fun _ => by omega) (fun _ _ => by omega)), e4⟩, hI35, hu⟩
              refine lv_aload_n hx hb d_M_spanOf_446 rfl (lv_at hl 2 rfl) ?_
              refine pf_get (v := .ref (g.lk M 25)) (C := "BigRunnerModel") (T := FT10) (N := 45) hx hb (hw10 hB _) (fun _ h9 => h9) hown hK hP (lo_in hL t_M (by decide)) e4 rfl 25 (by decide) (wd_972 hB _) rfl d_M_spanOf_447 ?_
              refine lv_iload_n hx hb d_M_spanOf_450 rfl (lv_at hl 0 rfl) ?_
              obtain ⟨h_37, e36⟩ := oc_57.of (lo_k11_25 hL _ t_M) (hI1_15.1 (g.lk M 25))
              refine pf_zald (i := (mtp - 1) - 1) hx hb hK hP (lo_in hL (lo_k11_25 hL _ t_M) (by decide)) e36 (lo_t57 hL _ (lo_k11_25 hL _ t_M)) (by omega) (by decide) d_M_spanOf_451 ?_
              refine lv_topi (fun iv39 _ => ?_)
              refine lv_if_eq (tgt := 489) hx hb d_M_spanOf_452 (by decide) (fun b40 => ?_) (fun b40 => ?_)
              · skip
                refine lv_iconst (v := nI 0) hx hb d_M_spanOf_489 (by decide) ?_
                exact jn17 ((nI 0)) _ _ hP hD hS
              · skip
                refine lv_aload_n hx hb d_M_spanOf_455 rfl (lv_at hl 2 rfl) ?_
                refine pf_get (v := .ref (g.lk M 25)) (C := "BigRunnerModel") (T := FT10) (N := 45) hx hb (hw10 hB _) (fun _ h9 => h9) hown hK hP (lo_in hL t_M (by decide)) e4 rfl 25 (by decide) (wd_972 hB _) rfl d_M_spanOf_456 ?_
                refine lv_aload_n hx hb d_M_spanOf_459 rfl (lv_at hl 2 rfl) ?_
                refine pf_get (v := .int (nI (mtp - 1))) (C := "BigRunnerModel") (T := FT10) (N := 45) hx hb (hw10 hB _) (fun _ h9 => h9) hown hK hP (lo_in hL t_M (by decide)) e4 rfl 32 (by decide) (wd_979 hB _) rfl d_M_spanOf_460 ?_
                refine pf_zald (i := mtp - 1) hx hb hK hP (lo_in hL (lo_k11_25 hL _ t_M) (by decide)) e36 (lo_t57 hL _ (lo_k11_25 hL _ t_M)) (by omega) (by decide) d_M_spanOf_463 ?_
                refine lv_topi (fun iv41 _ => ?_)
                refine lv_if_eq (tgt := 489) hx hb d_M_spanOf_464 (by decide) (fun b42 => ?_) (fun b42 => ?_)
                · skip
                  refine lv_iconst (v := nI 0) hx hb d_M_spanOf_489 (by decide) ?_
                  exact jn17 ((nI 0)) _ _ hP hD hS
                · skip
                  refine lv_aload_n hx hb d_M_spanOf_467 rfl (lv_at hl 2 rfl) ?_
                  refine pf_get (v := .ref (g.lk M 23)) (C := "BigRunnerModel") (T := FT10) (N := 45) hx hb (hw10 hB _) (fun _ h9 => h9) hown hK hP (lo_in hL t_M (by decide)) e4 rfl 23 (by decide) (wd_970 hB _) rfl d_M_spanOf_468 ?_
                  refine lv_iload_n hx hb d_M_spanOf_471 rfl (lv_at hl 0 rfl) ?_
                  obtain ⟨h_44, e43⟩ := oc_55.of (lo_k11_23 hL _ t_M) (hI1_15.1 (g.lk M 23))
                  refine pf_zald (i := (mtp - 1) - 1) hx hb hK hP (lo_in hL (lo_k11_23 hL _ t_M) (by decide)) e43 (lo_t55 hL _ (lo_k11_23 hL _ t_M)) (by omega) (by decide) d_M_spanOf_472 ?_
                  refine lv_topi (fun iv46 _ => ?_)
                  refine lv_if_ne (tgt := 489) hx hb d_M_spanOf_473 (by decide) (fun b47 => ?_) (fun b47 => ?_)
                  · skip
                    refine lv_iconst (v := nI 0) hx hb d_M_spanOf_489 (by decide) ?_
                    exact jn17 ((nI 0)) _ _ hP hD hS
                  · skip
                    refine lv_aload_n hx hb d_M_spanOf_476 rfl (lv_at hl 2 rfl) ?_
                    refine pf_get (v := .ref (g.lk M 24)) (C := "BigRunnerModel") (T := FT10) (N := 45) hx hb (hw10 hB _) (fun _ h9 => h9) hown hK hP (lo_in hL t_M (by decide)) e4 rfl 24 (by decide) (wd_971 hB _) rfl d_M_spanOf_477 ?_
                    refine lv_iload_n hx hb d_M_spanOf_480 rfl (lv_at hl 0 rfl) ?_
                    obtain ⟨h_49, e48⟩ := oc_56.of (lo_k11_24 hL _ t_M) (hI1_15.1 (g.lk M 24))
                    refine pf_zald (i := (mtp - 1) - 1) hx hb hK hP (lo_in hL (lo_k11_24 hL _ t_M) (by decide)) e48 (lo_t56 hL _ (lo_k11_24 hL _ t_M)) (by omega) (by decide) d_M_spanOf_481 ?_
                    refine lv_topi (fun iv51 _ => ?_)
                    refine lv_if_ne (tgt := 489) hx hb d_M_spanOf_482 (by decide) (fun b52 => ?_) (fun b52 => ?_)
                    · skip
                      refine lv_iconst (v := nI 0) hx hb d_M_spanOf_489 (by decide) ?_
                      exact jn17 ((nI 0)) _ _ hP hD hS
                    · skip
                      refine lv_iconst (v := nI 1) hx hb d_M_spanOf_485 (by decide) ?_
                      refine lv_goto (tgt := 490) hx hb d_M_spanOf_486 (by decide) ?_
                      exact jn17 ((nI 1)) _ _ hP hD hS
            · skip
              replace b10 := (nI_eq (a := w) (b := 6) (by omega) (by omega)).mp b10
              refine lv_iconst (v := nI 1) hx hb d_M_spanOf_433 (by decide) ?_
              refine lv_goto (tgt := 438) hx hb d_M_spanOf_434 (by decide) ?_
              have hI53 := iv_1 hI hL t_M (by decide) hk6 (oc_11.mk t_M (⟨mth, mn, mdr, msz, mix, mdp, mwt, mop, (mtp - 1), mwa, mgi, mpc, mst, mtr, msp, mma, mlg, mdu, e4, (by omega), (by omega), (by omega), (by omega), (by omega), (by omega), (by omega), (by omega), (by omega), (by omega), (by omega), (by omega), (by omega), (by omega), hmb14⟩))
              refine pcc_v (va_runV (C := "BigRunnerModel") (As := [.int (nI ((mtp - 1) - 1)), .int (nI 1)]) (rest := []) ⟨hx, hb, hml, hown, tb_nil⟩ (m_spanQuotient l g H.size f3 M (((mtp - 1) - 1)) ((nI 1)) hL t_M hI53 (by omega)) ⟨(callB_of 2 (tb_one (wd_1183 hB _)) tb_good1 rfl rfl rfl (wd_82 hB _) (wd_1180 hB _) (by decide +kernel) ⟨Nat.le_of_ble_eq_true rfl, Nat.le_of_ble_eq_true rfl⟩), (wd_1182 hB _), (wd_55 hB _)⟩ ⟨pe_bl, pg_recv (ci := 10) hK hP (lo_in hL t_M (by decide)) e4 rfl, pe_pre hB hK hP hD⟩ rfl rfl hl.1 rfl (lv_room (Nat.le_of_ble_eq_true rfl)) d_M_spanOf_438 ⟨Nat.le_of_ble_eq_true rfl, Nat.le_of_ble_eq_true rfl⟩) hS (fun f55 H locs hq56 hP hD hS => ?_)
              obtain ⟨hI1_57, hu1_58⟩ := hq56
              have hu := hu.tr hu1_58 (by decide)
              have eC := hu1_58.at (lo_k11_6 hL _ t_M) (by decide) eC
              have eA := hu1_58.at (lo_k11_7 hL _ t_M) (by decide) eA
              have e4 := hu1_58.at t_M (by decide) e4
              refine lv_aload_n hx hb d_M_spanOf_441 rfl (lv_at hl 2 rfl) ?_
              refine pf_get (v := .ref (g.lk M 25)) (C := "BigRunnerModel") (T := FT10) (N := 45) hx hb (hw10 hB _) (fun _ h9 => h9) hown hK hP (lo_in hL t_M (by decide)) e4 rfl 25 (by decide) (wd_972 hB _) rfl d_M_spanOf_442 ?_
              refine lv_iload_n hx hb d_M_spanOf_445 rfl (lv_at hl 0 rfl) ?_
              have jn59 : ∀ (bj60 : Int32) (H : Heap) (locs : List Loc), va_P g.D vcl (va_pl g.LP f55) H → va_D (pc_A g s.heap.size) (va_pl g.LP f55) → va_S (pc_A g s.heap.size) s.heap H locs → W p l e ({ frames := 3, cells := 0, slots := 0, locals := 77 }) s m args below meth c H locs 0 0 (MQ below (va_Qv (fun f1 => (∃ (tp1 : Nat), (tp1 ≤ 80) ∧ (TR w mtp tp1) ∧ f1 M = .inr (10, [.int mth, .ref (g.lk M 1), .int (nI mn), .ref (g.lk M 3), .ref (g.lk M 4), .int (nI mdr), .ref (g.lk M 6), .ref (g.lk M 7), .ref (g.lk M 8), .int (nI msz), .int (nI mix), .int (nI mdp), .ref (g.lk M 12), .int (nI mwt), .ref (g.lk M 14), .ref (g.lk M 15), .int (nI mop), .ref (g.lk M 17), .ref (g.lk M 18), .ref (g.lk M 19), .ref (g.lk M 20), .ref (g.lk M 21), .ref (g.lk M 22), .ref (g.lk M 23), .ref (g.lk M 24), .ref (g.lk M 25), .ref (g.lk M 26), .ref (g.lk M 27), .ref (g.lk M 28), .ref (g.lk M 29), .ref (g.lk M 30), .ref (g.lk M 31), .int (nI tp1), .ref (g.lk M 33), .ref (g.lk M 34), .ref (g.lk M 35), .int (nI mwa), .int (nI mgi), .int (nI mpc), .int (nI mst), .int (nI mtr), .int (nI msp), .int mma, .int mlg, .int mdu])) ∧ (IV g f1) ∧ (un [11, 45, 53, 54, 55, 56, 57] g f f1)) (pc_out g s.heap.size) (pc_A g s.heap.size)) args s 0 0 (pc_A g s.heap.size)) (F0 m 490 ls [.int bj60, .int (nI ((mtp - 1) - 1)), .ref (g.lk M 25)]) := by
                intro bj60 H locs hP hD hS
                obtain ⟨h_62, e61⟩ := oc_57.of (lo_k11_25 hL _ t_M) (hI1_57.1 (g.lk M 25))
                refine pf_zast (i := (mtp - 1) - 1) hx hb hK hP hD hS (lo_in hL (lo_k11_25 hL _ t_M) (by decide)) e61 (lo_t57 hL _ (lo_k11_25 hL _ t_M)) (by omega) (by decide) d_M_spanOf_490 (fun f64 H locs e65 k66 hP hD hS => ?_)
                have eC := (k66 (g.lk M 6) (tg_ne (lo_k11_6 hL _ t_M) (lo_k11_25 hL _ t_M) (by decide))).trans eC
                have eA := (k66 (g.lk M 7) (tg_ne (lo_k11_7 hL _ t_M) (lo_k11_25 hL _ t_M) (by decide))).trans eA
                have e4 := (k66 M (tg_ne t_M (lo_k11_25 hL _ t_M) (by decide))).trans e4
                have hu := hu.st k66 (lo_k11_25 hL _ t_M) (by decide)
                have hk67 : ∀ b, b ≠ (g.lk M 25) → f64 b = f55 b := k66
                refine lv_aload_n hx hb d_M_spanOf_491 rfl (lv_at hl 2 rfl) ?_
                refine pf_get (v := .ref (g.lk M 8)) (C := "BigRunnerModel") (T := FT10) (N := 45) hx hb (hw10 hB _) (fun _ h9 => h9) hown hK hP (lo_in hL t_M (by decide)) e4 rfl 8 (by decide) (wd_955 hB _) rfl d_M_spanOf_492 ?_
                refine lv_iload_n hx hb d_M_spanOf_495 rfl (lv_at hl 3 rfl) ?_
                refine lv_aload_n hx hb d_M_spanOf_496 rfl (lv_at hl 2 rfl) ?_
                refine pf_get (v := .ref (g.lk M 25)) (C := "BigRunnerModel") (T := FT10) (N := 45) hx hb (hw10 hB _) (fun _ h9 => h9) hown hK hP (lo_in hL t_M (by decide)) e4 rfl 25 (by decide) (wd_972 hB _) rfl d_M_spanOf_497 ?_
                refine lv_iload_n hx hb d_M_spanOf_500 rfl (lv_at hl 0 rfl) ?_
                refine pf_zald (i := (mtp - 1) - 1) hx hb hK hP (lo_in hL (lo_k11_25 hL _ t_M) (by decide)) e65 (lo_t57 hL _ (lo_k11_25 hL _ t_M)) (by omega) (by decide) d_M_spanOf_501 ?_
                refine lv_topi (fun iv68 _ => ?_)
                have hI69 := iv_1 hI1_57 hL (lo_k11_25 hL _ t_M) (by decide) hk67 (oc_57.mk (lo_k11_25 hL _ t_M) (⟨_, e65⟩))
                obtain ⟨h_71, e70⟩ := oc_45.of (lo_k11_8 hL _ t_M) (hI69.1 (g.lk M 8))
                refine pf_zast (i := p9) hx hb hK hP hD hS (lo_in hL (lo_k11_8 hL _ t_M) (by decide)) e70 (lo_t45 hL _ (lo_k11_8 hL _ t_M)) (by omega) (by decide) d_M_spanOf_502 (fun f73 H locs e74 k75 hP hD hS => ?_)
                have eC := (k75 (g.lk M 6) (tg_ne (lo_k11_6 hL _ t_M) (lo_k11_8 hL _ t_M) (by decide))).trans eC
                have eA := (k75 (g.lk M 7) (tg_ne (lo_k11_7 hL _ t_M) (lo_k11_8 hL _ t_M) (by decide))).trans eA
                have e4 := (k75 M (tg_ne t_M (lo_k11_8 hL _ t_M) (by decide))).trans e4
                have e65 := (k75 (g.lk M 25) (tg_ne (lo_k11_25 hL _ t_M) (lo_k11_8 hL _ t_M) (by decide))).trans e65
                have hu := hu.st k75 (lo_k11_8 hL _ t_M) (by decide)
                have hk76 : ∀ b, b ≠ (g.lk M 8) → f73 b = f64 b := k75
                have hI77 := iv_1 hI69 hL (lo_k11_8 hL _ t_M) (by decide) hk76 (oc_45.mk (lo_k11_8 hL _ t_M) (⟨_, e74⟩))
                exact pe_vret hx hb hr hlocks hK hP hD hS d_M_spanOf_503 ⟨⟨(mtp - 1), by omega, (TR.mk (fun _ => by omega) (fun _ => by omega) (fun _ _ => by omega)), e4⟩, hI77, hu⟩
              refine lv_aload_n hx hb d_M_spanOf_446 rfl (lv_at hl 2 rfl) ?_
              refine pf_get (v := .ref (g.lk M 25)) (C := "BigRunnerModel") (T := FT10) (N := 45) hx hb (hw10 hB _) (fun _ h9 => h9) hown hK hP (lo_in hL t_M (by decide)) e4 rfl 25 (by decide) (wd_972 hB _) rfl d_M_spanOf_447 ?_
              refine lv_iload_n hx hb d_M_spanOf_450 rfl (lv_at hl 0 rfl) ?_
              obtain ⟨h_79, e78⟩ := oc_57.of (lo_k11_25 hL _ t_M) (hI1_57.1 (g.lk M 25))
              refine pf_zald (i := (mtp - 1) - 1) hx hb hK hP (lo_in hL (lo_k11_25 hL _ t_M) (by decide)) e78 (lo_t57 hL _ (lo_k11_25 hL _ t_M)) (by omega) (by decide) d_M_spanOf_451 ?_
              refine lv_topi (fun iv81 _ => ?_)
              refine lv_if_eq (tgt := 489) hx hb d_M_spanOf_452 (by decide) (fun b82 => ?_) (fun b82 => ?_)
              · skip
                refine lv_iconst (v := nI 0) hx hb d_M_spanOf_489 (by decide) ?_
                exact jn59 ((nI 0)) _ _ hP hD hS
              · skip
                refine lv_aload_n hx hb d_M_spanOf_455 rfl (lv_at hl 2 rfl) ?_
                refine pf_get (v := .ref (g.lk M 25)) (C := "BigRunnerModel") (T := FT10) (N := 45) hx hb (hw10 hB _) (fun _ h9 => h9) hown hK hP (lo_in hL t_M (by decide)) e4 rfl 25 (by decide) (wd_972 hB _) rfl d_M_spanOf_456 ?_
                refine lv_aload_n hx hb d_M_spanOf_459 rfl (lv_at hl 2 rfl) ?_
                refine pf_get (v := .int (nI (mtp - 1))) (C := "BigRunnerModel") (T := FT10) (N := 45) hx hb (hw10 hB _) (fun _ h9 => h9) hown hK hP (lo_in hL t_M (by decide)) e4 rfl 32 (by decide) (wd_979 hB _) rfl d_M_spanOf_460 ?_
                refine pf_zald (i := mtp - 1) hx hb hK hP (lo_in hL (lo_k11_25 hL _ t_M) (by decide)) e78 (lo_t57 hL _ (lo_k11_25 hL _ t_M)) (by omega) (by decide) d_M_spanOf_463 ?_
                refine lv_topi (fun iv83 _ => ?_)
                refine lv_if_eq (tgt := 489) hx hb d_M_spanOf_464 (by decide) (fun b84 => ?_) (fun b84 => ?_)
                · skip
                  refine lv_iconst (v := nI 0) hx hb d_M_spanOf_489 (by decide) ?_
                  exact jn59 ((nI 0)) _ _ hP hD hS
                · skip
                  refine lv_aload_n hx hb d_M_spanOf_467 rfl (lv_at hl 2 rfl) ?_
                  refine pf_get (v := .ref (g.lk M 23)) (C := "BigRunnerModel") (T := FT10) (N := 45) hx hb (hw10 hB _) (fun _ h9 => h9) hown hK hP (lo_in hL t_M (by decide)) e4 rfl 23 (by decide) (wd_970 hB _) rfl d_M_spanOf_468 ?_
                  refine lv_iload_n hx hb d_M_spanOf_471 rfl (lv_at hl 0 rfl) ?_
                  obtain ⟨h_86, e85⟩ := oc_55.of (lo_k11_23 hL _ t_M) (hI1_57.1 (g.lk M 23))
                  refine pf_zald (i := (mtp - 1) - 1) hx hb hK hP (lo_in hL (lo_k11_23 hL _ t_M) (by decide)) e85 (lo_t55 hL _ (lo_k11_23 hL _ t_M)) (by omega) (by decide) d_M_spanOf_472 ?_
                  refine lv_topi (fun iv88 _ => ?_)
                  refine lv_if_ne (tgt := 489) hx hb d_M_spanOf_473 (by decide) (fun b89 => ?_) (fun b89 => ?_)
                  · skip
                    refine lv_iconst (v := nI 0) hx hb d_M_spanOf_489 (by decide) ?_
                    exact jn59 ((nI 0)) _ _ hP hD hS
                  · skip
                    refine lv_aload_n hx hb d_M_spanOf_476 rfl (lv_at hl 2 rfl) ?_
                    refine pf_get (v := .ref (g.lk M 24)) (C := "BigRunnerModel") (T := FT10) (N := 45) hx hb (hw10 hB _) (fun _ h9 => h9) hown hK hP (lo_in hL t_M (by decide)) e4 rfl 24 (by decide) (wd_971 hB _) rfl d_M_spanOf_477 ?_
                    refine lv_iload_n hx hb d_M_spanOf_480 rfl (lv_at hl 0 rfl) ?_
                    obtain ⟨h_91, e90⟩ := oc_56.of (lo_k11_24 hL _ t_M) (hI1_57.1 (g.lk M 24))
                    refine pf_zald (i := (mtp - 1) - 1) hx hb hK hP (lo_in hL (lo_k11_24 hL _ t_M) (by decide)) e90 (lo_t56 hL _ (lo_k11_24 hL _ t_M)) (by omega) (by decide) d_M_spanOf_481 ?_
                    refine lv_topi (fun iv93 _ => ?_)
                    refine lv_if_ne (tgt := 489) hx hb d_M_spanOf_482 (by decide) (fun b94 => ?_) (fun b94 => ?_)
                    · skip
                      refine lv_iconst (v := nI 0) hx hb d_M_spanOf_489 (by decide) ?_
                      exact jn59 ((nI 0)) _ _ hP hD hS
                    · skip
                      refine lv_iconst (v := nI 1) hx hb d_M_spanOf_485 (by decide) ?_
                      refine lv_goto (tgt := 490) hx hb d_M_spanOf_486 (by decide) ?_
                      exact jn59 ((nI 1)) _ _ hP hD hS
          · skip
            replace b9 := (nI_eq (a := w) (b := 4) (by omega) (by omega)).mp b9
            refine lv_aload_n hx hb d_M_spanOf_417 rfl (lv_at hl 2 rfl) ?_
            refine lv_iload_n hx hb d_M_spanOf_418 rfl (lv_at hl 0 rfl) ?_
            have hI95 := iv_1 hI hL t_M (by decide) hk6 (oc_11.mk t_M (⟨mth, mn, mdr, msz, mix, mdp, mwt, mop, (mtp - 1), mwa, mgi, mpc, mst, mtr, msp, mma, mlg, mdu, e4, (by omega), (by omega), (by omega), (by omega), (by omega), (by omega), (by omega), (by omega), (by omega), (by omega), (by omega), (by omega), (by omega), (by omega), hmb14⟩))
            refine pcc_v (va_runV (C := "BigRunnerModel") (As := [.int (nI ((mtp - 1) - 1))]) (rest := []) ⟨hx, hb, hml, hown, tb_nil⟩ (m_spanProduct l g H.size f3 M (((mtp - 1) - 1)) hL t_M hI95 (by omega)) ⟨(callB_of 1 (tb_one (wd_1166 hB _)) tb_good1 rfl rfl rfl (wd_82 hB _) (wd_1163 hB _) (by decide +kernel) ⟨Nat.le_of_ble_eq_true rfl, Nat.le_of_ble_eq_true rfl⟩), (wd_1165 hB _), (wd_54 hB _)⟩ ⟨pe_bl, pg_recv (ci := 10) hK hP (lo_in hL t_M (by decide)) e4 rfl, pe_pre hB hK hP hD⟩ rfl rfl hl.1 rfl (lv_room (Nat.le_of_ble_eq_true rfl)) d_M_spanOf_419 ⟨Nat.le_of_ble_eq_true rfl, Nat.le_of_ble_eq_true rfl⟩) hS (fun f97 H locs hq98 hP hD hS => ?_)
            obtain ⟨hI1_99, hu1_100⟩ := hq98
            have hu := hu.tr hu1_100 (by decide)
            have eC := hu1_100.at (lo_k11_6 hL _ t_M) (by decide) eC
            have eA := hu1_100.at (lo_k11_7 hL _ t_M) (by decide) eA
            have e4 := hu1_100.at t_M (by decide) e4
            refine lv_goto (tgt := 441) hx hb d_M_spanOf_422 (by decide) ?_
            refine lv_aload_n hx hb d_M_spanOf_441 rfl (lv_at hl 2 rfl) ?_
            refine pf_get (v := .ref (g.lk M 25)) (C := "BigRunnerModel") (T := FT10) (N := 45) hx hb (hw10 hB _) (fun _ h9 => h9) hown hK hP (lo_in hL t_M (by decide)) e4 rfl 25 (by decide) (wd_972 hB _) rfl d_M_spanOf_442 ?_
            refine lv_iload_n hx hb d_M_spanOf_445 rfl (lv_at hl 0 rfl) ?_
            have jn101 : ∀ (bj102 : Int32) (H : Heap) (locs : List Loc), va_P g.D vcl (va_pl g.LP f97) H → va_D (pc_A g s.heap.size) (va_pl g.LP f97) → va_S (pc_A g s.heap.size) s.heap H locs → W p l e ({ frames := 3, cells := 0, slots := 0, locals := 77 }) s m args below meth c H locs 0 0 (MQ below (va_Qv (fun f1 => (∃ (tp1 : Nat), (tp1 ≤ 80) ∧ (TR w mtp tp1) ∧ f1 M = .inr (10, [.int mth, .ref (g.lk M 1), .int (nI mn), .ref (g.lk M 3), .ref (g.lk M 4), .int (nI mdr), .ref (g.lk M 6), .ref (g.lk M 7), .ref (g.lk M 8), .int (nI msz), .int (nI mix), .int (nI mdp), .ref (g.lk M 12), .int (nI mwt), .ref (g.lk M 14), .ref (g.lk M 15), .int (nI mop), .ref (g.lk M 17), .ref (g.lk M 18), .ref (g.lk M 19), .ref (g.lk M 20), .ref (g.lk M 21), .ref (g.lk M 22), .ref (g.lk M 23), .ref (g.lk M 24), .ref (g.lk M 25), .ref (g.lk M 26), .ref (g.lk M 27), .ref (g.lk M 28), .ref (g.lk M 29), .ref (g.lk M 30), .ref (g.lk M 31), .int (nI tp1), .ref (g.lk M 33), .ref (g.lk M 34), .ref (g.lk M 35), .int (nI mwa), .int (nI mgi), .int (nI mpc), .int (nI mst), .int (nI mtr), .int (nI msp), .int mma, .int mlg, .int mdu])) ∧ (IV g f1) ∧ (un [11, 45, 53, 54, 55, 56, 57] g f f1)) (pc_out g s.heap.size) (pc_A g s.heap.size)) args s 0 0 (pc_A g s.heap.size)) (F0 m 490 ls [.int bj102, .int (nI ((mtp - 1) - 1)), .ref (g.lk M 25)]) := by
              intro bj102 H locs hP hD hS
              obtain ⟨h_104, e103⟩ := oc_57.of (lo_k11_25 hL _ t_M) (hI1_99.1 (g.lk M 25))
              refine pf_zast (i := (mtp - 1) - 1) hx hb hK hP hD hS (lo_in hL (lo_k11_25 hL _ t_M) (by decide)) e103 (lo_t57 hL _ (lo_k11_25 hL _ t_M)) (by omega) (by decide) d_M_spanOf_490 (fun f106 H locs e107 k108 hP hD hS => ?_)
              have eC := (k108 (g.lk M 6) (tg_ne (lo_k11_6 hL _ t_M) (lo_k11_25 hL _ t_M) (by decide))).trans eC
              have eA := (k108 (g.lk M 7) (tg_ne (lo_k11_7 hL _ t_M) (lo_k11_25 hL _ t_M) (by decide))).trans eA
              have e4 := (k108 M (tg_ne t_M (lo_k11_25 hL _ t_M) (by decide))).trans e4
              have hu := hu.st k108 (lo_k11_25 hL _ t_M) (by decide)
              have hk109 : ∀ b, b ≠ (g.lk M 25) → f106 b = f97 b := k108
              refine lv_aload_n hx hb d_M_spanOf_491 rfl (lv_at hl 2 rfl) ?_
              refine pf_get (v := .ref (g.lk M 8)) (C := "BigRunnerModel") (T := FT10) (N := 45) hx hb (hw10 hB _) (fun _ h9 => h9) hown hK hP (lo_in hL t_M (by decide)) e4 rfl 8 (by decide) (wd_955 hB _) rfl d_M_spanOf_492 ?_
              refine lv_iload_n hx hb d_M_spanOf_495 rfl (lv_at hl 3 rfl) ?_
              refine lv_aload_n hx hb d_M_spanOf_496 rfl (lv_at hl 2 rfl) ?_
              refine pf_get (v := .ref (g.lk M 25)) (C := "BigRunnerModel") (T := FT10) (N := 45) hx hb (hw10 hB _) (fun _ h9 => h9) hown hK hP (lo_in hL t_M (by decide)) e4 rfl 25 (by decide) (wd_972 hB _) rfl d_M_spanOf_497 ?_
              refine lv_iload_n hx hb d_M_spanOf_500 rfl (lv_at hl 0 rfl) ?_
              refine pf_zald (i := (mtp - 1) - 1) hx hb hK hP (lo_in hL (lo_k11_25 hL _ t_M) (by decide)) e107 (lo_t57 hL _ (lo_k11_25 hL _ t_M)) (by omega) (by decide) d_M_spanOf_501 ?_
              refine lv_topi (fun iv110 _ => ?_)
              have hI111 := iv_1 hI1_99 hL (lo_k11_25 hL _ t_M) (by decide) hk109 (oc_57.mk (lo_k11_25 hL _ t_M) (⟨_, e107⟩))
              obtain ⟨h_113, e112⟩ := oc_45.of (lo_k11_8 hL _ t_M) (hI111.1 (g.lk M 8))
              refine pf_zast (i := p9) hx hb hK hP hD hS (lo_in hL (lo_k11_8 hL _ t_M) (by decide)) e112 (lo_t45 hL _ (lo_k11_8 hL _ t_M)) (by omega) (by decide) d_M_spanOf_502 (fun f115 H locs e116 k117 hP hD hS => ?_)
              have eC := (k117 (g.lk M 6) (tg_ne (lo_k11_6 hL _ t_M) (lo_k11_8 hL _ t_M) (by decide))).trans eC
              have eA := (k117 (g.lk M 7) (tg_ne (lo_k11_7 hL _ t_M) (lo_k11_8 hL _ t_M) (by decide))).trans eA
              have e4 := (k117 M (tg_ne t_M (lo_k11_8 hL _ t_M) (by decide))).trans e4
              have e107 := (k117 (g.lk M 25) (tg_ne (lo_k11_25 hL _ t_M) (lo_k11_8 hL _ t_M) (by decide))).trans e107
              have hu := hu.st k117 (lo_k11_8 hL _ t_M) (by decide)
              have hk118 : ∀ b, b ≠ (g.lk M 8) → f115 b = f106 b := k117
              have hI119 := iv_1 hI111 hL (lo_k11_8 hL _ t_M) (by decide) hk118 (oc_45.mk (lo_k11_8 hL _ t_M) (⟨_, e116⟩))
              exact pe_vret hx hb hr hlocks hK hP hD hS d_M_spanOf_503 ⟨⟨(mtp - 1), by omega, (TR.mk (fun _ => by omega) (fun _ => by omega) (fun _ _ => by omega)), e4⟩, hI119, hu⟩
            refine lv_aload_n hx hb d_M_spanOf_446 rfl (lv_at hl 2 rfl) ?_
            refine pf_get (v := .ref (g.lk M 25)) (C := "BigRunnerModel") (T := FT10) (N := 45) hx hb (hw10 hB _) (fun _ h9 => h9) hown hK hP (lo_in hL t_M (by decide)) e4 rfl 25 (by decide) (wd_972 hB _) rfl d_M_spanOf_447 ?_
            refine lv_iload_n hx hb d_M_spanOf_450 rfl (lv_at hl 0 rfl) ?_
            obtain ⟨h_121, e120⟩ := oc_57.of (lo_k11_25 hL _ t_M) (hI1_99.1 (g.lk M 25))
            refine pf_zald (i := (mtp - 1) - 1) hx hb hK hP (lo_in hL (lo_k11_25 hL _ t_M) (by decide)) e120 (lo_t57 hL _ (lo_k11_25 hL _ t_M)) (by omega) (by decide) d_M_spanOf_451 ?_
            refine lv_topi (fun iv123 _ => ?_)
            refine lv_if_eq (tgt := 489) hx hb d_M_spanOf_452 (by decide) (fun b124 => ?_) (fun b124 => ?_)
            · skip
              refine lv_iconst (v := nI 0) hx hb d_M_spanOf_489 (by decide) ?_
              exact jn101 ((nI 0)) _ _ hP hD hS
            · skip
              refine lv_aload_n hx hb d_M_spanOf_455 rfl (lv_at hl 2 rfl) ?_
              refine pf_get (v := .ref (g.lk M 25)) (C := "BigRunnerModel") (T := FT10) (N := 45) hx hb (hw10 hB _) (fun _ h9 => h9) hown hK hP (lo_in hL t_M (by decide)) e4 rfl 25 (by decide) (wd_972 hB _) rfl d_M_spanOf_456 ?_
              refine lv_aload_n hx hb d_M_spanOf_459 rfl (lv_at hl 2 rfl) ?_
              refine pf_get (v := .int (nI (mtp - 1))) (C := "BigRunnerModel") (T := FT10) (N := 45) hx hb (hw10 hB _) (fun _ h9 => h9) hown hK hP (lo_in hL t_M (by decide)) e4 rfl 32 (by decide) (wd_979 hB _) rfl d_M_spanOf_460 ?_
              refine pf_zald (i := mtp - 1) hx hb hK hP (lo_in hL (lo_k11_25 hL _ t_M) (by decide)) e120 (lo_t57 hL _ (lo_k11_25 hL _ t_M)) (by omega) (by decide) d_M_spanOf_463 ?_
              refine lv_topi (fun iv125 _ => ?_)
              refine lv_if_eq (tgt := 489) hx hb d_M_spanOf_464 (by decide) (fun b126 => ?_) (fun b126 => ?_)
              · skip
                refine lv_iconst (v := nI 0) hx hb d_M_spanOf_489 (by decide) ?_
                exact jn101 ((nI 0)) _ _ hP hD hS
              · skip
                refine lv_aload_n hx hb d_M_spanOf_467 rfl (lv_at hl 2 rfl) ?_
                refine pf_get (v := .ref (g.lk M 23)) (C := "BigRunnerModel") (T := FT10) (N := 45) hx hb (hw10 hB _) (fun _ h9 => h9) hown hK hP (lo_in hL t_M (by decide)) e4 rfl 23 (by decide) (wd_970 hB _) rfl d_M_spanOf_468 ?_
                refine lv_iload_n hx hb d_M_spanOf_471 rfl (lv_at hl 0 rfl) ?_
                obtain ⟨h_128, e127⟩ := oc_55.of (lo_k11_23 hL _ t_M) (hI1_99.1 (g.lk M 23))
                refine pf_zald (i := (mtp - 1) - 1) hx hb hK hP (lo_in hL (lo_k11_23 hL _ t_M) (by decide)) e127 (lo_t55 hL _ (lo_k11_23 hL _ t_M)) (by omega) (by decide) d_M_spanOf_472 ?_
                refine lv_topi (fun iv130 _ => ?_)
                refine lv_if_ne (tgt := 489) hx hb d_M_spanOf_473 (by decide) (fun b131 => ?_) (fun b131 => ?_)
                · skip
                  refine lv_iconst (v := nI 0) hx hb d_M_spanOf_489 (by decide) ?_
                  exact jn101 ((nI 0)) _ _ hP hD hS
                · skip
                  refine lv_aload_n hx hb d_M_spanOf_476 rfl (lv_at hl 2 rfl) ?_
                  refine pf_get (v := .ref (g.lk M 24)) (C := "BigRunnerModel") (T := FT10) (N := 45) hx hb (hw10 hB _) (fun _ h9 => h9) hown hK hP (lo_in hL t_M (by decide)) e4 rfl 24 (by decide) (wd_971 hB _) rfl d_M_spanOf_477 ?_
                  refine lv_iload_n hx hb d_M_spanOf_480 rfl (lv_at hl 0 rfl) ?_
                  obtain ⟨h_133, e132⟩ := oc_56.of (lo_k11_24 hL _ t_M) (hI1_99.1 (g.lk M 24))
                  refine pf_zald (i := (mtp - 1) - 1) hx hb hK hP (lo_in hL (lo_k11_24 hL _ t_M) (by decide)) e132 (lo_t56 hL _ (lo_k11_24 hL _ t_M)) (by omega) (by decide) d_M_spanOf_481 ?_
                  refine lv_topi (fun iv135 _ => ?_)
                  refine lv_if_ne (tgt := 489) hx hb d_M_spanOf_482 (by decide) (fun b136 => ?_) (fun b136 => ?_)
                  · skip
                    refine lv_iconst (v := nI 0) hx hb d_M_spanOf_489 (by decide) ?_
                    exact jn101 ((nI 0)) _ _ hP hD hS
                  · skip
                    refine lv_iconst (v := nI 1) hx hb d_M_spanOf_485 (by decide) ?_
                    refine lv_goto (tgt := 490) hx hb d_M_spanOf_486 (by decide) ?_
                    exact jn101 ((nI 1)) _ _ hP hD hS
        · skip
          replace b8 := (nI_eq (a := w) (b := 3) (by omega) (by omega)).mp b8
          refine lv_aload_n hx hb d_M_spanOf_320 rfl (lv_at hl 2 rfl) ?_
          refine lv_iload_n hx hb d_M_spanOf_321 rfl (lv_at hl 0 rfl) ?_
          refine lv_aload_n hx hb d_M_spanOf_322 rfl (lv_at hl 2 rfl) ?_
          refine pf_get (v := .ref (g.lk M 21)) (C := "BigRunnerModel") (T := FT10) (N := 45) hx hb (hw10 hB _) (fun _ h9 => h9) hown hK hP (lo_in hL t_M (by decide)) e4 rfl 21 (by decide) (wd_968 hB _) rfl d_M_spanOf_323 ?_
          refine lv_iload_n hx hb d_M_spanOf_326 rfl (lv_at hl 0 rfl) ?_
          obtain ⟨h_138, e137⟩ := oc_53.of (lo_k11_21 hL _ t_M) (hI.1 (g.lk M 21))
          replace e137 := (hk6 (g.lk M 21) (tg_ne (lo_k11_21 hL _ t_M) t_M (by decide))).trans e137
          refine pf_lald (i := (mtp - 1) - 1) hx hb hK hP (lo_in hL (lo_k11_21 hL _ t_M) (by decide)) e137 (lo_t53 hL _ (lo_k11_21 hL _ t_M)) (by omega) (by decide) d_M_spanOf_327 ?_
          refine lv_topl (fun lv140 _ => ?_)
          refine lv_aload_n hx hb d_M_spanOf_328 rfl (lv_at hl 2 rfl) ?_
          refine pf_get (v := .ref (g.lk M 22)) (C := "BigRunnerModel") (T := FT10) (N := 45) hx hb (hw10 hB _) (fun _ h9 => h9) hown hK hP (lo_in hL t_M (by decide)) e4 rfl 22 (by decide) (wd_969 hB _) rfl d_M_spanOf_329 ?_
          refine lv_aload_n hx hb d_M_spanOf_332 rfl (lv_at hl 2 rfl) ?_
          refine pf_get (v := .int (nI (mtp - 1))) (C := "BigRunnerModel") (T := FT10) (N := 45) hx hb (hw10 hB _) (fun _ h9 => h9) hown hK hP (lo_in hL t_M (by decide)) e4 rfl 32 (by decide) (wd_979 hB _) rfl d_M_spanOf_333 ?_
          obtain ⟨h_142, e141⟩ := oc_54.of (lo_k11_22 hL _ t_M) (hI.1 (g.lk M 22))
          replace e141 := (hk6 (g.lk M 22) (tg_ne (lo_k11_22 hL _ t_M) t_M (by decide))).trans e141
          refine pf_lald (i := mtp - 1) hx hb hK hP (lo_in hL (lo_k11_22 hL _ t_M) (by decide)) e141 (lo_t54 hL _ (lo_k11_22 hL _ t_M)) (by omega) (by decide) d_M_spanOf_336 ?_
          refine lv_topl (fun lv144 _ => ?_)
          refine lv_lsub hx hb d_M_spanOf_337 ?_
          refine lv_topl (fun lv145 _ => ?_)
          refine lv_aload_n hx hb d_M_spanOf_338 rfl (lv_at hl 2 rfl) ?_
          refine pf_get (v := .ref (g.lk M 22)) (C := "BigRunnerModel") (T := FT10) (N := 45) hx hb (hw10 hB _) (fun _ h9 => h9) hown hK hP (lo_in hL t_M (by decide)) e4 rfl 22 (by decide) (wd_969 hB _) rfl d_M_spanOf_339 ?_
          refine lv_iload_n hx hb d_M_spanOf_342 rfl (lv_at hl 0 rfl) ?_
          refine pf_lald (i := (mtp - 1) - 1) hx hb hK hP (lo_in hL (lo_k11_22 hL _ t_M) (by decide)) e141 (lo_t54 hL _ (lo_k11_22 hL _ t_M)) (by omega) (by decide) d_M_spanOf_343 ?_
          refine lv_topl (fun lv146 _ => ?_)
          refine lv_aload_n hx hb d_M_spanOf_344 rfl (lv_at hl 2 rfl) ?_
          refine pf_get (v := .ref (g.lk M 21)) (C := "BigRunnerModel") (T := FT10) (N := 45) hx hb (hw10 hB _) (fun _ h9 => h9) hown hK hP (lo_in hL t_M (by decide)) e4 rfl 21 (by decide) (wd_968 hB _) rfl d_M_spanOf_345 ?_
          refine lv_aload_n hx hb d_M_spanOf_348 rfl (lv_at hl 2 rfl) ?_
          refine pf_get (v := .int (nI (mtp - 1))) (C := "BigRunnerModel") (T := FT10) (N := 45) hx hb (hw10 hB _) (fun _ h9 => h9) hown hK hP (lo_in hL t_M (by decide)) e4 rfl 32 (by decide) (wd_979 hB _) rfl d_M_spanOf_349 ?_
          refine pf_lald (i := mtp - 1) hx hb hK hP (lo_in hL (lo_k11_21 hL _ t_M) (by decide)) e137 (lo_t53 hL _ (lo_k11_21 hL _ t_M)) (by omega) (by decide) d_M_spanOf_352 ?_
          refine lv_topl (fun lv147 _ => ?_)
          refine lv_lsub hx hb d_M_spanOf_353 ?_
          refine lv_topl (fun lv148 _ => ?_)
          have jn149 : ∀ (bj150 : Int32) (H : Heap) (locs : List Loc), va_P g.D vcl (va_pl g.LP f3) H → va_D (pc_A g s.heap.size) (va_pl g.LP f3) → va_S (pc_A g s.heap.size) s.heap H locs → W p l e ({ frames := 3, cells := 0, slots := 0, locals := 77 }) s m args below meth c H locs 0 0 (MQ below (va_Qv (fun f1 => (∃ (tp1 : Nat), (tp1 ≤ 80) ∧ (TR w mtp tp1) ∧ f1 M = .inr (10, [.int mth, .ref (g.lk M 1), .int (nI mn), .ref (g.lk M 3), .ref (g.lk M 4), .int (nI mdr), .ref (g.lk M 6), .ref (g.lk M 7), .ref (g.lk M 8), .int (nI msz), .int (nI mix), .int (nI mdp), .ref (g.lk M 12), .int (nI mwt), .ref (g.lk M 14), .ref (g.lk M 15), .int (nI mop), .ref (g.lk M 17), .ref (g.lk M 18), .ref (g.lk M 19), .ref (g.lk M 20), .ref (g.lk M 21), .ref (g.lk M 22), .ref (g.lk M 23), .ref (g.lk M 24), .ref (g.lk M 25), .ref (g.lk M 26), .ref (g.lk M 27), .ref (g.lk M 28), .ref (g.lk M 29), .ref (g.lk M 30), .ref (g.lk M 31), .int (nI tp1), .ref (g.lk M 33), .ref (g.lk M 34), .ref (g.lk M 35), .int (nI mwa), .int (nI mgi), .int (nI mpc), .int (nI mst), .int (nI mtr), .int (nI msp), .int mma, .int mlg, .int mdu])) ∧ (IV g f1) ∧ (un [11, 45, 53, 54, 55, 56, 57] g f f1)) (pc_out g s.heap.size) (pc_A g s.heap.size)) args s 0 0 (pc_A g s.heap.size)) (F0 m 380 ls [.int bj150, .long lv148, .long lv145, .int (nI ((mtp - 1) - 1)), .ref M]) := by
            intro bj150 H locs hP hD hS
            have jn151 : ∀ (bj152 : Int32) (H : Heap) (locs : List Loc), va_P g.D vcl (va_pl g.LP f3) H → va_D (pc_A g s.heap.size) (va_pl g.LP f3) → va_S (pc_A g s.heap.size) s.heap H locs → W p l e ({ frames := 3, cells := 0, slots := 0, locals := 77 }) s m args below meth c H locs 0 0 (MQ below (va_Qv (fun f1 => (∃ (tp1 : Nat), (tp1 ≤ 80) ∧ (TR w mtp tp1) ∧ f1 M = .inr (10, [.int mth, .ref (g.lk M 1), .int (nI mn), .ref (g.lk M 3), .ref (g.lk M 4), .int (nI mdr), .ref (g.lk M 6), .ref (g.lk M 7), .ref (g.lk M 8), .int (nI msz), .int (nI mix), .int (nI mdp), .ref (g.lk M 12), .int (nI mwt), .ref (g.lk M 14), .ref (g.lk M 15), .int (nI mop), .ref (g.lk M 17), .ref (g.lk M 18), .ref (g.lk M 19), .ref (g.lk M 20), .ref (g.lk M 21), .ref (g.lk M 22), .ref (g.lk M 23), .ref (g.lk M 24), .ref (g.lk M 25), .ref (g.lk M 26), .ref (g.lk M 27), .ref (g.lk M 28), .ref (g.lk M 29), .ref (g.lk M 30), .ref (g.lk M 31), .int (nI tp1), .ref (g.lk M 33), .ref (g.lk M 34), .ref (g.lk M 35), .int (nI mwa), .int (nI mgi), .int (nI mpc), .int (nI mst), .int (nI mtr), .int (nI msp), .int mma, .int mlg, .int mdu])) ∧ (IV g f1) ∧ (un [11, 45, 53, 54, 55, 56, 57] g f f1)) (pc_out g s.heap.size) (pc_A g s.heap.size)) args s 0 0 (pc_A g s.heap.size)) (F0 m 406 ls [.int bj152, .int bj150, .long lv148, .long lv145, .int (nI ((mtp - 1) - 1)), .ref M]) := by
              intro bj152 H locs hP hD hS
              have hI153 := iv_1 hI hL t_M (by decide) hk6 (oc_11.mk t_M (⟨mth, mn, mdr, msz, mix, mdp, mwt, mop, (mtp - 1), mwa, mgi, mpc, mst, mtr, msp, mma, mlg, mdu, e4, (by omega), (by omega), (by omega), (by omega), (by omega), (by omega), (by omega), (by omega), (by omega), (by omega), (by omega), (by omega), (by omega), (by omega), hmb14⟩))
              refine pcc_v (va_runV (C := "BigRunnerModel") (As := [.int (nI ((mtp - 1) - 1)), .long lv145, .long lv148, .int bj150, .int bj152]) (rest := []) ⟨hx, hb, hml, hown, tb_nil⟩ (m_interval l g H.size f3 M (((mtp - 1) - 1)) lv145 lv148 bj150 bj152 hL t_M hI153 (by omega)) ⟨(callB_of 5 (tb_one (wd_1160 hB _)) tb_good1 rfl rfl rfl (wd_82 hB _) (wd_1157 hB _) (by decide +kernel) ⟨Nat.le_of_ble_eq_true rfl, Nat.le_of_ble_eq_true rfl⟩), (wd_1159 hB _), (wd_53 hB _)⟩ ⟨pe_bl, pg_recv (ci := 10) hK hP (lo_in hL t_M (by decide)) e4 rfl, pe_pre hB hK hP hD⟩ rfl rfl hl.1 rfl (lv_room (Nat.le_of_ble_eq_true rfl)) d_M_spanOf_406 ⟨Nat.le_of_ble_eq_true rfl, Nat.le_of_ble_eq_true rfl⟩) hS (fun f155 H locs hq156 hP hD hS => ?_)
              obtain ⟨hI1_157, hu1_158⟩ := hq156
              have hu := hu.tr hu1_158 (by decide)
              have eC := hu1_158.at (lo_k11_6 hL _ t_M) (by decide) eC
              have eA := hu1_158.at (lo_k11_7 hL _ t_M) (by decide) eA
              have e4 := hu1_158.at t_M (by decide) e4
              refine lv_goto (tgt := 441) hx hb d_M_spanOf_409 (by decide) ?_
              refine lv_aload_n hx hb d_M_spanOf_441 rfl (lv_at hl 2 rfl) ?_
              refine pf_get (v := .ref (g.lk M 25)) (C := "BigRunnerModel") (T := FT10) (N := 45) hx hb (hw10 hB _) (fun _ h9 => h9) hown hK hP (lo_in hL t_M (by decide)) e4 rfl 25 (by decide) (wd_972 hB _) rfl d_M_spanOf_442 ?_
              refine lv_iload_n hx hb d_M_spanOf_445 rfl (lv_at hl 0 rfl) ?_
              have jn159 : ∀ (bj160 : Int32) (H : Heap) (locs : List Loc), va_P g.D vcl (va_pl g.LP f155) H → va_D (pc_A g s.heap.size) (va_pl g.LP f155) → va_S (pc_A g s.heap.size) s.heap H locs → W p l e ({ frames := 3, cells := 0, slots := 0, locals := 77 }) s m args below meth c H locs 0 0 (MQ below (va_Qv (fun f1 => (∃ (tp1 : Nat), (tp1 ≤ 80) ∧ (TR w mtp tp1) ∧ f1 M = .inr (10, [.int mth, .ref (g.lk M 1), .int (nI mn), .ref (g.lk M 3), .ref (g.lk M 4), .int (nI mdr), .ref (g.lk M 6), .ref (g.lk M 7), .ref (g.lk M 8), .int (nI msz), .int (nI mix), .int (nI mdp), .ref (g.lk M 12), .int (nI mwt), .ref (g.lk M 14), .ref (g.lk M 15), .int (nI mop), .ref (g.lk M 17), .ref (g.lk M 18), .ref (g.lk M 19), .ref (g.lk M 20), .ref (g.lk M 21), .ref (g.lk M 22), .ref (g.lk M 23), .ref (g.lk M 24), .ref (g.lk M 25), .ref (g.lk M 26), .ref (g.lk M 27), .ref (g.lk M 28), .ref (g.lk M 29), .ref (g.lk M 30), .ref (g.lk M 31), .int (nI tp1), .ref (g.lk M 33), .ref (g.lk M 34), .ref (g.lk M 35), .int (nI mwa), .int (nI mgi), .int (nI mpc), .int (nI mst), .int (nI mtr), .int (nI msp), .int mma, .int mlg, .int mdu])) ∧ (IV g f1) ∧ (un [11, 45, 53, 54, 55, 56, 57] g f f1)) (pc_out g s.heap.size) (pc_A g s.heap.size)) args s 0 0 (pc_A g s.heap.size)) (F0 m 490 ls [.int bj160, .int (nI ((mtp - 1) - 1)), .ref (g.lk M 25)]) := by
                intro bj160 H locs hP hD hS
                obtain ⟨h_162, e161⟩ := oc_57.of (lo_k11_25 hL _ t_M) (hI1_157.1 (g.lk M 25))
                refine pf_zast (i := (mtp - 1) - 1) hx hb hK hP hD hS (lo_in hL (lo_k11_25 hL _ t_M) (by decide)) e161 (lo_t57 hL _ (lo_k11_25 hL _ t_M)) (by omega) (by decide) d_M_spanOf_490 (fun f164 H locs e165 k166 hP hD hS => ?_)
                have eC := (k166 (g.lk M 6) (tg_ne (lo_k11_6 hL _ t_M) (lo_k11_25 hL _ t_M) (by decide))).trans eC
                have eA := (k166 (g.lk M 7) (tg_ne (lo_k11_7 hL _ t_M) (lo_k11_25 hL _ t_M) (by decide))).trans eA
                have e4 := (k166 M (tg_ne t_M (lo_k11_25 hL _ t_M) (by decide))).trans e4
                have hu := hu.st k166 (lo_k11_25 hL _ t_M) (by decide)
                have hk167 : ∀ b, b ≠ (g.lk M 25) → f164 b = f155 b := k166
                refine lv_aload_n hx hb d_M_spanOf_491 rfl (lv_at hl 2 rfl) ?_
                refine pf_get (v := .ref (g.lk M 8)) (C := "BigRunnerModel") (T := FT10) (N := 45) hx hb (hw10 hB _) (fun _ h9 => h9) hown hK hP (lo_in hL t_M (by decide)) e4 rfl 8 (by decide) (wd_955 hB _) rfl d_M_spanOf_492 ?_
                refine lv_iload_n hx hb d_M_spanOf_495 rfl (lv_at hl 3 rfl) ?_
                refine lv_aload_n hx hb d_M_spanOf_496 rfl (lv_at hl 2 rfl) ?_
                refine pf_get (v := .ref (g.lk M 25)) (C := "BigRunnerModel") (T := FT10) (N := 45) hx hb (hw10 hB _) (fun _ h9 => h9) hown hK hP (lo_in hL t_M (by decide)) e4 rfl 25 (by decide) (wd_972 hB _) rfl d_M_spanOf_497 ?_
                refine lv_iload_n hx hb d_M_spanOf_500 rfl (lv_at hl 0 rfl) ?_
                refine pf_zald (i := (mtp - 1) - 1) hx hb hK hP (lo_in hL (lo_k11_25 hL _ t_M) (by decide)) e165 (lo_t57 hL _ (lo_k11_25 hL _ t_M)) (by omega) (by decide) d_M_spanOf_501 ?_
                refine lv_topi (fun iv168 _ => ?_)
                have hI169 := iv_1 hI1_157 hL (lo_k11_25 hL _ t_M) (by decide) hk167 (oc_57.mk (lo_k11_25 hL _ t_M) (⟨_, e165⟩))
                obtain ⟨h_171, e170⟩ := oc_45.of (lo_k11_8 hL _ t_M) (hI169.1 (g.lk M 8))
                refine pf_zast (i := p9) hx hb hK hP hD hS (lo_in hL (lo_k11_8 hL _ t_M) (by decide)) e170 (lo_t45 hL _ (lo_k11_8 hL _ t_M)) (by omega) (by decide) d_M_spanOf_502 (fun f173 H locs e174 k175 hP hD hS => ?_)
                have eC := (k175 (g.lk M 6) (tg_ne (lo_k11_6 hL _ t_M) (lo_k11_8 hL _ t_M) (by decide))).trans eC
                have eA := (k175 (g.lk M 7) (tg_ne (lo_k11_7 hL _ t_M) (lo_k11_8 hL _ t_M) (by decide))).trans eA
                have e4 := (k175 M (tg_ne t_M (lo_k11_8 hL _ t_M) (by decide))).trans e4
                have e165 := (k175 (g.lk M 25) (tg_ne (lo_k11_25 hL _ t_M) (lo_k11_8 hL _ t_M) (by decide))).trans e165
                have hu := hu.st k175 (lo_k11_8 hL _ t_M) (by decide)
                have hk176 : ∀ b, b ≠ (g.lk M 8) → f173 b = f164 b := k175
                have hI177 := iv_1 hI169 hL (lo_k11_8 hL _ t_M) (by decide) hk176 (oc_45.mk (lo_k11_8 hL _ t_M) (⟨_, e174⟩))
                exact pe_vret hx hb hr hlocks hK hP hD hS d_M_spanOf_503 ⟨⟨(mtp - 1), by omega, (TR.mk (fun _ => by omega) (fun _ => by omega) (fun _ _ => by omega)), e4⟩, hI177, hu⟩
              refine lv_aload_n hx hb d_M_spanOf_446 rfl (lv_at hl 2 rfl) ?_
              refine pf_get (v := .ref (g.lk M 25)) (C := "BigRunnerModel") (T := FT10) (N := 45) hx hb (hw10 hB _) (fun _ h9 => h9) hown hK hP (lo_in hL t_M (by decide)) e4 rfl 25 (by decide) (wd_972 hB _) rfl d_M_spanOf_447 ?_
              refine lv_iload_n hx hb d_M_spanOf_450 rfl (lv_at hl 0 rfl) ?_
              obtain ⟨h_179, e178⟩ := oc_57.of (lo_k11_25 hL _ t_M) (hI1_157.1 (g.lk M 25))
              refine pf_zald (i := (mtp - 1) - 1) hx hb hK hP (lo_in hL (lo_k11_25 hL _ t_M) (by decide)) e178 (lo_t57 hL _ (lo_k11_25 hL _ t_M)) (by omega) (by decide) d_M_spanOf_451 ?_
              refine lv_topi (fun iv181 _ => ?_)
              refine lv_if_eq (tgt := 489) hx hb d_M_spanOf_452 (by decide) (fun b182 => ?_) (fun b182 => ?_)
              · skip
                refine lv_iconst (v := nI 0) hx hb d_M_spanOf_489 (by decide) ?_
                exact jn159 ((nI 0)) _ _ hP hD hS
              · skip
                refine lv_aload_n hx hb d_M_spanOf_455 rfl (lv_at hl 2 rfl) ?_
                refine pf_get (v := .ref (g.lk M 25)) (C := "BigRunnerModel") (T := FT10) (N := 45) hx hb (hw10 hB _) (fun _ h9 => h9) hown hK hP (lo_in hL t_M (by decide)) e4 rfl 25 (by decide) (wd_972 hB _) rfl d_M_spanOf_456 ?_
                refine lv_aload_n hx hb d_M_spanOf_459 rfl (lv_at hl 2 rfl) ?_
                refine pf_get (v := .int (nI (mtp - 1))) (C := "BigRunnerModel") (T := FT10) (N := 45) hx hb (hw10 hB _) (fun _ h9 => h9) hown hK hP (lo_in hL t_M (by decide)) e4 rfl 32 (by decide) (wd_979 hB _) rfl d_M_spanOf_460 ?_
                refine pf_zald (i := mtp - 1) hx hb hK hP (lo_in hL (lo_k11_25 hL _ t_M) (by decide)) e178 (lo_t57 hL _ (lo_k11_25 hL _ t_M)) (by omega) (by decide) d_M_spanOf_463 ?_
                refine lv_topi (fun iv183 _ => ?_)
                refine lv_if_eq (tgt := 489) hx hb d_M_spanOf_464 (by decide) (fun b184 => ?_) (fun b184 => ?_)
                · skip
                  refine lv_iconst (v := nI 0) hx hb d_M_spanOf_489 (by decide) ?_
                  exact jn159 ((nI 0)) _ _ hP hD hS
                · skip
                  refine lv_aload_n hx hb d_M_spanOf_467 rfl (lv_at hl 2 rfl) ?_
                  refine pf_get (v := .ref (g.lk M 23)) (C := "BigRunnerModel") (T := FT10) (N := 45) hx hb (hw10 hB _) (fun _ h9 => h9) hown hK hP (lo_in hL t_M (by decide)) e4 rfl 23 (by decide) (wd_970 hB _) rfl d_M_spanOf_468 ?_
                  refine lv_iload_n hx hb d_M_spanOf_471 rfl (lv_at hl 0 rfl) ?_
                  obtain ⟨h_186, e185⟩ := oc_55.of (lo_k11_23 hL _ t_M) (hI1_157.1 (g.lk M 23))
                  refine pf_zald (i := (mtp - 1) - 1) hx hb hK hP (lo_in hL (lo_k11_23 hL _ t_M) (by decide)) e185 (lo_t55 hL _ (lo_k11_23 hL _ t_M)) (by omega) (by decide) d_M_spanOf_472 ?_
                  refine lv_topi (fun iv188 _ => ?_)
                  refine lv_if_ne (tgt := 489) hx hb d_M_spanOf_473 (by decide) (fun b189 => ?_) (fun b189 => ?_)
                  · skip
                    refine lv_iconst (v := nI 0) hx hb d_M_spanOf_489 (by decide) ?_
                    exact jn159 ((nI 0)) _ _ hP hD hS
                  · skip
                    refine lv_aload_n hx hb d_M_spanOf_476 rfl (lv_at hl 2 rfl) ?_
                    refine pf_get (v := .ref (g.lk M 24)) (C := "BigRunnerModel") (T := FT10) (N := 45) hx hb (hw10 hB _) (fun _ h9 => h9) hown hK hP (lo_in hL t_M (by decide)) e4 rfl 24 (by decide) (wd_971 hB _) rfl d_M_spanOf_477 ?_
                    refine lv_iload_n hx hb d_M_spanOf_480 rfl (lv_at hl 0 rfl) ?_
                    obtain ⟨h_191, e190⟩ := oc_56.of (lo_k11_24 hL _ t_M) (hI1_157.1 (g.lk M 24))
                    refine pf_zald (i := (mtp - 1) - 1) hx hb hK hP (lo_in hL (lo_k11_24 hL _ t_M) (by decide)) e190 (lo_t56 hL _ (lo_k11_24 hL _ t_M)) (by omega) (by decide) d_M_spanOf_481 ?_
                    refine lv_topi (fun iv193 _ => ?_)
                    refine lv_if_ne (tgt := 489) hx hb d_M_spanOf_482 (by decide) (fun b194 => ?_) (fun b194 => ?_)
                    · skip
                      refine lv_iconst (v := nI 0) hx hb d_M_spanOf_489 (by decide) ?_
                      exact jn159 ((nI 0)) _ _ hP hD hS
                    · skip
                      refine lv_iconst (v := nI 1) hx hb d_M_spanOf_485 (by decide) ?_
                      refine lv_goto (tgt := 490) hx hb d_M_spanOf_486 (by decide) ?_
                      exact jn159 ((nI 1)) _ _ hP hD hS
            refine lv_aload_n hx hb d_M_spanOf_380 rfl (lv_at hl 2 rfl) ?_
            refine pf_get (v := .ref (g.lk M 24)) (C := "BigRunnerModel") (T := FT10) (N := 45) hx hb (hw10 hB _) (fun _ h9 => h9) hown hK hP (lo_in hL t_M (by decide)) e4 rfl 24 (by decide) (wd_971 hB _) rfl d_M_spanOf_381 ?_
            refine lv_iload_n hx hb d_M_spanOf_384 rfl (lv_at hl 0 rfl) ?_
            obtain ⟨h_196, e195⟩ := oc_56.of (lo_k11_24 hL _ t_M) (hI.1 (g.lk M 24))
            replace e195 := (hk6 (g.lk M 24) (tg_ne (lo_k11_24 hL _ t_M) t_M (by decide))).trans e195
            refine pf_zald (i := (mtp - 1) - 1) hx hb hK hP (lo_in hL (lo_k11_24 hL _ t_M) (by decide)) e195 (lo_t56 hL _ (lo_k11_24 hL _ t_M)) (by omega) (by decide) d_M_spanOf_385 ?_
            refine lv_topi (fun iv198 _ => ?_)
            refine lv_if_ne (tgt := 401) hx hb d_M_spanOf_386 (by decide) (fun b199 => ?_) (fun b199 => ?_)
            · skip
              refine lv_iconst (v := nI 1) hx hb d_M_spanOf_401 (by decide) ?_
              refine lv_goto (tgt := 406) hx hb d_M_spanOf_402 (by decide) ?_
              exact jn151 ((nI 1)) _ _ hP hD hS
            · skip
              refine lv_aload_n hx hb d_M_spanOf_389 rfl (lv_at hl 2 rfl) ?_
              refine pf_get (v := .ref (g.lk M 23)) (C := "BigRunnerModel") (T := FT10) (N := 45) hx hb (hw10 hB _) (fun _ h9 => h9) hown hK hP (lo_in hL t_M (by decide)) e4 rfl 23 (by decide) (wd_970 hB _) rfl d_M_spanOf_390 ?_
              refine lv_aload_n hx hb d_M_spanOf_393 rfl (lv_at hl 2 rfl) ?_
              refine pf_get (v := .int (nI (mtp - 1))) (C := "BigRunnerModel") (T := FT10) (N := 45) hx hb (hw10 hB _) (fun _ h9 => h9) hown hK hP (lo_in hL t_M (by decide)) e4 rfl 32 (by decide) (wd_979 hB _) rfl d_M_spanOf_394 ?_
              obtain ⟨h_201, e200⟩ := oc_55.of (lo_k11_23 hL _ t_M) (hI.1 (g.lk M 23))
              replace e200 := (hk6 (g.lk M 23) (tg_ne (lo_k11_23 hL _ t_M) t_M (by decide))).trans e200
              refine pf_zald (i := mtp - 1) hx hb hK hP (lo_in hL (lo_k11_23 hL _ t_M) (by decide)) e200 (lo_t55 hL _ (lo_k11_23 hL _ t_M)) (by omega) (by decide) d_M_spanOf_397 ?_
              refine lv_topi (fun iv203 _ => ?_)
              refine lv_if_eq (tgt := 405) hx hb d_M_spanOf_398 (by decide) (fun b204 => ?_) (fun b204 => ?_)
              · skip
                refine lv_iconst (v := nI 0) hx hb d_M_spanOf_405 (by decide) ?_
                exact jn151 ((nI 0)) _ _ hP hD hS
              · skip
                refine lv_iconst (v := nI 1) hx hb d_M_spanOf_401 (by decide) ?_
                refine lv_goto (tgt := 406) hx hb d_M_spanOf_402 (by decide) ?_
                exact jn151 ((nI 1)) _ _ hP hD hS
          refine lv_aload_n hx hb d_M_spanOf_354 rfl (lv_at hl 2 rfl) ?_
          refine pf_get (v := .ref (g.lk M 23)) (C := "BigRunnerModel") (T := FT10) (N := 45) hx hb (hw10 hB _) (fun _ h9 => h9) hown hK hP (lo_in hL t_M (by decide)) e4 rfl 23 (by decide) (wd_970 hB _) rfl d_M_spanOf_355 ?_
          refine lv_iload_n hx hb d_M_spanOf_358 rfl (lv_at hl 0 rfl) ?_
          obtain ⟨h_206, e205⟩ := oc_55.of (lo_k11_23 hL _ t_M) (hI.1 (g.lk M 23))
          replace e205 := (hk6 (g.lk M 23) (tg_ne (lo_k11_23 hL _ t_M) t_M (by decide))).trans e205
          refine pf_zald (i := (mtp - 1) - 1) hx hb hK hP (lo_in hL (lo_k11_23 hL _ t_M) (by decide)) e205 (lo_t55 hL _ (lo_k11_23 hL _ t_M)) (by omega) (by decide) d_M_spanOf_359 ?_
          refine lv_topi (fun iv208 _ => ?_)
          refine lv_if_ne (tgt := 375) hx hb d_M_spanOf_360 (by decide) (fun b209 => ?_) (fun b209 => ?_)
          · skip
            refine lv_iconst (v := nI 1) hx hb d_M_spanOf_375 (by decide) ?_
            refine lv_goto (tgt := 380) hx hb d_M_spanOf_376 (by decide) ?_
            exact jn149 ((nI 1)) _ _ hP hD hS
          · skip
            refine lv_aload_n hx hb d_M_spanOf_363 rfl (lv_at hl 2 rfl) ?_
            refine pf_get (v := .ref (g.lk M 24)) (C := "BigRunnerModel") (T := FT10) (N := 45) hx hb (hw10 hB _) (fun _ h9 => h9) hown hK hP (lo_in hL t_M (by decide)) e4 rfl 24 (by decide) (wd_971 hB _) rfl d_M_spanOf_364 ?_
            refine lv_aload_n hx hb d_M_spanOf_367 rfl (lv_at hl 2 rfl) ?_
            refine pf_get (v := .int (nI (mtp - 1))) (C := "BigRunnerModel") (T := FT10) (N := 45) hx hb (hw10 hB _) (fun _ h9 => h9) hown hK hP (lo_in hL t_M (by decide)) e4 rfl 32 (by decide) (wd_979 hB _) rfl d_M_spanOf_368 ?_
            obtain ⟨h_211, e210⟩ := oc_56.of (lo_k11_24 hL _ t_M) (hI.1 (g.lk M 24))
            replace e210 := (hk6 (g.lk M 24) (tg_ne (lo_k11_24 hL _ t_M) t_M (by decide))).trans e210
            refine pf_zald (i := mtp - 1) hx hb hK hP (lo_in hL (lo_k11_24 hL _ t_M) (by decide)) e210 (lo_t56 hL _ (lo_k11_24 hL _ t_M)) (by omega) (by decide) d_M_spanOf_371 ?_
            refine lv_topi (fun iv213 _ => ?_)
            refine lv_if_eq (tgt := 379) hx hb d_M_spanOf_372 (by decide) (fun b214 => ?_) (fun b214 => ?_)
            · skip
              refine lv_iconst (v := nI 0) hx hb d_M_spanOf_379 (by decide) ?_
              exact jn149 ((nI 0)) _ _ hP hD hS
            · skip
              refine lv_iconst (v := nI 1) hx hb d_M_spanOf_375 (by decide) ?_
              refine lv_goto (tgt := 380) hx hb d_M_spanOf_376 (by decide) ?_
              exact jn149 ((nI 1)) _ _ hP hD hS
      · skip
        replace b7 := (nI_eq (a := w) (b := 2) (by omega) (by omega)).mp b7
        refine lv_aload_n hx hb d_M_spanOf_223 rfl (lv_at hl 2 rfl) ?_
        refine lv_iload_n hx hb d_M_spanOf_224 rfl (lv_at hl 0 rfl) ?_
        refine lv_aload_n hx hb d_M_spanOf_225 rfl (lv_at hl 2 rfl) ?_
        refine pf_get (v := .ref (g.lk M 21)) (C := "BigRunnerModel") (T := FT10) (N := 45) hx hb (hw10 hB _) (fun _ h9 => h9) hown hK hP (lo_in hL t_M (by decide)) e4 rfl 21 (by decide) (wd_968 hB _) rfl d_M_spanOf_226 ?_
        refine lv_iload_n hx hb d_M_spanOf_229 rfl (lv_at hl 0 rfl) ?_
        obtain ⟨h_216, e215⟩ := oc_53.of (lo_k11_21 hL _ t_M) (hI.1 (g.lk M 21))
        replace e215 := (hk6 (g.lk M 21) (tg_ne (lo_k11_21 hL _ t_M) t_M (by decide))).trans e215
        refine pf_lald (i := (mtp - 1) - 1) hx hb hK hP (lo_in hL (lo_k11_21 hL _ t_M) (by decide)) e215 (lo_t53 hL _ (lo_k11_21 hL _ t_M)) (by omega) (by decide) d_M_spanOf_230 ?_
        refine lv_topl (fun lv218 _ => ?_)
        refine lv_aload_n hx hb d_M_spanOf_231 rfl (lv_at hl 2 rfl) ?_
        refine pf_get (v := .ref (g.lk M 21)) (C := "BigRunnerModel") (T := FT10) (N := 45) hx hb (hw10 hB _) (fun _ h9 => h9) hown hK hP (lo_in hL t_M (by decide)) e4 rfl 21 (by decide) (wd_968 hB _) rfl d_M_spanOf_232 ?_
        refine lv_aload_n hx hb d_M_spanOf_235 rfl (lv_at hl 2 rfl) ?_
        refine pf_get (v := .int (nI (mtp - 1))) (C := "BigRunnerModel") (T := FT10) (N := 45) hx hb (hw10 hB _) (fun _ h9 => h9) hown hK hP (lo_in hL t_M (by decide)) e4 rfl 32 (by decide) (wd_979 hB _) rfl d_M_spanOf_236 ?_
        refine pf_lald (i := mtp - 1) hx hb hK hP (lo_in hL (lo_k11_21 hL _ t_M) (by decide)) e215 (lo_t53 hL _ (lo_k11_21 hL _ t_M)) (by omega) (by decide) d_M_spanOf_239 ?_
        refine lv_topl (fun lv219 _ => ?_)
        refine lv_ladd hx hb d_M_spanOf_240 ?_
        refine lv_topl (fun lv220 _ => ?_)
        refine lv_aload_n hx hb d_M_spanOf_241 rfl (lv_at hl 2 rfl) ?_
        refine pf_get (v := .ref (g.lk M 22)) (C := "BigRunnerModel") (T := FT10) (N := 45) hx hb (hw10 hB _) (fun _ h9 => h9) hown hK hP (lo_in hL t_M (by decide)) e4 rfl 22 (by decide) (wd_969 hB _) rfl d_M_spanOf_242 ?_
        refine lv_iload_n hx hb d_M_spanOf_245 rfl (lv_at hl 0 rfl) ?_
        obtain ⟨h_222, e221⟩ := oc_54.of (lo_k11_22 hL _ t_M) (hI.1 (g.lk M 22))
        replace e221 := (hk6 (g.lk M 22) (tg_ne (lo_k11_22 hL _ t_M) t_M (by decide))).trans e221
        refine pf_lald (i := (mtp - 1) - 1) hx hb hK hP (lo_in hL (lo_k11_22 hL _ t_M) (by decide)) e221 (lo_t54 hL _ (lo_k11_22 hL _ t_M)) (by omega) (by decide) d_M_spanOf_246 ?_
        refine lv_topl (fun lv224 _ => ?_)
        refine lv_aload_n hx hb d_M_spanOf_247 rfl (lv_at hl 2 rfl) ?_
        refine pf_get (v := .ref (g.lk M 22)) (C := "BigRunnerModel") (T := FT10) (N := 45) hx hb (hw10 hB _) (fun _ h9 => h9) hown hK hP (lo_in hL t_M (by decide)) e4 rfl 22 (by decide) (wd_969 hB _) rfl d_M_spanOf_248 ?_
        refine lv_aload_n hx hb d_M_spanOf_251 rfl (lv_at hl 2 rfl) ?_
        refine pf_get (v := .int (nI (mtp - 1))) (C := "BigRunnerModel") (T := FT10) (N := 45) hx hb (hw10 hB _) (fun _ h9 => h9) hown hK hP (lo_in hL t_M (by decide)) e4 rfl 32 (by decide) (wd_979 hB _) rfl d_M_spanOf_252 ?_
        refine pf_lald (i := mtp - 1) hx hb hK hP (lo_in hL (lo_k11_22 hL _ t_M) (by decide)) e221 (lo_t54 hL _ (lo_k11_22 hL _ t_M)) (by omega) (by decide) d_M_spanOf_255 ?_
        refine lv_topl (fun lv225 _ => ?_)
        refine lv_ladd hx hb d_M_spanOf_256 ?_
        refine lv_topl (fun lv226 _ => ?_)
        have jn227 : ∀ (bj228 : Int32) (H : Heap) (locs : List Loc), va_P g.D vcl (va_pl g.LP f3) H → va_D (pc_A g s.heap.size) (va_pl g.LP f3) → va_S (pc_A g s.heap.size) s.heap H locs → W p l e ({ frames := 3, cells := 0, slots := 0, locals := 77 }) s m args below meth c H locs 0 0 (MQ below (va_Qv (fun f1 => (∃ (tp1 : Nat), (tp1 ≤ 80) ∧ (TR w mtp tp1) ∧ f1 M = .inr (10, [.int mth, .ref (g.lk M 1), .int (nI mn), .ref (g.lk M 3), .ref (g.lk M 4), .int (nI mdr), .ref (g.lk M 6), .ref (g.lk M 7), .ref (g.lk M 8), .int (nI msz), .int (nI mix), .int (nI mdp), .ref (g.lk M 12), .int (nI mwt), .ref (g.lk M 14), .ref (g.lk M 15), .int (nI mop), .ref (g.lk M 17), .ref (g.lk M 18), .ref (g.lk M 19), .ref (g.lk M 20), .ref (g.lk M 21), .ref (g.lk M 22), .ref (g.lk M 23), .ref (g.lk M 24), .ref (g.lk M 25), .ref (g.lk M 26), .ref (g.lk M 27), .ref (g.lk M 28), .ref (g.lk M 29), .ref (g.lk M 30), .ref (g.lk M 31), .int (nI tp1), .ref (g.lk M 33), .ref (g.lk M 34), .ref (g.lk M 35), .int (nI mwa), .int (nI mgi), .int (nI mpc), .int (nI mst), .int (nI mtr), .int (nI msp), .int mma, .int mlg, .int mdu])) ∧ (IV g f1) ∧ (un [11, 45, 53, 54, 55, 56, 57] g f f1)) (pc_out g s.heap.size) (pc_A g s.heap.size)) args s 0 0 (pc_A g s.heap.size)) (F0 m 283 ls [.int bj228, .long lv226, .long lv220, .int (nI ((mtp - 1) - 1)), .ref M]) := by
          intro bj228 H locs hP hD hS
          have jn229 : ∀ (bj230 : Int32) (H : Heap) (locs : List Loc), va_P g.D vcl (va_pl g.LP f3) H → va_D (pc_A g s.heap.size) (va_pl g.LP f3) → va_S (pc_A g s.heap.size) s.heap H locs → W p l e ({ frames := 3, cells := 0, slots := 0, locals := 77 }) s m args below meth c H locs 0 0 (MQ below (va_Qv (fun f1 => (∃ (tp1 : Nat), (tp1 ≤ 80) ∧ (TR w mtp tp1) ∧ f1 M = .inr (10, [.int mth, .ref (g.lk M 1), .int (nI mn), .ref (g.lk M 3), .ref (g.lk M 4), .int (nI mdr), .ref (g.lk M 6), .ref (g.lk M 7), .ref (g.lk M 8), .int (nI msz), .int (nI mix), .int (nI mdp), .ref (g.lk M 12), .int (nI mwt), .ref (g.lk M 14), .ref (g.lk M 15), .int (nI mop), .ref (g.lk M 17), .ref (g.lk M 18), .ref (g.lk M 19), .ref (g.lk M 20), .ref (g.lk M 21), .ref (g.lk M 22), .ref (g.lk M 23), .ref (g.lk M 24), .ref (g.lk M 25), .ref (g.lk M 26), .ref (g.lk M 27), .ref (g.lk M 28), .ref (g.lk M 29), .ref (g.lk M 30), .ref (g.lk M 31), .int (nI tp1), .ref (g.lk M 33), .ref (g.lk M 34), .ref (g.lk M 35), .int (nI mwa), .int (nI mgi), .int (nI mpc), .int (nI mst), .int (nI mtr), .int (nI msp), .int mma, .int mlg, .int mdu])) ∧ (IV g f1) ∧ (un [11, 45, 53, 54, 55, 56, 57] g f f1)) (pc_out g s.heap.size) (pc_A g s.heap.size)) args s 0 0 (pc_A g s.heap.size)) (F0 m 309 ls [.int bj230, .int bj228, .long lv226, .long lv220, .int (nI ((mtp - 1) - 1)), .ref M]) := by
            intro bj230 H locs hP hD hS
            have hI231 := iv_1 hI hL t_M (by decide) hk6 (oc_11.mk t_M (⟨mth, mn, mdr, msz, mix, mdp, mwt, mop, (mtp - 1), mwa, mgi, mpc, mst, mtr, msp, mma, mlg, mdu, e4, (by omega), (by omega), (by omega), (by omega), (by omega), (by omega), (by omega), (by omega), (by omega), (by omega), (by omega), (by omega), (by omega), (by omega), hmb14⟩))
            refine pcc_v (va_runV (C := "BigRunnerModel") (As := [.int (nI ((mtp - 1) - 1)), .long lv220, .long lv226, .int bj228, .int bj230]) (rest := []) ⟨hx, hb, hml, hown, tb_nil⟩ (m_interval l g H.size f3 M (((mtp - 1) - 1)) lv220 lv226 bj228 bj230 hL t_M hI231 (by omega)) ⟨(callB_of 5 (tb_one (wd_1160 hB _)) tb_good1 rfl rfl rfl (wd_82 hB _) (wd_1157 hB _) (by decide +kernel) ⟨Nat.le_of_ble_eq_true rfl, Nat.le_of_ble_eq_true rfl⟩), (wd_1159 hB _), (wd_53 hB _)⟩ ⟨pe_bl, pg_recv (ci := 10) hK hP (lo_in hL t_M (by decide)) e4 rfl, pe_pre hB hK hP hD⟩ rfl rfl hl.1 rfl (lv_room (Nat.le_of_ble_eq_true rfl)) d_M_spanOf_309 ⟨Nat.le_of_ble_eq_true rfl, Nat.le_of_ble_eq_true rfl⟩) hS (fun f233 H locs hq234 hP hD hS => ?_)
            obtain ⟨hI1_235, hu1_236⟩ := hq234
            have hu := hu.tr hu1_236 (by decide)
            have eC := hu1_236.at (lo_k11_6 hL _ t_M) (by decide) eC
            have eA := hu1_236.at (lo_k11_7 hL _ t_M) (by decide) eA
            have e4 := hu1_236.at t_M (by decide) e4
            refine lv_goto (tgt := 441) hx hb d_M_spanOf_312 (by decide) ?_
            refine lv_aload_n hx hb d_M_spanOf_441 rfl (lv_at hl 2 rfl) ?_
            refine pf_get (v := .ref (g.lk M 25)) (C := "BigRunnerModel") (T := FT10) (N := 45) hx hb (hw10 hB _) (fun _ h9 => h9) hown hK hP (lo_in hL t_M (by decide)) e4 rfl 25 (by decide) (wd_972 hB _) rfl d_M_spanOf_442 ?_
            refine lv_iload_n hx hb d_M_spanOf_445 rfl (lv_at hl 0 rfl) ?_
            have jn237 : ∀ (bj238 : Int32) (H : Heap) (locs : List Loc), va_P g.D vcl (va_pl g.LP f233) H → va_D (pc_A g s.heap.size) (va_pl g.LP f233) → va_S (pc_A g s.heap.size) s.heap H locs → W p l e ({ frames := 3, cells := 0, slots := 0, locals := 77 }) s m args below meth c H locs 0 0 (MQ below (va_Qv (fun f1 => (∃ (tp1 : Nat), (tp1 ≤ 80) ∧ (TR w mtp tp1) ∧ f1 M = .inr (10, [.int mth, .ref (g.lk M 1), .int (nI mn), .ref (g.lk M 3), .ref (g.lk M 4), .int (nI mdr), .ref (g.lk M 6), .ref (g.lk M 7), .ref (g.lk M 8), .int (nI msz), .int (nI mix), .int (nI mdp), .ref (g.lk M 12), .int (nI mwt), .ref (g.lk M 14), .ref (g.lk M 15), .int (nI mop), .ref (g.lk M 17), .ref (g.lk M 18), .ref (g.lk M 19), .ref (g.lk M 20), .ref (g.lk M 21), .ref (g.lk M 22), .ref (g.lk M 23), .ref (g.lk M 24), .ref (g.lk M 25), .ref (g.lk M 26), .ref (g.lk M 27), .ref (g.lk M 28), .ref (g.lk M 29), .ref (g.lk M 30), .ref (g.lk M 31), .int (nI tp1), .ref (g.lk M 33), .ref (g.lk M 34), .ref (g.lk M 35), .int (nI mwa), .int (nI mgi), .int (nI mpc), .int (nI mst), .int (nI mtr), .int (nI msp), .int mma, .int mlg, .int mdu])) ∧ (IV g f1) ∧ (un [11, 45, 53, 54, 55, 56, 57] g f f1)) (pc_out g s.heap.size) (pc_A g s.heap.size)) args s 0 0 (pc_A g s.heap.size)) (F0 m 490 ls [.int bj238, .int (nI ((mtp - 1) - 1)), .ref (g.lk M 25)]) := by
              intro bj238 H locs hP hD hS
              obtain ⟨h_240, e239⟩ := oc_57.of (lo_k11_25 hL _ t_M) (hI1_235.1 (g.lk M 25))
              refine pf_zast (i := (mtp - 1) - 1) hx hb hK hP hD hS (lo_in hL (lo_k11_25 hL _ t_M) (by decide)) e239 (lo_t57 hL _ (lo_k11_25 hL _ t_M)) (by omega) (by decide) d_M_spanOf_490 (fun f242 H locs e243 k244 hP hD hS => ?_)
              have eC := (k244 (g.lk M 6) (tg_ne (lo_k11_6 hL _ t_M) (lo_k11_25 hL _ t_M) (by decide))).trans eC
              have eA := (k244 (g.lk M 7) (tg_ne (lo_k11_7 hL _ t_M) (lo_k11_25 hL _ t_M) (by decide))).trans eA
              have e4 := (k244 M (tg_ne t_M (lo_k11_25 hL _ t_M) (by decide))).trans e4
              have hu := hu.st k244 (lo_k11_25 hL _ t_M) (by decide)
              have hk245 : ∀ b, b ≠ (g.lk M 25) → f242 b = f233 b := k244
              refine lv_aload_n hx hb d_M_spanOf_491 rfl (lv_at hl 2 rfl) ?_
              refine pf_get (v := .ref (g.lk M 8)) (C := "BigRunnerModel") (T := FT10) (N := 45) hx hb (hw10 hB _) (fun _ h9 => h9) hown hK hP (lo_in hL t_M (by decide)) e4 rfl 8 (by decide) (wd_955 hB _) rfl d_M_spanOf_492 ?_
              refine lv_iload_n hx hb d_M_spanOf_495 rfl (lv_at hl 3 rfl) ?_
              refine lv_aload_n hx hb d_M_spanOf_496 rfl (lv_at hl 2 rfl) ?_
              refine pf_get (v := .ref (g.lk M 25)) (C := "BigRunnerModel") (T := FT10) (N := 45) hx hb (hw10 hB _) (fun _ h9 => h9) hown hK hP (lo_in hL t_M (by decide)) e4 rfl 25 (by decide) (wd_972 hB _) rfl d_M_spanOf_497 ?_
              refine lv_iload_n hx hb d_M_spanOf_500 rfl (lv_at hl 0 rfl) ?_
              refine pf_zald (i := (mtp - 1) - 1) hx hb hK hP (lo_in hL (lo_k11_25 hL _ t_M) (by decide)) e243 (lo_t57 hL _ (lo_k11_25 hL _ t_M)) (by omega) (by decide) d_M_spanOf_501 ?_
              refine lv_topi (fun iv246 _ => ?_)
              have hI247 := iv_1 hI1_235 hL (lo_k11_25 hL _ t_M) (by decide) hk245 (oc_57.mk (lo_k11_25 hL _ t_M) (⟨_, e243⟩))
              obtain ⟨h_249, e248⟩ := oc_45.of (lo_k11_8 hL _ t_M) (hI247.1 (g.lk M 8))
              refine pf_zast (i := p9) hx hb hK hP hD hS (lo_in hL (lo_k11_8 hL _ t_M) (by decide)) e248 (lo_t45 hL _ (lo_k11_8 hL _ t_M)) (by omega) (by decide) d_M_spanOf_502 (fun f251 H locs e252 k253 hP hD hS => ?_)
              have eC := (k253 (g.lk M 6) (tg_ne (lo_k11_6 hL _ t_M) (lo_k11_8 hL _ t_M) (by decide))).trans eC
              have eA := (k253 (g.lk M 7) (tg_ne (lo_k11_7 hL _ t_M) (lo_k11_8 hL _ t_M) (by decide))).trans eA
              have e4 := (k253 M (tg_ne t_M (lo_k11_8 hL _ t_M) (by decide))).trans e4
              have e243 := (k253 (g.lk M 25) (tg_ne (lo_k11_25 hL _ t_M) (lo_k11_8 hL _ t_M) (by decide))).trans e243
              have hu := hu.st k253 (lo_k11_8 hL _ t_M) (by decide)
              have hk254 : ∀ b, b ≠ (g.lk M 8) → f251 b = f242 b := k253
              have hI255 := iv_1 hI247 hL (lo_k11_8 hL _ t_M) (by decide) hk254 (oc_45.mk (lo_k11_8 hL _ t_M) (⟨_, e252⟩))
              exact pe_vret hx hb hr hlocks hK hP hD hS d_M_spanOf_503 ⟨⟨(mtp - 1), by omega, (TR.mk (fun _ => by omega) (fun _ => by omega) (fun _ _ => by omega)), e4⟩, hI255, hu⟩
            refine lv_aload_n hx hb d_M_spanOf_446 rfl (lv_at hl 2 rfl) ?_
            refine pf_get (v := .ref (g.lk M 25)) (C := "BigRunnerModel") (T := FT10) (N := 45) hx hb (hw10 hB _) (fun _ h9 => h9) hown hK hP (lo_in hL t_M (by decide)) e4 rfl 25 (by decide) (wd_972 hB _) rfl d_M_spanOf_447 ?_
            refine lv_iload_n hx hb d_M_spanOf_450 rfl (lv_at hl 0 rfl) ?_
            obtain ⟨h_257, e256⟩ := oc_57.of (lo_k11_25 hL _ t_M) (hI1_235.1 (g.lk M 25))
            refine pf_zald (i := (mtp - 1) - 1) hx hb hK hP (lo_in hL (lo_k11_25 hL _ t_M) (by decide)) e256 (lo_t57 hL _ (lo_k11_25 hL _ t_M)) (by omega) (by decide) d_M_spanOf_451 ?_
            refine lv_topi (fun iv259 _ => ?_)
            refine lv_if_eq (tgt := 489) hx hb d_M_spanOf_452 (by decide) (fun b260 => ?_) (fun b260 => ?_)
            · skip
              refine lv_iconst (v := nI 0) hx hb d_M_spanOf_489 (by decide) ?_
              exact jn237 ((nI 0)) _ _ hP hD hS
            · skip
              refine lv_aload_n hx hb d_M_spanOf_455 rfl (lv_at hl 2 rfl) ?_
              refine pf_get (v := .ref (g.lk M 25)) (C := "BigRunnerModel") (T := FT10) (N := 45) hx hb (hw10 hB _) (fun _ h9 => h9) hown hK hP (lo_in hL t_M (by decide)) e4 rfl 25 (by decide) (wd_972 hB _) rfl d_M_spanOf_456 ?_
              refine lv_aload_n hx hb d_M_spanOf_459 rfl (lv_at hl 2 rfl) ?_
              refine pf_get (v := .int (nI (mtp - 1))) (C := "BigRunnerModel") (T := FT10) (N := 45) hx hb (hw10 hB _) (fun _ h9 => h9) hown hK hP (lo_in hL t_M (by decide)) e4 rfl 32 (by decide) (wd_979 hB _) rfl d_M_spanOf_460 ?_
              refine pf_zald (i := mtp - 1) hx hb hK hP (lo_in hL (lo_k11_25 hL _ t_M) (by decide)) e256 (lo_t57 hL _ (lo_k11_25 hL _ t_M)) (by omega) (by decide) d_M_spanOf_463 ?_
              refine lv_topi (fun iv261 _ => ?_)
              refine lv_if_eq (tgt := 489) hx hb d_M_spanOf_464 (by decide) (fun b262 => ?_) (fun b262 => ?_)
              · skip
                refine lv_iconst (v := nI 0) hx hb d_M_spanOf_489 (by decide) ?_
                exact jn237 ((nI 0)) _ _ hP hD hS
              · skip
                refine lv_aload_n hx hb d_M_spanOf_467 rfl (lv_at hl 2 rfl) ?_
                refine pf_get (v := .ref (g.lk M 23)) (C := "BigRunnerModel") (T := FT10) (N := 45) hx hb (hw10 hB _) (fun _ h9 => h9) hown hK hP (lo_in hL t_M (by decide)) e4 rfl 23 (by decide) (wd_970 hB _) rfl d_M_spanOf_468 ?_
                refine lv_iload_n hx hb d_M_spanOf_471 rfl (lv_at hl 0 rfl) ?_
                obtain ⟨h_264, e263⟩ := oc_55.of (lo_k11_23 hL _ t_M) (hI1_235.1 (g.lk M 23))
                refine pf_zald (i := (mtp - 1) - 1) hx hb hK hP (lo_in hL (lo_k11_23 hL _ t_M) (by decide)) e263 (lo_t55 hL _ (lo_k11_23 hL _ t_M)) (by omega) (by decide) d_M_spanOf_472 ?_
                refine lv_topi (fun iv266 _ => ?_)
                refine lv_if_ne (tgt := 489) hx hb d_M_spanOf_473 (by decide) (fun b267 => ?_) (fun b267 => ?_)
                · skip
                  refine lv_iconst (v := nI 0) hx hb d_M_spanOf_489 (by decide) ?_
                  exact jn237 ((nI 0)) _ _ hP hD hS
                · skip
                  refine lv_aload_n hx hb d_M_spanOf_476 rfl (lv_at hl 2 rfl) ?_
                  refine pf_get (v := .ref (g.lk M 24)) (C := "BigRunnerModel") (T := FT10) (N := 45) hx hb (hw10 hB _) (fun _ h9 => h9) hown hK hP (lo_in hL t_M (by decide)) e4 rfl 24 (by decide) (wd_971 hB _) rfl d_M_spanOf_477 ?_
                  refine lv_iload_n hx hb d_M_spanOf_480 rfl (lv_at hl 0 rfl) ?_
                  obtain ⟨h_269, e268⟩ := oc_56.of (lo_k11_24 hL _ t_M) (hI1_235.1 (g.lk M 24))
                  refine pf_zald (i := (mtp - 1) - 1) hx hb hK hP (lo_in hL (lo_k11_24 hL _ t_M) (by decide)) e268 (lo_t56 hL _ (lo_k11_24 hL _ t_M)) (by omega) (by decide) d_M_spanOf_481 ?_
                  refine lv_topi (fun iv271 _ => ?_)
                  refine lv_if_ne (tgt := 489) hx hb d_M_spanOf_482 (by decide) (fun b272 => ?_) (fun b272 => ?_)
                  · skip
                    refine lv_iconst (v := nI 0) hx hb d_M_spanOf_489 (by decide) ?_
                    exact jn237 ((nI 0)) _ _ hP hD hS
                  · skip
                    refine lv_iconst (v := nI 1) hx hb d_M_spanOf_485 (by decide) ?_
                    refine lv_goto (tgt := 490) hx hb d_M_spanOf_486 (by decide) ?_
                    exact jn237 ((nI 1)) _ _ hP hD hS
          refine lv_aload_n hx hb d_M_spanOf_283 rfl (lv_at hl 2 rfl) ?_
          refine pf_get (v := .ref (g.lk M 24)) (C := "BigRunnerModel") (T := FT10) (N := 45) hx hb (hw10 hB _) (fun _ h9 => h9) hown hK hP (lo_in hL t_M (by decide)) e4 rfl 24 (by decide) (wd_971 hB _) rfl d_M_spanOf_284 ?_
          refine lv_iload_n hx hb d_M_spanOf_287 rfl (lv_at hl 0 rfl) ?_
          obtain ⟨h_274, e273⟩ := oc_56.of (lo_k11_24 hL _ t_M) (hI.1 (g.lk M 24))
          replace e273 := (hk6 (g.lk M 24) (tg_ne (lo_k11_24 hL _ t_M) t_M (by decide))).trans e273
          refine pf_zald (i := (mtp - 1) - 1) hx hb hK hP (lo_in hL (lo_k11_24 hL _ t_M) (by decide)) e273 (lo_t56 hL _ (lo_k11_24 hL _ t_M)) (by omega) (by decide) d_M_spanOf_288 ?_
          refine lv_topi (fun iv276 _ => ?_)
          refine lv_if_ne (tgt := 304) hx hb d_M_spanOf_289 (by decide) (fun b277 => ?_) (fun b277 => ?_)
          · skip
            refine lv_iconst (v := nI 1) hx hb d_M_spanOf_304 (by decide) ?_
            refine lv_goto (tgt := 309) hx hb d_M_spanOf_305 (by decide) ?_
            exact jn229 ((nI 1)) _ _ hP hD hS
          · skip
            refine lv_aload_n hx hb d_M_spanOf_292 rfl (lv_at hl 2 rfl) ?_
            refine pf_get (v := .ref (g.lk M 24)) (C := "BigRunnerModel") (T := FT10) (N := 45) hx hb (hw10 hB _) (fun _ h9 => h9) hown hK hP (lo_in hL t_M (by decide)) e4 rfl 24 (by decide) (wd_971 hB _) rfl d_M_spanOf_293 ?_
            refine lv_aload_n hx hb d_M_spanOf_296 rfl (lv_at hl 2 rfl) ?_
            refine pf_get (v := .int (nI (mtp - 1))) (C := "BigRunnerModel") (T := FT10) (N := 45) hx hb (hw10 hB _) (fun _ h9 => h9) hown hK hP (lo_in hL t_M (by decide)) e4 rfl 32 (by decide) (wd_979 hB _) rfl d_M_spanOf_297 ?_
            refine pf_zald (i := mtp - 1) hx hb hK hP (lo_in hL (lo_k11_24 hL _ t_M) (by decide)) e273 (lo_t56 hL _ (lo_k11_24 hL _ t_M)) (by omega) (by decide) d_M_spanOf_300 ?_
            refine lv_topi (fun iv278 _ => ?_)
            refine lv_if_eq (tgt := 308) hx hb d_M_spanOf_301 (by decide) (fun b279 => ?_) (fun b279 => ?_)
            · skip
              refine lv_iconst (v := nI 0) hx hb d_M_spanOf_308 (by decide) ?_
              exact jn229 ((nI 0)) _ _ hP hD hS
            · skip
              refine lv_iconst (v := nI 1) hx hb d_M_spanOf_304 (by decide) ?_
              refine lv_goto (tgt := 309) hx hb d_M_spanOf_305 (by decide) ?_
              exact jn229 ((nI 1)) _ _ hP hD hS
        refine lv_aload_n hx hb d_M_spanOf_257 rfl (lv_at hl 2 rfl) ?_
        refine pf_get (v := .ref (g.lk M 23)) (C := "BigRunnerModel") (T := FT10) (N := 45) hx hb (hw10 hB _) (fun _ h9 => h9) hown hK hP (lo_in hL t_M (by decide)) e4 rfl 23 (by decide) (wd_970 hB _) rfl d_M_spanOf_258 ?_
        refine lv_iload_n hx hb d_M_spanOf_261 rfl (lv_at hl 0 rfl) ?_
        obtain ⟨h_281, e280⟩ := oc_55.of (lo_k11_23 hL _ t_M) (hI.1 (g.lk M 23))
        replace e280 := (hk6 (g.lk M 23) (tg_ne (lo_k11_23 hL _ t_M) t_M (by decide))).trans e280
        refine pf_zald (i := (mtp - 1) - 1) hx hb hK hP (lo_in hL (lo_k11_23 hL _ t_M) (by decide)) e280 (lo_t55 hL _ (lo_k11_23 hL _ t_M)) (by omega) (by decide) d_M_spanOf_262 ?_
        refine lv_topi (fun iv283 _ => ?_)
        refine lv_if_ne (tgt := 278) hx hb d_M_spanOf_263 (by decide) (fun b284 => ?_) (fun b284 => ?_)
        · skip
          refine lv_iconst (v := nI 1) hx hb d_M_spanOf_278 (by decide) ?_
          refine lv_goto (tgt := 283) hx hb d_M_spanOf_279 (by decide) ?_
          exact jn227 ((nI 1)) _ _ hP hD hS
        · skip
          refine lv_aload_n hx hb d_M_spanOf_266 rfl (lv_at hl 2 rfl) ?_
          refine pf_get (v := .ref (g.lk M 23)) (C := "BigRunnerModel") (T := FT10) (N := 45) hx hb (hw10 hB _) (fun _ h9 => h9) hown hK hP (lo_in hL t_M (by decide)) e4 rfl 23 (by decide) (wd_970 hB _) rfl d_M_spanOf_267 ?_
          refine lv_aload_n hx hb d_M_spanOf_270 rfl (lv_at hl 2 rfl) ?_
          refine pf_get (v := .int (nI (mtp - 1))) (C := "BigRunnerModel") (T := FT10) (N := 45) hx hb (hw10 hB _) (fun _ h9 => h9) hown hK hP (lo_in hL t_M (by decide)) e4 rfl 32 (by decide) (wd_979 hB _) rfl d_M_spanOf_271 ?_
          refine pf_zald (i := mtp - 1) hx hb hK hP (lo_in hL (lo_k11_23 hL _ t_M) (by decide)) e280 (lo_t55 hL _ (lo_k11_23 hL _ t_M)) (by omega) (by decide) d_M_spanOf_274 ?_
          refine lv_topi (fun iv285 _ => ?_)
          refine lv_if_eq (tgt := 282) hx hb d_M_spanOf_275 (by decide) (fun b286 => ?_) (fun b286 => ?_)
          · skip
            refine lv_iconst (v := nI 0) hx hb d_M_spanOf_282 (by decide) ?_
            exact jn227 ((nI 0)) _ _ hP hD hS
          · skip
            refine lv_iconst (v := nI 1) hx hb d_M_spanOf_278 (by decide) ?_
            refine lv_goto (tgt := 283) hx hb d_M_spanOf_279 (by decide) ?_
            exact jn227 ((nI 1)) _ _ hP hD hS
    · skip
      replace b2 := (nI_eq (a := w) (b := 7) (by omega) (by omega)).mp b2
      refine lv_aload_n hx hb d_M_spanOf_127 rfl (lv_at hl 1 rfl) ?_
      refine lv_aload_n hx hb d_M_spanOf_128 rfl (lv_at hl 1 rfl) ?_
      refine pf_get (v := .int (nI mtp)) (C := "BigRunnerModel") (T := FT10) (N := 45) hx hb (hw10 hB _) (fun _ h9 => h9) hown hK hP (lo_in hL t_M (by decide)) eM rfl 32 (by decide) (wd_979 hB _) rfl d_M_spanOf_129 ?_
      refine lv_iconst (v := nI 1) hx hb d_M_spanOf_132 (by decide) ?_
      refine pf_isubN (x := mtp) (y := 1) hx hb (by omega) d_M_spanOf_133 ?_
      refine lv_aload_n hx hb d_M_spanOf_134 rfl (lv_at hl 1 rfl) ?_
      refine pf_get (v := .ref (g.lk M 22)) (C := "BigRunnerModel") (T := FT10) (N := 45) hx hb (hw10 hB _) (fun _ h9 => h9) hown hK hP (lo_in hL t_M (by decide)) eM rfl 22 (by decide) (wd_969 hB _) rfl d_M_spanOf_135 ?_
      refine lv_aload_n hx hb d_M_spanOf_138 rfl (lv_at hl 1 rfl) ?_
      refine pf_get (v := .int (nI mtp)) (C := "BigRunnerModel") (T := FT10) (N := 45) hx hb (hw10 hB _) (fun _ h9 => h9) hown hK hP (lo_in hL t_M (by decide)) eM rfl 32 (by decide) (wd_979 hB _) rfl d_M_spanOf_139 ?_
      refine lv_iconst (v := nI 1) hx hb d_M_spanOf_142 (by decide) ?_
      refine pf_isubN (x := mtp) (y := 1) hx hb (by omega) d_M_spanOf_143 ?_
      obtain ⟨h_288, e287⟩ := oc_54.of (lo_k11_22 hL _ t_M) (hI.1 (g.lk M 22))
      refine pf_lald (i := mtp - 1) hx hb hK hP (lo_in hL (lo_k11_22 hL _ t_M) (by decide)) e287 (lo_t54 hL _ (lo_k11_22 hL _ t_M)) (by omega) (by decide) d_M_spanOf_144 ?_
      refine lv_topl (fun lv290 _ => ?_)
      refine lv_lneg hx hb d_M_spanOf_145 ?_
      refine lv_topl (fun lv291 _ => ?_)
      refine lv_aload_n hx hb d_M_spanOf_146 rfl (lv_at hl 1 rfl) ?_
      refine pf_get (v := .ref (g.lk M 21)) (C := "BigRunnerModel") (T := FT10) (N := 45) hx hb (hw10 hB _) (fun _ h9 => h9) hown hK hP (lo_in hL t_M (by decide)) eM rfl 21 (by decide) (wd_968 hB _) rfl d_M_spanOf_147 ?_
      refine lv_aload_n hx hb d_M_spanOf_150 rfl (lv_at hl 1 rfl) ?_
      refine pf_get (v := .int (nI mtp)) (C := "BigRunnerModel") (T := FT10) (N := 45) hx hb (hw10 hB _) (fun _ h9 => h9) hown hK hP (lo_in hL t_M (by decide)) eM rfl 32 (by decide) (wd_979 hB _) rfl d_M_spanOf_151 ?_
      refine lv_iconst (v := nI 1) hx hb d_M_spanOf_154 (by decide) ?_
      refine pf_isubN (x := mtp) (y := 1) hx hb (by omega) d_M_spanOf_155 ?_
      obtain ⟨h_293, e292⟩ := oc_53.of (lo_k11_21 hL _ t_M) (hI.1 (g.lk M 21))
      refine pf_lald (i := mtp - 1) hx hb hK hP (lo_in hL (lo_k11_21 hL _ t_M) (by decide)) e292 (lo_t53 hL _ (lo_k11_21 hL _ t_M)) (by omega) (by decide) d_M_spanOf_156 ?_
      refine lv_topl (fun lv295 _ => ?_)
      refine lv_lneg hx hb d_M_spanOf_157 ?_
      refine lv_topl (fun lv296 _ => ?_)
      refine lv_aload_n hx hb d_M_spanOf_158 rfl (lv_at hl 1 rfl) ?_
      refine pf_get (v := .ref (g.lk M 24)) (C := "BigRunnerModel") (T := FT10) (N := 45) hx hb (hw10 hB _) (fun _ h9 => h9) hown hK hP (lo_in hL t_M (by decide)) eM rfl 24 (by decide) (wd_971 hB _) rfl d_M_spanOf_159 ?_
      refine lv_aload_n hx hb d_M_spanOf_162 rfl (lv_at hl 1 rfl) ?_
      refine pf_get (v := .int (nI mtp)) (C := "BigRunnerModel") (T := FT10) (N := 45) hx hb (hw10 hB _) (fun _ h9 => h9) hown hK hP (lo_in hL t_M (by decide)) eM rfl 32 (by decide) (wd_979 hB _) rfl d_M_spanOf_163 ?_
      refine lv_iconst (v := nI 1) hx hb d_M_spanOf_166 (by decide) ?_
      refine pf_isubN (x := mtp) (y := 1) hx hb (by omega) d_M_spanOf_167 ?_
      obtain ⟨h_298, e297⟩ := oc_56.of (lo_k11_24 hL _ t_M) (hI.1 (g.lk M 24))
      refine pf_zald (i := mtp - 1) hx hb hK hP (lo_in hL (lo_k11_24 hL _ t_M) (by decide)) e297 (lo_t56 hL _ (lo_k11_24 hL _ t_M)) (by omega) (by decide) d_M_spanOf_168 ?_
      refine lv_topi (fun iv300 _ => ?_)
      refine lv_aload_n hx hb d_M_spanOf_169 rfl (lv_at hl 1 rfl) ?_
      refine pf_get (v := .ref (g.lk M 23)) (C := "BigRunnerModel") (T := FT10) (N := 45) hx hb (hw10 hB _) (fun _ h9 => h9) hown hK hP (lo_in hL t_M (by decide)) eM rfl 23 (by decide) (wd_970 hB _) rfl d_M_spanOf_170 ?_
      refine lv_aload_n hx hb d_M_spanOf_173 rfl (lv_at hl 1 rfl) ?_
      refine pf_get (v := .int (nI mtp)) (C := "BigRunnerModel") (T := FT10) (N := 45) hx hb (hw10 hB _) (fun _ h9 => h9) hown hK hP (lo_in hL t_M (by decide)) eM rfl 32 (by decide) (wd_979 hB _) rfl d_M_spanOf_174 ?_
      refine lv_iconst (v := nI 1) hx hb d_M_spanOf_177 (by decide) ?_
      refine pf_isubN (x := mtp) (y := 1) hx hb (by omega) d_M_spanOf_178 ?_
      obtain ⟨h_302, e301⟩ := oc_55.of (lo_k11_23 hL _ t_M) (hI.1 (g.lk M 23))
      refine pf_zald (i := mtp - 1) hx hb hK hP (lo_in hL (lo_k11_23 hL _ t_M) (by decide)) e301 (lo_t55 hL _ (lo_k11_23 hL _ t_M)) (by omega) (by decide) d_M_spanOf_179 ?_
      refine lv_topi (fun iv304 _ => ?_)
      refine pcc_v (va_runV (C := "BigRunnerModel") (As := [.int (nI (mtp - 1)), .long lv291, .long lv296, .int iv300, .int iv304]) (rest := []) ⟨hx, hb, hml, hown, tb_nil⟩ (m_interval l g s.heap.size f M ((mtp - 1)) lv291 lv296 iv300 iv304 hL t_M hI (by omega)) ⟨(callB_of 5 (tb_one (wd_1160 hB _)) tb_good1 rfl rfl rfl (wd_82 hB _) (wd_1157 hB _) (by decide +kernel) ⟨Nat.le_of_ble_eq_true rfl, Nat.le_of_ble_eq_true rfl⟩), (wd_1159 hB _), (wd_53 hB _)⟩ ⟨pe_bl, pg_recv (ci := 10) hK hP (lo_in hL t_M (by decide)) eM rfl, pe_pre hB hK hP hD⟩ rfl rfl hl.1 rfl (lv_room (Nat.le_of_ble_eq_true rfl)) d_M_spanOf_180 ⟨Nat.le_of_ble_eq_true rfl, Nat.le_of_ble_eq_true rfl⟩) hS (fun f306 H locs hq307 hP hD hS => ?_)
      obtain ⟨hI1_308, hu1_309⟩ := hq307
      have hu := hu.tr hu1_309 (by decide)
      have eM := hu1_309.at t_M (by decide) eM
      have eC := hu1_309.at (lo_k11_6 hL _ t_M) (by decide) eC
      have eA := hu1_309.at (lo_k11_7 hL _ t_M) (by decide) eA
      refine lv_aload_n hx hb d_M_spanOf_183 rfl (lv_at hl 1 rfl) ?_
      refine pf_get (v := .ref (g.lk M 8)) (C := "BigRunnerModel") (T := FT10) (N := 45) hx hb (hw10 hB _) (fun _ h9 => h9) hown hK hP (lo_in hL t_M (by decide)) eM rfl 8 (by decide) (wd_955 hB _) rfl d_M_spanOf_184 ?_
      refine lv_iload_n hx hb d_M_spanOf_187 rfl (lv_at hl 2 rfl) ?_
      refine lv_aload_n hx hb d_M_spanOf_188 rfl (lv_at hl 1 rfl) ?_
      refine pf_get (v := .ref (g.lk M 25)) (C := "BigRunnerModel") (T := FT10) (N := 45) hx hb (hw10 hB _) (fun _ h9 => h9) hown hK hP (lo_in hL t_M (by decide)) eM rfl 25 (by decide) (wd_972 hB _) rfl d_M_spanOf_189 ?_
      refine lv_aload_n hx hb d_M_spanOf_192 rfl (lv_at hl 1 rfl) ?_
      refine pf_get (v := .int (nI mtp)) (C := "BigRunnerModel") (T := FT10) (N := 45) hx hb (hw10 hB _) (fun _ h9 => h9) hown hK hP (lo_in hL t_M (by decide)) eM rfl 32 (by decide) (wd_979 hB _) rfl d_M_spanOf_193 ?_
      refine lv_iconst (v := nI 1) hx hb d_M_spanOf_196 (by decide) ?_
      refine pf_isubN (x := mtp) (y := 1) hx hb (by omega) d_M_spanOf_197 ?_
      obtain ⟨h_311, e310⟩ := oc_57.of (lo_k11_25 hL _ t_M) (hI1_308.1 (g.lk M 25))
      refine pf_zald (i := mtp - 1) hx hb hK hP (lo_in hL (lo_k11_25 hL _ t_M) (by decide)) e310 (lo_t57 hL _ (lo_k11_25 hL _ t_M)) (by omega) (by decide) d_M_spanOf_198 ?_
      refine lv_topi (fun iv313 _ => ?_)
      obtain ⟨h_315, e314⟩ := oc_45.of (lo_k11_8 hL _ t_M) (hI1_308.1 (g.lk M 8))
      refine pf_zast (i := p9) hx hb hK hP hD hS (lo_in hL (lo_k11_8 hL _ t_M) (by decide)) e314 (lo_t45 hL _ (lo_k11_8 hL _ t_M)) (by omega) (by decide) d_M_spanOf_199 (fun f317 H locs e318 k319 hP hD hS => ?_)
      have eM := (k319 M (tg_ne t_M (lo_k11_8 hL _ t_M) (by decide))).trans eM
      have eC := (k319 (g.lk M 6) (tg_ne (lo_k11_6 hL _ t_M) (lo_k11_8 hL _ t_M) (by decide))).trans eC
      have eA := (k319 (g.lk M 7) (tg_ne (lo_k11_7 hL _ t_M) (lo_k11_8 hL _ t_M) (by decide))).trans eA
      have e310 := (k319 (g.lk M 25) (tg_ne (lo_k11_25 hL _ t_M) (lo_k11_8 hL _ t_M) (by decide))).trans e310
      have hu := hu.st k319 (lo_k11_8 hL _ t_M) (by decide)
      have hk320 : ∀ b, b ≠ (g.lk M 8) → f317 b = f306 b := k319
      have hI321 := iv_1 hI1_308 hL (lo_k11_8 hL _ t_M) (by decide) hk320 (oc_45.mk (lo_k11_8 hL _ t_M) (⟨_, e318⟩))
      exact pe_vret hx hb hr hlocks hK hP hD hS d_M_spanOf_200 ⟨⟨mtp, by omega, (TR.mk (fun _ => by omega) (fun _ => by omega) (fun _ _ => by omega)), eM⟩, hI321, hu⟩
  · skip
    replace b1 := mt (nI_leI (a := 2) (b := w) (by omega) (by omega)).mpr b1
    refine lv_aload_n hx hb d_M_spanOf_12 rfl (lv_at hl 1 rfl) ?_
    refine pf_get (v := .ref (g.lk M 7)) (C := "BigRunnerModel") (T := FT10) (N := 45) hx hb (hw10 hB _) (fun _ h9 => h9) hown hK hP (lo_in hL t_M (by decide)) eM rfl 7 (by decide) (wd_954 hB _) rfl d_M_spanOf_13 ?_
    refine lv_iload_n hx hb d_M_spanOf_16 rfl (lv_at hl 2 rfl) ?_
    refine pf_iald (i := p9) hx hb hK hP (lo_in hL (lo_k11_7 hL _ t_M) (by decide)) eA (lo_t44 hL _ (lo_k11_7 hL _ t_M)) (by omega) (by decide) d_M_spanOf_17 ?_
    refine lv_topi (fun z_ hz_ => ?_)
    obtain rfl : z_ = nI v := hz_.trans hv
    refine lv_istore_n (lv' := [(3, .int (nI v)), (2, .int (nI w)), (0, .ref M), (1, .int (nI p9))]) hx hb d_M_spanOf_18 rfl hl (by decide) rfl (fun ls hl => ?_)
    refine lv_iload_n hx hb d_M_spanOf_19 rfl (lv_at hl 1 rfl) ?_
    refine lv_if_ne (tgt := 40) hx hb d_M_spanOf_20 (by decide) (fun b322 => ?_) (fun b322 => ?_)
    · skip
      replace b322 := mt (nI_eq (a := w) (b := 0) (by omega) (by omega)).mpr b322
      refine lv_aload_n hx hb d_M_spanOf_40 rfl (lv_at hl 2 rfl) ?_
      refine lv_aload_n hx hb d_M_spanOf_41 rfl (lv_at hl 2 rfl) ?_
      refine pf_get (v := .int (nI mtp)) (C := "BigRunnerModel") (T := FT10) (N := 45) hx hb (hw10 hB _) (fun _ h9 => h9) hown hK hP (lo_in hL t_M (by decide)) eM rfl 32 (by decide) (wd_979 hB _) rfl d_M_spanOf_42 ?_
      refine lv_aload_n hx hb d_M_spanOf_45 rfl (lv_at hl 2 rfl) ?_
      refine pf_get (v := .ref (g.lk M 17)) (C := "BigRunnerModel") (T := FT10) (N := 45) hx hb (hw10 hB _) (fun _ h9 => h9) hown hK hP (lo_in hL t_M (by decide)) eM rfl 17 (by decide) (wd_964 hB _) rfl d_M_spanOf_46 ?_
      refine lv_iload_n hx hb d_M_spanOf_49 rfl (lv_at hl 0 rfl) ?_
      obtain ⟨h_324, e323⟩ := oc_49.of (lo_k11_17 hL _ t_M) (hI.1 (g.lk M 17))
      refine pf_lald (i := v) hx hb hK hP (lo_in hL (lo_k11_17 hL _ t_M) (by decide)) e323 (lo_t49 hL _ (lo_k11_17 hL _ t_M)) (by omega) (by decide) d_M_spanOf_50 ?_
      refine lv_topl (fun lv326 _ => ?_)
      refine lv_aload_n hx hb d_M_spanOf_51 rfl (lv_at hl 2 rfl) ?_
      refine pf_get (v := .ref (g.lk M 18)) (C := "BigRunnerModel") (T := FT10) (N := 45) hx hb (hw10 hB _) (fun _ h9 => h9) hown hK hP (lo_in hL t_M (by decide)) eM rfl 18 (by decide) (wd_965 hB _) rfl d_M_spanOf_52 ?_
      refine lv_iload_n hx hb d_M_spanOf_55 rfl (lv_at hl 0 rfl) ?_
      obtain ⟨h_328, e327⟩ := oc_50.of (lo_k11_18 hL _ t_M) (hI.1 (g.lk M 18))
      refine pf_lald (i := v) hx hb hK hP (lo_in hL (lo_k11_18 hL _ t_M) (by decide)) e327 (lo_t50 hL _ (lo_k11_18 hL _ t_M)) (by omega) (by decide) d_M_spanOf_56 ?_
      refine lv_topl (fun lv330 _ => ?_)
      refine lv_aload_n hx hb d_M_spanOf_57 rfl (lv_at hl 2 rfl) ?_
      refine pf_get (v := .ref (g.lk M 19)) (C := "BigRunnerModel") (T := FT10) (N := 45) hx hb (hw10 hB _) (fun _ h9 => h9) hown hK hP (lo_in hL t_M (by decide)) eM rfl 19 (by decide) (wd_966 hB _) rfl d_M_spanOf_58 ?_
      refine lv_iload_n hx hb d_M_spanOf_61 rfl (lv_at hl 0 rfl) ?_
      obtain ⟨h_332, e331⟩ := oc_51.of (lo_k11_19 hL _ t_M) (hI.1 (g.lk M 19))
      refine pf_zald (i := v) hx hb hK hP (lo_in hL (lo_k11_19 hL _ t_M) (by decide)) e331 (lo_t51 hL _ (lo_k11_19 hL _ t_M)) (by omega) (by decide) d_M_spanOf_62 ?_
      refine lv_topi (fun iv334 _ => ?_)
      refine lv_aload_n hx hb d_M_spanOf_63 rfl (lv_at hl 2 rfl) ?_
      refine pf_get (v := .ref (g.lk M 20)) (C := "BigRunnerModel") (T := FT10) (N := 45) hx hb (hw10 hB _) (fun _ h9 => h9) hown hK hP (lo_in hL t_M (by decide)) eM rfl 20 (by decide) (wd_967 hB _) rfl d_M_spanOf_64 ?_
      refine lv_iload_n hx hb d_M_spanOf_67 rfl (lv_at hl 0 rfl) ?_
      obtain ⟨h_336, e335⟩ := oc_52.of (lo_k11_20 hL _ t_M) (hI.1 (g.lk M 20))
      refine pf_zald (i := v) hx hb hK hP (lo_in hL (lo_k11_20 hL _ t_M) (by decide)) e335 (lo_t52 hL _ (lo_k11_20 hL _ t_M)) (by omega) (by decide) d_M_spanOf_68 ?_
      refine lv_topi (fun iv338 _ => ?_)
      refine pcc_v (va_runV (C := "BigRunnerModel") (As := [.int (nI mtp), .long lv326, .long lv330, .int iv334, .int iv338]) (rest := []) ⟨hx, hb, hml, hown, tb_nil⟩ (m_interval l g s.heap.size f M mtp lv326 lv330 iv334 iv338 hL t_M hI (by omega)) ⟨(callB_of 5 (tb_one (wd_1160 hB _)) tb_good1 rfl rfl rfl (wd_82 hB _) (wd_1157 hB _) (by decide +kernel) ⟨Nat.le_of_ble_eq_true rfl, Nat.le_of_ble_eq_true rfl⟩), (wd_1159 hB _), (wd_53 hB _)⟩ ⟨pe_bl, pg_recv (ci := 10) hK hP (lo_in hL t_M (by decide)) eM rfl, pe_pre hB hK hP hD⟩ rfl rfl hl.1 rfl (lv_room (Nat.le_of_ble_eq_true rfl)) d_M_spanOf_69 ⟨Nat.le_of_ble_eq_true rfl, Nat.le_of_ble_eq_true rfl⟩) hS (fun f340 H locs hq341 hP hD hS => ?_)
      obtain ⟨hI1_342, hu1_343⟩ := hq341
      have hu := hu.tr hu1_343 (by decide)
      have eM := hu1_343.at t_M (by decide) eM
      have eC := hu1_343.at (lo_k11_6 hL _ t_M) (by decide) eC
      have eA := hu1_343.at (lo_k11_7 hL _ t_M) (by decide) eA
      have e323 := hu1_343.at (lo_k11_17 hL _ t_M) (by decide) e323
      have e327 := hu1_343.at (lo_k11_18 hL _ t_M) (by decide) e327
      have e331 := hu1_343.at (lo_k11_19 hL _ t_M) (by decide) e331
      have e335 := hu1_343.at (lo_k11_20 hL _ t_M) (by decide) e335
      refine lv_aload_n hx hb d_M_spanOf_72 rfl (lv_at hl 2 rfl) ?_
      refine pf_get (v := .ref (g.lk M 25)) (C := "BigRunnerModel") (T := FT10) (N := 45) hx hb (hw10 hB _) (fun _ h9 => h9) hown hK hP (lo_in hL t_M (by decide)) eM rfl 25 (by decide) (wd_972 hB _) rfl d_M_spanOf_73 ?_
      refine lv_aload_n hx hb d_M_spanOf_76 rfl (lv_at hl 2 rfl) ?_
      refine pf_get (v := .int (nI mtp)) (C := "BigRunnerModel") (T := FT10) (N := 45) hx hb (hw10 hB _) (fun _ h9 => h9) hown hK hP (lo_in hL t_M (by decide)) eM rfl 32 (by decide) (wd_979 hB _) rfl d_M_spanOf_77 ?_
      have jn344 : ∀ (bj345 : Int32) (H : Heap) (locs : List Loc), va_P g.D vcl (va_pl g.LP f340) H → va_D (pc_A g s.heap.size) (va_pl g.LP f340) → va_S (pc_A g s.heap.size) s.heap H locs → W p l e ({ frames := 3, cells := 0, slots := 0, locals := 77 }) s m args below meth c H locs 0 0 (MQ below (va_Qv (fun f1 => (∃ (tp1 : Nat), (tp1 ≤ 80) ∧ (TR w mtp tp1) ∧ f1 M = .inr (10, [.int mth, .ref (g.lk M 1), .int (nI mn), .ref (g.lk M 3), .ref (g.lk M 4), .int (nI mdr), .ref (g.lk M 6), .ref (g.lk M 7), .ref (g.lk M 8), .int (nI msz), .int (nI mix), .int (nI mdp), .ref (g.lk M 12), .int (nI mwt), .ref (g.lk M 14), .ref (g.lk M 15), .int (nI mop), .ref (g.lk M 17), .ref (g.lk M 18), .ref (g.lk M 19), .ref (g.lk M 20), .ref (g.lk M 21), .ref (g.lk M 22), .ref (g.lk M 23), .ref (g.lk M 24), .ref (g.lk M 25), .ref (g.lk M 26), .ref (g.lk M 27), .ref (g.lk M 28), .ref (g.lk M 29), .ref (g.lk M 30), .ref (g.lk M 31), .int (nI tp1), .ref (g.lk M 33), .ref (g.lk M 34), .ref (g.lk M 35), .int (nI mwa), .int (nI mgi), .int (nI mpc), .int (nI mst), .int (nI mtr), .int (nI msp), .int mma, .int mlg, .int mdu])) ∧ (IV g f1) ∧ (un [11, 45, 53, 54, 55, 56, 57] g f f1)) (pc_out g s.heap.size) (pc_A g s.heap.size)) args s 0 0 (pc_A g s.heap.size)) (F0 m 109 ls [.int bj345, .int (nI mtp), .ref (g.lk M 25)]) := by
        intro bj345 H locs hP hD hS
        obtain ⟨h_347, e346⟩ := oc_57.of (lo_k11_25 hL _ t_M) (hI1_342.1 (g.lk M 25))
        refine pf_zast (i := mtp) hx hb hK hP hD hS (lo_in hL (lo_k11_25 hL _ t_M) (by decide)) e346 (lo_t57 hL _ (lo_k11_25 hL _ t_M)) (by omega) (by decide) d_M_spanOf_109 (fun f349 H locs e350 k351 hP hD hS => ?_)
        have eM := (k351 M (tg_ne t_M (lo_k11_25 hL _ t_M) (by decide))).trans eM
        have eC := (k351 (g.lk M 6) (tg_ne (lo_k11_6 hL _ t_M) (lo_k11_25 hL _ t_M) (by decide))).trans eC
        have eA := (k351 (g.lk M 7) (tg_ne (lo_k11_7 hL _ t_M) (lo_k11_25 hL _ t_M) (by decide))).trans eA
        have e323 := (k351 (g.lk M 17) (tg_ne (lo_k11_17 hL _ t_M) (lo_k11_25 hL _ t_M) (by decide))).trans e323
        have e327 := (k351 (g.lk M 18) (tg_ne (lo_k11_18 hL _ t_M) (lo_k11_25 hL _ t_M) (by decide))).trans e327
        have e331 := (k351 (g.lk M 19) (tg_ne (lo_k11_19 hL _ t_M) (lo_k11_25 hL _ t_M) (by decide))).trans e331
        have e335 := (k351 (g.lk M 20) (tg_ne (lo_k11_20 hL _ t_M) (lo_k11_25 hL _ t_M) (by decide))).trans e335
        have hu := hu.st k351 (lo_k11_25 hL _ t_M) (by decide)
        have hk352 : ∀ b, b ≠ (g.lk M 25) → f349 b = f340 b := k351
        refine lv_aload_n hx hb d_M_spanOf_110 rfl (lv_at hl 2 rfl) ?_
        refine lv_dup hx hb d_M_spanOf_111 rfl ?_
        refine pf_get (v := .int (nI mtp)) (C := "BigRunnerModel") (T := FT10) (N := 45) hx hb (hw10 hB _) (fun _ h9 => h9) hown hK hP (lo_in hL t_M (by decide)) eM rfl 32 (by decide) (wd_979 hB _) rfl d_M_spanOf_112 ?_
        refine lv_iconst (v := nI 1) hx hb d_M_spanOf_115 (by decide) ?_
        refine pf_iaddN (x := mtp) (y := 1) hx hb d_M_spanOf_116 ?_
        have hI353 := iv_1 hI1_342 hL (lo_k11_25 hL _ t_M) (by decide) hk352 (oc_57.mk (lo_k11_25 hL _ t_M) (⟨_, e350⟩))
        refine pf_put (v := .int (nI (mtp + 1))) (ty := .int) (fs' := [.int mth, .ref (g.lk M 1), .int (nI mn), .ref (g.lk M 3), .ref (g.lk M 4), .int (nI mdr), .ref (g.lk M 6), .ref (g.lk M 7), .ref (g.lk M 8), .int (nI msz), .int (nI mix), .int (nI mdp), .ref (g.lk M 12), .int (nI mwt), .ref (g.lk M 14), .ref (g.lk M 15), .int (nI mop), .ref (g.lk M 17), .ref (g.lk M 18), .ref (g.lk M 19), .ref (g.lk M 20), .ref (g.lk M 21), .ref (g.lk M 22), .ref (g.lk M 23), .ref (g.lk M 24), .ref (g.lk M 25), .ref (g.lk M 26), .ref (g.lk M 27), .ref (g.lk M 28), .ref (g.lk M 29), .ref (g.lk M 30), .ref (g.lk M 31), .int (nI (mtp + 1)), .ref (g.lk M 33), .ref (g.lk M 34), .ref (g.lk M 35), .int (nI mwa), .int (nI mgi), .int (nI mpc), .int (nI mst), .int (nI mtr), .int (nI msp), .int mma, .int mlg, .int mdu]) (C := "BigRunnerModel") (T := FT10) (N := 45) hx hb (hw10 hB _) (fun _ h9 => h9) TY10 ok10 nm10 hown hK hP hD hS (lo_in hL t_M (by decide)) eM rfl 32 (by decide) (wd_979 hB _) rfl (by decide +kernel) rfl rfl (Nat.le_of_ble_eq_true rfl) rfl d_M_spanOf_117 (fun f354 H locs e355 k356 hP hD hS => ?_)
        have eC := (k356 (g.lk M 6) (tg_ne (lo_k11_6 hL _ t_M) t_M (by decide))).trans eC
        have eA := (k356 (g.lk M 7) (tg_ne (lo_k11_7 hL _ t_M) t_M (by decide))).trans eA
        have e323 := (k356 (g.lk M 17) (tg_ne (lo_k11_17 hL _ t_M) t_M (by decide))).trans e323
        have e327 := (k356 (g.lk M 18) (tg_ne (lo_k11_18 hL _ t_M) t_M (by decide))).trans e327
        have e331 := (k356 (g.lk M 19) (tg_ne (lo_k11_19 hL _ t_M) t_M (by decide))).trans e331
        have e335 := (k356 (g.lk M 20) (tg_ne (lo_k11_20 hL _ t_M) t_M (by decide))).trans e335
        have e350 := (k356 (g.lk M 25) (tg_ne (lo_k11_25 hL _ t_M) t_M (by decide))).trans e350
        have hu := hu.st k356 t_M (by decide)
        have hk357 : ∀ b, b ≠ M → f354 b = f349 b := k356
        have hI358 := iv_1 hI353 hL t_M (by decide) hk357 (oc_11.mk t_M (⟨mth, mn, mdr, msz, mix, mdp, mwt, mop, (mtp + 1), mwa, mgi, mpc, mst, mtr, msp, mma, mlg, mdu, e355, (by omega), (by omega), (by omega), (by omega), (by omega), (by omega), (by omega), (by omega), (by omega), (by omega), (by omega), (by omega), (by omega), (by omega), hmb14⟩))
        exact pe_vret hx hb hr hlocks hK hP hD hS d_M_spanOf_120 ⟨⟨(mtp + 1), by omega, (TR.mk (fun _ => by omega) (fun _ => by omega) (fun _ _ => by omega)), e355⟩, hI358, hu⟩
      refine lv_aload_n hx hb d_M_spanOf_80 rfl (lv_at hl 2 rfl) ?_
      refine pf_get (v := .ref (g.lk M 23)) (C := "BigRunnerModel") (T := FT10) (N := 45) hx hb (hw10 hB _) (fun _ h9 => h9) hown hK hP (lo_in hL t_M (by decide)) eM rfl 23 (by decide) (wd_970 hB _) rfl d_M_spanOf_81 ?_
      refine lv_aload_n hx hb d_M_spanOf_84 rfl (lv_at hl 2 rfl) ?_
      refine pf_get (v := .int (nI mtp)) (C := "BigRunnerModel") (T := FT10) (N := 45) hx hb (hw10 hB _) (fun _ h9 => h9) hown hK hP (lo_in hL t_M (by decide)) eM rfl 32 (by decide) (wd_979 hB _) rfl d_M_spanOf_85 ?_
      obtain ⟨h_360, e359⟩ := oc_55.of (lo_k11_23 hL _ t_M) (hI1_342.1 (g.lk M 23))
      refine pf_zald (i := mtp) hx hb hK hP (lo_in hL (lo_k11_23 hL _ t_M) (by decide)) e359 (lo_t55 hL _ (lo_k11_23 hL _ t_M)) (by omega) (by decide) d_M_spanOf_88 ?_
      refine lv_topi (fun iv362 _ => ?_)
      refine lv_if_ne (tgt := 108) hx hb d_M_spanOf_89 (by decide) (fun b363 => ?_) (fun b363 => ?_)
      · skip
        refine lv_iconst (v := nI 0) hx hb d_M_spanOf_108 (by decide) ?_
        exact jn344 ((nI 0)) _ _ hP hD hS
      · skip
        refine lv_aload_n hx hb d_M_spanOf_92 rfl (lv_at hl 2 rfl) ?_
        refine pf_get (v := .ref (g.lk M 24)) (C := "BigRunnerModel") (T := FT10) (N := 45) hx hb (hw10 hB _) (fun _ h9 => h9) hown hK hP (lo_in hL t_M (by decide)) eM rfl 24 (by decide) (wd_971 hB _) rfl d_M_spanOf_93 ?_
        refine lv_aload_n hx hb d_M_spanOf_96 rfl (lv_at hl 2 rfl) ?_
        refine pf_get (v := .int (nI mtp)) (C := "BigRunnerModel") (T := FT10) (N := 45) hx hb (hw10 hB _) (fun _ h9 => h9) hown hK hP (lo_in hL t_M (by decide)) eM rfl 32 (by decide) (wd_979 hB _) rfl d_M_spanOf_97 ?_
        obtain ⟨h_365, e364⟩ := oc_56.of (lo_k11_24 hL _ t_M) (hI1_342.1 (g.lk M 24))
        refine pf_zald (i := mtp) hx hb hK hP (lo_in hL (lo_k11_24 hL _ t_M) (by decide)) e364 (lo_t56 hL _ (lo_k11_24 hL _ t_M)) (by omega) (by decide) d_M_spanOf_100 ?_
        refine lv_topi (fun iv367 _ => ?_)
        refine lv_if_ne (tgt := 108) hx hb d_M_spanOf_101 (by decide) (fun b368 => ?_) (fun b368 => ?_)
        · skip
          refine lv_iconst (v := nI 0) hx hb d_M_spanOf_108 (by decide) ?_
          exact jn344 ((nI 0)) _ _ hP hD hS
        · skip
          refine lv_iconst (v := nI 1) hx hb d_M_spanOf_104 (by decide) ?_
          refine lv_goto (tgt := 109) hx hb d_M_spanOf_105 (by decide) ?_
          exact jn344 ((nI 1)) _ _ hP hD hS
    · skip
      replace b322 := (nI_eq (a := w) (b := 0) (by omega) (by omega)).mp b322
      refine lv_aload_n hx hb d_M_spanOf_23 rfl (lv_at hl 2 rfl) ?_
      refine lv_aload_n hx hb d_M_spanOf_24 rfl (lv_at hl 2 rfl) ?_
      refine pf_get (v := .int (nI mtp)) (C := "BigRunnerModel") (T := FT10) (N := 45) hx hb (hw10 hB _) (fun _ h9 => h9) hown hK hP (lo_in hL t_M (by decide)) eM rfl 32 (by decide) (wd_979 hB _) rfl d_M_spanOf_25 ?_
      refine lv_iload_n hx hb d_M_spanOf_28 rfl (lv_at hl 0 rfl) ?_
      refine pf_i2lN hx hb (by omega) d_M_spanOf_29 ?_
      refine lv_iload_n hx hb d_M_spanOf_30 rfl (lv_at hl 0 rfl) ?_
      refine pf_i2lN hx hb (by omega) d_M_spanOf_31 ?_
      refine lv_iconst (v := nI 0) hx hb d_M_spanOf_32 (by decide) ?_
      refine lv_iconst (v := nI 0) hx hb d_M_spanOf_33 (by decide) ?_
      refine pcc_v (va_runV (C := "BigRunnerModel") (As := [.int (nI mtp), .long (nL v), .long (nL v), .int (nI 0), .int (nI 0)]) (rest := []) ⟨hx, hb, hml, hown, tb_nil⟩ (m_interval l g s.heap.size f M mtp ((nL v)) ((nL v)) ((nI 0)) ((nI 0)) hL t_M hI (by omega)) ⟨(callB_of 5 (tb_one (wd_1160 hB _)) tb_good1 rfl rfl rfl (wd_82 hB _) (wd_1157 hB _) (by decide +kernel) ⟨Nat.le_of_ble_eq_true rfl, Nat.le_of_ble_eq_true rfl⟩), (wd_1159 hB _), (wd_53 hB _)⟩ ⟨pe_bl, pg_recv (ci := 10) hK hP (lo_in hL t_M (by decide)) eM rfl, pe_pre hB hK hP hD⟩ rfl rfl hl.1 rfl (lv_room (Nat.le_of_ble_eq_true rfl)) d_M_spanOf_34 ⟨Nat.le_of_ble_eq_true rfl, Nat.le_of_ble_eq_true rfl⟩) hS (fun f370 H locs hq371 hP hD hS => ?_)
      obtain ⟨hI1_372, hu1_373⟩ := hq371
      have hu := hu.tr hu1_373 (by decide)
      have eM := hu1_373.at t_M (by decide) eM
      have eC := hu1_373.at (lo_k11_6 hL _ t_M) (by decide) eC
      have eA := hu1_373.at (lo_k11_7 hL _ t_M) (by decide) eA
      refine lv_goto (tgt := 72) hx hb d_M_spanOf_37 (by decide) ?_
      refine lv_aload_n hx hb d_M_spanOf_72 rfl (lv_at hl 2 rfl) ?_
      refine pf_get (v := .ref (g.lk M 25)) (C := "BigRunnerModel") (T := FT10) (N := 45) hx hb (hw10 hB _) (fun _ h9 => h9) hown hK hP (lo_in hL t_M (by decide)) eM rfl 25 (by decide) (wd_972 hB _) rfl d_M_spanOf_73 ?_
      refine lv_aload_n hx hb d_M_spanOf_76 rfl (lv_at hl 2 rfl) ?_
      refine pf_get (v := .int (nI mtp)) (C := "BigRunnerModel") (T := FT10) (N := 45) hx hb (hw10 hB _) (fun _ h9 => h9) hown hK hP (lo_in hL t_M (by decide)) eM rfl 32 (by decide) (wd_979 hB _) rfl d_M_spanOf_77 ?_
      have jn374 : ∀ (bj375 : Int32) (H : Heap) (locs : List Loc), va_P g.D vcl (va_pl g.LP f370) H → va_D (pc_A g s.heap.size) (va_pl g.LP f370) → va_S (pc_A g s.heap.size) s.heap H locs → W p l e ({ frames := 3, cells := 0, slots := 0, locals := 77 }) s m args below meth c H locs 0 0 (MQ below (va_Qv (fun f1 => (∃ (tp1 : Nat), (tp1 ≤ 80) ∧ (TR w mtp tp1) ∧ f1 M = .inr (10, [.int mth, .ref (g.lk M 1), .int (nI mn), .ref (g.lk M 3), .ref (g.lk M 4), .int (nI mdr), .ref (g.lk M 6), .ref (g.lk M 7), .ref (g.lk M 8), .int (nI msz), .int (nI mix), .int (nI mdp), .ref (g.lk M 12), .int (nI mwt), .ref (g.lk M 14), .ref (g.lk M 15), .int (nI mop), .ref (g.lk M 17), .ref (g.lk M 18), .ref (g.lk M 19), .ref (g.lk M 20), .ref (g.lk M 21), .ref (g.lk M 22), .ref (g.lk M 23), .ref (g.lk M 24), .ref (g.lk M 25), .ref (g.lk M 26), .ref (g.lk M 27), .ref (g.lk M 28), .ref (g.lk M 29), .ref (g.lk M 30), .ref (g.lk M 31), .int (nI tp1), .ref (g.lk M 33), .ref (g.lk M 34), .ref (g.lk M 35), .int (nI mwa), .int (nI mgi), .int (nI mpc), .int (nI mst), .int (nI mtr), .int (nI msp), .int mma, .int mlg, .int mdu])) ∧ (IV g f1) ∧ (un [11, 45, 53, 54, 55, 56, 57] g f f1)) (pc_out g s.heap.size) (pc_A g s.heap.size)) args s 0 0 (pc_A g s.heap.size)) (F0 m 109 ls [.int bj375, .int (nI mtp), .ref (g.lk M 25)]) := by
        intro bj375 H locs hP hD hS
        obtain ⟨h_377, e376⟩ := oc_57.of (lo_k11_25 hL _ t_M) (hI1_372.1 (g.lk M 25))
        refine pf_zast (i := mtp) hx hb hK hP hD hS (lo_in hL (lo_k11_25 hL _ t_M) (by decide)) e376 (lo_t57 hL _ (lo_k11_25 hL _ t_M)) (by omega) (by decide) d_M_spanOf_109 (fun f379 H locs e380 k381 hP hD hS => ?_)
        have eM := (k381 M (tg_ne t_M (lo_k11_25 hL _ t_M) (by decide))).trans eM
        have eC := (k381 (g.lk M 6) (tg_ne (lo_k11_6 hL _ t_M) (lo_k11_25 hL _ t_M) (by decide))).trans eC
        have eA := (k381 (g.lk M 7) (tg_ne (lo_k11_7 hL _ t_M) (lo_k11_25 hL _ t_M) (by decide))).trans eA
        have hu := hu.st k381 (lo_k11_25 hL _ t_M) (by decide)
        have hk382 : ∀ b, b ≠ (g.lk M 25) → f379 b = f370 b := k381
        refine lv_aload_n hx hb d_M_spanOf_110 rfl (lv_at hl 2 rfl) ?_
        refine lv_dup hx hb d_M_spanOf_111 rfl ?_
        refine pf_get (v := .int (nI mtp)) (C := "BigRunnerModel") (T := FT10) (N := 45) hx hb (hw10 hB _) (fun _ h9 => h9) hown hK hP (lo_in hL t_M (by decide)) eM rfl 32 (by decide) (wd_979 hB _) rfl d_M_spanOf_112 ?_
        refine lv_iconst (v := nI 1) hx hb d_M_spanOf_115 (by decide) ?_
        refine pf_iaddN (x := mtp) (y := 1) hx hb d_M_spanOf_116 ?_
        have hI383 := iv_1 hI1_372 hL (lo_k11_25 hL _ t_M) (by decide) hk382 (oc_57.mk (lo_k11_25 hL _ t_M) (⟨_, e380⟩))
        refine pf_put (v := .int (nI (mtp + 1))) (ty := .int) (fs' := [.int mth, .ref (g.lk M 1), .int (nI mn), .ref (g.lk M 3), .ref (g.lk M 4), .int (nI mdr), .ref (g.lk M 6), .ref (g.lk M 7), .ref (g.lk M 8), .int (nI msz), .int (nI mix), .int (nI mdp), .ref (g.lk M 12), .int (nI mwt), .ref (g.lk M 14), .ref (g.lk M 15), .int (nI mop), .ref (g.lk M 17), .ref (g.lk M 18), .ref (g.lk M 19), .ref (g.lk M 20), .ref (g.lk M 21), .ref (g.lk M 22), .ref (g.lk M 23), .ref (g.lk M 24), .ref (g.lk M 25), .ref (g.lk M 26), .ref (g.lk M 27), .ref (g.lk M 28), .ref (g.lk M 29), .ref (g.lk M 30), .ref (g.lk M 31), .int (nI (mtp + 1)), .ref (g.lk M 33), .ref (g.lk M 34), .ref (g.lk M 35), .int (nI mwa), .int (nI mgi), .int (nI mpc), .int (nI mst), .int (nI mtr), .int (nI msp), .int mma, .int mlg, .int mdu]) (C := "BigRunnerModel") (T := FT10) (N := 45) hx hb (hw10 hB _) (fun _ h9 => h9) TY10 ok10 nm10 hown hK hP hD hS (lo_in hL t_M (by decide)) eM rfl 32 (by decide) (wd_979 hB _) rfl (by decide +kernel) rfl rfl (Nat.le_of_ble_eq_true rfl) rfl d_M_spanOf_117 (fun f384 H locs e385 k386 hP hD hS => ?_)
        have eC := (k386 (g.lk M 6) (tg_ne (lo_k11_6 hL _ t_M) t_M (by decide))).trans eC
        have eA := (k386 (g.lk M 7) (tg_ne (lo_k11_7 hL _ t_M) t_M (by decide))).trans eA
        have e380 := (k386 (g.lk M 25) (tg_ne (lo_k11_25 hL _ t_M) t_M (by decide))).trans e380
        have hu := hu.st k386 t_M (by decide)
        have hk387 : ∀ b, b ≠ M → f384 b = f379 b := k386
        have hI388 := iv_1 hI383 hL t_M (by decide) hk387 (oc_11.mk t_M (⟨mth, mn, mdr, msz, mix, mdp, mwt, mop, (mtp + 1), mwa, mgi, mpc, mst, mtr, msp, mma, mlg, mdu, e385, (by omega), (by omega), (by omega), (by omega), (by omega), (by omega), (by omega), (by omega), (by omega), (by omega), (by omega), (by omega), (by omega), (by omega), hmb14⟩))
        exact pe_vret hx hb hr hlocks hK hP hD hS d_M_spanOf_120 ⟨⟨(mtp + 1), by omega, (TR.mk (fun _ => by omega) (fun _ => by omega) (fun _ _ => by omega)), e385⟩, hI388, hu⟩
      refine lv_aload_n hx hb d_M_spanOf_80 rfl (lv_at hl 2 rfl) ?_
      refine pf_get (v := .ref (g.lk M 23)) (C := "BigRunnerModel") (T := FT10) (N := 45) hx hb (hw10 hB _) (fun _ h9 => h9) hown hK hP (lo_in hL t_M (by decide)) eM rfl 23 (by decide) (wd_970 hB _) rfl d_M_spanOf_81 ?_
      refine lv_aload_n hx hb d_M_spanOf_84 rfl (lv_at hl 2 rfl) ?_
      refine pf_get (v := .int (nI mtp)) (C := "BigRunnerModel") (T := FT10) (N := 45) hx hb (hw10 hB _) (fun _ h9 => h9) hown hK hP (lo_in hL t_M (by decide)) eM rfl 32 (by decide) (wd_979 hB _) rfl d_M_spanOf_85 ?_
      obtain ⟨h_390, e389⟩ := oc_55.of (lo_k11_23 hL _ t_M) (hI1_372.1 (g.lk M 23))
      refine pf_zald (i := mtp) hx hb hK hP (lo_in hL (lo_k11_23 hL _ t_M) (by decide)) e389 (lo_t55 hL _ (lo_k11_23 hL _ t_M)) (by omega) (by decide) d_M_spanOf_88 ?_
      refine lv_topi (fun iv392 _ => ?_)
      refine lv_if_ne (tgt := 108) hx hb d_M_spanOf_89 (by decide) (fun b393 => ?_) (fun b393 => ?_)
      · skip
        refine lv_iconst (v := nI 0) hx hb d_M_spanOf_108 (by decide) ?_
        exact jn374 ((nI 0)) _ _ hP hD hS
      · skip
        refine lv_aload_n hx hb d_M_spanOf_92 rfl (lv_at hl 2 rfl) ?_
        refine pf_get (v := .ref (g.lk M 24)) (C := "BigRunnerModel") (T := FT10) (N := 45) hx hb (hw10 hB _) (fun _ h9 => h9) hown hK hP (lo_in hL t_M (by decide)) eM rfl 24 (by decide) (wd_971 hB _) rfl d_M_spanOf_93 ?_
        refine lv_aload_n hx hb d_M_spanOf_96 rfl (lv_at hl 2 rfl) ?_
        refine pf_get (v := .int (nI mtp)) (C := "BigRunnerModel") (T := FT10) (N := 45) hx hb (hw10 hB _) (fun _ h9 => h9) hown hK hP (lo_in hL t_M (by decide)) eM rfl 32 (by decide) (wd_979 hB _) rfl d_M_spanOf_97 ?_
        obtain ⟨h_395, e394⟩ := oc_56.of (lo_k11_24 hL _ t_M) (hI1_372.1 (g.lk M 24))
        refine pf_zald (i := mtp) hx hb hK hP (lo_in hL (lo_k11_24 hL _ t_M) (by decide)) e394 (lo_t56 hL _ (lo_k11_24 hL _ t_M)) (by omega) (by decide) d_M_spanOf_100 ?_
        refine lv_topi (fun iv397 _ => ?_)
        refine lv_if_ne (tgt := 108) hx hb d_M_spanOf_101 (by decide) (fun b398 => ?_) (fun b398 => ?_)
        · skip
          refine lv_iconst (v := nI 0) hx hb d_M_spanOf_108 (by decide) ?_
          exact jn374 ((nI 0)) _ _ hP hD hS
        · skip
          refine lv_iconst (v := nI 1) hx hb d_M_spanOf_104 (by decide) ?_
          refine lv_goto (tgt := 109) hx hb d_M_spanOf_105 (by decide) ?_
          exact jn374 ((nI 1)) _ _ hP hD hS
set_option maxHeartbeats 4000000 in
set_option maxRecDepth 100000 in
theorem m_round (l : Launch) (g : Lay) (sz : Nat) (f : Nat → va_E) (M : Nat) (mth : Int32) (mn : Nat) (mdr : Nat) (msz : Nat) (mix : Nat) (mdp : Nat) (mwt : Nat) (mop : Nat) (mtp : Nat) (mwa : Nat) (mgi : Nat) (mpc : Nat) (mst : Nat) (mtr : Nat) (msp : Nat) (mma : Int32) (mlg : Int32) (mdu : Int32) (hC : Nat → Int32) (hA : Nat → Int32) (dpf : Nat → Nat) (hU : Nat → Int32) (hO : Nat → Int32) (n9 : Nat) (hL : LO g) (t_M : g.tg M = 11) (hI : IV g f) (eM : f M = .inr (10, [.int mth, .ref (g.lk M 1), .int (nI mn), .ref (g.lk M 3), .ref (g.lk M 4), .int (nI mdr), .ref (g.lk M 6), .ref (g.lk M 7), .ref (g.lk M 8), .int (nI msz), .int (nI mix), .int (nI mdp), .ref (g.lk M 12), .int (nI mwt), .ref (g.lk M 14), .ref (g.lk M 15), .int (nI mop), .ref (g.lk M 17), .ref (g.lk M 18), .ref (g.lk M 19), .ref (g.lk M 20), .ref (g.lk M 21), .ref (g.lk M 22), .ref (g.lk M 23), .ref (g.lk M 24), .ref (g.lk M 25), .ref (g.lk M 26), .ref (g.lk M 27), .ref (g.lk M 28), .ref (g.lk M 29), .ref (g.lk M 30), .ref (g.lk M 31), .int (nI mtp), .ref (g.lk M 33), .ref (g.lk M 34), .ref (g.lk M 35), .int (nI mwa), .int (nI mgi), .int (nI mpc), .int (nI mst), .int (nI mtr), .int (nI msp), .int mma, .int mlg, .int mdu])) (hMB : mn ≤ 72 ∧ mdr ≤ 100 ∧ msz ≤ 100 ∧ mix ≤ 100 ∧ mdp ≤ 20 ∧ mwt ≤ 72 ∧ mop ≤ 40 ∧ mtp ≤ 80 ∧ mwa ≤ 20 ∧ mgi ≤ msp ∧ mpc ≤ 100 ∧ mst ≤ 4 ∧ mtr ≤ 3 ∧ msp ≤ 3000 ∧ (mdu = 0 ∨ mdu = 1)) (eC : f (g.lk M 6) = .inl (g.ac (g.lk M 6), 100, .inl hC)) (eA : f (g.lk M 7) = .inl (g.ac (g.lk M 7), 100, .inl hA)) (hWF : WF hC hA dpf msz) (eU : f (g.lk M 19) = .inl (g.ac (g.lk M 19), 10, .inl hU)) (eO : f (g.lk M 20) = .inl (g.ac (g.lk M 20), 10, .inl hO)) (hn9 : n9 < 1000) : Met l ⟨"BigRunnerModel", "round", "(I)Z"⟩ [Cond.code ⟨"BigRunnerModel", "round", "(I)Z"⟩ prog_12_method_24_code 4 (some .boolean)] ({ frames := 4, cells := 0, slots := 0, locals := 100 }) (va_Pc [.ref M, .int (nI n9)] (pc_in g sz f)) (va_Qi (fun r f1 => (r = nI 0 ∨ r = nI 1) ∧ (∃ (tp1 : Nat), (tp1 ≤ 80) ∧ f1 M = .inr (10, [.int mth, .ref (g.lk M 1), .int (nI mn), .ref (g.lk M 3), .ref (g.lk M 4), .int (nI mdr), .ref (g.lk M 6), .ref (g.lk M 7), .ref (g.lk M 8), .int (nI msz), .int (nI mix), .int (nI mdp), .ref (g.lk M 12), .int (nI mwt), .ref (g.lk M 14), .ref (g.lk M 15), .int (nI mop), .ref (g.lk M 17), .ref (g.lk M 18), .ref (g.lk M 19), .ref (g.lk M 20), .ref (g.lk M 21), .ref (g.lk M 22), .ref (g.lk M 23), .ref (g.lk M 24), .ref (g.lk M 25), .ref (g.lk M 26), .ref (g.lk M 27), .ref (g.lk M 28), .ref (g.lk M 29), .ref (g.lk M 30), .ref (g.lk M 31), .int (nI tp1), .ref (g.lk M 33), .ref (g.lk M 34), .ref (g.lk M 35), .int (nI mwa), .int (nI mgi), .int (nI mpc), .int (nI mst), .int (nI mtr), .int (nI msp), .int mma, .int mlg, .int mdu])) ∧ (∃ (u1 o1 : Nat → Int32), f1 (g.lk M 19) = .inl (g.ac (g.lk M 19), 10, .inl u1) ∧ f1 (g.lk M 20) = .inl (g.ac (g.lk M 20), 10, .inl o1) ∧ cz u1 10 + cz o1 10 ≤ cz hU 10 + cz hO 10 ∧ (r = nI 1 → 3 < n9 → cz u1 10 + cz o1 10 < cz hU 10 + cz hO 10)) ∧ (IV g f1) ∧ (un [11, 45, 49, 50, 51, 52, 53, 54, 55, 56, 57] g f f1)) (pc_out g sz) (pc_A g sz)) 0 0 (pc_A g sz) := by
  refine pe_ofW (cc := prog_12_method_24_code) (maxL := 4) (ret := (some .boolean)) (lv := [(0, .ref M), (1, .int (nI n9))]) (by decide) (Nat.le_of_ble_eq_true rfl) rfl ?_
  intro p e s m args below meth c ls hx hb hr hml hlocks hown hB hP hK hD hsz hS hl
  subst hsz
  have hu : un [11, 45, 49, 50, 51, 52, 53, 54, 55, 56, 57] g f f := un.rf
  obtain ⟨hmb0, hmb1, hmb2, hmb3, hmb4, hmb5, hmb6, hmb7, hmb8, hmb9, hmb10, hmb11, hmb12, hmb13, hmb14⟩ := hMB
  refine lv_iconst (v := nI 0) hx hb d_M_round_0 (by decide) ?_
  refine lv_istore_n (lv' := [(2, .int (nI 0)), (0, .ref M), (1, .int (nI n9))]) hx hb d_M_round_1 rfl hl (by decide) rfl (fun ls hl => ?_)
  refine lv_aload_n hx hb d_M_round_2 rfl (lv_at hl 1 rfl) ?_
  refine lv_iconst (v := nI 0) hx hb d_M_round_3 (by decide) ?_
  refine pf_put (v := .int (nI 0)) (ty := .int) (fs' := [.int mth, .ref (g.lk M 1), .int (nI mn), .ref (g.lk M 3), .ref (g.lk M 4), .int (nI mdr), .ref (g.lk M 6), .ref (g.lk M 7), .ref (g.lk M 8), .int (nI msz), .int (nI mix), .int (nI mdp), .ref (g.lk M 12), .int (nI mwt), .ref (g.lk M 14), .ref (g.lk M 15), .int (nI mop), .ref (g.lk M 17), .ref (g.lk M 18), .ref (g.lk M 19), .ref (g.lk M 20), .ref (g.lk M 21), .ref (g.lk M 22), .ref (g.lk M 23), .ref (g.lk M 24), .ref (g.lk M 25), .ref (g.lk M 26), .ref (g.lk M 27), .ref (g.lk M 28), .ref (g.lk M 29), .ref (g.lk M 30), .ref (g.lk M 31), .int (nI 0), .ref (g.lk M 33), .ref (g.lk M 34), .ref (g.lk M 35), .int (nI mwa), .int (nI mgi), .int (nI mpc), .int (nI mst), .int (nI mtr), .int (nI msp), .int mma, .int mlg, .int mdu]) (C := "BigRunnerModel") (T := FT10) (N := 45) hx hb (hw10 hB _) (fun _ h9 => h9) TY10 ok10 nm10 hown hK hP hD hS (lo_in hL t_M (by decide)) eM rfl 32 (by decide) (wd_979 hB _) rfl (by decide +kernel) rfl rfl (Nat.le_of_ble_eq_true rfl) rfl d_M_round_4 (fun f1 H locs e2 k3 hP hD hS => ?_)
  have eC := (k3 (g.lk M 6) (tg_ne (lo_k11_6 hL _ t_M) t_M (by decide))).trans eC
  have eA := (k3 (g.lk M 7) (tg_ne (lo_k11_7 hL _ t_M) t_M (by decide))).trans eA
  have eU := (k3 (g.lk M 19) (tg_ne (lo_k11_19 hL _ t_M) t_M (by decide))).trans eU
  have eO := (k3 (g.lk M 20) (tg_ne (lo_k11_20 hL _ t_M) t_M (by decide))).trans eO
  have hu := hu.st k3 t_M (by decide)
  have hk4 : ∀ b, b ≠ M → f1 b = f b := k3
  refine lv_iconst (v := nI 0) hx hb d_M_round_7 (by decide) ?_
  refine lv_istore_n (lv' := [(3, .int (nI 0)), (2, .int (nI 0)), (0, .ref M), (1, .int (nI n9))]) hx hb d_M_round_8 rfl hl (by decide) rfl (fun ls hl => ?_)
  have hI5 := iv_1 hI hL t_M (by decide) hk4 (oc_11.mk t_M (⟨mth, mn, mdr, msz, mix, mdp, mwt, mop, 0, mwa, mgi, mpc, mst, mtr, msp, mma, mlg, mdu, e2, (by omega), (by omega), (by omega), (by omega), (by omega), (by omega), (by omega), (by omega), (by omega), (by omega), (by omega), (by omega), (by omega), (by omega), hmb14⟩))
  have lp6 : ∀ (k8 : Nat) (mv9 : Int32) (p9 : Nat) (t9 : Nat) (hU2 : Nat → Int32) (hO2 : Nat → Int32) (f7 : Nat → va_E) (H : Heap) (locs : List Loc) (ls : Array Slot), (msz < p9 + k8) → (mv9 = nI 0 ∨ mv9 = nI 1) → (p9 ≤ msz) → (t9 = dpf p9) → (t9 ≤ 80) → (cz hU2 10 + cz hO2 10 ≤ cz hU 10 + cz hO 10) → (mv9 = nI 1 → 3 < n9 → cz hU2 10 + cz hO2 10 < cz hU 10 + cz hO 10) → f7 M = .inr (10, [.int mth, .ref (g.lk M 1), .int (nI mn), .ref (g.lk M 3), .ref (g.lk M 4), .int (nI mdr), .ref (g.lk M 6), .ref (g.lk M 7), .ref (g.lk M 8), .int (nI msz), .int (nI mix), .int (nI mdp), .ref (g.lk M 12), .int (nI mwt), .ref (g.lk M 14), .ref (g.lk M 15), .int (nI mop), .ref (g.lk M 17), .ref (g.lk M 18), .ref (g.lk M 19), .ref (g.lk M 20), .ref (g.lk M 21), .ref (g.lk M 22), .ref (g.lk M 23), .ref (g.lk M 24), .ref (g.lk M 25), .ref (g.lk M 26), .ref (g.lk M 27), .ref (g.lk M 28), .ref (g.lk M 29), .ref (g.lk M 30), .ref (g.lk M 31), .int (nI t9), .ref (g.lk M 33), .ref (g.lk M 34), .ref (g.lk M 35), .int (nI mwa), .int (nI mgi), .int (nI mpc), .int (nI mst), .int (nI mtr), .int (nI msp), .int mma, .int mlg, .int mdu]) → f7 (g.lk M 19) = .inl (g.ac (g.lk M 19), 10, .inl (hU2)) → f7 (g.lk M 20) = .inl (g.ac (g.lk M 20), 10, .inl (hO2)) → IV g f7 → un [11, 45, 49, 50, 51, 52, 53, 54, 55, 56, 57] g f1 f7 → lv_has ls 4 [(3, .int (nI p9)), (2, .int mv9), (0, .ref M), (1, .int (nI n9))] → va_P g.D vcl (va_pl g.LP f7) H → va_D (pc_A g s.heap.size) (va_pl g.LP f7) → va_S (pc_A g s.heap.size) s.heap H locs → W p l e ({ frames := 4, cells := 0, slots := 0, locals := 100 }) s m args below meth c H locs 0 0 (MQ below (va_Qi (fun r f1 => (r = nI 0 ∨ r = nI 1) ∧ (∃ (tp1 : Nat), (tp1 ≤ 80) ∧ f1 M = .inr (10, [.int mth, .ref (g.lk M 1), .int (nI mn), .ref (g.lk M 3), .ref (g.lk M 4), .int (nI mdr), .ref (g.lk M 6), .ref (g.lk M 7), .ref (g.lk M 8), .int (nI msz), .int (nI mix), .int (nI mdp), .ref (g.lk M 12), .int (nI mwt), .ref (g.lk M 14), .ref (g.lk M 15), .int (nI mop), .ref (g.lk M 17), .ref (g.lk M 18), .ref (g.lk M 19), .ref (g.lk M 20), .ref (g.lk M 21), .ref (g.lk M 22), .ref (g.lk M 23), .ref (g.lk M 24), .ref (g.lk M 25), .ref (g.lk M 26), .ref (g.lk M 27), .ref (g.lk M 28), .ref (g.lk M 29), .ref (g.lk M 30), .ref (g.lk M 31), .int (nI tp1), .ref (g.lk M 33), .ref (g.lk M 34), .ref (g.lk M 35), .int (nI mwa), .int (nI mgi), .int (nI mpc), .int (nI mst), .int (nI mtr), .int (nI msp), .int mma, .int mlg, .int mdu])) ∧ (∃ (u1 o1 : Nat → Int32), f1 (g.lk M 19) = .inl (g.ac (g.lk M 19), 10, .inl u1) ∧ f1 (g.lk M 20) = .inl (g.ac (g.lk M 20), 10, .inl o1) ∧ cz u1 10 + cz o1 10 ≤ cz hU 10 + cz hO 10 ∧ (r = nI 1 → 3 < n9 → cz u1 10 + cz o1 10 < cz hU 10 + cz hO 10)) ∧ (IV g f1) ∧ (un [11, 45, 49, 50, 51, 52, 53, 54, 55, 56, 57] g f f1)) (pc_out g s.heap.size) (pc_A g s.heap.size)) args s 0 0 (pc_A g s.heap.size)) (F0 m 9 ls []) := by
    intro k8
    induction k8 with
    | zero => intros; exfalso; omega
    | succ k8 ih9 =>
      intro mv9 p9 t9 hU2 hO2 f7 H locs ls hfu10 hmv hp9 ht9 ht8 hcz hcm e11 e12 e13 hI14 hv15 hl hP hD hS
      have eC := hv15.at (lo_k11_6 hL _ t_M) (by decide) eC
      have eA := hv15.at (lo_k11_7 hL _ t_M) (by decide) eA
      have hu := hu.tr hv15 (by decide)
      refine lv_iload_n hx hb d_M_round_9 rfl (lv_at hl 0 rfl) ?_
      refine lv_aload_n hx hb d_M_round_10 rfl (lv_at hl 2 rfl) ?_
      refine pf_get (v := .int (nI msz)) (C := "BigRunnerModel") (T := FT10) (N := 45) hx hb (hw10 hB _) (fun _ h9 => h9) hown hK hP (lo_in hL t_M (by decide)) e11 rfl 9 (by decide) (wd_956 hB _) rfl d_M_round_11 ?_
      refine lv_icmp_ge (tgt := 115) hx hb d_M_round_14 (by decide) (fun b16 => ?_) (fun b16 => ?_)
      · skip
        replace b16 := (nI_leI (a := msz) (b := p9) (by omega) (by omega)).mp b16
        refine lv_iload_n hx hb d_M_round_115 rfl (lv_at hl 1 rfl) ?_
        exact pe_zret hx hb hr hlocks hK hP hD hS d_M_round_116 (by rcases hmv with h9 | h9 <;> rw [h9] <;> rfl) ⟨hmv, ⟨t9, by omega, e11⟩, ⟨_, _, e12, e13, hcz, fun z9 y9 => hcm z9 y9⟩, hI14, hu⟩
      · skip
        replace b16 := mt (nI_leI (a := msz) (b := p9) (by omega) (by omega)).mpr b16
        obtain ⟨w, v, hWO⟩ := hWF.2.2 p9 (by omega)
        have hw := wo_c hWO
        have hv := wo_a hWO
        have q3 := wo_12 hWO
        have q4 := wo_b hWO
        have q5 := wo_dp hWO
        refine lv_aload_n hx hb d_M_round_17 rfl (lv_at hl 2 rfl) ?_
        refine pf_get (v := .ref (g.lk M 6)) (C := "BigRunnerModel") (T := FT10) (N := 45) hx hb (hw10 hB _) (fun _ h9 => h9) hown hK hP (lo_in hL t_M (by decide)) e11 rfl 6 (by decide) (wd_953 hB _) rfl d_M_round_18 ?_
        refine lv_iload_n hx hb d_M_round_21 rfl (lv_at hl 0 rfl) ?_
        refine pf_iald (i := p9) hx hb hK hP (lo_in hL (lo_k11_6 hL _ t_M) (by decide)) eC (lo_t43 hL _ (lo_k11_6 hL _ t_M)) (by omega) (by decide) d_M_round_22 ?_
        refine lv_topi (fun z_ hz_ => ?_)
        obtain rfl : z_ = nI w := hz_.trans hw
        refine lv_bipush (v := nI 8) hx hb d_M_round_23 (by decide) ?_
        refine lv_icmp_ge (tgt := 36) hx hb d_M_round_25 (by decide) (fun b17 => ?_) (fun b17 => ?_)
        · skip
          replace b17 := (nI_leI (a := 8) (b := w) (by omega) (by omega)).mp b17
          have q10 := wo_end hWO (by omega)
          refine lv_aload_n hx hb d_M_round_36 rfl (lv_at hl 2 rfl) ?_
          refine pf_get (v := .ref (g.lk M 6)) (C := "BigRunnerModel") (T := FT10) (N := 45) hx hb (hw10 hB _) (fun _ h9 => h9) hown hK hP (lo_in hL t_M (by decide)) e11 rfl 6 (by decide) (wd_953 hB _) rfl d_M_round_37 ?_
          refine lv_iload_n hx hb d_M_round_40 rfl (lv_at hl 0 rfl) ?_
          refine pf_iald (i := p9) hx hb hK hP (lo_in hL (lo_k11_6 hL _ t_M) (by decide)) eC (lo_t43 hL _ (lo_k11_6 hL _ t_M)) (by omega) (by decide) d_M_round_41 ?_
          refine lv_topi (fun z_ hz_ => ?_)
          obtain rfl : z_ = nI w := hz_.trans hw
          refine lv_bipush (v := nI 9) hx hb d_M_round_42 (by decide) ?_
          refine lv_icmp_ne (tgt := 60) hx hb d_M_round_44 (by decide) (fun b18 => ?_) (fun b18 => ?_)
          · skip
            replace b18 := mt (nI_eq (a := w) (b := 9) (by omega) (by omega)).mpr b18
            refine lv_aload_n hx hb d_M_round_60 rfl (lv_at hl 2 rfl) ?_
            refine pf_get (v := .ref (g.lk M 6)) (C := "BigRunnerModel") (T := FT10) (N := 45) hx hb (hw10 hB _) (fun _ h9 => h9) hown hK hP (lo_in hL t_M (by decide)) e11 rfl 6 (by decide) (wd_953 hB _) rfl d_M_round_61 ?_
            refine lv_iload_n hx hb d_M_round_64 rfl (lv_at hl 0 rfl) ?_
            refine pf_iald (i := p9) hx hb hK hP (lo_in hL (lo_k11_6 hL _ t_M) (by decide)) eC (lo_t43 hL _ (lo_k11_6 hL _ t_M)) (by omega) (by decide) d_M_round_65 ?_
            refine lv_topi (fun z_ hz_ => ?_)
            obtain rfl : z_ = nI w := hz_.trans hw
            refine lv_bipush (v := nI 10) hx hb d_M_round_66 (by decide) ?_
            refine lv_icmp_ge (tgt := 104) hx hb d_M_round_68 (by decide) (fun b19 => ?_) (fun b19 => ?_)
            · skip
              replace b19 := (nI_leI (a := 10) (b := w) (by omega) (by omega)).mp b19
              refine lv_aload_n hx hb d_M_round_104 rfl (lv_at hl 2 rfl) ?_
              refine lv_iconst (v := nI 0) hx hb d_M_round_105 (by decide) ?_
              refine pf_put (v := .int (nI 0)) (ty := .int) (fs' := [.int mth, .ref (g.lk M 1), .int (nI mn), .ref (g.lk M 3), .ref (g.lk M 4), .int (nI mdr), .ref (g.lk M 6), .ref (g.lk M 7), .ref (g.lk M 8), .int (nI msz), .int (nI mix), .int (nI mdp), .ref (g.lk M 12), .int (nI mwt), .ref (g.lk M 14), .ref (g.lk M 15), .int (nI mop), .ref (g.lk M 17), .ref (g.lk M 18), .ref (g.lk M 19), .ref (g.lk M 20), .ref (g.lk M 21), .ref (g.lk M 22), .ref (g.lk M 23), .ref (g.lk M 24), .ref (g.lk M 25), .ref (g.lk M 26), .ref (g.lk M 27), .ref (g.lk M 28), .ref (g.lk M 29), .ref (g.lk M 30), .ref (g.lk M 31), .int (nI 0), .ref (g.lk M 33), .ref (g.lk M 34), .ref (g.lk M 35), .int (nI mwa), .int (nI mgi), .int (nI mpc), .int (nI mst), .int (nI mtr), .int (nI msp), .int mma, .int mlg, .int mdu]) (C := "BigRunnerModel") (T := FT10) (N := 45) hx hb (hw10 hB _) (fun _ h9 => h9) TY10 ok10 nm10 hown hK hP hD hS (lo_in hL t_M (by decide)) e11 rfl 32 (by decide) (wd_979 hB _) rfl (by decide +kernel) rfl rfl (Nat.le_of_ble_eq_true rfl) rfl d_M_round_106 (fun f20 H locs e21 k22 hP hD hS => ?_)
              have eC := (k22 (g.lk M 6) (tg_ne (lo_k11_6 hL _ t_M) t_M (by decide))).trans eC
              have eA := (k22 (g.lk M 7) (tg_ne (lo_k11_7 hL _ t_M) t_M (by decide))).trans eA
              have e12 := (k22 (g.lk M 19) (tg_ne (lo_k11_19 hL _ t_M) t_M (by decide))).trans e12
              have e13 := (k22 (g.lk M 20) (tg_ne (lo_k11_20 hL _ t_M) t_M (by decide))).trans e13
              have hu := hu.st k22 t_M (by decide)
              have hv15 := hv15.st k22 t_M (by decide)
              have hk23 : ∀ b, b ≠ M → f20 b = f7 b := k22
              refine lv_iinc (k := 0) (v := nI (p9 + 1)) (lv' := [(3, .int (nI (p9 + 1))), (2, .int mv9), (0, .ref M), (1, .int (nI n9))]) hx hb d_M_round_109 hl rfl (by rw [nI_succ]; rfl) (by decide) rfl (fun ls hl => ?_)
              refine lv_goto (tgt := 9) hx hb d_M_round_112 (by decide) ?_
              have hI24 := iv_1 hI14 hL t_M (by decide) hk23 (oc_11.mk t_M (⟨mth, mn, mdr, msz, mix, mdp, mwt, mop, 0, mwa, mgi, mpc, mst, mtr, msp, mma, mlg, mdu, e21, (by omega), (by omega), (by omega), (by omega), (by omega), (by omega), (by omega), (by omega), (by omega), (by omega), (by omega), (by omega), (by omega), (by omega), hmb14⟩))
              exact ih9 mv9 (p9 + 1) 0 hU2 hO2 f20 H locs ls (by omega) hmv (by omega) (by omega) (by omega) hcz hcm e21 e12 e13 hI24 hv15 hl hP hD hS
            · skip
              replace b19 := mt (nI_leI (a := 10) (b := w) (by omega) (by omega)).mpr b19
              have q11 := wo_v hWO (by omega) (by omega)
              refine lv_aload_n hx hb d_M_round_71 rfl (lv_at hl 2 rfl) ?_
              refine lv_aload_n hx hb d_M_round_72 rfl (lv_at hl 2 rfl) ?_
              refine pf_get (v := .ref (g.lk M 7)) (C := "BigRunnerModel") (T := FT10) (N := 45) hx hb (hw10 hB _) (fun _ h9 => h9) hown hK hP (lo_in hL t_M (by decide)) e11 rfl 7 (by decide) (wd_954 hB _) rfl d_M_round_73 ?_
              refine lv_iload_n hx hb d_M_round_76 rfl (lv_at hl 0 rfl) ?_
              refine pf_iald (i := p9) hx hb hK hP (lo_in hL (lo_k11_7 hL _ t_M) (by decide)) eA (lo_t44 hL _ (lo_k11_7 hL _ t_M)) (by omega) (by decide) d_M_round_77 ?_
              refine lv_topi (fun z_ hz_ => ?_)
              obtain rfl : z_ = nI v := hz_.trans hv
              refine lv_iload_n hx hb d_M_round_78 rfl (lv_at hl 3 rfl) ?_
              refine lv_iconst (v := nI 3) hx hb d_M_round_79 (by decide) ?_
              refine lv_icmp_le (tgt := 87) hx hb d_M_round_80 (by decide) (fun b25 => ?_) (fun b25 => ?_)
              · skip
                replace b25 := (nI_leI (a := n9) (b := 3) (by omega) (by omega)).mp b25
                refine lv_iconst (v := nI 0) hx hb d_M_round_87 (by decide) ?_
                refine pcc_i (va_runV (C := "BigRunnerModel") (As := [.int (nI v), .int (nI 0)]) (rest := []) ⟨hx, hb, hml, hown, tb_nil⟩ (m_joined l g H.size f7 M v ((nI 0)) hU2 hO2 hL t_M hI14 (by omega) e12 e13) ⟨(callB_of 2 (tb_one (wd_1189 hB _)) tb_good1 rfl rfl rfl (wd_82 hB _) (wd_1186 hB _) (by decide +kernel) ⟨Nat.le_of_ble_eq_true rfl, Nat.le_of_ble_eq_true rfl⟩), (wd_1188 hB _), (wd_56 hB _)⟩ ⟨pe_bl, pg_recv (ci := 10) hK hP (lo_in hL t_M (by decide)) e11 rfl, pe_pre hB hK hP hD⟩ rfl rfl hl.1 rfl (lv_room (Nat.le_of_ble_eq_true rfl)) d_M_round_88 ⟨Nat.le_of_ble_eq_true rfl, Nat.le_of_ble_eq_true rfl⟩) hS (fun r26 f27 H locs hq28 hP hD hS => ?_)
                obtain ⟨bo_29, cz_30, hI1_31, hu1_32⟩ := hq28
                have hu := hu.tr hu1_32 (by decide)
                have hv15 := hv15.tr hu1_32 (by decide)
                have eC := hu1_32.at (lo_k11_6 hL _ t_M) (by decide) eC
                have eA := hu1_32.at (lo_k11_7 hL _ t_M) (by decide) eA
                have e11 := hu1_32.at t_M (by decide) e11
                obtain ⟨hu33, ho34, e35, e36, c37, c38⟩ := cz_30
                refine lv_if_ne (tgt := 98) hx hb d_M_round_91 (by decide) (fun b39 => ?_) (fun b39 => ?_)
                · skip
                  have hr40 : r26 = nI 1 := (bl_1 bo_29 b39)
                  refine lv_iconst (v := nI 1) hx hb d_M_round_98 (by decide) ?_
                  refine lv_goto (tgt := 103) hx hb d_M_round_99 (by decide) ?_
                  refine lv_istore_n (lv' := [(2, .int (nI 1)), (3, .int (nI p9)), (0, .ref M), (1, .int (nI n9))]) hx hb d_M_round_103 rfl hl (by decide) rfl (fun ls hl => ?_)
                  refine lv_aload_n hx hb d_M_round_104 rfl (lv_at hl 2 rfl) ?_
                  refine lv_iconst (v := nI 0) hx hb d_M_round_105 (by decide) ?_
                  refine pf_put (v := .int (nI 0)) (ty := .int) (fs' := [.int mth, .ref (g.lk M 1), .int (nI mn), .ref (g.lk M 3), .ref (g.lk M 4), .int (nI mdr), .ref (g.lk M 6), .ref (g.lk M 7), .ref (g.lk M 8), .int (nI msz), .int (nI mix), .int (nI mdp), .ref (g.lk M 12), .int (nI mwt), .ref (g.lk M 14), .ref (g.lk M 15), .int (nI mop), .ref (g.lk M 17), .ref (g.lk M 18), .ref (g.lk M 19), .ref (g.lk M 20), .ref (g.lk M 21), .ref (g.lk M 22), .ref (g.lk M 23), .ref (g.lk M 24), .ref (g.lk M 25), .ref (g.lk M 26), .ref (g.lk M 27), .ref (g.lk M 28), .ref (g.lk M 29), .ref (g.lk M 30), .ref (g.lk M 31), .int (nI 0), .ref (g.lk M 33), .ref (g.lk M 34), .ref (g.lk M 35), .int (nI mwa), .int (nI mgi), .int (nI mpc), .int (nI mst), .int (nI mtr), .int (nI msp), .int mma, .int mlg, .int mdu]) (C := "BigRunnerModel") (T := FT10) (N := 45) hx hb (hw10 hB _) (fun _ h9 => h9) TY10 ok10 nm10 hown hK hP hD hS (lo_in hL t_M (by decide)) e11 rfl 32 (by decide) (wd_979 hB _) rfl (by decide +kernel) rfl rfl (Nat.le_of_ble_eq_true rfl) rfl d_M_round_106 (fun f41 H locs e42 k43 hP hD hS => ?_)
                  have eC := (k43 (g.lk M 6) (tg_ne (lo_k11_6 hL _ t_M) t_M (by decide))).trans eC
                  have eA := (k43 (g.lk M 7) (tg_ne (lo_k11_7 hL _ t_M) t_M (by decide))).trans eA
                  have e35 := (k43 (g.lk M 19) (tg_ne (lo_k11_19 hL _ t_M) t_M (by decide))).trans e35
                  have e36 := (k43 (g.lk M 20) (tg_ne (lo_k11_20 hL _ t_M) t_M (by decide))).trans e36
                  have hu := hu.st k43 t_M (by decide)
                  have hv15 := hv15.st k43 t_M (by decide)
                  have hk44 : ∀ b, b ≠ M → f41 b = f27 b := k43
                  refine lv_iinc (k := 1) (v := nI (p9 + 1)) (lv' := [(3, .int (nI (p9 + 1))), (2, .int (nI 1)), (0, .ref M), (1, .int (nI n9))]) hx hb d_M_round_109 hl rfl (by rw [nI_succ]; rfl) (by decide) rfl (fun ls hl => ?_)
                  refine lv_goto (tgt := 9) hx hb d_M_round_112 (by decide) ?_
                  have hI45 := iv_1 hI1_31 hL t_M (by decide) hk44 (oc_11.mk t_M (⟨mth, mn, mdr, msz, mix, mdp, mwt, mop, 0, mwa, mgi, mpc, mst, mtr, msp, mma, mlg, mdu, e42, (by omega), (by omega), (by omega), (by omega), (by omega), (by omega), (by omega), (by omega), (by omega), (by omega), (by omega), (by omega), (by omega), (by omega), hmb14⟩))
                  exact ih9 (nI 1) (p9 + 1) 0 hu33 ho34 f41 H locs ls (by omega) (Or.inr rfl) (by omega) (by omega) (by omega) (by omega) (fun _ y9 => by omega) e42 e35 e36 hI45 hv15 hl hP hD hS
                · skip
                  have hr46 : r26 = nI 0 := b39
                  refine lv_iload_n hx hb d_M_round_94 rfl (lv_at hl 1 rfl) ?_
                  refine lv_if_eq (tgt := 102) hx hb d_M_round_95 (by decide) (fun b47 => ?_) (fun b47 => ?_)
                  · skip
                    have hr48 : mv9 = nI 0 := b47
                    refine lv_iconst (v := nI 0) hx hb d_M_round_102 (by decide) ?_
                    refine lv_istore_n (lv' := [(2, .int (nI 0)), (3, .int (nI p9)), (0, .ref M), (1, .int (nI n9))]) hx hb d_M_round_103 rfl hl (by decide) rfl (fun ls hl => ?_)
                    refine lv_aload_n hx hb d_M_round_104 rfl (lv_at hl 2 rfl) ?_
                    refine lv_iconst (v := nI 0) hx hb d_M_round_105 (by decide) ?_
                    refine pf_put (v := .int (nI 0)) (ty := .int) (fs' := [.int mth, .ref (g.lk M 1), .int (nI mn), .ref (g.lk M 3), .ref (g.lk M 4), .int (nI mdr), .ref (g.lk M 6), .ref (g.lk M 7), .ref (g.lk M 8), .int (nI msz), .int (nI mix), .int (nI mdp), .ref (g.lk M 12), .int (nI mwt), .ref (g.lk M 14), .ref (g.lk M 15), .int (nI mop), .ref (g.lk M 17), .ref (g.lk M 18), .ref (g.lk M 19), .ref (g.lk M 20), .ref (g.lk M 21), .ref (g.lk M 22), .ref (g.lk M 23), .ref (g.lk M 24), .ref (g.lk M 25), .ref (g.lk M 26), .ref (g.lk M 27), .ref (g.lk M 28), .ref (g.lk M 29), .ref (g.lk M 30), .ref (g.lk M 31), .int (nI 0), .ref (g.lk M 33), .ref (g.lk M 34), .ref (g.lk M 35), .int (nI mwa), .int (nI mgi), .int (nI mpc), .int (nI mst), .int (nI mtr), .int (nI msp), .int mma, .int mlg, .int mdu]) (C := "BigRunnerModel") (T := FT10) (N := 45) hx hb (hw10 hB _) (fun _ h9 => h9) TY10 ok10 nm10 hown hK hP hD hS (lo_in hL t_M (by decide)) e11 rfl 32 (by decide) (wd_979 hB _) rfl (by decide +kernel) rfl rfl (Nat.le_of_ble_eq_true rfl) rfl d_M_round_106 (fun f49 H locs e50 k51 hP hD hS => ?_)
                    have eC := (k51 (g.lk M 6) (tg_ne (lo_k11_6 hL _ t_M) t_M (by decide))).trans eC
                    have eA := (k51 (g.lk M 7) (tg_ne (lo_k11_7 hL _ t_M) t_M (by decide))).trans eA
                    have e35 := (k51 (g.lk M 19) (tg_ne (lo_k11_19 hL _ t_M) t_M (by decide))).trans e35
                    have e36 := (k51 (g.lk M 20) (tg_ne (lo_k11_20 hL _ t_M) t_M (by decide))).trans e36
                    have hu := hu.st k51 t_M (by decide)
                    have hv15 := hv15.st k51 t_M (by decide)
                    have hk52 : ∀ b, b ≠ M → f49 b = f27 b := k51
                    refine lv_iinc (k := 1) (v := nI (p9 + 1)) (lv' := [(3, .int (nI (p9 + 1))), (2, .int (nI 0)), (0, .ref M), (1, .int (nI n9))]) hx hb d_M_round_109 hl rfl (by rw [nI_succ]; rfl) (by decide) rfl (fun ls hl => ?_)
                    refine lv_goto (tgt := 9) hx hb d_M_round_112 (by decide) ?_
                    have hI53 := iv_1 hI1_31 hL t_M (by decide) hk52 (oc_11.mk t_M (⟨mth, mn, mdr, msz, mix, mdp, mwt, mop, 0, mwa, mgi, mpc, mst, mtr, msp, mma, mlg, mdu, e50, (by omega), (by omega), (by omega), (by omega), (by omega), (by omega), (by omega), (by omega), (by omega), (by omega), (by omega), (by omega), (by omega), (by omega), hmb14⟩))
                    exact ih9 (nI 0) (p9 + 1) 0 hu33 ho34 f49 H locs ls (by omega) (Or.inl rfl) (by omega) (by omega) (by omega) (by omega) (fun z9 => absurd z9 (by decide)) e50 e35 e36 hI53 hv15 hl hP hD hS
                  · skip
                    have hr54 : mv9 = nI 1 := (bl_1 hmv b47)
                    refine lv_iconst (v := nI 1) hx hb d_M_round_98 (by decide) ?_
                    refine lv_goto (tgt := 103) hx hb d_M_round_99 (by decide) ?_
                    refine lv_istore_n (lv' := [(2, .int (nI 1)), (3, .int (nI p9)), (0, .ref M), (1, .int (nI n9))]) hx hb d_M_round_103 rfl hl (by decide) rfl (fun ls hl => ?_)
                    refine lv_aload_n hx hb d_M_round_104 rfl (lv_at hl 2 rfl) ?_
                    refine lv_iconst (v := nI 0) hx hb d_M_round_105 (by decide) ?_
                    refine pf_put (v := .int (nI 0)) (ty := .int) (fs' := [.int mth, .ref (g.lk M 1), .int (nI mn), .ref (g.lk M 3), .ref (g.lk M 4), .int (nI mdr), .ref (g.lk M 6), .ref (g.lk M 7), .ref (g.lk M 8), .int (nI msz), .int (nI mix), .int (nI mdp), .ref (g.lk M 12), .int (nI mwt), .ref (g.lk M 14), .ref (g.lk M 15), .int (nI mop), .ref (g.lk M 17), .ref (g.lk M 18), .ref (g.lk M 19), .ref (g.lk M 20), .ref (g.lk M 21), .ref (g.lk M 22), .ref (g.lk M 23), .ref (g.lk M 24), .ref (g.lk M 25), .ref (g.lk M 26), .ref (g.lk M 27), .ref (g.lk M 28), .ref (g.lk M 29), .ref (g.lk M 30), .ref (g.lk M 31), .int (nI 0), .ref (g.lk M 33), .ref (g.lk M 34), .ref (g.lk M 35), .int (nI mwa), .int (nI mgi), .int (nI mpc), .int (nI mst), .int (nI mtr), .int (nI msp), .int mma, .int mlg, .int mdu]) (C := "BigRunnerModel") (T := FT10) (N := 45) hx hb (hw10 hB _) (fun _ h9 => h9) TY10 ok10 nm10 hown hK hP hD hS (lo_in hL t_M (by decide)) e11 rfl 32 (by decide) (wd_979 hB _) rfl (by decide +kernel) rfl rfl (Nat.le_of_ble_eq_true rfl) rfl d_M_round_106 (fun f55 H locs e56 k57 hP hD hS => ?_)
                    have eC := (k57 (g.lk M 6) (tg_ne (lo_k11_6 hL _ t_M) t_M (by decide))).trans eC
                    have eA := (k57 (g.lk M 7) (tg_ne (lo_k11_7 hL _ t_M) t_M (by decide))).trans eA
                    have e35 := (k57 (g.lk M 19) (tg_ne (lo_k11_19 hL _ t_M) t_M (by decide))).trans e35
                    have e36 := (k57 (g.lk M 20) (tg_ne (lo_k11_20 hL _ t_M) t_M (by decide))).trans e36
                    have hu := hu.st k57 t_M (by decide)
                    have hv15 := hv15.st k57 t_M (by decide)
                    have hk58 : ∀ b, b ≠ M → f55 b = f27 b := k57
                    refine lv_iinc (k := 1) (v := nI (p9 + 1)) (lv' := [(3, .int (nI (p9 + 1))), (2, .int (nI 1)), (0, .ref M), (1, .int (nI n9))]) hx hb d_M_round_109 hl rfl (by rw [nI_succ]; rfl) (by decide) rfl (fun ls hl => ?_)
                    refine lv_goto (tgt := 9) hx hb d_M_round_112 (by decide) ?_
                    have hI59 := iv_1 hI1_31 hL t_M (by decide) hk58 (oc_11.mk t_M (⟨mth, mn, mdr, msz, mix, mdp, mwt, mop, 0, mwa, mgi, mpc, mst, mtr, msp, mma, mlg, mdu, e56, (by omega), (by omega), (by omega), (by omega), (by omega), (by omega), (by omega), (by omega), (by omega), (by omega), (by omega), (by omega), (by omega), (by omega), hmb14⟩))
                    exact ih9 (nI 1) (p9 + 1) 0 hu33 ho34 f55 H locs ls (by omega) (Or.inr rfl) (by omega) (by omega) (by omega) (by omega) (fun _ y9 => by have z8 := hcm hr54 y9; omega) e56 e35 e36 hI59 hv15 hl hP hD hS
              · skip
                replace b25 := mt (nI_leI (a := n9) (b := 3) (by omega) (by omega)).mpr b25
                refine lv_iconst (v := nI 1) hx hb d_M_round_83 (by decide) ?_
                refine lv_goto (tgt := 88) hx hb d_M_round_84 (by decide) ?_
                refine pcc_i (va_runV (C := "BigRunnerModel") (As := [.int (nI v), .int (nI 1)]) (rest := []) ⟨hx, hb, hml, hown, tb_nil⟩ (m_joined l g H.size f7 M v ((nI 1)) hU2 hO2 hL t_M hI14 (by omega) e12 e13) ⟨(callB_of 2 (tb_one (wd_1189 hB _)) tb_good1 rfl rfl rfl (wd_82 hB _) (wd_1186 hB _) (by decide +kernel) ⟨Nat.le_of_ble_eq_true rfl, Nat.le_of_ble_eq_true rfl⟩), (wd_1188 hB _), (wd_56 hB _)⟩ ⟨pe_bl, pg_recv (ci := 10) hK hP (lo_in hL t_M (by decide)) e11 rfl, pe_pre hB hK hP hD⟩ rfl rfl hl.1 rfl (lv_room (Nat.le_of_ble_eq_true rfl)) d_M_round_88 ⟨Nat.le_of_ble_eq_true rfl, Nat.le_of_ble_eq_true rfl⟩) hS (fun r60 f61 H locs hq62 hP hD hS => ?_)
                obtain ⟨bo_63, cz_64, hI1_65, hu1_66⟩ := hq62
                have hu := hu.tr hu1_66 (by decide)
                have hv15 := hv15.tr hu1_66 (by decide)
                have eC := hu1_66.at (lo_k11_6 hL _ t_M) (by decide) eC
                have eA := hu1_66.at (lo_k11_7 hL _ t_M) (by decide) eA
                have e11 := hu1_66.at t_M (by decide) e11
                obtain ⟨hu67, ho68, e69, e70, c71, c72⟩ := cz_64
                refine lv_if_ne (tgt := 98) hx hb d_M_round_91 (by decide) (fun b73 => ?_) (fun b73 => ?_)
                · skip
                  have hr74 : r60 = nI 1 := (bl_1 bo_63 b73)
                  refine lv_iconst (v := nI 1) hx hb d_M_round_98 (by decide) ?_
                  refine lv_goto (tgt := 103) hx hb d_M_round_99 (by decide) ?_
                  refine lv_istore_n (lv' := [(2, .int (nI 1)), (3, .int (nI p9)), (0, .ref M), (1, .int (nI n9))]) hx hb d_M_round_103 rfl hl (by decide) rfl (fun ls hl => ?_)
                  refine lv_aload_n hx hb d_M_round_104 rfl (lv_at hl 2 rfl) ?_
                  refine lv_iconst (v := nI 0) hx hb d_M_round_105 (by decide) ?_
                  refine pf_put (v := .int (nI 0)) (ty := .int) (fs' := [.int mth, .ref (g.lk M 1), .int (nI mn), .ref (g.lk M 3), .ref (g.lk M 4), .int (nI mdr), .ref (g.lk M 6), .ref (g.lk M 7), .ref (g.lk M 8), .int (nI msz), .int (nI mix), .int (nI mdp), .ref (g.lk M 12), .int (nI mwt), .ref (g.lk M 14), .ref (g.lk M 15), .int (nI mop), .ref (g.lk M 17), .ref (g.lk M 18), .ref (g.lk M 19), .ref (g.lk M 20), .ref (g.lk M 21), .ref (g.lk M 22), .ref (g.lk M 23), .ref (g.lk M 24), .ref (g.lk M 25), .ref (g.lk M 26), .ref (g.lk M 27), .ref (g.lk M 28), .ref (g.lk M 29), .ref (g.lk M 30), .ref (g.lk M 31), .int (nI 0), .ref (g.lk M 33), .ref (g.lk M 34), .ref (g.lk M 35), .int (nI mwa), .int (nI mgi), .int (nI mpc), .int (nI mst), .int (nI mtr), .int (nI msp), .int mma, .int mlg, .int mdu]) (C := "BigRunnerModel") (T := FT10) (N := 45) hx hb (hw10 hB _) (fun _ h9 => h9) TY10 ok10 nm10 hown hK hP hD hS (lo_in hL t_M (by decide)) e11 rfl 32 (by decide) (wd_979 hB _) rfl (by decide +kernel) rfl rfl (Nat.le_of_ble_eq_true rfl) rfl d_M_round_106 (fun f75 H locs e76 k77 hP hD hS => ?_)
                  have eC := (k77 (g.lk M 6) (tg_ne (lo_k11_6 hL _ t_M) t_M (by decide))).trans eC
                  have eA := (k77 (g.lk M 7) (tg_ne (lo_k11_7 hL _ t_M) t_M (by decide))).trans eA
                  have e69 := (k77 (g.lk M 19) (tg_ne (lo_k11_19 hL _ t_M) t_M (by decide))).trans e69
                  have e70 := (k77 (g.lk M 20) (tg_ne (lo_k11_20 hL _ t_M) t_M (by decide))).trans e70
                  have hu := hu.st k77 t_M (by decide)
                  have hv15 := hv15.st k77 t_M (by decide)
                  have hk78 : ∀ b, b ≠ M → f75 b = f61 b := k77
                  refine lv_iinc (k := 1) (v := nI (p9 + 1)) (lv' := [(3, .int (nI (p9 + 1))), (2, .int (nI 1)), (0, .ref M), (1, .int (nI n9))]) hx hb d_M_round_109 hl rfl (by rw [nI_succ]; rfl) (by decide) rfl (fun ls hl => ?_)
                  refine lv_goto (tgt := 9) hx hb d_M_round_112 (by decide) ?_
                  have hI79 := iv_1 hI1_65 hL t_M (by decide) hk78 (oc_11.mk t_M (⟨mth, mn, mdr, msz, mix, mdp, mwt, mop, 0, mwa, mgi, mpc, mst, mtr, msp, mma, mlg, mdu, e76, (by omega), (by omega), (by omega), (by omega), (by omega), (by omega), (by omega), (by omega), (by omega), (by omega), (by omega), (by omega), (by omega), (by omega), hmb14⟩))
                  exact ih9 (nI 1) (p9 + 1) 0 hu67 ho68 f75 H locs ls (by omega) (Or.inr rfl) (by omega) (by omega) (by omega) (by omega) (fun _ y9 => by have z8 := c72 hr74 (by decide); omega) e76 e69 e70 hI79 hv15 hl hP hD hS
                · skip
                  have hr80 : r60 = nI 0 := b73
                  refine lv_iload_n hx hb d_M_round_94 rfl (lv_at hl 1 rfl) ?_
                  refine lv_if_eq (tgt := 102) hx hb d_M_round_95 (by decide) (fun b81 => ?_) (fun b81 => ?_)
                  · skip
                    have hr82 : mv9 = nI 0 := b81
                    refine lv_iconst (v := nI 0) hx hb d_M_round_102 (by decide) ?_
                    refine lv_istore_n (lv' := [(2, .int (nI 0)), (3, .int (nI p9)), (0, .ref M), (1, .int (nI n9))]) hx hb d_M_round_103 rfl hl (by decide) rfl (fun ls hl => ?_)
                    refine lv_aload_n hx hb d_M_round_104 rfl (lv_at hl 2 rfl) ?_
                    refine lv_iconst (v := nI 0) hx hb d_M_round_105 (by decide) ?_
                    refine pf_put (v := .int (nI 0)) (ty := .int) (fs' := [.int mth, .ref (g.lk M 1), .int (nI mn), .ref (g.lk M 3), .ref (g.lk M 4), .int (nI mdr), .ref (g.lk M 6), .ref (g.lk M 7), .ref (g.lk M 8), .int (nI msz), .int (nI mix), .int (nI mdp), .ref (g.lk M 12), .int (nI mwt), .ref (g.lk M 14), .ref (g.lk M 15), .int (nI mop), .ref (g.lk M 17), .ref (g.lk M 18), .ref (g.lk M 19), .ref (g.lk M 20), .ref (g.lk M 21), .ref (g.lk M 22), .ref (g.lk M 23), .ref (g.lk M 24), .ref (g.lk M 25), .ref (g.lk M 26), .ref (g.lk M 27), .ref (g.lk M 28), .ref (g.lk M 29), .ref (g.lk M 30), .ref (g.lk M 31), .int (nI 0), .ref (g.lk M 33), .ref (g.lk M 34), .ref (g.lk M 35), .int (nI mwa), .int (nI mgi), .int (nI mpc), .int (nI mst), .int (nI mtr), .int (nI msp), .int mma, .int mlg, .int mdu]) (C := "BigRunnerModel") (T := FT10) (N := 45) hx hb (hw10 hB _) (fun _ h9 => h9) TY10 ok10 nm10 hown hK hP hD hS (lo_in hL t_M (by decide)) e11 rfl 32 (by decide) (wd_979 hB _) rfl (by decide +kernel) rfl rfl (Nat.le_of_ble_eq_true rfl) rfl d_M_round_106 (fun f83 H locs e84 k85 hP hD hS => ?_)
                    have eC := (k85 (g.lk M 6) (tg_ne (lo_k11_6 hL _ t_M) t_M (by decide))).trans eC
                    have eA := (k85 (g.lk M 7) (tg_ne (lo_k11_7 hL _ t_M) t_M (by decide))).trans eA
                    have e69 := (k85 (g.lk M 19) (tg_ne (lo_k11_19 hL _ t_M) t_M (by decide))).trans e69
                    have e70 := (k85 (g.lk M 20) (tg_ne (lo_k11_20 hL _ t_M) t_M (by decide))).trans e70
                    have hu := hu.st k85 t_M (by decide)
                    have hv15 := hv15.st k85 t_M (by decide)
                    have hk86 : ∀ b, b ≠ M → f83 b = f61 b := k85
                    refine lv_iinc (k := 1) (v := nI (p9 + 1)) (lv' := [(3, .int (nI (p9 + 1))), (2, .int (nI 0)), (0, .ref M), (1, .int (nI n9))]) hx hb d_M_round_109 hl rfl (by rw [nI_succ]; rfl) (by decide) rfl (fun ls hl => ?_)
                    refine lv_goto (tgt := 9) hx hb d_M_round_112 (by decide) ?_
                    have hI87 := iv_1 hI1_65 hL t_M (by decide) hk86 (oc_11.mk t_M (⟨mth, mn, mdr, msz, mix, mdp, mwt, mop, 0, mwa, mgi, mpc, mst, mtr, msp, mma, mlg, mdu, e84, (by omega), (by omega), (by omega), (by omega), (by omega), (by omega), (by omega), (by omega), (by omega), (by omega), (by omega), (by omega), (by omega), (by omega), hmb14⟩))
                    exact ih9 (nI 0) (p9 + 1) 0 hu67 ho68 f83 H locs ls (by omega) (Or.inl rfl) (by omega) (by omega) (by omega) (by omega) (fun z9 => absurd z9 (by decide)) e84 e69 e70 hI87 hv15 hl hP hD hS
                  · skip
                    have hr88 : mv9 = nI 1 := (bl_1 hmv b81)
                    refine lv_iconst (v := nI 1) hx hb d_M_round_98 (by decide) ?_
                    refine lv_goto (tgt := 103) hx hb d_M_round_99 (by decide) ?_
                    refine lv_istore_n (lv' := [(2, .int (nI 1)), (3, .int (nI p9)), (0, .ref M), (1, .int (nI n9))]) hx hb d_M_round_103 rfl hl (by decide) rfl (fun ls hl => ?_)
                    refine lv_aload_n hx hb d_M_round_104 rfl (lv_at hl 2 rfl) ?_
                    refine lv_iconst (v := nI 0) hx hb d_M_round_105 (by decide) ?_
                    refine pf_put (v := .int (nI 0)) (ty := .int) (fs' := [.int mth, .ref (g.lk M 1), .int (nI mn), .ref (g.lk M 3), .ref (g.lk M 4), .int (nI mdr), .ref (g.lk M 6), .ref (g.lk M 7), .ref (g.lk M 8), .int (nI msz), .int (nI mix), .int (nI mdp), .ref (g.lk M 12), .int (nI mwt), .ref (g.lk M 14), .ref (g.lk M 15), .int (nI mop), .ref (g.lk M 17), .ref (g.lk M 18), .ref (g.lk M 19), .ref (g.lk M 20), .ref (g.lk M 21), .ref (g.lk M 22), .ref (g.lk M 23), .ref (g.lk M 24), .ref (g.lk M 25), .ref (g.lk M 26), .ref (g.lk M 27), .ref (g.lk M 28), .ref (g.lk M 29), .ref (g.lk M 30), .ref (g.lk M 31), .int (nI 0), .ref (g.lk M 33), .ref (g.lk M 34), .ref (g.lk M 35), .int (nI mwa), .int (nI mgi), .int (nI mpc), .int (nI mst), .int (nI mtr), .int (nI msp), .int mma, .int mlg, .int mdu]) (C := "BigRunnerModel") (T := FT10) (N := 45) hx hb (hw10 hB _) (fun _ h9 => h9) TY10 ok10 nm10 hown hK hP hD hS (lo_in hL t_M (by decide)) e11 rfl 32 (by decide) (wd_979 hB _) rfl (by decide +kernel) rfl rfl (Nat.le_of_ble_eq_true rfl) rfl d_M_round_106 (fun f89 H locs e90 k91 hP hD hS => ?_)
                    have eC := (k91 (g.lk M 6) (tg_ne (lo_k11_6 hL _ t_M) t_M (by decide))).trans eC
                    have eA := (k91 (g.lk M 7) (tg_ne (lo_k11_7 hL _ t_M) t_M (by decide))).trans eA
                    have e69 := (k91 (g.lk M 19) (tg_ne (lo_k11_19 hL _ t_M) t_M (by decide))).trans e69
                    have e70 := (k91 (g.lk M 20) (tg_ne (lo_k11_20 hL _ t_M) t_M (by decide))).trans e70
                    have hu := hu.st k91 t_M (by decide)
                    have hv15 := hv15.st k91 t_M (by decide)
                    have hk92 : ∀ b, b ≠ M → f89 b = f61 b := k91
                    refine lv_iinc (k := 1) (v := nI (p9 + 1)) (lv' := [(3, .int (nI (p9 + 1))), (2, .int (nI 1)), (0, .ref M), (1, .int (nI n9))]) hx hb d_M_round_109 hl rfl (by rw [nI_succ]; rfl) (by decide) rfl (fun ls hl => ?_)
                    refine lv_goto (tgt := 9) hx hb d_M_round_112 (by decide) ?_
                    have hI93 := iv_1 hI1_65 hL t_M (by decide) hk92 (oc_11.mk t_M (⟨mth, mn, mdr, msz, mix, mdp, mwt, mop, 0, mwa, mgi, mpc, mst, mtr, msp, mma, mlg, mdu, e90, (by omega), (by omega), (by omega), (by omega), (by omega), (by omega), (by omega), (by omega), (by omega), (by omega), (by omega), (by omega), (by omega), (by omega), hmb14⟩))
                    exact ih9 (nI 1) (p9 + 1) 0 hu67 ho68 f89 H locs ls (by omega) (Or.inr rfl) (by omega) (by omega) (by omega) (by omega) (fun _ y9 => by have z8 := hcm hr88 y9; omega) e90 e69 e70 hI93 hv15 hl hP hD hS
          · skip
            replace b18 := (nI_eq (a := w) (b := 9) (by omega) (by omega)).mp b18
            refine lv_aload_n hx hb d_M_round_47 rfl (lv_at hl 2 rfl) ?_
            refine lv_iconst (v := nI 0) hx hb d_M_round_48 (by decide) ?_
            refine lv_ldc2 (v := (-1000000000)) hx hb hown (wd_1184 hB _) d_M_round_49 ?_
            refine lv_ldc2 (v := 1000000000) hx hb hown (wd_1185 hB _) d_M_round_52 ?_
            refine lv_topl (fun z_ hz_ => ?_)
            obtain rfl : z_ = nL 1000000000 := hz_
            refine lv_iconst (v := nI 0) hx hb d_M_round_55 (by decide) ?_
            refine lv_iconst (v := nI 0) hx hb d_M_round_56 (by decide) ?_
            refine pcc_v (va_runV (C := "BigRunnerModel") (As := [.int (nI 0), .long (-1000000000), .long (nL 1000000000), .int (nI 0), .int (nI 0)]) (rest := []) ⟨hx, hb, hml, hown, tb_nil⟩ (m_interval l g H.size f7 M 0 ((-1000000000)) ((nL 1000000000)) ((nI 0)) ((nI 0)) hL t_M hI14 (by omega)) ⟨(callB_of 5 (tb_one (wd_1160 hB _)) tb_good1 rfl rfl rfl (wd_82 hB _) (wd_1157 hB _) (by decide +kernel) ⟨Nat.le_of_ble_eq_true rfl, Nat.le_of_ble_eq_true rfl⟩), (wd_1159 hB _), (wd_53 hB _)⟩ ⟨pe_bl, pg_recv (ci := 10) hK hP (lo_in hL t_M (by decide)) e11 rfl, pe_pre hB hK hP hD⟩ rfl rfl hl.1 rfl (lv_room (Nat.le_of_ble_eq_true rfl)) d_M_round_57 ⟨Nat.le_of_ble_eq_true rfl, Nat.le_of_ble_eq_true rfl⟩) hS (fun f95 H locs hq96 hP hD hS => ?_)
            obtain ⟨hI1_97, hu1_98⟩ := hq96
            have hu := hu.tr hu1_98 (by decide)
            have hv15 := hv15.tr hu1_98 (by decide)
            have eC := hu1_98.at (lo_k11_6 hL _ t_M) (by decide) eC
            have eA := hu1_98.at (lo_k11_7 hL _ t_M) (by decide) eA
            have e11 := hu1_98.at t_M (by decide) e11
            have e12 := hu1_98.at (lo_k11_19 hL _ t_M) (by decide) e12
            have e13 := hu1_98.at (lo_k11_20 hL _ t_M) (by decide) e13
            refine lv_aload_n hx hb d_M_round_60 rfl (lv_at hl 2 rfl) ?_
            refine pf_get (v := .ref (g.lk M 6)) (C := "BigRunnerModel") (T := FT10) (N := 45) hx hb (hw10 hB _) (fun _ h9 => h9) hown hK hP (lo_in hL t_M (by decide)) e11 rfl 6 (by decide) (wd_953 hB _) rfl d_M_round_61 ?_
            refine lv_iload_n hx hb d_M_round_64 rfl (lv_at hl 0 rfl) ?_
            refine pf_iald (i := p9) hx hb hK hP (lo_in hL (lo_k11_6 hL _ t_M) (by decide)) eC (lo_t43 hL _ (lo_k11_6 hL _ t_M)) (by omega) (by decide) d_M_round_65 ?_
            refine lv_topi (fun z_ hz_ => ?_)
            obtain rfl : z_ = nI w := hz_.trans hw
            refine lv_bipush (v := nI 10) hx hb d_M_round_66 (by decide) ?_
            refine lv_icmp_ge (tgt := 104) hx hb d_M_round_68 (by decide) (fun b99 => ?_) (fun b99 => ?_)
            · skip
              replace b99 := (nI_leI (a := 10) (b := w) (by omega) (by omega)).mp b99
              refine lv_aload_n hx hb d_M_round_104 rfl (lv_at hl 2 rfl) ?_
              refine lv_iconst (v := nI 0) hx hb d_M_round_105 (by decide) ?_
              refine pf_put (v := .int (nI 0)) (ty := .int) (fs' := [.int mth, .ref (g.lk M 1), .int (nI mn), .ref (g.lk M 3), .ref (g.lk M 4), .int (nI mdr), .ref (g.lk M 6), .ref (g.lk M 7), .ref (g.lk M 8), .int (nI msz), .int (nI mix), .int (nI mdp), .ref (g.lk M 12), .int (nI mwt), .ref (g.lk M 14), .ref (g.lk M 15), .int (nI mop), .ref (g.lk M 17), .ref (g.lk M 18), .ref (g.lk M 19), .ref (g.lk M 20), .ref (g.lk M 21), .ref (g.lk M 22), .ref (g.lk M 23), .ref (g.lk M 24), .ref (g.lk M 25), .ref (g.lk M 26), .ref (g.lk M 27), .ref (g.lk M 28), .ref (g.lk M 29), .ref (g.lk M 30), .ref (g.lk M 31), .int (nI 0), .ref (g.lk M 33), .ref (g.lk M 34), .ref (g.lk M 35), .int (nI mwa), .int (nI mgi), .int (nI mpc), .int (nI mst), .int (nI mtr), .int (nI msp), .int mma, .int mlg, .int mdu]) (C := "BigRunnerModel") (T := FT10) (N := 45) hx hb (hw10 hB _) (fun _ h9 => h9) TY10 ok10 nm10 hown hK hP hD hS (lo_in hL t_M (by decide)) e11 rfl 32 (by decide) (wd_979 hB _) rfl (by decide +kernel) rfl rfl (Nat.le_of_ble_eq_true rfl) rfl d_M_round_106 (fun f100 H locs e101 k102 hP hD hS => ?_)
              have eC := (k102 (g.lk M 6) (tg_ne (lo_k11_6 hL _ t_M) t_M (by decide))).trans eC
              have eA := (k102 (g.lk M 7) (tg_ne (lo_k11_7 hL _ t_M) t_M (by decide))).trans eA
              have e12 := (k102 (g.lk M 19) (tg_ne (lo_k11_19 hL _ t_M) t_M (by decide))).trans e12
              have e13 := (k102 (g.lk M 20) (tg_ne (lo_k11_20 hL _ t_M) t_M (by decide))).trans e13
              have hu := hu.st k102 t_M (by decide)
              have hv15 := hv15.st k102 t_M (by decide)
              have hk103 : ∀ b, b ≠ M → f100 b = f95 b := k102
              refine lv_iinc (k := 0) (v := nI (p9 + 1)) (lv' := [(3, .int (nI (p9 + 1))), (2, .int mv9), (0, .ref M), (1, .int (nI n9))]) hx hb d_M_round_109 hl rfl (by rw [nI_succ]; rfl) (by decide) rfl (fun ls hl => ?_)
              refine lv_goto (tgt := 9) hx hb d_M_round_112 (by decide) ?_
              have hI104 := iv_1 hI1_97 hL t_M (by decide) hk103 (oc_11.mk t_M (⟨mth, mn, mdr, msz, mix, mdp, mwt, mop, 0, mwa, mgi, mpc, mst, mtr, msp, mma, mlg, mdu, e101, (by omega), (by omega), (by omega), (by omega), (by omega), (by omega), (by omega), (by omega), (by omega), (by omega), (by omega), (by omega), (by omega), (by omega), hmb14⟩))
              exact ih9 mv9 (p9 + 1) 0 hU2 hO2 f100 H locs ls (by omega) hmv (by omega) (by omega) (by omega) hcz hcm e101 e12 e13 hI104 hv15 hl hP hD hS
            · skip
              replace b99 := mt (nI_leI (a := 10) (b := w) (by omega) (by omega)).mpr b99
              have q11 := wo_v hWO (by omega) (by omega)
              refine lv_aload_n hx hb d_M_round_71 rfl (lv_at hl 2 rfl) ?_
              refine lv_aload_n hx hb d_M_round_72 rfl (lv_at hl 2 rfl) ?_
              refine pf_get (v := .ref (g.lk M 7)) (C := "BigRunnerModel") (T := FT10) (N := 45) hx hb (hw10 hB _) (fun _ h9 => h9) hown hK hP (lo_in hL t_M (by decide)) e11 rfl 7 (by decide) (wd_954 hB _) rfl d_M_round_73 ?_
              refine lv_iload_n hx hb d_M_round_76 rfl (lv_at hl 0 rfl) ?_
              refine pf_iald (i := p9) hx hb hK hP (lo_in hL (lo_k11_7 hL _ t_M) (by decide)) eA (lo_t44 hL _ (lo_k11_7 hL _ t_M)) (by omega) (by decide) d_M_round_77 ?_
              refine lv_topi (fun z_ hz_ => ?_)
              obtain rfl : z_ = nI v := hz_.trans hv
              refine lv_iload_n hx hb d_M_round_78 rfl (lv_at hl 3 rfl) ?_
              refine lv_iconst (v := nI 3) hx hb d_M_round_79 (by decide) ?_
              refine lv_icmp_le (tgt := 87) hx hb d_M_round_80 (by decide) (fun b105 => ?_) (fun b105 => ?_)
              · skip
                replace b105 := (nI_leI (a := n9) (b := 3) (by omega) (by omega)).mp b105
                refine lv_iconst (v := nI 0) hx hb d_M_round_87 (by decide) ?_
                refine pcc_i (va_runV (C := "BigRunnerModel") (As := [.int (nI v), .int (nI 0)]) (rest := []) ⟨hx, hb, hml, hown, tb_nil⟩ (m_joined l g H.size f95 M v ((nI 0)) hU2 hO2 hL t_M hI1_97 (by omega) e12 e13) ⟨(callB_of 2 (tb_one (wd_1189 hB _)) tb_good1 rfl rfl rfl (wd_82 hB _) (wd_1186 hB _) (by decide +kernel) ⟨Nat.le_of_ble_eq_true rfl, Nat.le_of_ble_eq_true rfl⟩), (wd_1188 hB _), (wd_56 hB _)⟩ ⟨pe_bl, pg_recv (ci := 10) hK hP (lo_in hL t_M (by decide)) e11 rfl, pe_pre hB hK hP hD⟩ rfl rfl hl.1 rfl (lv_room (Nat.le_of_ble_eq_true rfl)) d_M_round_88 ⟨Nat.le_of_ble_eq_true rfl, Nat.le_of_ble_eq_true rfl⟩) hS (fun r106 f107 H locs hq108 hP hD hS => ?_)
                obtain ⟨bo_109, cz_110, hI1_111, hu1_112⟩ := hq108
                have hu := hu.tr hu1_112 (by decide)
                have hv15 := hv15.tr hu1_112 (by decide)
                have eC := hu1_112.at (lo_k11_6 hL _ t_M) (by decide) eC
                have eA := hu1_112.at (lo_k11_7 hL _ t_M) (by decide) eA
                have e11 := hu1_112.at t_M (by decide) e11
                obtain ⟨hu113, ho114, e115, e116, c117, c118⟩ := cz_110
                refine lv_if_ne (tgt := 98) hx hb d_M_round_91 (by decide) (fun b119 => ?_) (fun b119 => ?_)
                · skip
                  have hr120 : r106 = nI 1 := (bl_1 bo_109 b119)
                  refine lv_iconst (v := nI 1) hx hb d_M_round_98 (by decide) ?_
                  refine lv_goto (tgt := 103) hx hb d_M_round_99 (by decide) ?_
                  refine lv_istore_n (lv' := [(2, .int (nI 1)), (3, .int (nI p9)), (0, .ref M), (1, .int (nI n9))]) hx hb d_M_round_103 rfl hl (by decide) rfl (fun ls hl => ?_)
                  refine lv_aload_n hx hb d_M_round_104 rfl (lv_at hl 2 rfl) ?_
                  refine lv_iconst (v := nI 0) hx hb d_M_round_105 (by decide) ?_
                  refine pf_put (v := .int (nI 0)) (ty := .int) (fs' := [.int mth, .ref (g.lk M 1), .int (nI mn), .ref (g.lk M 3), .ref (g.lk M 4), .int (nI mdr), .ref (g.lk M 6), .ref (g.lk M 7), .ref (g.lk M 8), .int (nI msz), .int (nI mix), .int (nI mdp), .ref (g.lk M 12), .int (nI mwt), .ref (g.lk M 14), .ref (g.lk M 15), .int (nI mop), .ref (g.lk M 17), .ref (g.lk M 18), .ref (g.lk M 19), .ref (g.lk M 20), .ref (g.lk M 21), .ref (g.lk M 22), .ref (g.lk M 23), .ref (g.lk M 24), .ref (g.lk M 25), .ref (g.lk M 26), .ref (g.lk M 27), .ref (g.lk M 28), .ref (g.lk M 29), .ref (g.lk M 30), .ref (g.lk M 31), .int (nI 0), .ref (g.lk M 33), .ref (g.lk M 34), .ref (g.lk M 35), .int (nI mwa), .int (nI mgi), .int (nI mpc), .int (nI mst), .int (nI mtr), .int (nI msp), .int mma, .int mlg, .int mdu]) (C := "BigRunnerModel") (T := FT10) (N := 45) hx hb (hw10 hB _) (fun _ h9 => h9) TY10 ok10 nm10 hown hK hP hD hS (lo_in hL t_M (by decide)) e11 rfl 32 (by decide) (wd_979 hB _) rfl (by decide +kernel) rfl rfl (Nat.le_of_ble_eq_true rfl) rfl d_M_round_106 (fun f121 H locs e122 k123 hP hD hS => ?_)
                  have eC := (k123 (g.lk M 6) (tg_ne (lo_k11_6 hL _ t_M) t_M (by decide))).trans eC
                  have eA := (k123 (g.lk M 7) (tg_ne (lo_k11_7 hL _ t_M) t_M (by decide))).trans eA
                  have e115 := (k123 (g.lk M 19) (tg_ne (lo_k11_19 hL _ t_M) t_M (by decide))).trans e115
                  have e116 := (k123 (g.lk M 20) (tg_ne (lo_k11_20 hL _ t_M) t_M (by decide))).trans e116
                  have hu := hu.st k123 t_M (by decide)
                  have hv15 := hv15.st k123 t_M (by decide)
                  have hk124 : ∀ b, b ≠ M → f121 b = f107 b := k123
                  refine lv_iinc (k := 1) (v := nI (p9 + 1)) (lv' := [(3, .int (nI (p9 + 1))), (2, .int (nI 1)), (0, .ref M), (1, .int (nI n9))]) hx hb d_M_round_109 hl rfl (by rw [nI_succ]; rfl) (by decide) rfl (fun ls hl => ?_)
                  refine lv_goto (tgt := 9) hx hb d_M_round_112 (by decide) ?_
                  have hI125 := iv_1 hI1_111 hL t_M (by decide) hk124 (oc_11.mk t_M (⟨mth, mn, mdr, msz, mix, mdp, mwt, mop, 0, mwa, mgi, mpc, mst, mtr, msp, mma, mlg, mdu, e122, (by omega), (by omega), (by omega), (by omega), (by omega), (by omega), (by omega), (by omega), (by omega), (by omega), (by omega), (by omega), (by omega), (by omega), hmb14⟩))
                  exact ih9 (nI 1) (p9 + 1) 0 hu113 ho114 f121 H locs ls (by omega) (Or.inr rfl) (by omega) (by omega) (by omega) (by omega) (fun _ y9 => by omega) e122 e115 e116 hI125 hv15 hl hP hD hS
                · skip
                  have hr126 : r106 = nI 0 := b119
                  refine lv_iload_n hx hb d_M_round_94 rfl (lv_at hl 1 rfl) ?_
                  refine lv_if_eq (tgt := 102) hx hb d_M_round_95 (by decide) (fun b127 => ?_) (fun b127 => ?_)
                  · skip
                    have hr128 : mv9 = nI 0 := b127
                    refine lv_iconst (v := nI 0) hx hb d_M_round_102 (by decide) ?_
                    refine lv_istore_n (lv' := [(2, .int (nI 0)), (3, .int (nI p9)), (0, .ref M), (1, .int (nI n9))]) hx hb d_M_round_103 rfl hl (by decide) rfl (fun ls hl => ?_)
                    refine lv_aload_n hx hb d_M_round_104 rfl (lv_at hl 2 rfl) ?_
                    refine lv_iconst (v := nI 0) hx hb d_M_round_105 (by decide) ?_
                    refine pf_put (v := .int (nI 0)) (ty := .int) (fs' := [.int mth, .ref (g.lk M 1), .int (nI mn), .ref (g.lk M 3), .ref (g.lk M 4), .int (nI mdr), .ref (g.lk M 6), .ref (g.lk M 7), .ref (g.lk M 8), .int (nI msz), .int (nI mix), .int (nI mdp), .ref (g.lk M 12), .int (nI mwt), .ref (g.lk M 14), .ref (g.lk M 15), .int (nI mop), .ref (g.lk M 17), .ref (g.lk M 18), .ref (g.lk M 19), .ref (g.lk M 20), .ref (g.lk M 21), .ref (g.lk M 22), .ref (g.lk M 23), .ref (g.lk M 24), .ref (g.lk M 25), .ref (g.lk M 26), .ref (g.lk M 27), .ref (g.lk M 28), .ref (g.lk M 29), .ref (g.lk M 30), .ref (g.lk M 31), .int (nI 0), .ref (g.lk M 33), .ref (g.lk M 34), .ref (g.lk M 35), .int (nI mwa), .int (nI mgi), .int (nI mpc), .int (nI mst), .int (nI mtr), .int (nI msp), .int mma, .int mlg, .int mdu]) (C := "BigRunnerModel") (T := FT10) (N := 45) hx hb (hw10 hB _) (fun _ h9 => h9) TY10 ok10 nm10 hown hK hP hD hS (lo_in hL t_M (by decide)) e11 rfl 32 (by decide) (wd_979 hB _) rfl (by decide +kernel) rfl rfl (Nat.le_of_ble_eq_true rfl) rfl d_M_round_106 (fun f129 H locs e130 k131 hP hD hS => ?_)
                    have eC := (k131 (g.lk M 6) (tg_ne (lo_k11_6 hL _ t_M) t_M (by decide))).trans eC
                    have eA := (k131 (g.lk M 7) (tg_ne (lo_k11_7 hL _ t_M) t_M (by decide))).trans eA
                    have e115 := (k131 (g.lk M 19) (tg_ne (lo_k11_19 hL _ t_M) t_M (by decide))).trans e115
                    have e116 := (k131 (g.lk M 20) (tg_ne (lo_k11_20 hL _ t_M) t_M (by decide))).trans e116
                    have hu := hu.st k131 t_M (by decide)
                    have hv15 := hv15.st k131 t_M (by decide)
                    have hk132 : ∀ b, b ≠ M → f129 b = f107 b := k131
                    refine lv_iinc (k := 1) (v := nI (p9 + 1)) (lv' := [(3, .int (nI (p9 + 1))), (2, .int (nI 0)), (0, .ref M), (1, .int (nI n9))]) hx hb d_M_round_109 hl rfl (by rw [nI_succ]; rfl) (by decide) rfl (fun ls hl => ?_)
                    refine lv_goto (tgt := 9) hx hb d_M_round_112 (by decide) ?_
                    have hI133 := iv_1 hI1_111 hL t_M (by decide) hk132 (oc_11.mk t_M (⟨mth, mn, mdr, msz, mix, mdp, mwt, mop, 0, mwa, mgi, mpc, mst, mtr, msp, mma, mlg, mdu, e130, (by omega), (by omega), (by omega), (by omega), (by omega), (by omega), (by omega), (by omega), (by omega), (by omega), (by omega), (by omega), (by omega), (by omega), hmb14⟩))
                    exact ih9 (nI 0) (p9 + 1) 0 hu113 ho114 f129 H locs ls (by omega) (Or.inl rfl) (by omega) (by omega) (by omega) (by omega) (fun z9 => absurd z9 (by decide)) e130 e115 e116 hI133 hv15 hl hP hD hS
                  · skip
                    have hr134 : mv9 = nI 1 := (bl_1 hmv b127)
                    refine lv_iconst (v := nI 1) hx hb d_M_round_98 (by decide) ?_
                    refine lv_goto (tgt := 103) hx hb d_M_round_99 (by decide) ?_
                    refine lv_istore_n (lv' := [(2, .int (nI 1)), (3, .int (nI p9)), (0, .ref M), (1, .int (nI n9))]) hx hb d_M_round_103 rfl hl (by decide) rfl (fun ls hl => ?_)
                    refine lv_aload_n hx hb d_M_round_104 rfl (lv_at hl 2 rfl) ?_
                    refine lv_iconst (v := nI 0) hx hb d_M_round_105 (by decide) ?_
                    refine pf_put (v := .int (nI 0)) (ty := .int) (fs' := [.int mth, .ref (g.lk M 1), .int (nI mn), .ref (g.lk M 3), .ref (g.lk M 4), .int (nI mdr), .ref (g.lk M 6), .ref (g.lk M 7), .ref (g.lk M 8), .int (nI msz), .int (nI mix), .int (nI mdp), .ref (g.lk M 12), .int (nI mwt), .ref (g.lk M 14), .ref (g.lk M 15), .int (nI mop), .ref (g.lk M 17), .ref (g.lk M 18), .ref (g.lk M 19), .ref (g.lk M 20), .ref (g.lk M 21), .ref (g.lk M 22), .ref (g.lk M 23), .ref (g.lk M 24), .ref (g.lk M 25), .ref (g.lk M 26), .ref (g.lk M 27), .ref (g.lk M 28), .ref (g.lk M 29), .ref (g.lk M 30), .ref (g.lk M 31), .int (nI 0), .ref (g.lk M 33), .ref (g.lk M 34), .ref (g.lk M 35), .int (nI mwa), .int (nI mgi), .int (nI mpc), .int (nI mst), .int (nI mtr), .int (nI msp), .int mma, .int mlg, .int mdu]) (C := "BigRunnerModel") (T := FT10) (N := 45) hx hb (hw10 hB _) (fun _ h9 => h9) TY10 ok10 nm10 hown hK hP hD hS (lo_in hL t_M (by decide)) e11 rfl 32 (by decide) (wd_979 hB _) rfl (by decide +kernel) rfl rfl (Nat.le_of_ble_eq_true rfl) rfl d_M_round_106 (fun f135 H locs e136 k137 hP hD hS => ?_)
                    have eC := (k137 (g.lk M 6) (tg_ne (lo_k11_6 hL _ t_M) t_M (by decide))).trans eC
                    have eA := (k137 (g.lk M 7) (tg_ne (lo_k11_7 hL _ t_M) t_M (by decide))).trans eA
                    have e115 := (k137 (g.lk M 19) (tg_ne (lo_k11_19 hL _ t_M) t_M (by decide))).trans e115
                    have e116 := (k137 (g.lk M 20) (tg_ne (lo_k11_20 hL _ t_M) t_M (by decide))).trans e116
                    have hu := hu.st k137 t_M (by decide)
                    have hv15 := hv15.st k137 t_M (by decide)
                    have hk138 : ∀ b, b ≠ M → f135 b = f107 b := k137
                    refine lv_iinc (k := 1) (v := nI (p9 + 1)) (lv' := [(3, .int (nI (p9 + 1))), (2, .int (nI 1)), (0, .ref M), (1, .int (nI n9))]) hx hb d_M_round_109 hl rfl (by rw [nI_succ]; rfl) (by decide) rfl (fun ls hl => ?_)
                    refine lv_goto (tgt := 9) hx hb d_M_round_112 (by decide) ?_
                    have hI139 := iv_1 hI1_111 hL t_M (by decide) hk138 (oc_11.mk t_M (⟨mth, mn, mdr, msz, mix, mdp, mwt, mop, 0, mwa, mgi, mpc, mst, mtr, msp, mma, mlg, mdu, e136, (by omega), (by omega), (by omega), (by omega), (by omega), (by omega), (by omega), (by omega), (by omega), (by omega), (by omega), (by omega), (by omega), (by omega), hmb14⟩))
                    exact ih9 (nI 1) (p9 + 1) 0 hu113 ho114 f135 H locs ls (by omega) (Or.inr rfl) (by omega) (by omega) (by omega) (by omega) (fun _ y9 => by have z8 := hcm hr134 y9; omega) e136 e115 e116 hI139 hv15 hl hP hD hS
              · skip
                replace b105 := mt (nI_leI (a := n9) (b := 3) (by omega) (by omega)).mpr b105
                refine lv_iconst (v := nI 1) hx hb d_M_round_83 (by decide) ?_
                refine lv_goto (tgt := 88) hx hb d_M_round_84 (by decide) ?_
                refine pcc_i (va_runV (C := "BigRunnerModel") (As := [.int (nI v), .int (nI 1)]) (rest := []) ⟨hx, hb, hml, hown, tb_nil⟩ (m_joined l g H.size f95 M v ((nI 1)) hU2 hO2 hL t_M hI1_97 (by omega) e12 e13) ⟨(callB_of 2 (tb_one (wd_1189 hB _)) tb_good1 rfl rfl rfl (wd_82 hB _) (wd_1186 hB _) (by decide +kernel) ⟨Nat.le_of_ble_eq_true rfl, Nat.le_of_ble_eq_true rfl⟩), (wd_1188 hB _), (wd_56 hB _)⟩ ⟨pe_bl, pg_recv (ci := 10) hK hP (lo_in hL t_M (by decide)) e11 rfl, pe_pre hB hK hP hD⟩ rfl rfl hl.1 rfl (lv_room (Nat.le_of_ble_eq_true rfl)) d_M_round_88 ⟨Nat.le_of_ble_eq_true rfl, Nat.le_of_ble_eq_true rfl⟩) hS (fun r140 f141 H locs hq142 hP hD hS => ?_)
                obtain ⟨bo_143, cz_144, hI1_145, hu1_146⟩ := hq142
                have hu := hu.tr hu1_146 (by decide)
                have hv15 := hv15.tr hu1_146 (by decide)
                have eC := hu1_146.at (lo_k11_6 hL _ t_M) (by decide) eC
                have eA := hu1_146.at (lo_k11_7 hL _ t_M) (by decide) eA
                have e11 := hu1_146.at t_M (by decide) e11
                obtain ⟨hu147, ho148, e149, e150, c151, c152⟩ := cz_144
                refine lv_if_ne (tgt := 98) hx hb d_M_round_91 (by decide) (fun b153 => ?_) (fun b153 => ?_)
                · skip
                  have hr154 : r140 = nI 1 := (bl_1 bo_143 b153)
                  refine lv_iconst (v := nI 1) hx hb d_M_round_98 (by decide) ?_
                  refine lv_goto (tgt := 103) hx hb d_M_round_99 (by decide) ?_
                  refine lv_istore_n (lv' := [(2, .int (nI 1)), (3, .int (nI p9)), (0, .ref M), (1, .int (nI n9))]) hx hb d_M_round_103 rfl hl (by decide) rfl (fun ls hl => ?_)
                  refine lv_aload_n hx hb d_M_round_104 rfl (lv_at hl 2 rfl) ?_
                  refine lv_iconst (v := nI 0) hx hb d_M_round_105 (by decide) ?_
                  refine pf_put (v := .int (nI 0)) (ty := .int) (fs' := [.int mth, .ref (g.lk M 1), .int (nI mn), .ref (g.lk M 3), .ref (g.lk M 4), .int (nI mdr), .ref (g.lk M 6), .ref (g.lk M 7), .ref (g.lk M 8), .int (nI msz), .int (nI mix), .int (nI mdp), .ref (g.lk M 12), .int (nI mwt), .ref (g.lk M 14), .ref (g.lk M 15), .int (nI mop), .ref (g.lk M 17), .ref (g.lk M 18), .ref (g.lk M 19), .ref (g.lk M 20), .ref (g.lk M 21), .ref (g.lk M 22), .ref (g.lk M 23), .ref (g.lk M 24), .ref (g.lk M 25), .ref (g.lk M 26), .ref (g.lk M 27), .ref (g.lk M 28), .ref (g.lk M 29), .ref (g.lk M 30), .ref (g.lk M 31), .int (nI 0), .ref (g.lk M 33), .ref (g.lk M 34), .ref (g.lk M 35), .int (nI mwa), .int (nI mgi), .int (nI mpc), .int (nI mst), .int (nI mtr), .int (nI msp), .int mma, .int mlg, .int mdu]) (C := "BigRunnerModel") (T := FT10) (N := 45) hx hb (hw10 hB _) (fun _ h9 => h9) TY10 ok10 nm10 hown hK hP hD hS (lo_in hL t_M (by decide)) e11 rfl 32 (by decide) (wd_979 hB _) rfl (by decide +kernel) rfl rfl (Nat.le_of_ble_eq_true rfl) rfl d_M_round_106 (fun f155 H locs e156 k157 hP hD hS => ?_)
                  have eC := (k157 (g.lk M 6) (tg_ne (lo_k11_6 hL _ t_M) t_M (by decide))).trans eC
                  have eA := (k157 (g.lk M 7) (tg_ne (lo_k11_7 hL _ t_M) t_M (by decide))).trans eA
                  have e149 := (k157 (g.lk M 19) (tg_ne (lo_k11_19 hL _ t_M) t_M (by decide))).trans e149
                  have e150 := (k157 (g.lk M 20) (tg_ne (lo_k11_20 hL _ t_M) t_M (by decide))).trans e150
                  have hu := hu.st k157 t_M (by decide)
                  have hv15 := hv15.st k157 t_M (by decide)
                  have hk158 : ∀ b, b ≠ M → f155 b = f141 b := k157
                  refine lv_iinc (k := 1) (v := nI (p9 + 1)) (lv' := [(3, .int (nI (p9 + 1))), (2, .int (nI 1)), (0, .ref M), (1, .int (nI n9))]) hx hb d_M_round_109 hl rfl (by rw [nI_succ]; rfl) (by decide) rfl (fun ls hl => ?_)
                  refine lv_goto (tgt := 9) hx hb d_M_round_112 (by decide) ?_
                  have hI159 := iv_1 hI1_145 hL t_M (by decide) hk158 (oc_11.mk t_M (⟨mth, mn, mdr, msz, mix, mdp, mwt, mop, 0, mwa, mgi, mpc, mst, mtr, msp, mma, mlg, mdu, e156, (by omega), (by omega), (by omega), (by omega), (by omega), (by omega), (by omega), (by omega), (by omega), (by omega), (by omega), (by omega), (by omega), (by omega), hmb14⟩))
                  exact ih9 (nI 1) (p9 + 1) 0 hu147 ho148 f155 H locs ls (by omega) (Or.inr rfl) (by omega) (by omega) (by omega) (by omega) (fun _ y9 => by have z8 := c152 hr154 (by decide); omega) e156 e149 e150 hI159 hv15 hl hP hD hS
                · skip
                  have hr160 : r140 = nI 0 := b153
                  refine lv_iload_n hx hb d_M_round_94 rfl (lv_at hl 1 rfl) ?_
                  refine lv_if_eq (tgt := 102) hx hb d_M_round_95 (by decide) (fun b161 => ?_) (fun b161 => ?_)
                  · skip
                    have hr162 : mv9 = nI 0 := b161
                    refine lv_iconst (v := nI 0) hx hb d_M_round_102 (by decide) ?_
                    refine lv_istore_n (lv' := [(2, .int (nI 0)), (3, .int (nI p9)), (0, .ref M), (1, .int (nI n9))]) hx hb d_M_round_103 rfl hl (by decide) rfl (fun ls hl => ?_)
                    refine lv_aload_n hx hb d_M_round_104 rfl (lv_at hl 2 rfl) ?_
                    refine lv_iconst (v := nI 0) hx hb d_M_round_105 (by decide) ?_
                    refine pf_put (v := .int (nI 0)) (ty := .int) (fs' := [.int mth, .ref (g.lk M 1), .int (nI mn), .ref (g.lk M 3), .ref (g.lk M 4), .int (nI mdr), .ref (g.lk M 6), .ref (g.lk M 7), .ref (g.lk M 8), .int (nI msz), .int (nI mix), .int (nI mdp), .ref (g.lk M 12), .int (nI mwt), .ref (g.lk M 14), .ref (g.lk M 15), .int (nI mop), .ref (g.lk M 17), .ref (g.lk M 18), .ref (g.lk M 19), .ref (g.lk M 20), .ref (g.lk M 21), .ref (g.lk M 22), .ref (g.lk M 23), .ref (g.lk M 24), .ref (g.lk M 25), .ref (g.lk M 26), .ref (g.lk M 27), .ref (g.lk M 28), .ref (g.lk M 29), .ref (g.lk M 30), .ref (g.lk M 31), .int (nI 0), .ref (g.lk M 33), .ref (g.lk M 34), .ref (g.lk M 35), .int (nI mwa), .int (nI mgi), .int (nI mpc), .int (nI mst), .int (nI mtr), .int (nI msp), .int mma, .int mlg, .int mdu]) (C := "BigRunnerModel") (T := FT10) (N := 45) hx hb (hw10 hB _) (fun _ h9 => h9) TY10 ok10 nm10 hown hK hP hD hS (lo_in hL t_M (by decide)) e11 rfl 32 (by decide) (wd_979 hB _) rfl (by decide +kernel) rfl rfl (Nat.le_of_ble_eq_true rfl) rfl d_M_round_106 (fun f163 H locs e164 k165 hP hD hS => ?_)
                    have eC := (k165 (g.lk M 6) (tg_ne (lo_k11_6 hL _ t_M) t_M (by decide))).trans eC
                    have eA := (k165 (g.lk M 7) (tg_ne (lo_k11_7 hL _ t_M) t_M (by decide))).trans eA
                    have e149 := (k165 (g.lk M 19) (tg_ne (lo_k11_19 hL _ t_M) t_M (by decide))).trans e149
                    have e150 := (k165 (g.lk M 20) (tg_ne (lo_k11_20 hL _ t_M) t_M (by decide))).trans e150
                    have hu := hu.st k165 t_M (by decide)
                    have hv15 := hv15.st k165 t_M (by decide)
                    have hk166 : ∀ b, b ≠ M → f163 b = f141 b := k165
                    refine lv_iinc (k := 1) (v := nI (p9 + 1)) (lv' := [(3, .int (nI (p9 + 1))), (2, .int (nI 0)), (0, .ref M), (1, .int (nI n9))]) hx hb d_M_round_109 hl rfl (by rw [nI_succ]; rfl) (by decide) rfl (fun ls hl => ?_)
                    refine lv_goto (tgt := 9) hx hb d_M_round_112 (by decide) ?_
                    have hI167 := iv_1 hI1_145 hL t_M (by decide) hk166 (oc_11.mk t_M (⟨mth, mn, mdr, msz, mix, mdp, mwt, mop, 0, mwa, mgi, mpc, mst, mtr, msp, mma, mlg, mdu, e164, (by omega), (by omega), (by omega), (by omega), (by omega), (by omega), (by omega), (by omega), (by omega), (by omega), (by omega), (by omega), (by omega), (by omega), hmb14⟩))
                    exact ih9 (nI 0) (p9 + 1) 0 hu147 ho148 f163 H locs ls (by omega) (Or.inl rfl) (by omega) (by omega) (by omega) (by omega) (fun z9 => absurd z9 (by decide)) e164 e149 e150 hI167 hv15 hl hP hD hS
                  · skip
                    have hr168 : mv9 = nI 1 := (bl_1 hmv b161)
                    refine lv_iconst (v := nI 1) hx hb d_M_round_98 (by decide) ?_
                    refine lv_goto (tgt := 103) hx hb d_M_round_99 (by decide) ?_
                    refine lv_istore_n (lv' := [(2, .int (nI 1)), (3, .int (nI p9)), (0, .ref M), (1, .int (nI n9))]) hx hb d_M_round_103 rfl hl (by decide) rfl (fun ls hl => ?_)
                    refine lv_aload_n hx hb d_M_round_104 rfl (lv_at hl 2 rfl) ?_
                    refine lv_iconst (v := nI 0) hx hb d_M_round_105 (by decide) ?_
                    refine pf_put (v := .int (nI 0)) (ty := .int) (fs' := [.int mth, .ref (g.lk M 1), .int (nI mn), .ref (g.lk M 3), .ref (g.lk M 4), .int (nI mdr), .ref (g.lk M 6), .ref (g.lk M 7), .ref (g.lk M 8), .int (nI msz), .int (nI mix), .int (nI mdp), .ref (g.lk M 12), .int (nI mwt), .ref (g.lk M 14), .ref (g.lk M 15), .int (nI mop), .ref (g.lk M 17), .ref (g.lk M 18), .ref (g.lk M 19), .ref (g.lk M 20), .ref (g.lk M 21), .ref (g.lk M 22), .ref (g.lk M 23), .ref (g.lk M 24), .ref (g.lk M 25), .ref (g.lk M 26), .ref (g.lk M 27), .ref (g.lk M 28), .ref (g.lk M 29), .ref (g.lk M 30), .ref (g.lk M 31), .int (nI 0), .ref (g.lk M 33), .ref (g.lk M 34), .ref (g.lk M 35), .int (nI mwa), .int (nI mgi), .int (nI mpc), .int (nI mst), .int (nI mtr), .int (nI msp), .int mma, .int mlg, .int mdu]) (C := "BigRunnerModel") (T := FT10) (N := 45) hx hb (hw10 hB _) (fun _ h9 => h9) TY10 ok10 nm10 hown hK hP hD hS (lo_in hL t_M (by decide)) e11 rfl 32 (by decide) (wd_979 hB _) rfl (by decide +kernel) rfl rfl (Nat.le_of_ble_eq_true rfl) rfl d_M_round_106 (fun f169 H locs e170 k171 hP hD hS => ?_)
                    have eC := (k171 (g.lk M 6) (tg_ne (lo_k11_6 hL _ t_M) t_M (by decide))).trans eC
                    have eA := (k171 (g.lk M 7) (tg_ne (lo_k11_7 hL _ t_M) t_M (by decide))).trans eA
                    have e149 := (k171 (g.lk M 19) (tg_ne (lo_k11_19 hL _ t_M) t_M (by decide))).trans e149
                    have e150 := (k171 (g.lk M 20) (tg_ne (lo_k11_20 hL _ t_M) t_M (by decide))).trans e150
                    have hu := hu.st k171 t_M (by decide)
                    have hv15 := hv15.st k171 t_M (by decide)
                    have hk172 : ∀ b, b ≠ M → f169 b = f141 b := k171
                    refine lv_iinc (k := 1) (v := nI (p9 + 1)) (lv' := [(3, .int (nI (p9 + 1))), (2, .int (nI 1)), (0, .ref M), (1, .int (nI n9))]) hx hb d_M_round_109 hl rfl (by rw [nI_succ]; rfl) (by decide) rfl (fun ls hl => ?_)
                    refine lv_goto (tgt := 9) hx hb d_M_round_112 (by decide) ?_
                    have hI173 := iv_1 hI1_145 hL t_M (by decide) hk172 (oc_11.mk t_M (⟨mth, mn, mdr, msz, mix, mdp, mwt, mop, 0, mwa, mgi, mpc, mst, mtr, msp, mma, mlg, mdu, e170, (by omega), (by omega), (by omega), (by omega), (by omega), (by omega), (by omega), (by omega), (by omega), (by omega), (by omega), (by omega), (by omega), (by omega), hmb14⟩))
                    exact ih9 (nI 1) (p9 + 1) 0 hu147 ho148 f169 H locs ls (by omega) (Or.inr rfl) (by omega) (by omega) (by omega) (by omega) (fun _ y9 => by have z8 := hcm hr168 y9; omega) e170 e149 e150 hI173 hv15 hl hP hD hS
        · skip
          replace b17 := mt (nI_leI (a := 8) (b := w) (by omega) (by omega)).mpr b17
          refine lv_aload_n hx hb d_M_round_28 rfl (lv_at hl 2 rfl) ?_
          refine lv_iload_n hx hb d_M_round_29 rfl (lv_at hl 0 rfl) ?_
          refine pcc_v (va_runV (C := "BigRunnerModel") (As := [.int (nI p9)]) (rest := []) ⟨hx, hb, hml, hown, tb_nil⟩ (m_spanOf l g H.size f7 M mth mn mdr msz mix mdp mwt mop t9 mwa mgi mpc mst mtr msp mma mlg mdu hC hA p9 w v hL t_M hI14 e11 ⟨(by omega), (by omega), (by omega), (by omega), (by omega), (by omega), (by omega), (by omega), (by omega), (by omega), (by omega), (by omega), (by omega), (by omega), hmb14⟩ eC eA hw hv (by omega) (by omega) (ws_of hWO ht9) (by omega)) ⟨(callB_of 1 (tb_one (wd_1156 hB _)) tb_good1 rfl rfl rfl (wd_82 hB _) (wd_1153 hB _) (by decide +kernel) ⟨Nat.le_of_ble_eq_true rfl, Nat.le_of_ble_eq_true rfl⟩), (wd_1155 hB _), (wd_52 hB _)⟩ ⟨pe_bl, pg_recv (ci := 10) hK hP (lo_in hL t_M (by decide)) e11 rfl, pe_pre hB hK hP hD⟩ rfl rfl hl.1 rfl (lv_room (Nat.le_of_ble_eq_true rfl)) d_M_round_30 ⟨Nat.le_of_ble_eq_true rfl, Nat.le_of_ble_eq_true rfl⟩) hS (fun f175 H locs hq176 hP hD hS => ?_)
          obtain ⟨x1_177, hI1_178, hu1_179⟩ := hq176
          have hu := hu.tr hu1_179 (by decide)
          have hv15 := hv15.tr hu1_179 (by decide)
          have eC := hu1_179.at (lo_k11_6 hL _ t_M) (by decide) eC
          have eA := hu1_179.at (lo_k11_7 hL _ t_M) (by decide) eA
          have e12 := hu1_179.at (lo_k11_19 hL _ t_M) (by decide) e12
          have e13 := hu1_179.at (lo_k11_20 hL _ t_M) (by decide) e13
          obtain ⟨tp1_181, c182, c183, e180⟩ := x1_177
          refine lv_goto (tgt := 109) hx hb d_M_round_33 (by decide) ?_
          refine lv_iinc (k := 0) (v := nI (p9 + 1)) (lv' := [(3, .int (nI (p9 + 1))), (2, .int mv9), (0, .ref M), (1, .int (nI n9))]) hx hb d_M_round_109 hl rfl (by rw [nI_succ]; rfl) (by decide) rfl (fun ls hl => ?_)
          refine lv_goto (tgt := 9) hx hb d_M_round_112 (by decide) ?_
          exact ih9 mv9 (p9 + 1) tp1_181 hU2 hO2 f175 H locs ls (by omega) hmv (by omega) (wo_next hWO (by omega) ht9 c183) (by omega) hcz hcm e180 e12 e13 hI1_178 hv15 hl hP hD hS
  exact lp6 (msz + 1) (nI 0) 0 0 hU hO f1 H locs ls (by omega) (Or.inl rfl) (by omega) hWF.2.1.symm (by omega) (Nat.le_refl _) (fun z9 => absurd z9 (by decide)) e2 eU eO hI5 un.rf hl hP hD hS
set_option maxHeartbeats 4000000 in
set_option maxRecDepth 100000 in
theorem m_settle (l : Launch) (g : Lay) (sz : Nat) (f : Nat → va_E) (M : Nat) (mth : Int32) (mn : Nat) (mdr : Nat) (msz : Nat) (mix : Nat) (mdp : Nat) (mwt : Nat) (mop : Nat) (mtp : Nat) (mwa : Nat) (mgi : Nat) (mpc : Nat) (mst : Nat) (mtr : Nat) (msp : Nat) (mma : Int32) (mlg : Int32) (mdu : Int32) (hC : Nat → Int32) (hA : Nat → Int32) (dpf : Nat → Nat) (hL : LO g) (t_M : g.tg M = 11) (hI : IV g f) (eM : f M = .inr (10, [.int mth, .ref (g.lk M 1), .int (nI mn), .ref (g.lk M 3), .ref (g.lk M 4), .int (nI mdr), .ref (g.lk M 6), .ref (g.lk M 7), .ref (g.lk M 8), .int (nI msz), .int (nI mix), .int (nI mdp), .ref (g.lk M 12), .int (nI mwt), .ref (g.lk M 14), .ref (g.lk M 15), .int (nI mop), .ref (g.lk M 17), .ref (g.lk M 18), .ref (g.lk M 19), .ref (g.lk M 20), .ref (g.lk M 21), .ref (g.lk M 22), .ref (g.lk M 23), .ref (g.lk M 24), .ref (g.lk M 25), .ref (g.lk M 26), .ref (g.lk M 27), .ref (g.lk M 28), .ref (g.lk M 29), .ref (g.lk M 30), .ref (g.lk M 31), .int (nI mtp), .ref (g.lk M 33), .ref (g.lk M 34), .ref (g.lk M 35), .int (nI mwa), .int (nI mgi), .int (nI mpc), .int (nI mst), .int (nI mtr), .int (nI msp), .int mma, .int mlg, .int mdu])) (hMB : mn ≤ 72 ∧ mdr ≤ 100 ∧ msz ≤ 100 ∧ mix ≤ 100 ∧ mdp ≤ 20 ∧ mwt ≤ 72 ∧ mop ≤ 40 ∧ mtp ≤ 80 ∧ mwa ≤ 20 ∧ mgi ≤ msp ∧ mpc ≤ 100 ∧ mst ≤ 4 ∧ mtr ≤ 3 ∧ msp ≤ 3000 ∧ (mdu = 0 ∨ mdu = 1)) (eC : f (g.lk M 6) = .inl (g.ac (g.lk M 6), 100, .inl hC)) (eA : f (g.lk M 7) = .inl (g.ac (g.lk M 7), 100, .inl hA)) (hWF : WF hC hA dpf msz) : Met l ⟨"BigRunnerModel", "settle", "()I"⟩ [Cond.code ⟨"BigRunnerModel", "settle", "()I"⟩ prog_12_method_25_code 2 (some .int)] ({ frames := 5, cells := 0, slots := 0, locals := 123 }) (va_Pc [.ref M] (pc_in g sz f)) (va_Qi (fun r f1 => (∃ (tp1 : Nat), (tp1 ≤ 80) ∧ f1 M = .inr (10, [.int mth, .ref (g.lk M 1), .int (nI mn), .ref (g.lk M 3), .ref (g.lk M 4), .int (nI mdr), .ref (g.lk M 6), .ref (g.lk M 7), .ref (g.lk M 8), .int (nI msz), .int (nI mix), .int (nI mdp), .ref (g.lk M 12), .int (nI mwt), .ref (g.lk M 14), .ref (g.lk M 15), .int (nI mop), .ref (g.lk M 17), .ref (g.lk M 18), .ref (g.lk M 19), .ref (g.lk M 20), .ref (g.lk M 21), .ref (g.lk M 22), .ref (g.lk M 23), .ref (g.lk M 24), .ref (g.lk M 25), .ref (g.lk M 26), .ref (g.lk M 27), .ref (g.lk M 28), .ref (g.lk M 29), .ref (g.lk M 30), .ref (g.lk M 31), .int (nI tp1), .ref (g.lk M 33), .ref (g.lk M 34), .ref (g.lk M 35), .int (nI mwa), .int (nI mgi), .int (nI mpc), .int (nI mst), .int (nI mtr), .int (nI msp), .int mma, .int mlg, .int mdu])) ∧ (IV g f1) ∧ (un [11, 45, 49, 50, 51, 52, 53, 54, 55, 56, 57] g f f1)) (pc_out g sz) (pc_A g sz)) 0 0 (pc_A g sz) := by
  refine pe_ofW (cc := prog_12_method_25_code) (maxL := 2) (ret := (some .int)) (lv := [(0, .ref M)]) (by decide) (Nat.le_of_ble_eq_true rfl) rfl ?_
  intro p e s m args below meth c ls hx hb hr hml hlocks hown hB hP hK hD hsz hS hl
  subst hsz
  have hu : un [11, 45, 49, 50, 51, 52, 53, 54, 55, 56, 57] g f f := un.rf
  obtain ⟨hmb0, hmb1, hmb2, hmb3, hmb4, hmb5, hmb6, hmb7, hmb8, hmb9, hmb10, hmb11, hmb12, hmb13, hmb14⟩ := hMB
  refine lv_iconst (v := nI 0) hx hb d_M_settle_0 (by decide) ?_
  refine lv_istore_n (lv' := [(1, .int (nI 0)), (0, .ref M)]) hx hb d_M_settle_1 rfl hl (by decide) rfl (fun ls hl => ?_)
  have lp1 : ∀ (k3 : Nat) (i : Nat) (f2 : Nat → va_E) (H : Heap) (locs : List Loc) (ls : Array Slot), (10 < i + k3) → (i ≤ 10) → IV g f2 → un [49, 50, 51, 52] g f f2 → lv_has ls 2 [(1, .int (nI i)), (0, .ref M)] → va_P g.D vcl (va_pl g.LP f2) H → va_D (pc_A g s.heap.size) (va_pl g.LP f2) → va_S (pc_A g s.heap.size) s.heap H locs → W p l e ({ frames := 5, cells := 0, slots := 0, locals := 123 }) s m args below meth c H locs 0 0 (MQ below (va_Qi (fun r f1 => (∃ (tp1 : Nat), (tp1 ≤ 80) ∧ f1 M = .inr (10, [.int mth, .ref (g.lk M 1), .int (nI mn), .ref (g.lk M 3), .ref (g.lk M 4), .int (nI mdr), .ref (g.lk M 6), .ref (g.lk M 7), .ref (g.lk M 8), .int (nI msz), .int (nI mix), .int (nI mdp), .ref (g.lk M 12), .int (nI mwt), .ref (g.lk M 14), .ref (g.lk M 15), .int (nI mop), .ref (g.lk M 17), .ref (g.lk M 18), .ref (g.lk M 19), .ref (g.lk M 20), .ref (g.lk M 21), .ref (g.lk M 22), .ref (g.lk M 23), .ref (g.lk M 24), .ref (g.lk M 25), .ref (g.lk M 26), .ref (g.lk M 27), .ref (g.lk M 28), .ref (g.lk M 29), .ref (g.lk M 30), .ref (g.lk M 31), .int (nI tp1), .ref (g.lk M 33), .ref (g.lk M 34), .ref (g.lk M 35), .int (nI mwa), .int (nI mgi), .int (nI mpc), .int (nI mst), .int (nI mtr), .int (nI msp), .int mma, .int mlg, .int mdu])) ∧ (IV g f1) ∧ (un [11, 45, 49, 50, 51, 52, 53, 54, 55, 56, 57] g f f1)) (pc_out g s.heap.size) (pc_A g s.heap.size)) args s 0 0 (pc_A g s.heap.size)) (F0 m 2 ls []) := by
    intro k3
    induction k3 with
    | zero => intros; exfalso; omega
    | succ k3 ih4 =>
      intro i f2 H locs ls hfu5 hi hI6 hv7 hl hP hD hS
      have eM := hv7.at t_M (by decide) eM
      have eC := hv7.at (lo_k11_6 hL _ t_M) (by decide) eC
      have eA := hv7.at (lo_k11_7 hL _ t_M) (by decide) eA
      have hu := hu.tr hv7 (by decide)
      refine lv_iload_n hx hb d_M_settle_2 rfl (lv_at hl 0 rfl) ?_
      refine lv_bipush (v := nI 10) hx hb d_M_settle_3 (by decide) ?_
      refine lv_icmp_ge (tgt := 42) hx hb d_M_settle_5 (by decide) (fun b8 => ?_) (fun b8 => ?_)
      · skip
        replace b8 := (nI_leI (a := 10) (b := i) (by omega) (by omega)).mp b8
        refine lv_iconst (v := nI 1) hx hb d_M_settle_42 (by decide) ?_
        refine lv_istore_n (lv' := [(1, .int (nI 1)), (0, .ref M)]) hx hb d_M_settle_43 rfl hl (by decide) rfl (fun ls hl => ?_)
        obtain ⟨h_10, e9⟩ := oc_51.of (lo_k11_19 hL _ t_M) (hI6.1 (g.lk M 19))
        obtain ⟨h_13, e12⟩ := oc_52.of (lo_k11_20 hL _ t_M) (hI6.1 (g.lk M 20))
        have hz1 := cz_le h_10 10
        have hz2 := cz_le h_13 10
        have lp15 : ∀ (k17 : Nat) (n9 : Nat) (t9 : Nat) (hU2 : Nat → Int32) (hO2 : Nat → Int32) (f16 : Nat → va_E) (H : Heap) (locs : List Loc) (ls : Array Slot), (cz hU2 10 + cz hO2 10 + (4 - n9) < k17) → (t9 ≤ 80) → (n9 + (cz hU2 10 + cz hO2 10 + (4 - n9)) ≤ 26) → f16 M = .inr (10, [.int mth, .ref (g.lk M 1), .int (nI mn), .ref (g.lk M 3), .ref (g.lk M 4), .int (nI mdr), .ref (g.lk M 6), .ref (g.lk M 7), .ref (g.lk M 8), .int (nI msz), .int (nI mix), .int (nI mdp), .ref (g.lk M 12), .int (nI mwt), .ref (g.lk M 14), .ref (g.lk M 15), .int (nI mop), .ref (g.lk M 17), .ref (g.lk M 18), .ref (g.lk M 19), .ref (g.lk M 20), .ref (g.lk M 21), .ref (g.lk M 22), .ref (g.lk M 23), .ref (g.lk M 24), .ref (g.lk M 25), .ref (g.lk M 26), .ref (g.lk M 27), .ref (g.lk M 28), .ref (g.lk M 29), .ref (g.lk M 30), .ref (g.lk M 31), .int (nI t9), .ref (g.lk M 33), .ref (g.lk M 34), .ref (g.lk M 35), .int (nI mwa), .int (nI mgi), .int (nI mpc), .int (nI mst), .int (nI mtr), .int (nI msp), .int mma, .int mlg, .int mdu]) → f16 (g.lk M 19) = .inl (g.ac (g.lk M 19), 10, .inl (hU2)) → f16 (g.lk M 20) = .inl (g.ac (g.lk M 20), 10, .inl (hO2)) → IV g f16 → un [11, 45, 49, 50, 51, 52, 53, 54, 55, 56, 57] g f2 f16 → lv_has ls 2 [(1, .int (nI n9)), (0, .ref M)] → va_P g.D vcl (va_pl g.LP f16) H → va_D (pc_A g s.heap.size) (va_pl g.LP f16) → va_S (pc_A g s.heap.size) s.heap H locs → W p l e ({ frames := 5, cells := 0, slots := 0, locals := 123 }) s m args below meth c H locs 0 0 (MQ below (va_Qi (fun r f1 => (∃ (tp1 : Nat), (tp1 ≤ 80) ∧ f1 M = .inr (10, [.int mth, .ref (g.lk M 1), .int (nI mn), .ref (g.lk M 3), .ref (g.lk M 4), .int (nI mdr), .ref (g.lk M 6), .ref (g.lk M 7), .ref (g.lk M 8), .int (nI msz), .int (nI mix), .int (nI mdp), .ref (g.lk M 12), .int (nI mwt), .ref (g.lk M 14), .ref (g.lk M 15), .int (nI mop), .ref (g.lk M 17), .ref (g.lk M 18), .ref (g.lk M 19), .ref (g.lk M 20), .ref (g.lk M 21), .ref (g.lk M 22), .ref (g.lk M 23), .ref (g.lk M 24), .ref (g.lk M 25), .ref (g.lk M 26), .ref (g.lk M 27), .ref (g.lk M 28), .ref (g.lk M 29), .ref (g.lk M 30), .ref (g.lk M 31), .int (nI tp1), .ref (g.lk M 33), .ref (g.lk M 34), .ref (g.lk M 35), .int (nI mwa), .int (nI mgi), .int (nI mpc), .int (nI mst), .int (nI mtr), .int (nI msp), .int mma, .int mlg, .int mdu])) ∧ (IV g f1) ∧ (un [11, 45, 49, 50, 51, 52, 53, 54, 55, 56, 57] g f f1)) (pc_out g s.heap.size) (pc_A g s.heap.size)) args s 0 0 (pc_A g s.heap.size)) (F0 m 44 ls []) := by
          intro k17
          induction k17 with
          | zero => intros; exfalso; omega
          | succ k17 ih18 =>
            intro n9 t9 hU2 hO2 f16 H locs ls hfu19 ht8 hnb e20 e21 e22 hI23 hv24 hl hP hD hS
            have eC := hv24.at (lo_k11_6 hL _ t_M) (by decide) eC
            have eA := hv24.at (lo_k11_7 hL _ t_M) (by decide) eA
            have hu := hu.tr hv24 (by decide)
            refine lv_aload_n hx hb d_M_settle_44 rfl (lv_at hl 1 rfl) ?_
            refine lv_iload_n hx hb d_M_settle_45 rfl (lv_at hl 0 rfl) ?_
            refine pcc_i (va_runV (C := "BigRunnerModel") (As := [.int (nI n9)]) (rest := []) ⟨hx, hb, hml, hown, tb_nil⟩ (m_round l g H.size f16 M mth mn mdr msz mix mdp mwt mop t9 mwa mgi mpc mst mtr msp mma mlg mdu hC hA dpf hU2 hO2 n9 hL t_M hI23 e20 ⟨(by omega), (by omega), (by omega), (by omega), (by omega), (by omega), (by omega), (by omega), (by omega), (by omega), (by omega), (by omega), (by omega), (by omega), hmb14⟩ eC eA hWF e21 e22 (by omega)) ⟨(callB_of 1 (tb_one (wd_1152 hB _)) tb_good1 rfl rfl rfl (wd_82 hB _) (wd_1149 hB _) (by decide +kernel) ⟨Nat.le_of_ble_eq_true rfl, Nat.le_of_ble_eq_true rfl⟩), (wd_1151 hB _), (wd_51 hB _)⟩ ⟨pe_bl, pg_recv (ci := 10) hK hP (lo_in hL t_M (by decide)) e20 rfl, pe_pre hB hK hP hD⟩ rfl rfl hl.1 rfl (lv_room (Nat.le_of_ble_eq_true rfl)) d_M_settle_46 ⟨Nat.le_of_ble_eq_true rfl, Nat.le_of_ble_eq_true rfl⟩) hS (fun r25 f26 H locs hq27 hP hD hS => ?_)
            obtain ⟨bo_28, x1_29, cz_30, hI1_31, hu1_32⟩ := hq27
            have hu := hu.tr hu1_32 (by decide)
            have hv24 := hv24.tr hu1_32 (by decide)
            have eC := hu1_32.at (lo_k11_6 hL _ t_M) (by decide) eC
            have eA := hu1_32.at (lo_k11_7 hL _ t_M) (by decide) eA
            obtain ⟨tp1_34, c35, e33⟩ := x1_29
            obtain ⟨hu36, ho37, e38, e39, c40, c41⟩ := cz_30
            refine lv_if_eq (tgt := 58) hx hb d_M_settle_49 (by decide) (fun b42 => ?_) (fun b42 => ?_)
            · skip
              have hr43 : r25 = nI 0 := b42
              refine lv_iload_n hx hb d_M_settle_58 rfl (lv_at hl 0 rfl) ?_
              exact pe_iret hx hb hr hlocks hK hP hD hS d_M_settle_59 ⟨⟨tp1_34, by omega, e33⟩, hI1_31, hu⟩
            · skip
              have hr44 : r25 = nI 1 := (bl_1 bo_28 b42)
              have hlt9 : 3 < n9 → _ := c41 hr44
              refine lv_iinc (k := 0) (v := nI (n9 + 1)) (lv' := [(1, .int (nI (n9 + 1))), (0, .ref M)]) hx hb d_M_settle_52 hl rfl (by rw [nI_succ]; rfl) (by decide) rfl (fun ls hl => ?_)
              refine lv_goto (tgt := 44) hx hb d_M_settle_55 (by decide) ?_
              exact ih18 (n9 + 1) tp1_34 hu36 ho37 f26 H locs ls (by omega) (by omega) (by omega) e33 e38 e39 hI1_31 hv24 hl hP hD hS
        exact lp15 (cz h_10 10 + cz h_13 10 + 4) 1 mtp h_10 h_13 f2 H locs ls (by omega) (by omega) (by omega) eM e9 e12 hI6 un.rf hl hP hD hS
      · skip
        replace b8 := mt (nI_leI (a := 10) (b := i) (by omega) (by omega)).mpr b8
        refine lv_aload_n hx hb d_M_settle_8 rfl (lv_at hl 1 rfl) ?_
        refine pf_get (v := .ref (g.lk M 17)) (C := "BigRunnerModel") (T := FT10) (N := 45) hx hb (hw10 hB _) (fun _ h9 => h9) hown hK hP (lo_in hL t_M (by decide)) eM rfl 17 (by decide) (wd_964 hB _) rfl d_M_settle_9 ?_
        refine lv_iload_n hx hb d_M_settle_12 rfl (lv_at hl 0 rfl) ?_
        refine lv_lconst (v := nL 0) hx hb d_M_settle_13 (by decide) ?_
        obtain ⟨h_46, e45⟩ := oc_49.of (lo_k11_17 hL _ t_M) (hI6.1 (g.lk M 17))
        refine pf_last (i := i) hx hb hK hP hD hS (lo_in hL (lo_k11_17 hL _ t_M) (by decide)) e45 (lo_t49 hL _ (lo_k11_17 hL _ t_M)) (by omega) (by decide) d_M_settle_14 (fun f48 H locs e49 k50 hP hD hS => ?_)
        have eM := (k50 M (tg_ne t_M (lo_k11_17 hL _ t_M) (by decide))).trans eM
        have eC := (k50 (g.lk M 6) (tg_ne (lo_k11_6 hL _ t_M) (lo_k11_17 hL _ t_M) (by decide))).trans eC
        have eA := (k50 (g.lk M 7) (tg_ne (lo_k11_7 hL _ t_M) (lo_k11_17 hL _ t_M) (by decide))).trans eA
        have hu := hu.st k50 (lo_k11_17 hL _ t_M) (by decide)
        have hv7 := hv7.st k50 (lo_k11_17 hL _ t_M) (by decide)
        have hk51 : ∀ b, b ≠ (g.lk M 17) → f48 b = f2 b := k50
        refine lv_aload_n hx hb d_M_settle_15 rfl (lv_at hl 1 rfl) ?_
        refine pf_get (v := .ref (g.lk M 18)) (C := "BigRunnerModel") (T := FT10) (N := 45) hx hb (hw10 hB _) (fun _ h9 => h9) hown hK hP (lo_in hL t_M (by decide)) eM rfl 18 (by decide) (wd_965 hB _) rfl d_M_settle_16 ?_
        refine lv_iload_n hx hb d_M_settle_19 rfl (lv_at hl 0 rfl) ?_
        refine lv_lconst (v := nL 0) hx hb d_M_settle_20 (by decide) ?_
        have hI52 := iv_1 hI6 hL (lo_k11_17 hL _ t_M) (by decide) hk51 (oc_49.mk (lo_k11_17 hL _ t_M) (⟨_, e49⟩))
        obtain ⟨h_54, e53⟩ := oc_50.of (lo_k11_18 hL _ t_M) (hI52.1 (g.lk M 18))
        refine pf_last (i := i) hx hb hK hP hD hS (lo_in hL (lo_k11_18 hL _ t_M) (by decide)) e53 (lo_t50 hL _ (lo_k11_18 hL _ t_M)) (by omega) (by decide) d_M_settle_21 (fun f56 H locs e57 k58 hP hD hS => ?_)
        have eM := (k58 M (tg_ne t_M (lo_k11_18 hL _ t_M) (by decide))).trans eM
        have eC := (k58 (g.lk M 6) (tg_ne (lo_k11_6 hL _ t_M) (lo_k11_18 hL _ t_M) (by decide))).trans eC
        have eA := (k58 (g.lk M 7) (tg_ne (lo_k11_7 hL _ t_M) (lo_k11_18 hL _ t_M) (by decide))).trans eA
        have e49 := (k58 (g.lk M 17) (tg_ne (lo_k11_17 hL _ t_M) (lo_k11_18 hL _ t_M) (by decide))).trans e49
        have hu := hu.st k58 (lo_k11_18 hL _ t_M) (by decide)
        have hv7 := hv7.st k58 (lo_k11_18 hL _ t_M) (by decide)
        have hk59 : ∀ b, b ≠ (g.lk M 18) → f56 b = f48 b := k58
        refine lv_aload_n hx hb d_M_settle_22 rfl (lv_at hl 1 rfl) ?_
        refine pf_get (v := .ref (g.lk M 19)) (C := "BigRunnerModel") (T := FT10) (N := 45) hx hb (hw10 hB _) (fun _ h9 => h9) hown hK hP (lo_in hL t_M (by decide)) eM rfl 19 (by decide) (wd_966 hB _) rfl d_M_settle_23 ?_
        refine lv_iload_n hx hb d_M_settle_26 rfl (lv_at hl 0 rfl) ?_
        refine lv_iconst (v := nI 0) hx hb d_M_settle_27 (by decide) ?_
        have hI60 := iv_1 hI52 hL (lo_k11_18 hL _ t_M) (by decide) hk59 (oc_50.mk (lo_k11_18 hL _ t_M) (⟨_, e57⟩))
        obtain ⟨h_62, e61⟩ := oc_51.of (lo_k11_19 hL _ t_M) (hI60.1 (g.lk M 19))
        refine pf_zast (i := i) hx hb hK hP hD hS (lo_in hL (lo_k11_19 hL _ t_M) (by decide)) e61 (lo_t51 hL _ (lo_k11_19 hL _ t_M)) (by omega) (by decide) d_M_settle_28 (fun f64 H locs e65 k66 hP hD hS => ?_)
        have eM := (k66 M (tg_ne t_M (lo_k11_19 hL _ t_M) (by decide))).trans eM
        have eC := (k66 (g.lk M 6) (tg_ne (lo_k11_6 hL _ t_M) (lo_k11_19 hL _ t_M) (by decide))).trans eC
        have eA := (k66 (g.lk M 7) (tg_ne (lo_k11_7 hL _ t_M) (lo_k11_19 hL _ t_M) (by decide))).trans eA
        have e49 := (k66 (g.lk M 17) (tg_ne (lo_k11_17 hL _ t_M) (lo_k11_19 hL _ t_M) (by decide))).trans e49
        have e57 := (k66 (g.lk M 18) (tg_ne (lo_k11_18 hL _ t_M) (lo_k11_19 hL _ t_M) (by decide))).trans e57
        have hu := hu.st k66 (lo_k11_19 hL _ t_M) (by decide)
        have hv7 := hv7.st k66 (lo_k11_19 hL _ t_M) (by decide)
        have hk67 : ∀ b, b ≠ (g.lk M 19) → f64 b = f56 b := k66
        refine lv_aload_n hx hb d_M_settle_29 rfl (lv_at hl 1 rfl) ?_
        refine pf_get (v := .ref (g.lk M 20)) (C := "BigRunnerModel") (T := FT10) (N := 45) hx hb (hw10 hB _) (fun _ h9 => h9) hown hK hP (lo_in hL t_M (by decide)) eM rfl 20 (by decide) (wd_967 hB _) rfl d_M_settle_30 ?_
        refine lv_iload_n hx hb d_M_settle_33 rfl (lv_at hl 0 rfl) ?_
        refine lv_iconst (v := nI 0) hx hb d_M_settle_34 (by decide) ?_
        have hI68 := iv_1 hI60 hL (lo_k11_19 hL _ t_M) (by decide) hk67 (oc_51.mk (lo_k11_19 hL _ t_M) (⟨_, e65⟩))
        obtain ⟨h_70, e69⟩ := oc_52.of (lo_k11_20 hL _ t_M) (hI68.1 (g.lk M 20))
        refine pf_zast (i := i) hx hb hK hP hD hS (lo_in hL (lo_k11_20 hL _ t_M) (by decide)) e69 (lo_t52 hL _ (lo_k11_20 hL _ t_M)) (by omega) (by decide) d_M_settle_35 (fun f72 H locs e73 k74 hP hD hS => ?_)
        have eM := (k74 M (tg_ne t_M (lo_k11_20 hL _ t_M) (by decide))).trans eM
        have eC := (k74 (g.lk M 6) (tg_ne (lo_k11_6 hL _ t_M) (lo_k11_20 hL _ t_M) (by decide))).trans eC
        have eA := (k74 (g.lk M 7) (tg_ne (lo_k11_7 hL _ t_M) (lo_k11_20 hL _ t_M) (by decide))).trans eA
        have e49 := (k74 (g.lk M 17) (tg_ne (lo_k11_17 hL _ t_M) (lo_k11_20 hL _ t_M) (by decide))).trans e49
        have e57 := (k74 (g.lk M 18) (tg_ne (lo_k11_18 hL _ t_M) (lo_k11_20 hL _ t_M) (by decide))).trans e57
        have e65 := (k74 (g.lk M 19) (tg_ne (lo_k11_19 hL _ t_M) (lo_k11_20 hL _ t_M) (by decide))).trans e65
        have hu := hu.st k74 (lo_k11_20 hL _ t_M) (by decide)
        have hv7 := hv7.st k74 (lo_k11_20 hL _ t_M) (by decide)
        have hk75 : ∀ b, b ≠ (g.lk M 20) → f72 b = f64 b := k74
        refine lv_iinc (k := 0) (v := nI (i + 1)) (lv' := [(1, .int (nI (i + 1))), (0, .ref M)]) hx hb d_M_settle_36 hl rfl (by rw [nI_succ]; rfl) (by decide) rfl (fun ls hl => ?_)
        refine lv_goto (tgt := 2) hx hb d_M_settle_39 (by decide) ?_
        have hI76 := iv_1 hI68 hL (lo_k11_20 hL _ t_M) (by decide) hk75 (oc_52.mk (lo_k11_20 hL _ t_M) (⟨_, e73⟩))
        exact ih4 (i + 1) f72 H locs ls (by omega) (by omega) hI76 hv7 hl hP hD hS
  exact lp1 11 0 f s.heap [] ls (by omega) (by omega) hI un.rf hl hP hD hS
