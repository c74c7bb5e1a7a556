set_option maxHeartbeats 4000000 in
set_option maxRecDepth 100000 in
theorem rs_step (l : Launch) (F : Nat) (ih : ∀ F', F' ≤ F → RG l F' ∧ RS l F') : RS l (F + 1) := by
  intro g sz f Rd tl ln ax P hT sn nn d hL t_Rd t_tl t_P hI eR eT cT hln hax eP hsn hnn hna h2s hd hF
  refine pe_ofW (cc := prog_8_method_6_code) (maxL := 3) (ret := (some .boolean)) (lv := [(0, .ref Rd), (1, .int (nI d))]) (by decide) (Nat.le_of_ble_eq_true rfl) rfl ?_
  intro p e s m args below meth c ls hx hb hr hml hlocks hown hB hP hK hD hsz hS hl
  subst hsz
  have hu : un [6, 7, 8, 10] g f f := un.rf
  have hfr : ∀ i, i < 36 → i < sn → f (g.lk (g.lk P 0) i) = f (g.lk (g.lk P 0) i) := fun _ _ _ => rfl
  refine lv_aload_n hx hb d_NReader_readStatement_0 rfl (lv_at hl 0 rfl) ?_
  refine lv_bipush (v := nI 63) hx hb d_NReader_readStatement_1 (by decide) ?_
  refine pcc_i (va_runV (C := "BigRunner$Reader") (As := [.int (nI 63)]) (rest := []) ⟨hx, hb, hml, hown, tb_nil⟩ (c_accept l g s.heap.size f Rd tl ln ax P hT 63 hL t_Rd t_tl t_P hI eR eT cT (by omega) (by omega) (by decide)) ⟨(callB_of 1 (tb_one (wd_472 hB _)) tb_good1 rfl rfl rfl (wd_73 hB _) (wd_469 hB _) (by decide +kernel) ⟨(show 2 ≤ 2 * (F + 1) + 410 by omega), (show 41 ≤ 60 * (F + 1) + 13000 by omega)⟩), (wd_471 hB _), (wd_4 hB _)⟩ ⟨pe_bl, pg_recv (ci := 7) hK hP (lo_in hL t_Rd (by decide)) eR rfl, pe_pre hB hK hP hD⟩ rfl rfl hl.1 rfl (lv_room (Nat.le_of_ble_eq_true rfl)) d_NReader_readStatement_3 ⟨Nat.le_of_ble_eq_true rfl, Nat.le_of_ble_eq_true rfl⟩) hS (fun r1 f2 H locs hq3 hP hD hS => ?_)
  obtain ⟨bo_4, i0_5, i1_6, hI1_7, hu1_8⟩ := hq3
  have hu := hu.tr hu1_8 (by decide)
  have eT := hu1_8.at t_tl (by decide) eT
  have eP := hu1_8.at t_P (by decide) eP
  have hfr : ∀ i, i < 36 → i < sn → f2 (g.lk (g.lk P 0) i) = f (g.lk (g.lk P 0) i) := fun i h1 h2 => (hu1_8 _ (by rw [lo_e24 hL _ (lo_k7_0 hL _ t_P) i h1]; decide)).trans (hfr i h1 h2)
  refine lv_if_eq (tgt := 19) hx hb d_NReader_readStatement_6 (by decide) (fun b9 => ?_) (fun b9 => ?_)
  · skip
    have hr10 : r1 = nI 0 := b9
    have hi11 := i0_5 hr10
    obtain ⟨hc12, e13⟩ := hi11
    have hk14 : tk hT ln ax ≠ 8 := fun z => hc12 (kc_8.mp z)
    refine lv_aload_n hx hb d_NReader_readStatement_19 rfl (lv_at hl 0 rfl) ?_
    refine lv_bipush (v := nI 33) hx hb d_NReader_readStatement_20 (by decide) ?_
    refine pcc_i (va_runV (C := "BigRunner$Reader") (As := [.int (nI 33)]) (rest := []) ⟨hx, hb, hml, hown, tb_nil⟩ (c_accept l g H.size f2 Rd tl ln ax P hT 33 hL t_Rd t_tl t_P hI1_7 e13 eT cT (by omega) (by omega) (by decide)) ⟨(callB_of 1 (tb_one (wd_472 hB _)) tb_good1 rfl rfl rfl (wd_73 hB _) (wd_469 hB _) (by decide +kernel) ⟨(show 2 ≤ 2 * (F + 1) + 410 by omega), (show 41 ≤ 60 * (F + 1) + 13000 by omega)⟩), (wd_471 hB _), (wd_4 hB _)⟩ ⟨pe_bl, pg_recv (ci := 7) hK hP (lo_in hL t_Rd (by decide)) e13 rfl, pe_pre hB hK hP hD⟩ rfl rfl hl.1 rfl (lv_room (Nat.le_of_ble_eq_true rfl)) d_NReader_readStatement_22 ⟨Nat.le_of_ble_eq_true rfl, Nat.le_of_ble_eq_true rfl⟩) hS (fun r15 f16 H locs hq17 hP hD hS => ?_)
    obtain ⟨bo_18, i0_19, i1_20, hI1_21, hu1_22⟩ := hq17
    have hu := hu.tr hu1_22 (by decide)
    have eT := hu1_22.at t_tl (by decide) eT
    have eP := hu1_22.at t_P (by decide) eP
    have hfr : ∀ i, i < 36 → i < sn → f16 (g.lk (g.lk P 0) i) = f (g.lk (g.lk P 0) i) := fun i h1 h2 => (hu1_22 _ (by rw [lo_e24 hL _ (lo_k7_0 hL _ t_P) i h1]; decide)).trans (hfr i h1 h2)
    refine lv_if_eq (tgt := 39) hx hb d_NReader_readStatement_25 (by decide) (fun b23 => ?_) (fun b23 => ?_)
    · skip
      have hr24 : r15 = nI 0 := b23
      have hi25 := i0_19 hr24
      obtain ⟨hc26, e27⟩ := hi25
      have hk28 : tk hT ln ax ≠ 9 := fun z => hc26 (kc_9.mp z)
      refine lv_aload_n hx hb d_NReader_readStatement_39 rfl (lv_at hl 0 rfl) ?_
      refine lv_bipush (v := nI 91) hx hb d_NReader_readStatement_40 (by decide) ?_
      refine pcc_i (va_runV (C := "BigRunner$Reader") (As := [.int (nI 91)]) (rest := []) ⟨hx, hb, hml, hown, tb_nil⟩ (c_accept l g H.size f16 Rd tl ln ax P hT 91 hL t_Rd t_tl t_P hI1_21 e27 eT cT (by omega) (by omega) (by decide)) ⟨(callB_of 1 (tb_one (wd_472 hB _)) tb_good1 rfl rfl rfl (wd_73 hB _) (wd_469 hB _) (by decide +kernel) ⟨(show 2 ≤ 2 * (F + 1) + 410 by omega), (show 41 ≤ 60 * (F + 1) + 13000 by omega)⟩), (wd_471 hB _), (wd_4 hB _)⟩ ⟨pe_bl, pg_recv (ci := 7) hK hP (lo_in hL t_Rd (by decide)) e27 rfl, pe_pre hB hK hP hD⟩ rfl rfl hl.1 rfl (lv_room (Nat.le_of_ble_eq_true rfl)) d_NReader_readStatement_42 ⟨Nat.le_of_ble_eq_true rfl, Nat.le_of_ble_eq_true rfl⟩) hS (fun r29 f30 H locs hq31 hP hD hS => ?_)
      obtain ⟨bo_32, i0_33, i1_34, hI1_35, hu1_36⟩ := hq31
      have hu := hu.tr hu1_36 (by decide)
      have eT := hu1_36.at t_tl (by decide) eT
      have eP := hu1_36.at t_P (by decide) eP
      have hfr : ∀ i, i < 36 → i < sn → f30 (g.lk (g.lk P 0) i) = f (g.lk (g.lk P 0) i) := fun i h1 h2 => (hu1_36 _ (by rw [lo_e24 hL _ (lo_k7_0 hL _ t_P) i h1]; decide)).trans (hfr i h1 h2)
      refine lv_if_eq (tgt := 54) hx hb d_NReader_readStatement_45 (by decide) (fun b37 => ?_) (fun b37 => ?_)
      · skip
        have hr38 : r29 = nI 0 := b37
        have hi39 := i0_33 hr38
        obtain ⟨hc40, e41⟩ := hi39
        have hk42 : tk hT ln ax ≠ 10 := fun z => hc40 (kc_10.mp z)
        refine lv_aload_n hx hb d_NReader_readStatement_54 rfl (lv_at hl 0 rfl) ?_
        refine lv_bipush (v := nI 123) hx hb d_NReader_readStatement_55 (by decide) ?_
        refine pcc_i (va_runV (C := "BigRunner$Reader") (As := [.int (nI 123)]) (rest := []) ⟨hx, hb, hml, hown, tb_nil⟩ (c_accept l g H.size f30 Rd tl ln ax P hT 123 hL t_Rd t_tl t_P hI1_35 e41 eT cT (by omega) (by omega) (by decide)) ⟨(callB_of 1 (tb_one (wd_472 hB _)) tb_good1 rfl rfl rfl (wd_73 hB _) (wd_469 hB _) (by decide +kernel) ⟨(show 2 ≤ 2 * (F + 1) + 410 by omega), (show 41 ≤ 60 * (F + 1) + 13000 by omega)⟩), (wd_471 hB _), (wd_4 hB _)⟩ ⟨pe_bl, pg_recv (ci := 7) hK hP (lo_in hL t_Rd (by decide)) e41 rfl, pe_pre hB hK hP hD⟩ rfl rfl hl.1 rfl (lv_room (Nat.le_of_ble_eq_true rfl)) d_NReader_readStatement_57 ⟨Nat.le_of_ble_eq_true rfl, Nat.le_of_ble_eq_true rfl⟩) hS (fun r43 f44 H locs hq45 hP hD hS => ?_)
        obtain ⟨bo_46, i0_47, i1_48, hI1_49, hu1_50⟩ := hq45
        have hu := hu.tr hu1_50 (by decide)
        have eT := hu1_50.at t_tl (by decide) eT
        have eP := hu1_50.at t_P (by decide) eP
        have hfr : ∀ i, i < 36 → i < sn → f44 (g.lk (g.lk P 0) i) = f (g.lk (g.lk P 0) i) := fun i h1 h2 => (hu1_50 _ (by rw [lo_e24 hL _ (lo_k7_0 hL _ t_P) i h1]; decide)).trans (hfr i h1 h2)
        refine lv_if_eq (tgt := 69) hx hb d_NReader_readStatement_60 (by decide) (fun b51 => ?_) (fun b51 => ?_)
        · skip
          have hr52 : r43 = nI 0 := b51
          have hi53 := i0_47 hr52
          obtain ⟨hc54, e55⟩ := hi53
          have hk56 : tk hT ln ax ≠ 12 := fun z => hc54 (kc_12.mp z)
          rcases Nat.lt_or_ge sn 36 with h36 | h36
          · skip
            refine lv_aload_n hx hb d_NReader_readStatement_69 rfl (lv_at hl 0 rfl) ?_
            refine lv_iconst (v := nI 0) hx hb d_NReader_readStatement_70 (by decide) ?_
            refine pcc_i (va_runV (C := "BigRunner$Reader") (As := [.int (nI 0)]) (rest := []) ⟨hx, hb, hml, hown, tb_nil⟩ (c_addSt l g H.size f44 Rd tl ln ax P hT sn nn 0 hL t_Rd t_tl t_P hI1_49 e55 eT cT (by omega) (by omega) eP (by omega) (by omega) (by omega) (by omega)) ⟨(callB_of 1 (tb_one (wd_480 hB _)) tb_good1 rfl rfl rfl (wd_73 hB _) (wd_477 hB _) (by decide +kernel) ⟨(show 1 ≤ 2 * (F + 1) + 410 by omega), (show 21 ≤ 60 * (F + 1) + 13000 by omega)⟩), (wd_479 hB _), (wd_6 hB _)⟩ ⟨pe_bl, pg_recv (ci := 7) hK hP (lo_in hL t_Rd (by decide)) e55 rfl, pe_pre hB hK hP hD⟩ rfl rfl hl.1 rfl (lv_room (Nat.le_of_ble_eq_true rfl)) d_NReader_readStatement_71 ⟨Nat.le_of_ble_eq_true rfl, Nat.le_of_ble_eq_true rfl⟩) hS (fun r57 f58 H locs hq59 hP hD hS => ?_)
            obtain ⟨q_60, x1_61, xs_62, fr_63, hI1_64, hu1_65⟩ := hq59
            subst q_60
            have hu := hu.tr hu1_65 (by decide)
            have eT := hu1_65.at t_tl (by decide) eT
            have e55 := hu1_65.at t_Rd (by decide) e55
            have hfr : ∀ i, i < 36 → i < sn → f58 (g.lk (g.lk P 0) i) = f (g.lk (g.lk P 0) i) := fun i h1 h2 => (fr_63 i h1 (by omega)).trans (hfr i h1 h2)
            obtain ⟨nm_66, fn_67, la_68, ta_69, c70, c71, c72, c73, e74⟩ := xs_62
            refine lv_istore_n (lv' := [(2, .int (nI sn)), (0, .ref Rd), (1, .int (nI d))]) hx hb d_NReader_readStatement_74 rfl hl (by decide) rfl (fun ls hl => ?_)
            refine lv_aload_n hx hb d_NReader_readStatement_75 rfl (lv_at hl 1 rfl) ?_
            refine lv_iload_n hx hb d_NReader_readStatement_76 rfl (lv_at hl 0 rfl) ?_
            refine pcc_i (va_runV (C := "BigRunner$Reader") (As := [.int (nI sn)]) (rest := []) ⟨hx, hb, hml, hown, tb_nil⟩ (c_readName l g H.size f58 Rd tl ln ax P hT ((sn + 1)) nn sn 0 nm_66 fn_67 la_68 ta_69 hL t_Rd t_tl t_P hI1_64 e55 eT cT (by omega) (by omega) x1_61 (by omega) (by omega) (by omega) e74 (by omega) (by omega) (by omega) c72 (by omega)) ⟨(callB_of 1 (tb_one (wd_484 hB _)) tb_good1 rfl rfl rfl (wd_73 hB _) (wd_481 hB _) (by decide +kernel) ⟨(show 2 ≤ 2 * (F + 1) + 410 by omega), (show 42 ≤ 60 * (F + 1) + 13000 by omega)⟩), (wd_483 hB _), (wd_7 hB _)⟩ ⟨pe_bl, pg_recv (ci := 7) hK hP (lo_in hL t_Rd (by decide)) e55 rfl, pe_pre hB hK hP hD⟩ rfl rfl hl.1 rfl (lv_room (Nat.le_of_ble_eq_true rfl)) d_NReader_readStatement_77 ⟨Nat.le_of_ble_eq_true rfl, Nat.le_of_ble_eq_true rfl⟩) hS (fun r75 f76 H locs hq77 hP hD hS => ?_)
            obtain ⟨bo_78, i0_79, i1_80, fr_81, hI1_82, hu1_83⟩ := hq77
            have hu := hu.tr hu1_83 (by decide)
            have eT := hu1_83.at t_tl (by decide) eT
            have x1_61 := hu1_83.at t_P (by decide) x1_61
            have hfr : ∀ i, i < 36 → i < sn → f76 (g.lk (g.lk P 0) i) = f (g.lk (g.lk P 0) i) := fun i h1 h2 => (fr_81 i h1 (by omega)).trans (hfr i h1 h2)
            refine lv_if_eq (tgt := 105) hx hb d_NReader_readStatement_80 (by decide) (fun b84 => ?_) (fun b84 => ?_)
            · skip
              have hr85 : r75 = nI 0 := b84
              have hi86 := i0_79 hr85
              obtain ⟨hk87, e88, e89⟩ := hi86
              refine lv_iconst (v := nI 0) hx hb d_NReader_readStatement_105 (by decide) ?_
              exact pe_zret hx hb hr hlocks hK hP hD hS d_NReader_readStatement_106 rfl ⟨(Or.inr ⟨ax, sn + 1, nn, by omega, by omega, by omega, (by rw [px_s0, if_neg hk14, if_neg hk28, if_neg hk42, if_neg hk56, if_neg (fun z => hk87 z.1)]), e88, x1_61, rfl⟩), hfr, hI1_82, hu⟩
            · skip
              have hr90 : r75 = nI 1 := (bl_1 bo_78 b84)
              have hi91 := i1_80 hr90
              obtain ⟨hk92, hl95, e93, nv96, hnv96, e94⟩ := hi91
              refine lv_aload_n hx hb d_NReader_readStatement_83 rfl (lv_at hl 1 rfl) ?_
              refine lv_bipush (v := nI 61) hx hb d_NReader_readStatement_84 (by decide) ?_
              refine pcc_i (va_runV (C := "BigRunner$Reader") (As := [.int (nI 61)]) (rest := []) ⟨hx, hb, hml, hown, tb_nil⟩ (c_accept l g H.size f76 Rd tl ln ((ax + 1)) P hT 61 hL t_Rd t_tl t_P hI1_82 e93 eT cT (by omega) (by omega) (by decide)) ⟨(callB_of 1 (tb_one (wd_472 hB _)) tb_good1 rfl rfl rfl (wd_73 hB _) (wd_469 hB _) (by decide +kernel) ⟨(show 2 ≤ 2 * (F + 1) + 410 by omega), (show 41 ≤ 60 * (F + 1) + 13000 by omega)⟩), (wd_471 hB _), (wd_4 hB _)⟩ ⟨pe_bl, pg_recv (ci := 7) hK hP (lo_in hL t_Rd (by decide)) e93 rfl, pe_pre hB hK hP hD⟩ rfl rfl hl.1 rfl (lv_room (Nat.le_of_ble_eq_true rfl)) d_NReader_readStatement_86 ⟨Nat.le_of_ble_eq_true rfl, Nat.le_of_ble_eq_true rfl⟩) hS (fun r97 f98 H locs hq99 hP hD hS => ?_)
              obtain ⟨bo_100, i0_101, i1_102, hI1_103, hu1_104⟩ := hq99
              have hu := hu.tr hu1_104 (by decide)
              have eT := hu1_104.at t_tl (by decide) eT
              have x1_61 := hu1_104.at t_P (by decide) x1_61
              have e94 := hu1_104.at (lo_e24 hL _ (lo_k7_0 hL _ t_P) _ (by omega)) (by decide) e94
              have hfr : ∀ i, i < 36 → i < sn → f98 (g.lk (g.lk P 0) i) = f (g.lk (g.lk P 0) i) := fun i h1 h2 => (hu1_104 _ (by rw [lo_e24 hL _ (lo_k7_0 hL _ t_P) i h1]; decide)).trans (hfr i h1 h2)
              refine lv_if_eq (tgt := 105) hx hb d_NReader_readStatement_89 (by decide) (fun b105 => ?_) (fun b105 => ?_)
              · skip
                have hr106 : r97 = nI 0 := b105
                have hi107 := i0_101 hr106
                obtain ⟨hc108, e109⟩ := hi107
                have hk110 : tk hT ln (ax + 1) ≠ 17 := fun z => hc108 (kc_17.mp z)
                refine lv_iconst (v := nI 0) hx hb d_NReader_readStatement_105 (by decide) ?_
                exact pe_zret hx hb hr hlocks hK hP hD hS d_NReader_readStatement_106 rfl ⟨(Or.inr ⟨ax + 1, sn + 1, nn, by omega, by omega, by omega, (by rw [px_s0, if_neg hk14, if_neg hk28, if_neg hk42, if_neg hk56, if_neg (fun z => hk110 z.2)]), e109, x1_61, rfl⟩), hfr, hI1_103, hu⟩
              · skip
                have hr111 : r97 = nI 1 := (bl_1 bo_100 b105)
                have hi112 := i1_102 hr111
                obtain ⟨hc113, hl116, e114⟩ := hi112
                have hk115 : tk hT ln (ax + 1) = 17 := kc_17.mpr hc113
                refine lv_aload_n hx hb d_NReader_readStatement_92 rfl (lv_at hl 1 rfl) ?_
                refine lv_iload_n hx hb d_NReader_readStatement_93 rfl (lv_at hl 0 rfl) ?_
                refine lv_iload_n hx hb d_NReader_readStatement_94 rfl (lv_at hl 2 rfl) ?_
                refine pcc_i (va_runV (C := "BigRunner$Reader") (As := [.int (nI sn), .int (nI d)]) (rest := []) ⟨hx, hb, hml, hown, tb_nil⟩ (c_readExprOf l g H.size f98 Rd tl ln ((ax + 1 + 1)) P hT ((sn + 1)) nn sn 0 nv96 fn_67 la_68 ta_69 d hL t_Rd t_tl t_P hI1_103 e114 eT cT (by omega) (by omega) x1_61 (by omega) (by omega) (by omega) e94 (by omega) (by omega) (by omega) c72 (by omega) (by omega) (by omega)) ⟨(callB_of 2 (tb_one (wd_488 hB _)) tb_good1 rfl rfl rfl (wd_73 hB _) (wd_485 hB _) (by decide +kernel) ⟨(show 405 ≤ 2 * (F + 1) + 410 by omega), (show 12247 ≤ 60 * (F + 1) + 13000 by omega)⟩), (wd_487 hB _), (wd_8 hB _)⟩ ⟨pe_bl, pg_recv (ci := 7) hK hP (lo_in hL t_Rd (by decide)) e114 rfl, pe_pre hB hK hP hD⟩ rfl rfl hl.1 rfl (lv_room (Nat.le_of_ble_eq_true rfl)) d_NReader_readStatement_95 ⟨Nat.le_of_ble_eq_true rfl, Nat.le_of_ble_eq_true rfl⟩) hS (fun r117 f118 H locs hq119 hP hD hS => ?_)
                obtain ⟨rs_120, fr_121, hI1_122, hu1_123⟩ := hq119
                have hu := hu.tr hu1_123 (by decide)
                have eT := hu1_123.at t_tl (by decide) eT
                have hfr : ∀ i, i < 36 → i < sn → f118 (g.lk (g.lk P 0) i) = f (g.lk (g.lk P 0) i) := fun i h1 h2 => (fr_121 i h1 (by omega)).trans (hfr i h1 h2)
                rcases rs_120 with ⟨a124, n125, j126, c131, c132, c133, c134, c135, c136, hp130, e127, e128, e129, rfl⟩ | ⟨a124, n125, c131, c132, hp130, e127, e128, rfl⟩
                · skip
                  refine lv_if_eq (tgt := 105) hx hb d_NReader_readStatement_98 (by decide) (fun b137 => ?_) (fun b137 => ?_)
                  · skip
                    replace b137 := (nI_eq (a := 1) (b := 0) (by omega) (by omega)).mp b137
                    exfalso; omega
                  · skip
                    replace b137 := mt (nI_eq (a := 1) (b := 0) (by omega) (by omega)).mpr b137
                    refine lv_iconst (v := nI 1) hx hb d_NReader_readStatement_101 (by decide) ?_
                    refine lv_goto (tgt := 106) hx hb d_NReader_readStatement_102 (by decide) ?_
                    exact pe_zret hx hb hr hlocks hK hP hD hS d_NReader_readStatement_106 rfl ⟨(Or.inl ⟨a124, sn + 1, n125, by omega, by omega, by omega, by omega, by omega, by omega, by omega, by omega, (by rw [px_s0, if_neg hk14, if_neg hk28, if_neg hk42, if_neg hk56, if_pos ⟨hk92, hk115⟩]; exact hp130), e127, e128, (SG_one e129 (by omega) (by omega) (by omega) (by omega) (fun _ => ⟨_, by omega, rfl⟩)), (nj_of e129 (by omega)), rfl⟩), hfr, hI1_122, hu⟩
                · skip
                  refine lv_if_eq (tgt := 105) hx hb d_NReader_readStatement_98 (by decide) (fun b138 => ?_) (fun b138 => ?_)
                  · skip
                    replace b138 := (nI_eq (a := 0) (b := 0) (by omega) (by omega)).mp b138
                    refine lv_iconst (v := nI 0) hx hb d_NReader_readStatement_105 (by decide) ?_
                    exact pe_zret hx hb hr hlocks hK hP hD hS d_NReader_readStatement_106 rfl ⟨(Or.inr ⟨a124, sn + 1, n125, by omega, by omega, by omega, (by rw [px_s0, if_neg hk14, if_neg hk28, if_neg hk42, if_neg hk56, if_pos ⟨hk92, hk115⟩]; exact hp130), e127, e128, rfl⟩), hfr, hI1_122, hu⟩
                  · skip
                    replace b138 := mt (nI_eq (a := 0) (b := 0) (by omega) (by omega)).mpr b138
                    exfalso; omega
          · skip
            refine lv_aload_n hx hb d_NReader_readStatement_69 rfl (lv_at hl 0 rfl) ?_
            refine lv_iconst (v := nI 0) hx hb d_NReader_readStatement_70 (by decide) ?_
            refine pcc_i (va_runV (C := "BigRunner$Reader") (As := [.int (nI 0)]) (rest := []) ⟨hx, hb, hml, hown, tb_nil⟩ (c_addStN l g H.size f44 Rd tl ln ax P hT sn nn ((nI 0)) hL t_Rd t_tl t_P hI1_49.1 e55 eT cT (by omega) (by omega) eP (by omega) (by omega) (by omega)) ⟨(callB_of 1 (tb_one (wd_480 hB _)) tb_good1 rfl rfl rfl (wd_73 hB _) (wd_477 hB _) (by decide +kernel) ⟨(show 1 ≤ 2 * (F + 1) + 410 by omega), (show 21 ≤ 60 * (F + 1) + 13000 by omega)⟩), (wd_479 hB _), (wd_6 hB _)⟩ ⟨pe_bl, pg_recv (ci := 7) hK hP (lo_in hL t_Rd (by decide)) e55 rfl, pe_pre hB hK hP hD⟩ rfl rfl hl.1 rfl (lv_room (Nat.le_of_ble_eq_true rfl)) d_NReader_readStatement_71 ⟨Nat.le_of_ble_eq_true rfl, Nat.le_of_ble_eq_true rfl⟩) hS (fun r139 f140 H locs hq141 hP hD hS => ?_)
            obtain ⟨q_142, rfl⟩ := hq141
            subst q_142
            refine lv_istore_n (lv' := [(2, .int (-1)), (0, .ref Rd), (1, .int (nI d))]) hx hb d_NReader_readStatement_74 rfl hl (by decide) rfl (fun ls hl => ?_)
            refine lv_aload_n hx hb d_NReader_readStatement_75 rfl (lv_at hl 1 rfl) ?_
            refine lv_iload_n hx hb d_NReader_readStatement_76 rfl (lv_at hl 0 rfl) ?_
            refine pcc_i (va_runV (C := "BigRunner$Reader") (As := [.int (-1)]) (rest := []) ⟨hx, hb, hml, hown, tb_nil⟩ (c_readNameN l g H.size f44 Rd tl ln ax P hT hL t_Rd t_tl t_P hI1_49.1 e55 eT cT (by omega) (by omega)) ⟨(callB_of 1 (tb_one (wd_484 hB _)) tb_good1 rfl rfl rfl (wd_73 hB _) (wd_481 hB _) (by decide +kernel) ⟨(show 2 ≤ 2 * (F + 1) + 410 by omega), (show 42 ≤ 60 * (F + 1) + 13000 by omega)⟩), (wd_483 hB _), (wd_7 hB _)⟩ ⟨pe_bl, pg_recv (ci := 7) hK hP (lo_in hL t_Rd (by decide)) e55 rfl, pe_pre hB hK hP hD⟩ rfl rfl hl.1 rfl (lv_room (Nat.le_of_ble_eq_true rfl)) d_NReader_readStatement_77 ⟨Nat.le_of_ble_eq_true rfl, Nat.le_of_ble_eq_true rfl⟩) hS (fun r143 f144 H locs hq145 hP hD hS => ?_)
            obtain ⟨q_146, rfl⟩ := hq145
            subst q_146
            refine lv_if_eq (tgt := 105) hx hb d_NReader_readStatement_80 (by decide) (fun b147 => ?_) (fun b147 => ?_)
            · skip
              replace b147 := (nI_eq (a := 0) (b := 0) (by omega) (by omega)).mp b147
              refine lv_iconst (v := nI 0) hx hb d_NReader_readStatement_105 (by decide) ?_
              exact pe_zret hx hb hr hlocks hK hP hD hS d_NReader_readStatement_106 rfl ⟨(Or.inr ⟨ax, sn, nn, by omega, by omega, by omega, (by rw [px_s0, if_neg hk14, if_neg hk28, if_neg hk42, if_neg hk56, if_neg (fun z => absurd (z.1.symm.trans (tk_end hT ln ax (by omega))) (by decide))]), e55, eP, rfl⟩), hfr, hI1_49, hu⟩
            · skip
              replace b147 := mt (nI_eq (a := 0) (b := 0) (by omega) (by omega)).mpr b147
              exfalso; omega
        · skip
          have hr148 : r43 = nI 1 := (bl_1 bo_46 b51)
          have hi149 := i1_48 hr148
          obtain ⟨hc150, hl153, e151⟩ := hi149
          have hk152 : tk hT ln ax = 12 := kc_12.mpr hc150
          refine lv_aload_n hx hb d_NReader_readStatement_63 rfl (lv_at hl 0 rfl) ?_
          refine lv_iload_n hx hb d_NReader_readStatement_64 rfl (lv_at hl 1 rfl) ?_
          refine pcc_i (va_runV (C := "BigRunner$Reader") (As := [.int (nI d)]) (rest := []) ⟨hx, hb, hml, hown, tb_nil⟩ ((rc_at l F ih) g H.size f44 Rd tl ln ((ax + 1)) P hT sn nn d hL t_Rd t_tl t_P hI1_49 e151 eT cT (by omega) (by omega) eP (by omega) (by omega) (by omega) (by omega) (by omega) (by omega)) ⟨(callB_of 1 (tb_one (wd_520 hB _)) tb_good1 rfl rfl rfl (wd_73 hB _) (wd_517 hB _) (by decide +kernel) ⟨(show 2 * F + 411 + 1 ≤ 2 * (F + 1) + 410 by omega), (show 8 + (4 + 11) + (60 * F + 13030) ≤ 60 * (F + 1) + 13000 by omega)⟩), (wd_519 hB _), (wd_16 hB _)⟩ ⟨pe_bl, pg_recv (ci := 7) hK hP (lo_in hL t_Rd (by decide)) e151 rfl, pe_pre hB hK hP hD⟩ rfl rfl hl.1 rfl (lv_room (Nat.le_of_ble_eq_true rfl)) d_NReader_readStatement_65 ⟨Nat.le_of_ble_eq_true rfl, Nat.le_of_ble_eq_true rfl⟩) hS (fun r154 f155 H locs hq156 hP hD hS => ?_)
          obtain ⟨rs_157, fr_158, hI1_159, hu1_160⟩ := hq156
          have hu := hu.tr hu1_160 (by decide)
          have eT := hu1_160.at t_tl (by decide) eT
          have hfr : ∀ i, i < 36 → i < sn → f155 (g.lk (g.lk P 0) i) = f (g.lk (g.lk P 0) i) := fun i h1 h2 => (fr_158 i h1 (by omega)).trans (hfr i h1 h2)
          rcases rs_157 with ⟨a161, s162, n163, c169, c170, c171, c172, c173, c174, c175, c176, hp166, e164, e165, hsg167, hnj168, rfl⟩ | ⟨a161, s162, n163, c169, c170, c171, hp166, e164, e165, rfl⟩
          · skip
            exact pe_zret hx hb hr hlocks hK hP hD hS d_NReader_readStatement_68 rfl ⟨(Or.inl ⟨a161, s162, n163, by omega, by omega, by omega, by omega, by omega, by omega, by omega, by omega, (by rw [px_s0, if_neg hk14, if_neg hk28, if_neg hk42, if_pos hk152]; exact hp166), e164, e165, hsg167, hnj168, rfl⟩), hfr, hI1_159, hu⟩
          · skip
            exact pe_zret hx hb hr hlocks hK hP hD hS d_NReader_readStatement_68 rfl ⟨(Or.inr ⟨a161, s162, n163, by omega, by omega, by omega, (by rw [px_s0, if_neg hk14, if_neg hk28, if_neg hk42, if_pos hk152]; exact hp166), e164, e165, rfl⟩), hfr, hI1_159, hu⟩
      · skip
        have hr177 : r29 = nI 1 := (bl_1 bo_32 b37)
        have hi178 := i1_34 hr177
        obtain ⟨hc179, hl182, e180⟩ := hi178
        have hk181 : tk hT ln ax = 10 := kc_10.mpr hc179
        refine lv_aload_n hx hb d_NReader_readStatement_48 rfl (lv_at hl 0 rfl) ?_
        refine lv_iload_n hx hb d_NReader_readStatement_49 rfl (lv_at hl 1 rfl) ?_
        refine pcc_i (va_runV (C := "BigRunner$Reader") (As := [.int (nI d)]) (rest := []) ⟨hx, hb, hml, hown, tb_nil⟩ ((rl_at l F ih) g H.size f30 Rd tl ln ((ax + 1)) P hT sn nn d hL t_Rd t_tl t_P hI1_35 e180 eT cT (by omega) (by omega) eP (by omega) (by omega) (by omega) (by omega) (by omega) (by omega)) ⟨(callB_of 1 (tb_one (wd_512 hB _)) tb_good1 rfl rfl rfl (wd_73 hB _) (wd_509 hB _) (by decide +kernel) ⟨(show 2 * F + 411 + 1 ≤ 2 * (F + 1) + 410 by omega), (show 8 + (3 + 11) + (60 * F + 13030) ≤ 60 * (F + 1) + 13000 by omega)⟩), (wd_511 hB _), (wd_14 hB _)⟩ ⟨pe_bl, pg_recv (ci := 7) hK hP (lo_in hL t_Rd (by decide)) e180 rfl, pe_pre hB hK hP hD⟩ rfl rfl hl.1 rfl (lv_room (Nat.le_of_ble_eq_true rfl)) d_NReader_readStatement_50 ⟨Nat.le_of_ble_eq_true rfl, Nat.le_of_ble_eq_true rfl⟩) hS (fun r183 f184 H locs hq185 hP hD hS => ?_)
        obtain ⟨rs_186, fr_187, hI1_188, hu1_189⟩ := hq185
        have hu := hu.tr hu1_189 (by decide)
        have eT := hu1_189.at t_tl (by decide) eT
        have hfr : ∀ i, i < 36 → i < sn → f184 (g.lk (g.lk P 0) i) = f (g.lk (g.lk P 0) i) := fun i h1 h2 => (fr_187 i h1 (by omega)).trans (hfr i h1 h2)
        rcases rs_186 with ⟨a190, s191, n192, c198, c199, c200, c201, c202, c203, c204, c205, hp195, e193, e194, hsg196, hnj197, rfl⟩ | ⟨a190, s191, n192, c198, c199, c200, hp195, e193, e194, rfl⟩
        · skip
          exact pe_zret hx hb hr hlocks hK hP hD hS d_NReader_readStatement_53 rfl ⟨(Or.inl ⟨a190, s191, n192, by omega, by omega, by omega, by omega, by omega, by omega, by omega, by omega, (by rw [px_s0, if_neg hk14, if_neg hk28, if_pos hk181]; exact hp195), e193, e194, hsg196, hnj197, rfl⟩), hfr, hI1_188, hu⟩
        · skip
          exact pe_zret hx hb hr hlocks hK hP hD hS d_NReader_readStatement_53 rfl ⟨(Or.inr ⟨a190, s191, n192, by omega, by omega, by omega, (by rw [px_s0, if_neg hk14, if_neg hk28, if_pos hk181]; exact hp195), e193, e194, rfl⟩), hfr, hI1_188, hu⟩
    · skip
      have hr206 : r15 = nI 1 := (bl_1 bo_18 b23)
      have hi207 := i1_20 hr206
      obtain ⟨hc208, hl211, e209⟩ := hi207
      have hk210 : tk hT ln ax = 9 := kc_9.mpr hc208
      refine lv_aload_n hx hb d_NReader_readStatement_28 rfl (lv_at hl 0 rfl) ?_
      refine lv_aload_n hx hb d_NReader_readStatement_29 rfl (lv_at hl 0 rfl) ?_
      refine lv_iconst (v := nI 2) hx hb d_NReader_readStatement_30 (by decide) ?_
      refine pcc_i (va_runV (C := "BigRunner$Reader") (As := [.int (nI 2)]) (rest := [.ref Rd]) ⟨hx, hb, hml, hown, tb_nil⟩ (c_addSt l g H.size f16 Rd tl ln ((ax + 1)) P hT sn nn 2 hL t_Rd t_tl t_P hI1_21 e209 eT cT (by omega) (by omega) eP (by omega) (by omega) (by omega) (by omega)) ⟨(callB_of 1 (tb_one (wd_480 hB _)) tb_good1 rfl rfl rfl (wd_73 hB _) (wd_477 hB _) (by decide +kernel) ⟨(show 1 ≤ 2 * (F + 1) + 410 by omega), (show 21 ≤ 60 * (F + 1) + 13000 by omega)⟩), (wd_479 hB _), (wd_6 hB _)⟩ ⟨pe_bl, pg_recv (ci := 7) hK hP (lo_in hL t_Rd (by decide)) e209 rfl, pe_pre hB hK hP hD⟩ rfl rfl hl.1 rfl (lv_room (Nat.le_of_ble_eq_true rfl)) d_NReader_readStatement_31 ⟨Nat.le_of_ble_eq_true rfl, Nat.le_of_ble_eq_true rfl⟩) hS (fun r212 f213 H locs hq214 hP hD hS => ?_)
      obtain ⟨q_215, x1_216, xs_217, fr_218, hI1_219, hu1_220⟩ := hq214
      subst q_215
      have hu := hu.tr hu1_220 (by decide)
      have eT := hu1_220.at t_tl (by decide) eT
      have e209 := hu1_220.at t_Rd (by decide) e209
      have hfr : ∀ i, i < 36 → i < sn → f213 (g.lk (g.lk P 0) i) = f (g.lk (g.lk P 0) i) := fun i h1 h2 => (fr_218 i h1 (by omega)).trans (hfr i h1 h2)
      obtain ⟨nm_221, fn_222, la_223, ta_224, c225, c226, c227, c228, e229⟩ := xs_217
      refine lv_iload_n hx hb d_NReader_readStatement_34 rfl (lv_at hl 1 rfl) ?_
      refine pcc_i (va_runV (C := "BigRunner$Reader") (As := [.int (nI sn), .int (nI d)]) (rest := []) ⟨hx, hb, hml, hown, tb_nil⟩ (c_readExprOf l g H.size f213 Rd tl ln ((ax + 1)) P hT ((sn + 1)) nn sn 2 nm_221 fn_222 la_223 ta_224 d hL t_Rd t_tl t_P hI1_219 e209 eT cT (by omega) (by omega) x1_216 (by omega) (by omega) (by omega) e229 (by omega) (by omega) (by omega) c227 (by omega) (by omega) (by omega)) ⟨(callB_of 2 (tb_one (wd_488 hB _)) tb_good1 rfl rfl rfl (wd_73 hB _) (wd_485 hB _) (by decide +kernel) ⟨(show 405 ≤ 2 * (F + 1) + 410 by omega), (show 12247 ≤ 60 * (F + 1) + 13000 by omega)⟩), (wd_487 hB _), (wd_8 hB _)⟩ ⟨pe_bl, pg_recv (ci := 7) hK hP (lo_in hL t_Rd (by decide)) e209 rfl, pe_pre hB hK hP hD⟩ rfl rfl hl.1 rfl (lv_room (Nat.le_of_ble_eq_true rfl)) d_NReader_readStatement_35 ⟨Nat.le_of_ble_eq_true rfl, Nat.le_of_ble_eq_true rfl⟩) hS (fun r230 f231 H locs hq232 hP hD hS => ?_)
      obtain ⟨rs_233, fr_234, hI1_235, hu1_236⟩ := hq232
      have hu := hu.tr hu1_236 (by decide)
      have eT := hu1_236.at t_tl (by decide) eT
      have hfr : ∀ i, i < 36 → i < sn → f231 (g.lk (g.lk P 0) i) = f (g.lk (g.lk P 0) i) := fun i h1 h2 => (fr_234 i h1 (by omega)).trans (hfr i h1 h2)
      rcases rs_233 with ⟨a237, n238, j239, c244, c245, c246, c247, c248, c249, hp243, e240, e241, e242, rfl⟩ | ⟨a237, n238, c244, c245, hp243, e240, e241, rfl⟩
      · skip
        exact pe_zret hx hb hr hlocks hK hP hD hS d_NReader_readStatement_38 rfl ⟨(Or.inl ⟨a237, sn + 1, n238, by omega, by omega, by omega, by omega, by omega, by omega, by omega, by omega, (by rw [px_s0, if_neg hk14, if_pos hk210]; exact hp243), e240, e241, (SG_one e242 (by omega) (by omega) (by omega) (by omega) (fun _ => ⟨_, by omega, rfl⟩)), (nj_of e242 (by omega)), rfl⟩), hfr, hI1_235, hu⟩
      · skip
        exact pe_zret hx hb hr hlocks hK hP hD hS d_NReader_readStatement_38 rfl ⟨(Or.inr ⟨a237, sn + 1, n238, by omega, by omega, by omega, (by rw [px_s0, if_neg hk14, if_pos hk210]; exact hp243), e240, e241, rfl⟩), hfr, hI1_235, hu⟩
  · skip
    have hr250 : r1 = nI 1 := (bl_1 bo_4 b9)
    have hi251 := i1_6 hr250
    obtain ⟨hc252, hl255, e253⟩ := hi251
    have hk254 : tk hT ln ax = 8 := kc_8.mpr hc252
    refine lv_aload_n hx hb d_NReader_readStatement_9 rfl (lv_at hl 0 rfl) ?_
    refine lv_aload_n hx hb d_NReader_readStatement_10 rfl (lv_at hl 0 rfl) ?_
    refine lv_iconst (v := nI 1) hx hb d_NReader_readStatement_11 (by decide) ?_
    refine pcc_i (va_runV (C := "BigRunner$Reader") (As := [.int (nI 1)]) (rest := [.ref Rd]) ⟨hx, hb, hml, hown, tb_nil⟩ (c_addSt l g H.size f2 Rd tl ln ((ax + 1)) P hT sn nn 1 hL t_Rd t_tl t_P hI1_7 e253 eT cT (by omega) (by omega) eP (by omega) (by omega) (by omega) (by omega)) ⟨(callB_of 1 (tb_one (wd_480 hB _)) tb_good1 rfl rfl rfl (wd_73 hB _) (wd_477 hB _) (by decide +kernel) ⟨(show 1 ≤ 2 * (F + 1) + 410 by omega), (show 21 ≤ 60 * (F + 1) + 13000 by omega)⟩), (wd_479 hB _), (wd_6 hB _)⟩ ⟨pe_bl, pg_recv (ci := 7) hK hP (lo_in hL t_Rd (by decide)) e253 rfl, pe_pre hB hK hP hD⟩ rfl rfl hl.1 rfl (lv_room (Nat.le_of_ble_eq_true rfl)) d_NReader_readStatement_12 ⟨Nat.le_of_ble_eq_true rfl, Nat.le_of_ble_eq_true rfl⟩) hS (fun r256 f257 H locs hq258 hP hD hS => ?_)
    obtain ⟨q_259, x1_260, xs_261, fr_262, hI1_263, hu1_264⟩ := hq258
    subst q_259
    have hu := hu.tr hu1_264 (by decide)
    have eT := hu1_264.at t_tl (by decide) eT
    have e253 := hu1_264.at t_Rd (by decide) e253
    have hfr : ∀ i, i < 36 → i < sn → f257 (g.lk (g.lk P 0) i) = f (g.lk (g.lk P 0) i) := fun i h1 h2 => (fr_262 i h1 (by omega)).trans (hfr i h1 h2)
    obtain ⟨nm_265, fn_266, la_267, ta_268, c269, c270, c271, c272, e273⟩ := xs_261
    refine pcc_i (va_runV (C := "BigRunner$Reader") (As := [.int (nI sn)]) (rest := []) ⟨hx, hb, hml, hown, tb_nil⟩ (c_readName l g H.size f257 Rd tl ln ((ax + 1)) P hT ((sn + 1)) nn sn 1 nm_265 fn_266 la_267 ta_268 hL t_Rd t_tl t_P hI1_263 e253 eT cT (by omega) (by omega) x1_260 (by omega) (by omega) (by omega) e273 (by omega) (by omega) (by omega) c271 (by omega)) ⟨(callB_of 1 (tb_one (wd_484 hB _)) tb_good1 rfl rfl rfl (wd_73 hB _) (wd_481 hB _) (by decide +kernel) ⟨(show 2 ≤ 2 * (F + 1) + 410 by omega), (show 42 ≤ 60 * (F + 1) + 13000 by omega)⟩), (wd_483 hB _), (wd_7 hB _)⟩ ⟨pe_bl, pg_recv (ci := 7) hK hP (lo_in hL t_Rd (by decide)) e253 rfl, pe_pre hB hK hP hD⟩ rfl rfl hl.1 rfl (lv_room (Nat.le_of_ble_eq_true rfl)) d_NReader_readStatement_15 ⟨Nat.le_of_ble_eq_true rfl, Nat.le_of_ble_eq_true rfl⟩) hS (fun r274 f275 H locs hq276 hP hD hS => ?_)
    obtain ⟨bo_277, i0_278, i1_279, fr_280, hI1_281, hu1_282⟩ := hq276
    have hu := hu.tr hu1_282 (by decide)
    have eT := hu1_282.at t_tl (by decide) eT
    have x1_260 := hu1_282.at t_P (by decide) x1_260
    have hfr : ∀ i, i < 36 → i < sn → f275 (g.lk (g.lk P 0) i) = f (g.lk (g.lk P 0) i) := fun i h1 h2 => (fr_280 i h1 (by omega)).trans (hfr i h1 h2)
    rcases bo_277 with hb9 | hb9
    · skip
      have hi283 := i0_278 hb9
      obtain ⟨hk284, e285, e286⟩ := hi283
      subst hb9
      exact pe_zret hx hb hr hlocks hK hP hD hS d_NReader_readStatement_18 rfl ⟨(Or.inr ⟨ax + 1, sn + 1, nn, by omega, by omega, by omega, (by rw [px_s0, if_pos hk254, if_neg hk284]), e285, x1_260, rfl⟩), hfr, hI1_281, hu⟩
    · skip
      have hi287 := i1_279 hb9
      obtain ⟨hk288, hl291, e289, nv292, hnv292, e290⟩ := hi287
      subst hb9
      exact pe_zret hx hb hr hlocks hK hP hD hS d_NReader_readStatement_18 rfl ⟨(Or.inl ⟨ax + 1 + 1, sn + 1, nn, by omega, by omega, by omega, by omega, by omega, by omega, by omega, by omega, (by rw [px_s0, if_pos hk254, if_pos hk288]), e289, x1_260, (SG_one e290 (by omega) (by omega) (by omega) (by omega) (fun z => absurd rfl z)), (nj_of e290 (by omega)), rfl⟩), hfr, hI1_281, hu⟩
set_option maxHeartbeats 4000000 in
set_option maxRecDepth 100000 in
theorem rg_step (l : Launch) (F : Nat) (ih : ∀ F', F' ≤ F → RG l F' ∧ RS l F') : RG l (F + 1) := by
  intro g sz f Rd tl ln ax P hT sn nn d hL t_Rd t_tl t_P hI eR eT cT hln hax eP hsn hnn hna h2s hd hF
  refine pe_ofW (cc := prog_8_method_5_code) (maxL := 3) (ret := (some .boolean)) (lv := [(0, .ref Rd), (1, .int (nI d))]) (by decide) (Nat.le_of_ble_eq_true rfl) rfl ?_
  intro p e s m args below meth c ls hx hb hr hml hlocks hown hB hP hK hD hsz hS hl
  subst hsz
  have hu : un [6, 7, 8, 10] g f f := un.rf
  have hfr : ∀ i, i < 36 → i < sn → f (g.lk (g.lk P 0) i) = f (g.lk (g.lk P 0) i) := fun _ _ _ => rfl
  refine lv_iload_n hx hb d_NReader_readProgram_0 rfl (lv_at hl 1 rfl) ?_
  refine lv_bipush (v := nI 10) hx hb d_NReader_readProgram_1 (by decide) ?_
  refine lv_icmp_le (tgt := 8) hx hb d_NReader_readProgram_3 (by decide) (fun b1 => ?_) (fun b1 => ?_)
  · skip
    replace b1 := (nI_leI (a := d) (b := 10) (by omega) (by omega)).mp b1
    refine lv_iconst (v := nI 0) hx hb d_NReader_readProgram_8 (by decide) ?_
    refine lv_istore_n (lv' := [(2, .int (nI 0)), (0, .ref Rd), (1, .int (nI d))]) hx hb d_NReader_readProgram_9 rfl hl (by decide) rfl (fun ls hl => ?_)
    have lp2 : ∀ (k4 : Nat) (it : Nat) (a9 : Nat) (s9 : Nat) (n9 : Nat) (Fv : Nat) (f3 : Nat → va_E) (H : Heap) (locs : List Loc) (ls : Array Slot), (72 < it + k4) → (a9 ≤ ln) → (n9 + ax ≤ nn + a9) → (n9 ≤ 72) → (nn ≤ n9) → (sn ≤ s9) → (s9 ≤ 36) → (2 * s9 + ax ≤ 2 * sn + a9) → (2 * it + ax ≤ a9) → (it = 0 → s9 = sn) → (0 < it → sn < s9) → (Fv ≤ F + 1) → (2 * (ln - a9) + 2 ≤ Fv) → (px_s (tk hT ln) (F + 1) 1 d ax = px_s (tk hT ln) Fv 1 d a9) → (∀ i, i < 36 → i < sn → f3 (g.lk (g.lk P 0) i) = f (g.lk (g.lk P 0) i)) → (SG g f3 P sn s9) → (it = 0 ∨ nj g f3 P sn) → f3 Rd = .inr (7, [.ref tl, .int (nI ln), .int (nI a9), .ref P]) → f3 P = .inr (6, [.ref (g.lk P 0), .int (nI s9), .ref (g.lk P 2), .int (nI n9), .ref (g.lk P 4), .ref (g.lk P 5)]) → IV g f3 → un [6, 7, 8, 10] g f f3 → lv_has ls 3 [(2, .int (nI it)), (0, .ref Rd), (1, .int (nI d))] → va_P g.D vcl (va_pl g.LP f3) H → va_D (pc_A g s.heap.size) (va_pl g.LP f3) → va_S (pc_A g s.heap.size) s.heap H locs → W p l e ({ frames := 2 * (F + 1) + 410, cells := 0, slots := 0, locals := 60 * (F + 1) + 13000 }) s m args below meth c H locs 0 0 (MQ below (va_Qi (fun r f1 => ((∃ (a s1 n1 : Nat), a ≤ ln ∧ ax < a ∧ s1 ≤ 36 ∧ n1 ≤ 72 ∧ n1 + ax ≤ nn + a ∧ nn ≤ n1 ∧ sn < s1 ∧ 2 * s1 + ax ≤ 2 * sn + a ∧ px_s (tk hT ln) (F + 1) 1 d ax = some a ∧ f1 Rd = .inr (7, [.ref tl, .int (nI ln), .int (nI a), .ref P]) ∧ f1 P = .inr (6, [.ref (g.lk P 0), .int (nI s1), .ref (g.lk P 2), .int (nI n1), .ref (g.lk P 4), .ref (g.lk P 5)]) ∧ SG g f1 P sn s1 ∧ nj g f1 P sn ∧ r = nI 1) ∨ (∃ (a s1 n1 : Nat), a ≤ ln ∧ s1 ≤ 36 ∧ n1 ≤ 72 ∧ px_s (tk hT ln) (F + 1) 1 d ax = none ∧ f1 Rd = .inr (7, [.ref tl, .int (nI ln), .int (nI a), .ref P]) ∧ f1 P = .inr (6, [.ref (g.lk P 0), .int (nI s1), .ref (g.lk P 2), .int (nI n1), .ref (g.lk P 4), .ref (g.lk P 5)]) ∧ r = nI 0)) ∧ (∀ i, i < 36 → i < sn → f1 (g.lk (g.lk P 0) i) = f (g.lk (g.lk P 0) i)) ∧ (IV g f1) ∧ (un [6, 7, 8, 10] g f f1)) (pc_out g s.heap.size) (pc_A g s.heap.size)) args s 0 0 (pc_A g s.heap.size)) (F0 m 10 ls []) := by
      intro k4
      induction k4 with
      | zero => intros; exfalso; omega
      | succ k4 ih5 =>
        intro it a9 s9 n9 Fv f3 H locs ls hfu6 ha9 hn9 hn92 hn93 hs91 hs92 hs93 hit hs0 hs1 hFv hFe hpx hfr hSGa hnja e7 e8 hI9 hv10 hl hP hD hS
        have eT := hv10.at t_tl (by decide) eT
        have hu := hu.tr hv10 (by decide)
        obtain ⟨Fw, rfl⟩ : ∃ Fw, Fv = Fw + 1 := ⟨Fv - 1, by omega⟩
        have hfa : ∀ i, i < 36 → sn ≤ i ∧ i < s9 → f3 (g.lk (g.lk P 0) i) = f3 (g.lk (g.lk P 0) i) := fun _ _ _ => rfl
        refine lv_iload_n hx hb d_NReader_readProgram_10 rfl (lv_at hl 0 rfl) ?_
        refine lv_bipush (v := nI 72) hx hb d_NReader_readProgram_11 (by decide) ?_
        refine lv_icmp_ge (tgt := 43) hx hb d_NReader_readProgram_13 (by decide) (fun b11 => ?_) (fun b11 => ?_)
        · skip
          replace b11 := (nI_leI (a := 72) (b := it) (by omega) (by omega)).mp b11
          exfalso; omega
        · skip
          replace b11 := mt (nI_leI (a := 72) (b := it) (by omega) (by omega)).mpr b11
          refine lv_aload_n hx hb d_NReader_readProgram_16 rfl (lv_at hl 1 rfl) ?_
          refine lv_iload_n hx hb d_NReader_readProgram_17 rfl (lv_at hl 2 rfl) ?_
          refine pcc_i (va_runV (C := "BigRunner$Reader") (As := [.int (nI d)]) (rest := []) ⟨hx, hb, hml, hown, tb_nil⟩ ((ih Fw (by omega)).2 g H.size f3 Rd tl ln a9 P hT s9 n9 d hL t_Rd t_tl t_P hI9 e7 eT cT (by omega) (by omega) e8 (by omega) (by omega) (by omega) (by omega) (by omega) (by omega)) ⟨(callB_of 1 (tb_one (wd_468 hB _)) tb_good1 rfl rfl rfl (wd_73 hB _) (wd_465 hB _) (by decide +kernel) ⟨(show 2 * Fw + 410 + 1 ≤ 2 * (F + 1) + 410 by omega), (show 8 + (3 + 11) + (60 * Fw + 13000) ≤ 60 * (F + 1) + 13000 by omega)⟩), (wd_467 hB _), (wd_3 hB _)⟩ ⟨pe_bl, pg_recv (ci := 7) hK hP (lo_in hL t_Rd (by decide)) e7 rfl, pe_pre hB hK hP hD⟩ rfl rfl hl.1 rfl (lv_room (Nat.le_of_ble_eq_true rfl)) d_NReader_readProgram_18 ⟨Nat.le_of_ble_eq_true rfl, Nat.le_of_ble_eq_true rfl⟩) hS (fun r12 f13 H locs hq14 hP hD hS => ?_)
          obtain ⟨rs_15, fr_16, hI1_17, hu1_18⟩ := hq14
          have hu := hu.tr hu1_18 (by decide)
          have hv10 := hv10.tr hu1_18 (by decide)
          have eT := hu1_18.at t_tl (by decide) eT
          have hfr : ∀ i, i < 36 → i < sn → f13 (g.lk (g.lk P 0) i) = f (g.lk (g.lk P 0) i) := fun i h1 h2 => (fr_16 i h1 (by omega)).trans (hfr i h1 h2)
          have hfa : ∀ i, i < 36 → sn ≤ i ∧ i < s9 → f13 (g.lk (g.lk P 0) i) = f3 (g.lk (g.lk P 0) i) := fun i h1 h2 => (fr_16 i h1 (by omega)).trans (hfa i h1 h2)
          rcases rs_15 with ⟨a19, s20, n21, c27, c28, c29, c30, c31, c32, c33, c34, hp24, e22, e23, hsg25, hnj26, rfl⟩ | ⟨a19, s20, n21, c27, c28, c29, hp24, e22, e23, rfl⟩
          · skip
            have hfb : ∀ i, i < 36 → s9 ≤ i ∧ i < s20 → f13 (g.lk (g.lk P 0) i) = f13 (g.lk (g.lk P 0) i) := fun _ _ _ => rfl
            refine lv_if_ne (tgt := 26) hx hb d_NReader_readProgram_21 (by decide) (fun b35 => ?_) (fun b35 => ?_)
            · skip
              replace b35 := mt (nI_eq (a := 1) (b := 0) (by omega) (by omega)).mpr b35
              refine lv_aload_n hx hb d_NReader_readProgram_26 rfl (lv_at hl 1 rfl) ?_
              refine lv_bipush (v := nI 59) hx hb d_NReader_readProgram_27 (by decide) ?_
              refine pcc_i (va_runV (C := "BigRunner$Reader") (As := [.int (nI 59)]) (rest := []) ⟨hx, hb, hml, hown, tb_nil⟩ (c_accept l g H.size f13 Rd tl ln a19 P hT 59 hL t_Rd t_tl t_P hI1_17 e22 eT cT (by omega) (by omega) (by decide)) ⟨(callB_of 1 (tb_one (wd_472 hB _)) tb_good1 rfl rfl rfl (wd_73 hB _) (wd_469 hB _) (by decide +kernel) ⟨(show 2 ≤ 2 * (F + 1) + 410 by omega), (show 41 ≤ 60 * (F + 1) + 13000 by omega)⟩), (wd_471 hB _), (wd_4 hB _)⟩ ⟨pe_bl, pg_recv (ci := 7) hK hP (lo_in hL t_Rd (by decide)) e22 rfl, pe_pre hB hK hP hD⟩ rfl rfl hl.1 rfl (lv_room (Nat.le_of_ble_eq_true rfl)) d_NReader_readProgram_29 ⟨Nat.le_of_ble_eq_true rfl, Nat.le_of_ble_eq_true rfl⟩) hS (fun r36 f37 H locs hq38 hP hD hS => ?_)
              obtain ⟨bo_39, i0_40, i1_41, hI1_42, hu1_43⟩ := hq38
              have hu := hu.tr hu1_43 (by decide)
              have hv10 := hv10.tr hu1_43 (by decide)
              have eT := hu1_43.at t_tl (by decide) eT
              have e23 := hu1_43.at t_P (by decide) e23
              have hfr : ∀ i, i < 36 → i < sn → f37 (g.lk (g.lk P 0) i) = f (g.lk (g.lk P 0) i) := fun i h1 h2 => (hu1_43 _ (by rw [lo_e24 hL _ (lo_k7_0 hL _ t_P) i h1]; decide)).trans (hfr i h1 h2)
              have hfa : ∀ i, i < 36 → sn ≤ i ∧ i < s9 → f37 (g.lk (g.lk P 0) i) = f3 (g.lk (g.lk P 0) i) := fun i h1 h2 => (hu1_43 _ (by rw [lo_e24 hL _ (lo_k7_0 hL _ t_P) i h1]; decide)).trans (hfa i h1 h2)
              have hfb : ∀ i, i < 36 → s9 ≤ i ∧ i < s20 → f37 (g.lk (g.lk P 0) i) = f13 (g.lk (g.lk P 0) i) := fun i h1 h2 => (hu1_43 _ (by rw [lo_e24 hL _ (lo_k7_0 hL _ t_P) i h1]; decide)).trans (hfb i h1 h2)
              refine lv_if_ne (tgt := 37) hx hb d_NReader_readProgram_32 (by decide) (fun b44 => ?_) (fun b44 => ?_)
              · skip
                have hr45 : r36 = nI 1 := (bl_1 bo_39 b44)
                have hi46 := i1_41 hr45
                obtain ⟨hc47, hl50, e48⟩ := hi46
                have hk49 : tk hT ln a19 = 16 := kc_16.mpr hc47
                refine lv_iinc (k := 0) (v := nI (it + 1)) (lv' := [(2, .int (nI (it + 1))), (0, .ref Rd), (1, .int (nI d))]) hx hb d_NReader_readProgram_37 hl rfl (by rw [nI_succ]; rfl) (by decide) rfl (fun ls hl => ?_)
                refine lv_goto (tgt := 10) hx hb d_NReader_readProgram_40 (by decide) ?_
                exact ih5 (it + 1) (a19 + 1) s20 n21 Fw f37 H locs ls (by omega) (by omega) (by omega) (by omega) (by omega) (by omega) (by omega) (by omega) (by omega) (fun z => absurd z (by omega)) (fun _ => by omega) (by omega) (by omega) (hpx.trans (by rw [px_s1, if_neg (by omega), hp24]; exact if_pos hk49)) hfr (SG_app (b := s9) (by omega) (by omega) (SG_eq hSGa (fun i q1 q2 => hfa i (by omega) (by omega))) (SG_eq hsg25 (fun i q1 q2 => hfb i (by omega) (by omega)))) (Or.inr (by rcases Nat.eq_zero_or_pos it with z | z; exact nj_eq (by rw [← hs0 z]; exact hnj26) (hfb sn (by omega) (by have := hs0 z; omega)); exact nj_eq (hnja.resolve_left (by omega)) (hfa sn (by omega) (by omega)))) e48 e23 hI1_42 hv10 hl hP hD hS
              · skip
                have hr51 : r36 = nI 0 := b44
                have hi52 := i0_40 hr51
                obtain ⟨hc53, e54⟩ := hi52
                have hk55 : tk hT ln a19 ≠ 16 := fun z => hc53 (kc_16.mp z)
                refine lv_iconst (v := nI 1) hx hb d_NReader_readProgram_35 (by decide) ?_
                exact pe_zret hx hb hr hlocks hK hP hD hS d_NReader_readProgram_36 rfl ⟨(Or.inl ⟨a19, s20, n21, by omega, by omega, by omega, by omega, by omega, by omega, by omega, by omega, (hpx.trans (by rw [px_s1, if_neg (by omega), hp24]; exact if_neg hk55)), e54, e23, (SG_app (b := s9) (by omega) (by omega) (SG_eq hSGa (fun i q1 q2 => hfa i (by omega) (by omega))) (SG_eq hsg25 (fun i q1 q2 => hfb i (by omega) (by omega)))), (by rcases Nat.eq_zero_or_pos it with z | z; exact nj_eq (by rw [← hs0 z]; exact hnj26) (hfb sn (by omega) (by have := hs0 z; omega)); exact nj_eq (hnja.resolve_left (by omega)) (hfa sn (by omega) (by omega))), rfl⟩), hfr, hI1_42, hu⟩
            · skip
              replace b35 := (nI_eq (a := 1) (b := 0) (by omega) (by omega)).mp b35
              exfalso; omega
          · skip
            refine lv_if_ne (tgt := 26) hx hb d_NReader_readProgram_21 (by decide) (fun b56 => ?_) (fun b56 => ?_)
            · skip
              replace b56 := mt (nI_eq (a := 0) (b := 0) (by omega) (by omega)).mpr b56
              exfalso; omega
            · skip
              replace b56 := (nI_eq (a := 0) (b := 0) (by omega) (by omega)).mp b56
              refine lv_iconst (v := nI 0) hx hb d_NReader_readProgram_24 (by decide) ?_
              exact pe_zret hx hb hr hlocks hK hP hD hS d_NReader_readProgram_25 rfl ⟨(Or.inr ⟨a19, s20, n21, by omega, by omega, by omega, (hpx.trans (by rw [px_s1, if_neg (by omega), hp24]; rfl)), e22, e23, rfl⟩), hfr, hI1_17, hu⟩
    exact lp2 73 0 ax sn nn (F + 1) f s.heap [] ls (by omega) (by omega) (by omega) (by omega) (by omega) (by omega) (by omega) (by omega) (by omega) (fun _ => rfl) (fun z => absurd z (by omega)) (by omega) (by omega) rfl hfr SG_nil (Or.inl rfl) eR eP hI un.rf hl hP hD hS
  · skip
    replace b1 := mt (nI_leI (a := d) (b := 10) (by omega) (by omega)).mpr b1
    refine lv_iconst (v := nI 0) hx hb d_NReader_readProgram_6 (by decide) ?_
    exact pe_zret hx hb hr hlocks hK hP hD hS d_NReader_readProgram_7 rfl ⟨(Or.inr ⟨ax, sn, nn, by omega, by omega, by omega, (by rw [px_s1, if_pos (by omega)]), eR, eP, rfl⟩), hfr, hI, hu⟩
theorem rs_all (l : Launch) : ∀ F, ∀ F', F' ≤ F → RG l F' ∧ RS l F' := by
  intro F
  induction F with
  | zero =>
    intro F' h
    obtain rfl : F' = 0 := by omega
    refine ⟨?_, ?_⟩
    · unfold RG; intros; exfalso; omega
    · unfold RS; intros; exfalso; omega
  | succ F ih =>
    intro F' h
    rcases Nat.lt_or_ge F' (F + 1) with q | q
    · exact ih F' (by omega)
    · obtain rfl : F' = F + 1 := by omega
      exact ⟨rg_step l F ih, rs_step l F ih⟩
set_option maxHeartbeats 4000000 in
set_option maxRecDepth 100000 in
theorem c_readProgram (l : Launch) (g : Lay) (sz : Nat) (f : Nat → va_E) (Rd : Nat) (tl : Nat) (ln : Nat) (ax : Nat) (P : Nat) (hT : Nat → Int32) (sn : Nat) (nn : Nat) (d : Nat) (hL : LO g) (t_Rd : g.tg Rd = 8) (t_tl : g.tg tl = 20) (t_P : g.tg P = 7) (hI : IV g f) (eR : f Rd = .inr (7, [.ref tl, .int (nI ln), .int (nI ax), .ref P])) (eT : f tl = .inl (g.ac tl, 72, .inl hT)) (cT : ∀ i, i < 72 → vp_nar .char (hT i) = hT i) (hln : ln ≤ 72) (hax : ax ≤ ln) (eP : f P = .inr (6, [.ref (g.lk P 0), .int (nI sn), .ref (g.lk P 2), .int (nI nn), .ref (g.lk P 4), .ref (g.lk P 5)])) (hsn : sn ≤ 36) (hnn : nn ≤ 72) (hna : nn ≤ ax) (h2s : 2 * sn ≤ ax) (hd : d ≤ 11) : Met l ⟨"BigRunner$Reader", "readProgram", "(I)Z"⟩ [Cond.code ⟨"BigRunner$Reader", "readProgram", "(I)Z"⟩ prog_8_method_5_code 3 (some .boolean)] ({ frames := 1210, cells := 0, slots := 0, locals := 37000 }) (va_Pc [.ref Rd, .int (nI d)] (pc_in g sz f)) (va_Qi (fun r f1 => ((∃ (a s1 n1 : Nat), a ≤ ln ∧ ax < a ∧ s1 ≤ 36 ∧ n1 ≤ 72 ∧ n1 + ax ≤ nn + a ∧ nn ≤ n1 ∧ sn < s1 ∧ 2 * s1 + ax ≤ 2 * sn + a ∧ px_s (tk hT ln) 400 1 d ax = some a ∧ f1 Rd = .inr (7, [.ref tl, .int (nI ln), .int (nI a), .ref P]) ∧ f1 P = .inr (6, [.ref (g.lk P 0), .int (nI s1), .ref (g.lk P 2), .int (nI n1), .ref (g.lk P 4), .ref (g.lk P 5)]) ∧ SG g f1 P sn s1 ∧ nj g f1 P sn ∧ r = nI 1) ∨ (∃ (a s1 n1 : Nat), a ≤ ln ∧ s1 ≤ 36 ∧ n1 ≤ 72 ∧ px_s (tk hT ln) 400 1 d ax = none ∧ f1 Rd = .inr (7, [.ref tl, .int (nI ln), .int (nI a), .ref P]) ∧ f1 P = .inr (6, [.ref (g.lk P 0), .int (nI s1), .ref (g.lk P 2), .int (nI n1), .ref (g.lk P 4), .ref (g.lk P 5)]) ∧ r = nI 0)) ∧ (∀ i, i < 36 → i < sn → f1 (g.lk (g.lk P 0) i) = f (g.lk (g.lk P 0) i)) ∧ (IV g f1) ∧ (un [6, 7, 8, 10] g f f1)) (pc_out g sz) (pc_A g sz)) 0 0 (pc_A g sz) := (rs_all l 400 400 (Nat.le_refl 400)).1 g sz f Rd tl ln ax P hT sn nn d hL t_Rd t_tl t_P hI eR eT cT hln hax eP hsn hnn hna h2s hd (by omega)
set_option maxHeartbeats 4000000 in
set_option maxRecDepth 100000 in
theorem c_reads (l : Launch) (g : Lay) (sz : Nat) (f : Nat → va_E) (Rd : Nat) (tl : Nat) (ln : Nat) (P : Nat) (hT : Nat → Int32) (tx : Value) (ln0 : Nat) (ax0 : Nat) (sn : Nat) (nn : Nat) (hL : LO g) (t_Rd : g.tg Rd = 8) (t_tl : g.tg tl = 20) (t_P : g.tg P = 7) (hI : IV g f) (eR : f Rd = .inr (7, [tx, .int (nI ln0), .int (nI ax0), .ref P])) (eT : f tl = .inl (g.ac tl, 72, .inl hT)) (cT : ∀ i, i < 72 → vp_nar .char (hT i) = hT i) (hln : ln ≤ 72) (hl0 : ln0 ≤ 72) (ha0 : ax0 ≤ 72) (eP : f P = .inr (6, [.ref (g.lk P 0), .int (nI sn), .ref (g.lk P 2), .int (nI nn), .ref (g.lk P 4), .ref (g.lk P 5)])) (hsn : sn ≤ 36) (hnn : nn ≤ 72) : Met l ⟨"BigRunner$Reader", "reads", "([CI)Z"⟩ [Cond.code ⟨"BigRunner$Reader", "reads", "([CI)Z"⟩ prog_8_method_2_code 3 (some .boolean)] ({ frames := 1211, cells := 0, slots := 0, locals := 37022 }) (va_Pc [.ref Rd, .ref tl, .int (nI ln)] (pc_in g sz f)) (va_Qi (fun r f1 => ((∃ (s1 n1 : Nat), s1 ≤ 36 ∧ n1 ≤ 72 ∧ 0 < s1 ∧ px_s (tk hT ln) 400 1 1 0 = some ln ∧ f1 Rd = .inr (7, [.ref tl, .int (nI ln), .int (nI ln), .ref P]) ∧ f1 P = .inr (6, [.ref (g.lk P 0), .int (nI s1), .ref (g.lk P 2), .int (nI n1), .ref (g.lk P 4), .ref (g.lk P 5)]) ∧ SG g f1 P 0 s1 ∧ nj g f1 P 0 ∧ r = nI 1) ∨ (px_s (tk hT ln) 400 1 1 0 ≠ some ln ∧ r = nI 0)) ∧ (IV g f1) ∧ (un [6, 7, 8, 10] g f f1)) (pc_out g sz) (pc_A g sz)) 0 0 (pc_A g sz) := by
  refine pe_ofW (cc := prog_8_method_2_code) (maxL := 3) (ret := (some .boolean)) (lv := [(0, .ref Rd), (1, .ref tl), (2, .int (nI ln))]) (by decide) (Nat.le_of_ble_eq_true rfl) rfl ?_
  intro p e s m args below meth c ls hx hb hr hml hlocks hown hB hP hK hD hsz hS hl
  subst hsz
  have hu : un [6, 7, 8, 10] g f f := un.rf
  refine lv_aload_n hx hb d_NReader_reads_0 rfl (lv_at hl 0 rfl) ?_
  refine lv_aload_n hx hb d_NReader_reads_1 rfl (lv_at hl 1 rfl) ?_
  refine pf_put (v := .ref tl) (ty := (.array .char)) (fs' := [.ref tl, .int (nI ln0), .int (nI ax0), .ref P]) (C := "BigRunner$Reader") (T := FT7) (N := 4) hx hb (hw7 hB _) (fun _ h9 => h9) TY7 ok7 nm7 hown hK hP hD hS (lo_in hL t_Rd (by decide)) eR rfl 0 (by decide) (wd_270 hB _) rfl (by decide +kernel) rfl rfl (Nat.le_of_ble_eq_true rfl) rfl d_NReader_reads_2 (fun f1 H locs e2 k3 hP hD hS => ?_)
  have eT := (k3 tl (tg_ne t_tl t_Rd (by decide))).trans eT
  have eP := (k3 P (tg_ne t_P t_Rd (by decide))).trans eP
  have hu := hu.st k3 t_Rd (by decide)
  have hk4 : ∀ b, b ≠ Rd → f1 b = f b := k3
  refine lv_aload_n hx hb d_NReader_reads_5 rfl (lv_at hl 0 rfl) ?_
  refine lv_iload_n hx hb d_NReader_reads_6 rfl (lv_at hl 2 rfl) ?_
  refine lv_aload_n hx hb d_NReader_reads_7 rfl (lv_at hl 1 rfl) ?_
  refine pf_alen (n := 72) hx hb hK hP (lo_in hL t_tl (by decide)) eT rfl (lo_t20 hL _ t_tl) d_NReader_reads_8 ?_
  refine va_mmin hx hb (hml.trans hl.1.symm) hown (wd_458 hB _) (wd_459 hB _) (wd_83 hB _) (wd_460 hB _) (Nat.le_of_ble_eq_true rfl) (Nat.le_of_ble_eq_true rfl) (Nat.le_of_ble_eq_true rfl) (Nat.le_of_ble_eq_true rfl) d_NReader_reads_9 ?_
  refine lv_topi (fun z_ hz_ => ?_)
  obtain ⟨mn5, hmn5⟩ : ∃ z : Nat, z = min ln 72 := ⟨_, rfl⟩
  obtain rfl : z_ = nI mn5 := by rw [hz_, hmn5]; exact mi_min (a := ln) (b := 72) (by omega) (by omega)
  refine lv_topi (fun z_ hz_ => ?_)
  obtain rfl : z_ = nI (ln) := hz_.trans (congrArg nI (show mn5 = ln by omega))
  refine pf_put (v := .int (nI ln)) (ty := .int) (fs' := [.ref tl, .int (nI ln), .int (nI ax0), .ref P]) (C := "BigRunner$Reader") (T := FT7) (N := 4) hx hb (hw7 hB _) (fun _ h9 => h9) TY7 ok7 nm7 hown hK hP hD hS (lo_in hL t_Rd (by decide)) e2 rfl 1 (by decide) (wd_271 hB _) rfl (by decide +kernel) rfl rfl (Nat.le_of_ble_eq_true rfl) rfl d_NReader_reads_12 (fun f6 H locs e7 k8 hP hD hS => ?_)
  have eT := (k8 tl (tg_ne t_tl t_Rd (by decide))).trans eT
  have eP := (k8 P (tg_ne t_P t_Rd (by decide))).trans eP
  have hu := hu.st k8 t_Rd (by decide)
  have hk9 : ∀ b, b ≠ Rd → f6 b = f b := fun b q0 => (k8 b q0).trans (hk4 b q0)
  refine lv_aload_n hx hb d_NReader_reads_15 rfl (lv_at hl 0 rfl) ?_
  refine lv_iconst (v := nI 0) hx hb d_NReader_reads_16 (by decide) ?_
  refine pf_put (v := .int (nI 0)) (ty := .int) (fs' := [.ref tl, .int (nI ln), .int (nI 0), .ref P]) (C := "BigRunner$Reader") (T := FT7) (N := 4) hx hb (hw7 hB _) (fun _ h9 => h9) TY7 ok7 nm7 hown hK hP hD hS (lo_in hL t_Rd (by decide)) e7 rfl 2 (by decide) (wd_272 hB _) rfl (by decide +kernel) rfl rfl (Nat.le_of_ble_eq_true rfl) rfl d_NReader_reads_17 (fun f10 H locs e11 k12 hP hD hS => ?_)
  have eT := (k12 tl (tg_ne t_tl t_Rd (by decide))).trans eT
  have eP := (k12 P (tg_ne t_P t_Rd (by decide))).trans eP
  have hu := hu.st k12 t_Rd (by decide)
  have hk13 : ∀ b, b ≠ Rd → f10 b = f b := fun b q0 => (k12 b q0).trans (hk9 b q0)
  refine lv_aload_n hx hb d_NReader_reads_20 rfl (lv_at hl 0 rfl) ?_
  refine pf_get (v := .ref P) (C := "BigRunner$Reader") (T := FT7) (N := 4) hx hb (hw7 hB _) (fun _ h9 => h9) hown hK hP (lo_in hL t_Rd (by decide)) e11 rfl 3 (by decide) (wd_273 hB _) rfl d_NReader_reads_21 ?_
  refine lv_iconst (v := nI 0) hx hb d_NReader_reads_24 (by decide) ?_
  have hI14 := iv_1 hI hL t_Rd (by decide) hk13 (oc_8.mk t_Rd (⟨(.ref tl), ln, 0, P, e11, (by omega), (by omega), t_P⟩))
  refine pf_put (v := .int (nI 0)) (ty := .int) (fs' := [.ref (g.lk P 0), .int (nI 0), .ref (g.lk P 2), .int (nI nn), .ref (g.lk P 4), .ref (g.lk P 5)]) (C := "BigRunner$Program") (T := FT6) (N := 6) hx hb (hw6 hB _) (fun _ h9 => h9) TY6 ok6 nm6 hown hK hP hD hS (lo_in hL t_P (by decide)) eP rfl 1 (by decide) (wd_246 hB _) rfl (by decide +kernel) rfl rfl (Nat.le_of_ble_eq_true rfl) rfl d_NReader_reads_25 (fun f15 H locs e16 k17 hP hD hS => ?_)
  have eT := (k17 tl (tg_ne t_tl t_P (by decide))).trans eT
  have e11 := (k17 Rd (tg_ne t_Rd t_P (by decide))).trans e11
  have hu := hu.st k17 t_P (by decide)
  have hk18 : ∀ b, b ≠ P → f15 b = f10 b := k17
  refine lv_aload_n hx hb d_NReader_reads_28 rfl (lv_at hl 0 rfl) ?_
  refine pf_get (v := .ref P) (C := "BigRunner$Reader") (T := FT7) (N := 4) hx hb (hw7 hB _) (fun _ h9 => h9) hown hK hP (lo_in hL t_Rd (by decide)) e11 rfl 3 (by decide) (wd_273 hB _) rfl d_NReader_reads_29 ?_
  refine lv_iconst (v := nI 0) hx hb d_NReader_reads_32 (by decide) ?_
  refine pf_put (v := .int (nI 0)) (ty := .int) (fs' := [.ref (g.lk P 0), .int (nI 0), .ref (g.lk P 2), .int (nI 0), .ref (g.lk P 4), .ref (g.lk P 5)]) (C := "BigRunner$Program") (T := FT6) (N := 6) hx hb (hw6 hB _) (fun _ h9 => h9) TY6 ok6 nm6 hown hK hP hD hS (lo_in hL t_P (by decide)) e16 rfl 3 (by decide) (wd_252 hB _) rfl (by decide +kernel) rfl rfl (Nat.le_of_ble_eq_true rfl) rfl d_NReader_reads_33 (fun f19 H locs e20 k21 hP hD hS => ?_)
  have eT := (k21 tl (tg_ne t_tl t_P (by decide))).trans eT
  have e11 := (k21 Rd (tg_ne t_Rd t_P (by decide))).trans e11
  have hu := hu.st k21 t_P (by decide)
  have hk22 : ∀ b, b ≠ P → f19 b = f10 b := fun b q0 => (k21 b q0).trans (hk18 b q0)
  refine lv_aload_n hx hb d_NReader_reads_36 rfl (lv_at hl 0 rfl) ?_
  refine lv_iconst (v := nI 1) hx hb d_NReader_reads_37 (by decide) ?_
  have hI23 := iv_1 hI14 hL t_P (by decide) hk22 (oc_7.mk t_P (⟨0, 0, e20, (by omega), (by omega)⟩))
  refine pcc_i (va_runV (C := "BigRunner$Reader") (As := [.int (nI 1)]) (rest := []) ⟨hx, hb, hml, hown, tb_nil⟩ (c_readProgram l g H.size f19 Rd tl ln 0 P hT 0 0 1 hL t_Rd t_tl t_P hI23 e11 eT cT (by omega) (by omega) e20 (by omega) (by omega) (by omega) (by omega) (by omega)) ⟨(callB_of 1 (tb_one (wd_464 hB _)) tb_good1 rfl rfl rfl (wd_73 hB _) (wd_461 hB _) (by decide +kernel) ⟨Nat.le_of_ble_eq_true rfl, Nat.le_of_ble_eq_true rfl⟩), (wd_463 hB _), (wd_2 hB _)⟩ ⟨pe_bl, pg_recv (ci := 7) hK hP (lo_in hL t_Rd (by decide)) e11 rfl, pe_pre hB hK hP hD⟩ rfl rfl hl.1 rfl (lv_room (Nat.le_of_ble_eq_true rfl)) d_NReader_reads_38 ⟨Nat.le_of_ble_eq_true rfl, Nat.le_of_ble_eq_true rfl⟩) hS (fun r24 f25 H locs hq26 hP hD hS => ?_)
  obtain ⟨rs_27, fr_28, hI1_29, hu1_30⟩ := hq26
  have hu := hu.tr hu1_30 (by decide)
  have eT := hu1_30.at t_tl (by decide) eT
  rcases rs_27 with ⟨a31, s32, n33, c39, c40, c41, c42, c43, c44, c45, c46, hp36, e34, e35, hsg37, hnj38, rfl⟩ | ⟨a31, s32, n33, c39, c40, c41, hp36, e34, e35, rfl⟩
  · skip
    refine lv_if_eq (tgt := 59) hx hb d_NReader_reads_41 (by decide) (fun b47 => ?_) (fun b47 => ?_)
    · skip
      replace b47 := (nI_eq (a := 1) (b := 0) (by omega) (by omega)).mp b47
      exfalso; omega
    · skip
      replace b47 := mt (nI_eq (a := 1) (b := 0) (by omega) (by omega)).mpr b47
      refine lv_aload_n hx hb d_NReader_reads_44 rfl (lv_at hl 0 rfl) ?_
      refine pf_get (v := .int (nI a31)) (C := "BigRunner$Reader") (T := FT7) (N := 4) hx hb (hw7 hB _) (fun _ h9 => h9) hown hK hP (lo_in hL t_Rd (by decide)) e34 rfl 2 (by decide) (wd_272 hB _) rfl d_NReader_reads_45 ?_
      refine lv_aload_n hx hb d_NReader_reads_48 rfl (lv_at hl 0 rfl) ?_
      refine pf_get (v := .int (nI ln)) (C := "BigRunner$Reader") (T := FT7) (N := 4) hx hb (hw7 hB _) (fun _ h9 => h9) hown hK hP (lo_in hL t_Rd (by decide)) e34 rfl 1 (by decide) (wd_271 hB _) rfl d_NReader_reads_49 ?_
      refine lv_icmp_ne (tgt := 59) hx hb d_NReader_reads_52 (by decide) (fun b48 => ?_) (fun b48 => ?_)
      · skip
        replace b48 := mt (nI_eq (a := a31) (b := ln) (by omega) (by omega)).mpr b48
        refine lv_iconst (v := nI 0) hx hb d_NReader_reads_59 (by decide) ?_
        exact pe_zret hx hb hr hlocks hK hP hD hS d_NReader_reads_60 rfl ⟨(Or.inr ⟨by rw [hp36]; exact fun z => b48 (Option.some.inj z), rfl⟩), hI1_29, hu⟩
      · skip
        replace b48 := (nI_eq (a := a31) (b := ln) (by omega) (by omega)).mp b48
        have hend : a31 = ln := by omega
        refine lv_iconst (v := nI 1) hx hb d_NReader_reads_55 (by decide) ?_
        refine lv_goto (tgt := 60) hx hb d_NReader_reads_56 (by decide) ?_
        exact pe_zret hx hb hr hlocks hK hP hD hS d_NReader_reads_60 rfl ⟨(Or.inl ⟨s32, n33, by omega, by omega, by omega, by rw [hp36, hend], by have z := e34; rw [hend] at z; exact z, e35, hsg37, hnj38, rfl⟩), hI1_29, hu⟩
  · skip
    refine lv_if_eq (tgt := 59) hx hb d_NReader_reads_41 (by decide) (fun b49 => ?_) (fun b49 => ?_)
    · skip
      replace b49 := (nI_eq (a := 0) (b := 0) (by omega) (by omega)).mp b49
      refine lv_iconst (v := nI 0) hx hb d_NReader_reads_59 (by decide) ?_
      exact pe_zret hx hb hr hlocks hK hP hD hS d_NReader_reads_60 rfl ⟨(Or.inr ⟨(by rw [hp36]; exact fun z => (by cases z)), rfl⟩), hI1_29, hu⟩
    · skip
      replace b49 := mt (nI_eq (a := 0) (b := 0) (by omega) (by omega)).mpr b49
      exfalso; omega
