set_option maxHeartbeats 4000000 in
set_option maxRecDepth 100000 in
theorem rs2_step (l : Launch) (F : Nat) (ih : ∀ F', F' ≤ F → RG2 l F' ∧ RS2 l F') : RS2 l (F + 1) := by
  intro g sz f Rd tl ln ax P hT sn nn d hL t_Rd t_tl t_P hI eR eT cT hln hax eP hsn hnn hna h2s hd hF
  refine pe_ofW (cc := prog_8_method_6_code) (maxL := 3) (ret := (some .boolean)) (lv := [(0, .ref Rd), (1, .int (nI d))]) (by decide) (Nat.le_of_ble_eq_true rfl) rfl ?_
  intro p e s m args below meth c ls hx hb hr hml hlocks hown hB hP hK hD hsz hS hl
  subst hsz
  have hu : un [6, 7, 8, 10] g f f := un.rf
  have hfr : ∀ i, i < 36 → i < sn → f (g.lk (g.lk P 0) i) = f (g.lk (g.lk P 0) i) := fun _ _ _ => rfl
  have hfn : ∀ i, i < 72 → i < nn → f (g.lk (g.lk P 2) i) = f (g.lk (g.lk P 2) i) := fun _ _ _ => rfl
  refine lv_aload_n hx hb d_NReader_readStatement_0 rfl (lv_at hl 0 rfl) ?_
  refine lv_bipush (v := nI 63) hx hb d_NReader_readStatement_1 (by decide) ?_
  refine pcc_i (va_runV (C := "BigRunner$Reader") (As := [.int (nI 63)]) (rest := []) ⟨hx, hb, hml, hown, tb_nil⟩ (c_accept l g s.heap.size f Rd tl ln ax P hT 63 hL t_Rd t_tl t_P hI eR eT cT (by omega) (by omega) (by decide)) ⟨(callB_of 1 (tb_one (wd_472 hB _)) tb_good1 rfl rfl rfl (wd_73 hB _) (wd_469 hB _) (by decide +kernel) ⟨(show 2 ≤ 2 * (F + 1) + 410 by omega), (show 41 ≤ 60 * (F + 1) + 13000 by omega)⟩), (wd_471 hB _), (wd_4 hB _)⟩ ⟨pe_bl, pg_recv (ci := 7) hK hP (lo_in hL t_Rd (by decide)) eR rfl, pe_pre hB hK hP hD⟩ rfl rfl hl.1 rfl (lv_room (Nat.le_of_ble_eq_true rfl)) d_NReader_readStatement_3 ⟨Nat.le_of_ble_eq_true rfl, Nat.le_of_ble_eq_true rfl⟩) hS (fun r1 f2 H locs hq3 hP hD hS => ?_)
  obtain ⟨bo_4, i0_5, i1_6, hI1_7, hu1_8⟩ := hq3
  have hu := hu.tr hu1_8 (by decide)
  have eT := hu1_8.at t_tl (by decide) eT
  have eP := hu1_8.at t_P (by decide) eP
  have hfr : ∀ i, i < 36 → i < sn → f2 (g.lk (g.lk P 0) i) = f (g.lk (g.lk P 0) i) := fun i h1 h2 => (hu1_8 _ (by rw [lo_e24 hL _ (lo_k7_0 hL _ t_P) i h1]; decide)).trans (hfr i h1 h2)
  have hfn : ∀ i, i < 72 → i < nn → f2 (g.lk (g.lk P 2) i) = f (g.lk (g.lk P 2) i) := fun i h1 h2 => (hu1_8 _ (by rw [lo_e25 hL _ (lo_k7_2 hL _ t_P) i h1]; decide)).trans (hfn i h1 h2)
  refine lv_if_eq (tgt := 19) hx hb d_NReader_readStatement_6 (by decide) (fun b9 => ?_) (fun b9 => ?_)
  · skip
    have hr10 : r1 = nI 0 := b9
    have hi11 := i0_5 hr10
    obtain ⟨hc12, e13⟩ := hi11
    have hk14 : tk hT ln ax ≠ 8 := fun z => hc12 (kc_8.mp z)
    refine lv_aload_n hx hb d_NReader_readStatement_19 rfl (lv_at hl 0 rfl) ?_
    refine lv_bipush (v := nI 33) hx hb d_NReader_readStatement_20 (by decide) ?_
    refine pcc_i (va_runV (C := "BigRunner$Reader") (As := [.int (nI 33)]) (rest := []) ⟨hx, hb, hml, hown, tb_nil⟩ (c_accept l g H.size f2 Rd tl ln ax P hT 33 hL t_Rd t_tl t_P hI1_7 e13 eT cT (by omega) (by omega) (by decide)) ⟨(callB_of 1 (tb_one (wd_472 hB _)) tb_good1 rfl rfl rfl (wd_73 hB _) (wd_469 hB _) (by decide +kernel) ⟨(show 2 ≤ 2 * (F + 1) + 410 by omega), (show 41 ≤ 60 * (F + 1) + 13000 by omega)⟩), (wd_471 hB _), (wd_4 hB _)⟩ ⟨pe_bl, pg_recv (ci := 7) hK hP (lo_in hL t_Rd (by decide)) e13 rfl, pe_pre hB hK hP hD⟩ rfl rfl hl.1 rfl (lv_room (Nat.le_of_ble_eq_true rfl)) d_NReader_readStatement_22 ⟨Nat.le_of_ble_eq_true rfl, Nat.le_of_ble_eq_true rfl⟩) hS (fun r15 f16 H locs hq17 hP hD hS => ?_)
    obtain ⟨bo_18, i0_19, i1_20, hI1_21, hu1_22⟩ := hq17
    have hu := hu.tr hu1_22 (by decide)
    have eT := hu1_22.at t_tl (by decide) eT
    have eP := hu1_22.at t_P (by decide) eP
    have hfr : ∀ i, i < 36 → i < sn → f16 (g.lk (g.lk P 0) i) = f (g.lk (g.lk P 0) i) := fun i h1 h2 => (hu1_22 _ (by rw [lo_e24 hL _ (lo_k7_0 hL _ t_P) i h1]; decide)).trans (hfr i h1 h2)
    have hfn : ∀ i, i < 72 → i < nn → f16 (g.lk (g.lk P 2) i) = f (g.lk (g.lk P 2) i) := fun i h1 h2 => (hu1_22 _ (by rw [lo_e25 hL _ (lo_k7_2 hL _ t_P) i h1]; decide)).trans (hfn i h1 h2)
    refine lv_if_eq (tgt := 39) hx hb d_NReader_readStatement_25 (by decide) (fun b23 => ?_) (fun b23 => ?_)
    · skip
      have hr24 : r15 = nI 0 := b23
      have hi25 := i0_19 hr24
      obtain ⟨hc26, e27⟩ := hi25
      have hk28 : tk hT ln ax ≠ 9 := fun z => hc26 (kc_9.mp z)
      refine lv_aload_n hx hb d_NReader_readStatement_39 rfl (lv_at hl 0 rfl) ?_
      refine lv_bipush (v := nI 91) hx hb d_NReader_readStatement_40 (by decide) ?_
      refine pcc_i (va_runV (C := "BigRunner$Reader") (As := [.int (nI 91)]) (rest := []) ⟨hx, hb, hml, hown, tb_nil⟩ (c_accept l g H.size f16 Rd tl ln ax P hT 91 hL t_Rd t_tl t_P hI1_21 e27 eT cT (by omega) (by omega) (by decide)) ⟨(callB_of 1 (tb_one (wd_472 hB _)) tb_good1 rfl rfl rfl (wd_73 hB _) (wd_469 hB _) (by decide +kernel) ⟨(show 2 ≤ 2 * (F + 1) + 410 by omega), (show 41 ≤ 60 * (F + 1) + 13000 by omega)⟩), (wd_471 hB _), (wd_4 hB _)⟩ ⟨pe_bl, pg_recv (ci := 7) hK hP (lo_in hL t_Rd (by decide)) e27 rfl, pe_pre hB hK hP hD⟩ rfl rfl hl.1 rfl (lv_room (Nat.le_of_ble_eq_true rfl)) d_NReader_readStatement_42 ⟨Nat.le_of_ble_eq_true rfl, Nat.le_of_ble_eq_true rfl⟩) hS (fun r29 f30 H locs hq31 hP hD hS => ?_)
      obtain ⟨bo_32, i0_33, i1_34, hI1_35, hu1_36⟩ := hq31
      have hu := hu.tr hu1_36 (by decide)
      have eT := hu1_36.at t_tl (by decide) eT
      have eP := hu1_36.at t_P (by decide) eP
      have hfr : ∀ i, i < 36 → i < sn → f30 (g.lk (g.lk P 0) i) = f (g.lk (g.lk P 0) i) := fun i h1 h2 => (hu1_36 _ (by rw [lo_e24 hL _ (lo_k7_0 hL _ t_P) i h1]; decide)).trans (hfr i h1 h2)
      have hfn : ∀ i, i < 72 → i < nn → f30 (g.lk (g.lk P 2) i) = f (g.lk (g.lk P 2) i) := fun i h1 h2 => (hu1_36 _ (by rw [lo_e25 hL _ (lo_k7_2 hL _ t_P) i h1]; decide)).trans (hfn i h1 h2)
      refine lv_if_eq (tgt := 54) hx hb d_NReader_readStatement_45 (by decide) (fun b37 => ?_) (fun b37 => ?_)
      · skip
        have hr38 : r29 = nI 0 := b37
        have hi39 := i0_33 hr38
        obtain ⟨hc40, e41⟩ := hi39
        have hk42 : tk hT ln ax ≠ 10 := fun z => hc40 (kc_10.mp z)
        refine lv_aload_n hx hb d_NReader_readStatement_54 rfl (lv_at hl 0 rfl) ?_
        refine lv_bipush (v := nI 123) hx hb d_NReader_readStatement_55 (by decide) ?_
        refine pcc_i (va_runV (C := "BigRunner$Reader") (As := [.int (nI 123)]) (rest := []) ⟨hx, hb, hml, hown, tb_nil⟩ (c_accept l g H.size f30 Rd tl ln ax P hT 123 hL t_Rd t_tl t_P hI1_35 e41 eT cT (by omega) (by omega) (by decide)) ⟨(callB_of 1 (tb_one (wd_472 hB _)) tb_good1 rfl rfl rfl (wd_73 hB _) (wd_469 hB _) (by decide +kernel) ⟨(show 2 ≤ 2 * (F + 1) + 410 by omega), (show 41 ≤ 60 * (F + 1) + 13000 by omega)⟩), (wd_471 hB _), (wd_4 hB _)⟩ ⟨pe_bl, pg_recv (ci := 7) hK hP (lo_in hL t_Rd (by decide)) e41 rfl, pe_pre hB hK hP hD⟩ rfl rfl hl.1 rfl (lv_room (Nat.le_of_ble_eq_true rfl)) d_NReader_readStatement_57 ⟨Nat.le_of_ble_eq_true rfl, Nat.le_of_ble_eq_true rfl⟩) hS (fun r43 f44 H locs hq45 hP hD hS => ?_)
        obtain ⟨bo_46, i0_47, i1_48, hI1_49, hu1_50⟩ := hq45
        have hu := hu.tr hu1_50 (by decide)
        have eT := hu1_50.at t_tl (by decide) eT
        have eP := hu1_50.at t_P (by decide) eP
        have hfr : ∀ i, i < 36 → i < sn → f44 (g.lk (g.lk P 0) i) = f (g.lk (g.lk P 0) i) := fun i h1 h2 => (hu1_50 _ (by rw [lo_e24 hL _ (lo_k7_0 hL _ t_P) i h1]; decide)).trans (hfr i h1 h2)
        have hfn : ∀ i, i < 72 → i < nn → f44 (g.lk (g.lk P 2) i) = f (g.lk (g.lk P 2) i) := fun i h1 h2 => (hu1_50 _ (by rw [lo_e25 hL _ (lo_k7_2 hL _ t_P) i h1]; decide)).trans (hfn i h1 h2)
        refine lv_if_eq (tgt := 69) hx hb d_NReader_readStatement_60 (by decide) (fun b51 => ?_) (fun b51 => ?_)
        · skip
          have hr52 : r43 = nI 0 := b51
          have hi53 := i0_47 hr52
          obtain ⟨hc54, e55⟩ := hi53
          have hk56 : tk hT ln ax ≠ 12 := fun z => hc54 (kc_12.mp z)
          rcases Nat.lt_or_ge sn 36 with h36 | h36
          · skip
            refine lv_aload_n hx hb d_NReader_readStatement_69 rfl (lv_at hl 0 rfl) ?_
            refine lv_iconst (v := nI 0) hx hb d_NReader_readStatement_70 (by decide) ?_
            refine pcc_i (va_runV (C := "BigRunner$Reader") (As := [.int (nI 0)]) (rest := []) ⟨hx, hb, hml, hown, tb_nil⟩ (c_addSt l g H.size f44 Rd tl ln ax P hT sn nn 0 hL t_Rd t_tl t_P hI1_49 e55 eT cT (by omega) (by omega) eP (by omega) (by omega) (by omega) (by omega)) ⟨(callB_of 1 (tb_one (wd_480 hB _)) tb_good1 rfl rfl rfl (wd_73 hB _) (wd_477 hB _) (by decide +kernel) ⟨(show 1 ≤ 2 * (F + 1) + 410 by omega), (show 21 ≤ 60 * (F + 1) + 13000 by omega)⟩), (wd_479 hB _), (wd_6 hB _)⟩ ⟨pe_bl, pg_recv (ci := 7) hK hP (lo_in hL t_Rd (by decide)) e55 rfl, pe_pre hB hK hP hD⟩ rfl rfl hl.1 rfl (lv_room (Nat.le_of_ble_eq_true rfl)) d_NReader_readStatement_71 ⟨Nat.le_of_ble_eq_true rfl, Nat.le_of_ble_eq_true rfl⟩) hS (fun r57 f58 H locs hq59 hP hD hS => ?_)
            obtain ⟨q_60, x1_61, xs_62, fr_63, hI1_64, hu1_65⟩ := hq59
            subst q_60
            have hu := hu.tr hu1_65 (by decide)
            have eT := hu1_65.at t_tl (by decide) eT
            have e55 := hu1_65.at t_Rd (by decide) e55
            have hfr : ∀ i, i < 36 → i < sn → f58 (g.lk (g.lk P 0) i) = f (g.lk (g.lk P 0) i) := fun i h1 h2 => (fr_63 i h1 (by omega)).trans (hfr i h1 h2)
            have hfn : ∀ i, i < 72 → i < nn → f58 (g.lk (g.lk P 2) i) = f (g.lk (g.lk P 2) i) := fun i h1 h2 => (hu1_65 _ (by rw [lo_e25 hL _ (lo_k7_2 hL _ t_P) i h1]; decide)).trans (hfn i h1 h2)
            obtain ⟨nm_66, fn_67, la_68, ta_69, c70, c71, c72, c73, e74⟩ := xs_62
            refine lv_istore_n (lv' := [(2, .int (nI sn)), (0, .ref Rd), (1, .int (nI d))]) hx hb d_NReader_readStatement_74 rfl hl (by decide) rfl (fun ls hl => ?_)
            refine lv_aload_n hx hb d_NReader_readStatement_75 rfl (lv_at hl 1 rfl) ?_
            refine lv_iload_n hx hb d_NReader_readStatement_76 rfl (lv_at hl 0 rfl) ?_
            refine pcc_i (va_runV (C := "BigRunner$Reader") (As := [.int (nI sn)]) (rest := []) ⟨hx, hb, hml, hown, tb_nil⟩ (c2_readName l g H.size f58 Rd tl ln ax P hT ((sn + 1)) nn sn 0 nm_66 fn_67 la_68 ta_69 hL t_Rd t_tl t_P hI1_64 e55 eT cT (by omega) (by omega) x1_61 (by omega) (by omega) (by omega) e74 (by omega) (by omega) (by omega) c72 (by omega)) ⟨(callB_of 1 (tb_one (wd_484 hB _)) tb_good1 rfl rfl rfl (wd_73 hB _) (wd_481 hB _) (by decide +kernel) ⟨(show 2 ≤ 2 * (F + 1) + 410 by omega), (show 42 ≤ 60 * (F + 1) + 13000 by omega)⟩), (wd_483 hB _), (wd_7 hB _)⟩ ⟨pe_bl, pg_recv (ci := 7) hK hP (lo_in hL t_Rd (by decide)) e55 rfl, pe_pre hB hK hP hD⟩ rfl rfl hl.1 rfl (lv_room (Nat.le_of_ble_eq_true rfl)) d_NReader_readStatement_77 ⟨Nat.le_of_ble_eq_true rfl, Nat.le_of_ble_eq_true rfl⟩) hS (fun r75 f76 H locs hq77 hP hD hS => ?_)
            obtain ⟨bo_78, i0_79, i1_80, fr_81, hI1_82, hu1_83⟩ := hq77
            have hu := hu.tr hu1_83 (by decide)
            have eT := hu1_83.at t_tl (by decide) eT
            have x1_61 := hu1_83.at t_P (by decide) x1_61
            have hfr : ∀ i, i < 36 → i < sn → f76 (g.lk (g.lk P 0) i) = f (g.lk (g.lk P 0) i) := fun i h1 h2 => (fr_81 i h1 (by omega)).trans (hfr i h1 h2)
            have hfn : ∀ i, i < 72 → i < nn → f76 (g.lk (g.lk P 2) i) = f (g.lk (g.lk P 2) i) := fun i h1 h2 => (hu1_83 _ (by rw [lo_e25 hL _ (lo_k7_2 hL _ t_P) i h1]; decide)).trans (hfn i h1 h2)
            refine lv_if_eq (tgt := 105) hx hb d_NReader_readStatement_80 (by decide) (fun b84 => ?_) (fun b84 => ?_)
            · skip
              have hr85 : r75 = nI 0 := b84
              have hi86 := i0_79 hr85
              obtain ⟨hk87, e88, e89⟩ := hi86
              refine lv_iconst (v := nI 0) hx hb d_NReader_readStatement_105 (by decide) ?_
              exact pe_zret hx hb hr hlocks hK hP hD hS d_NReader_readStatement_106 rfl ⟨(Or.inr ⟨ax, sn + 1, nn, by omega, by omega, by omega, (by rw [px_s0, if_neg hk14, if_neg hk28, if_neg hk42, if_neg hk56, if_neg (fun z => hk87 z.1)]), e88, x1_61, rfl⟩), hfr, hfn, hI1_82, hu⟩
            · skip
              have hr90 : r75 = nI 1 := (bl_1 bo_78 b84)
              have hi91 := i1_80 hr90
              obtain ⟨hk92, hl95, e93, nv96, hnv96, hvn97, e94⟩ := hi91
              refine lv_aload_n hx hb d_NReader_readStatement_83 rfl (lv_at hl 1 rfl) ?_
              refine lv_bipush (v := nI 61) hx hb d_NReader_readStatement_84 (by decide) ?_
              refine pcc_i (va_runV (C := "BigRunner$Reader") (As := [.int (nI 61)]) (rest := []) ⟨hx, hb, hml, hown, tb_nil⟩ (c_accept l g H.size f76 Rd tl ln ((ax + 1)) P hT 61 hL t_Rd t_tl t_P hI1_82 e93 eT cT (by omega) (by omega) (by decide)) ⟨(callB_of 1 (tb_one (wd_472 hB _)) tb_good1 rfl rfl rfl (wd_73 hB _) (wd_469 hB _) (by decide +kernel) ⟨(show 2 ≤ 2 * (F + 1) + 410 by omega), (show 41 ≤ 60 * (F + 1) + 13000 by omega)⟩), (wd_471 hB _), (wd_4 hB _)⟩ ⟨pe_bl, pg_recv (ci := 7) hK hP (lo_in hL t_Rd (by decide)) e93 rfl, pe_pre hB hK hP hD⟩ rfl rfl hl.1 rfl (lv_room (Nat.le_of_ble_eq_true rfl)) d_NReader_readStatement_86 ⟨Nat.le_of_ble_eq_true rfl, Nat.le_of_ble_eq_true rfl⟩) hS (fun r98 f99 H locs hq100 hP hD hS => ?_)
              obtain ⟨bo_101, i0_102, i1_103, hI1_104, hu1_105⟩ := hq100
              have hu := hu.tr hu1_105 (by decide)
              have eT := hu1_105.at t_tl (by decide) eT
              have x1_61 := hu1_105.at t_P (by decide) x1_61
              have e94 := hu1_105.at (lo_e24 hL _ (lo_k7_0 hL _ t_P) _ (by omega)) (by decide) e94
              have hfr : ∀ i, i < 36 → i < sn → f99 (g.lk (g.lk P 0) i) = f (g.lk (g.lk P 0) i) := fun i h1 h2 => (hu1_105 _ (by rw [lo_e24 hL _ (lo_k7_0 hL _ t_P) i h1]; decide)).trans (hfr i h1 h2)
              have hfn : ∀ i, i < 72 → i < nn → f99 (g.lk (g.lk P 2) i) = f (g.lk (g.lk P 2) i) := fun i h1 h2 => (hu1_105 _ (by rw [lo_e25 hL _ (lo_k7_2 hL _ t_P) i h1]; decide)).trans (hfn i h1 h2)
              refine lv_if_eq (tgt := 105) hx hb d_NReader_readStatement_89 (by decide) (fun b106 => ?_) (fun b106 => ?_)
              · skip
                have hr107 : r98 = nI 0 := b106
                have hi108 := i0_102 hr107
                obtain ⟨hc109, e110⟩ := hi108
                have hk111 : tk hT ln (ax + 1) ≠ 17 := fun z => hc109 (kc_17.mp z)
                refine lv_iconst (v := nI 0) hx hb d_NReader_readStatement_105 (by decide) ?_
                exact pe_zret hx hb hr hlocks hK hP hD hS d_NReader_readStatement_106 rfl ⟨(Or.inr ⟨ax + 1, sn + 1, nn, by omega, by omega, by omega, (by rw [px_s0, if_neg hk14, if_neg hk28, if_neg hk42, if_neg hk56, if_neg (fun z => hk111 z.2)]), e110, x1_61, rfl⟩), hfr, hfn, hI1_104, hu⟩
              · skip
                have hr112 : r98 = nI 1 := (bl_1 bo_101 b106)
                have hi113 := i1_103 hr112
                obtain ⟨hc114, hl117, e115⟩ := hi113
                have hk116 : tk hT ln (ax + 1) = 17 := kc_17.mpr hc114
                refine lv_aload_n hx hb d_NReader_readStatement_92 rfl (lv_at hl 1 rfl) ?_
                refine lv_iload_n hx hb d_NReader_readStatement_93 rfl (lv_at hl 0 rfl) ?_
                refine lv_iload_n hx hb d_NReader_readStatement_94 rfl (lv_at hl 2 rfl) ?_
                refine pcc_i (va_runV (C := "BigRunner$Reader") (As := [.int (nI sn), .int (nI d)]) (rest := []) ⟨hx, hb, hml, hown, tb_nil⟩ (c2_readExprOf l g H.size f99 Rd tl ln ((ax + 1 + 1)) P hT ((sn + 1)) nn sn 0 nv96 fn_67 la_68 ta_69 d hL t_Rd t_tl t_P hI1_104 e115 eT cT (by omega) (by omega) x1_61 (by omega) (by omega) (by omega) e94 (by omega) (by omega) (by omega) c72 (by omega) (by omega) (by omega)) ⟨(callB_of 2 (tb_one (wd_488 hB _)) tb_good1 rfl rfl rfl (wd_73 hB _) (wd_485 hB _) (by decide +kernel) ⟨(show 405 ≤ 2 * (F + 1) + 410 by omega), (show 12247 ≤ 60 * (F + 1) + 13000 by omega)⟩), (wd_487 hB _), (wd_8 hB _)⟩ ⟨pe_bl, pg_recv (ci := 7) hK hP (lo_in hL t_Rd (by decide)) e115 rfl, pe_pre hB hK hP hD⟩ rfl rfl hl.1 rfl (lv_room (Nat.le_of_ble_eq_true rfl)) d_NReader_readStatement_95 ⟨Nat.le_of_ble_eq_true rfl, Nat.le_of_ble_eq_true rfl⟩) hS (fun r118 f119 H locs hq120 hP hD hS => ?_)
                obtain ⟨rs_121, fr_122, frn_123, hI1_124, hu1_125⟩ := hq120
                have hu := hu.tr hu1_125 (by decide)
                have eT := hu1_125.at t_tl (by decide) eT
                have hfr : ∀ i, i < 36 → i < sn → f119 (g.lk (g.lk P 0) i) = f (g.lk (g.lk P 0) i) := fun i h1 h2 => (fr_122 i h1 (by omega)).trans (hfr i h1 h2)
                have hfn : ∀ i, i < 72 → i < nn → f119 (g.lk (g.lk P 2) i) = f (g.lk (g.lk P 2) i) := fun i h1 h2 => (frn_123 i h1 (by omega)).trans (hfn i h1 h2)
                rcases rs_121 with ⟨a126, n127, j128, c134, c135, c136, c137, c138, c139, hp132, e129, e130, hx_133, e131, rfl⟩ | ⟨a126, n127, c134, c135, hp132, e129, e130, rfl⟩
                · skip
                  have hfb140 : ∀ i, i < 72 → i < n127 → f119 (g.lk (g.lk P 2) i) = f119 (g.lk (g.lk P 2) i) := fun _ _ _ => rfl
                  refine lv_if_eq (tgt := 105) hx hb d_NReader_readStatement_98 (by decide) (fun b141 => ?_) (fun b141 => ?_)
                  · skip
                    replace b141 := (nI_eq (a := 1) (b := 0) (by omega) (by omega)).mp b141
                    exfalso; omega
                  · skip
                    replace b141 := mt (nI_eq (a := 1) (b := 0) (by omega) (by omega)).mpr b141
                    refine lv_iconst (v := nI 1) hx hb d_NReader_readStatement_101 (by decide) ?_
                    refine lv_goto (tgt := 106) hx hb d_NReader_readStatement_102 (by decide) ?_
                    exact pe_zret hx hb hr hlocks hK hP hD hS d_NReader_readStatement_106 rfl ⟨(Or.inl ⟨a126, sn + 1, n127, by omega, by omega, by omega, by omega, by omega, by omega, by omega, by omega, (by rw [px_s0, if_neg hk14, if_neg hk28, if_neg hk42, if_neg hk56, if_pos ⟨hk92, hk116⟩]; exact hp132), e129, e130, (SG_one e131 (by omega) (by omega) (by omega) (by omega) (fun _ => ⟨_, by omega, rfl⟩)), (nj_of e131 (by omega)), (by rw [ox_s0', if_neg hk14, if_neg hk28, if_neg hk42, if_neg hk56, hvn97, c139]; exact SRP_st (XR_eq hx_133 (fun i q1 q2 => hfb140 i (by omega) (by omega))) e131 (by rw [← c139]; exact congrArg nI (show j128 = n127 - 1 by omega)) (Or.inl ⟨rfl, rfl, rfl⟩)), rfl⟩), hfr, hfn, hI1_124, hu⟩
                · skip
                  refine lv_if_eq (tgt := 105) hx hb d_NReader_readStatement_98 (by decide) (fun b142 => ?_) (fun b142 => ?_)
                  · skip
                    replace b142 := (nI_eq (a := 0) (b := 0) (by omega) (by omega)).mp b142
                    refine lv_iconst (v := nI 0) hx hb d_NReader_readStatement_105 (by decide) ?_
                    exact pe_zret hx hb hr hlocks hK hP hD hS d_NReader_readStatement_106 rfl ⟨(Or.inr ⟨a126, sn + 1, n127, by omega, by omega, by omega, (by rw [px_s0, if_neg hk14, if_neg hk28, if_neg hk42, if_neg hk56, if_pos ⟨hk92, hk116⟩]; exact hp132), e129, e130, rfl⟩), hfr, hfn, hI1_124, hu⟩
                  · skip
                    replace b142 := mt (nI_eq (a := 0) (b := 0) (by omega) (by omega)).mpr b142
                    exfalso; omega
          · skip
            refine lv_aload_n hx hb d_NReader_readStatement_69 rfl (lv_at hl 0 rfl) ?_
            refine lv_iconst (v := nI 0) hx hb d_NReader_readStatement_70 (by decide) ?_
            refine pcc_i (va_runV (C := "BigRunner$Reader") (As := [.int (nI 0)]) (rest := []) ⟨hx, hb, hml, hown, tb_nil⟩ (c_addStN l g H.size f44 Rd tl ln ax P hT sn nn ((nI 0)) hL t_Rd t_tl t_P hI1_49.1 e55 eT cT (by omega) (by omega) eP (by omega) (by omega) (by omega)) ⟨(callB_of 1 (tb_one (wd_480 hB _)) tb_good1 rfl rfl rfl (wd_73 hB _) (wd_477 hB _) (by decide +kernel) ⟨(show 1 ≤ 2 * (F + 1) + 410 by omega), (show 21 ≤ 60 * (F + 1) + 13000 by omega)⟩), (wd_479 hB _), (wd_6 hB _)⟩ ⟨pe_bl, pg_recv (ci := 7) hK hP (lo_in hL t_Rd (by decide)) e55 rfl, pe_pre hB hK hP hD⟩ rfl rfl hl.1 rfl (lv_room (Nat.le_of_ble_eq_true rfl)) d_NReader_readStatement_71 ⟨Nat.le_of_ble_eq_true rfl, Nat.le_of_ble_eq_true rfl⟩) hS (fun r143 f144 H locs hq145 hP hD hS => ?_)
            obtain ⟨q_146, rfl⟩ := hq145
            subst q_146
            refine lv_istore_n (lv' := [(2, .int (-1)), (0, .ref Rd), (1, .int (nI d))]) hx hb d_NReader_readStatement_74 rfl hl (by decide) rfl (fun ls hl => ?_)
            refine lv_aload_n hx hb d_NReader_readStatement_75 rfl (lv_at hl 1 rfl) ?_
            refine lv_iload_n hx hb d_NReader_readStatement_76 rfl (lv_at hl 0 rfl) ?_
            refine pcc_i (va_runV (C := "BigRunner$Reader") (As := [.int (-1)]) (rest := []) ⟨hx, hb, hml, hown, tb_nil⟩ (c_readNameN l g H.size f44 Rd tl ln ax P hT hL t_Rd t_tl t_P hI1_49.1 e55 eT cT (by omega) (by omega)) ⟨(callB_of 1 (tb_one (wd_484 hB _)) tb_good1 rfl rfl rfl (wd_73 hB _) (wd_481 hB _) (by decide +kernel) ⟨(show 2 ≤ 2 * (F + 1) + 410 by omega), (show 42 ≤ 60 * (F + 1) + 13000 by omega)⟩), (wd_483 hB _), (wd_7 hB _)⟩ ⟨pe_bl, pg_recv (ci := 7) hK hP (lo_in hL t_Rd (by decide)) e55 rfl, pe_pre hB hK hP hD⟩ rfl rfl hl.1 rfl (lv_room (Nat.le_of_ble_eq_true rfl)) d_NReader_readStatement_77 ⟨Nat.le_of_ble_eq_true rfl, Nat.le_of_ble_eq_true rfl⟩) hS (fun r147 f148 H locs hq149 hP hD hS => ?_)
            obtain ⟨q_150, rfl⟩ := hq149
            subst q_150
            refine lv_if_eq (tgt := 105) hx hb d_NReader_readStatement_80 (by decide) (fun b151 => ?_) (fun b151 => ?_)
            · skip
              replace b151 := (nI_eq (a := 0) (b := 0) (by omega) (by omega)).mp b151
              refine lv_iconst (v := nI 0) hx hb d_NReader_readStatement_105 (by decide) ?_
              exact pe_zret hx hb hr hlocks hK hP hD hS d_NReader_readStatement_106 rfl ⟨(Or.inr ⟨ax, sn, nn, by omega, by omega, by omega, (by rw [px_s0, if_neg hk14, if_neg hk28, if_neg hk42, if_neg hk56, if_neg (fun z => absurd (z.1.symm.trans (tk_end hT ln ax (by omega))) (by decide))]), e55, eP, rfl⟩), hfr, hfn, hI1_49, hu⟩
            · skip
              replace b151 := mt (nI_eq (a := 0) (b := 0) (by omega) (by omega)).mpr b151
              exfalso; omega
        · skip
          have hr152 : r43 = nI 1 := (bl_1 bo_46 b51)
          have hi153 := i1_48 hr152
          obtain ⟨hc154, hl157, e155⟩ := hi153
          have hk156 : tk hT ln ax = 12 := kc_12.mpr hc154
          refine lv_aload_n hx hb d_NReader_readStatement_63 rfl (lv_at hl 0 rfl) ?_
          refine lv_iload_n hx hb d_NReader_readStatement_64 rfl (lv_at hl 1 rfl) ?_
          refine pcc_i (va_runV (C := "BigRunner$Reader") (As := [.int (nI d)]) (rest := []) ⟨hx, hb, hml, hown, tb_nil⟩ ((rc2_at l F ih) g H.size f44 Rd tl ln ((ax + 1)) P hT sn nn d hL t_Rd t_tl t_P hI1_49 e155 eT cT (by omega) (by omega) eP (by omega) (by omega) (by omega) (by omega) (by omega) (by omega)) ⟨(callB_of 1 (tb_one (wd_520 hB _)) tb_good1 rfl rfl rfl (wd_73 hB _) (wd_517 hB _) (by decide +kernel) ⟨(show 2 * F + 411 + 1 ≤ 2 * (F + 1) + 410 by omega), (show 8 + (4 + 11) + (60 * F + 13030) ≤ 60 * (F + 1) + 13000 by omega)⟩), (wd_519 hB _), (wd_16 hB _)⟩ ⟨pe_bl, pg_recv (ci := 7) hK hP (lo_in hL t_Rd (by decide)) e155 rfl, pe_pre hB hK hP hD⟩ rfl rfl hl.1 rfl (lv_room (Nat.le_of_ble_eq_true rfl)) d_NReader_readStatement_65 ⟨Nat.le_of_ble_eq_true rfl, Nat.le_of_ble_eq_true rfl⟩) hS (fun r158 f159 H locs hq160 hP hD hS => ?_)
          obtain ⟨rs_161, fr_162, frn_163, hI1_164, hu1_165⟩ := hq160
          have hu := hu.tr hu1_165 (by decide)
          have eT := hu1_165.at t_tl (by decide) eT
          have hfr : ∀ i, i < 36 → i < sn → f159 (g.lk (g.lk P 0) i) = f (g.lk (g.lk P 0) i) := fun i h1 h2 => (fr_162 i h1 (by omega)).trans (hfr i h1 h2)
          have hfn : ∀ i, i < 72 → i < nn → f159 (g.lk (g.lk P 2) i) = f (g.lk (g.lk P 2) i) := fun i h1 h2 => (frn_163 i h1 (by omega)).trans (hfn i h1 h2)
          rcases rs_161 with ⟨a166, s167, n168, c175, c176, c177, c178, c179, c180, c181, c182, hp171, e169, e170, hsg172, hnj173, hsp174, rfl⟩ | ⟨a166, s167, n168, c175, c176, c177, hp171, e169, e170, rfl⟩
          · skip
            have hfb183 : ∀ i, i < 72 → i < n168 → f159 (g.lk (g.lk P 2) i) = f159 (g.lk (g.lk P 2) i) := fun _ _ _ => rfl
            exact pe_zret hx hb hr hlocks hK hP hD hS d_NReader_readStatement_68 rfl ⟨(Or.inl ⟨a166, s167, n168, by omega, by omega, by omega, by omega, by omega, by omega, by omega, by omega, (by rw [px_s0, if_neg hk14, if_neg hk28, if_neg hk42, if_pos hk156]; exact hp171), e169, e170, hsg172, hnj173, (by rw [ox_s0', if_neg hk14, if_neg hk28, if_neg hk42, if_pos hk156]; exact hsp174), rfl⟩), hfr, hfn, hI1_164, hu⟩
          · skip
            exact pe_zret hx hb hr hlocks hK hP hD hS d_NReader_readStatement_68 rfl ⟨(Or.inr ⟨a166, s167, n168, by omega, by omega, by omega, (by rw [px_s0, if_neg hk14, if_neg hk28, if_neg hk42, if_pos hk156]; exact hp171), e169, e170, rfl⟩), hfr, hfn, hI1_164, hu⟩
      · skip
        have hr184 : r29 = nI 1 := (bl_1 bo_32 b37)
        have hi185 := i1_34 hr184
        obtain ⟨hc186, hl189, e187⟩ := hi185
        have hk188 : tk hT ln ax = 10 := kc_10.mpr hc186
        refine lv_aload_n hx hb d_NReader_readStatement_48 rfl (lv_at hl 0 rfl) ?_
        refine lv_iload_n hx hb d_NReader_readStatement_49 rfl (lv_at hl 1 rfl) ?_
        refine pcc_i (va_runV (C := "BigRunner$Reader") (As := [.int (nI d)]) (rest := []) ⟨hx, hb, hml, hown, tb_nil⟩ ((rl2_at l F ih) g H.size f30 Rd tl ln ((ax + 1)) P hT sn nn d hL t_Rd t_tl t_P hI1_35 e187 eT cT (by omega) (by omega) eP (by omega) (by omega) (by omega) (by omega) (by omega) (by omega)) ⟨(callB_of 1 (tb_one (wd_512 hB _)) tb_good1 rfl rfl rfl (wd_73 hB _) (wd_509 hB _) (by decide +kernel) ⟨(show 2 * F + 411 + 1 ≤ 2 * (F + 1) + 410 by omega), (show 8 + (3 + 11) + (60 * F + 13030) ≤ 60 * (F + 1) + 13000 by omega)⟩), (wd_511 hB _), (wd_14 hB _)⟩ ⟨pe_bl, pg_recv (ci := 7) hK hP (lo_in hL t_Rd (by decide)) e187 rfl, pe_pre hB hK hP hD⟩ rfl rfl hl.1 rfl (lv_room (Nat.le_of_ble_eq_true rfl)) d_NReader_readStatement_50 ⟨Nat.le_of_ble_eq_true rfl, Nat.le_of_ble_eq_true rfl⟩) hS (fun r190 f191 H locs hq192 hP hD hS => ?_)
        obtain ⟨rs_193, fr_194, frn_195, hI1_196, hu1_197⟩ := hq192
        have hu := hu.tr hu1_197 (by decide)
        have eT := hu1_197.at t_tl (by decide) eT
        have hfr : ∀ i, i < 36 → i < sn → f191 (g.lk (g.lk P 0) i) = f (g.lk (g.lk P 0) i) := fun i h1 h2 => (fr_194 i h1 (by omega)).trans (hfr i h1 h2)
        have hfn : ∀ i, i < 72 → i < nn → f191 (g.lk (g.lk P 2) i) = f (g.lk (g.lk P 2) i) := fun i h1 h2 => (frn_195 i h1 (by omega)).trans (hfn i h1 h2)
        rcases rs_193 with ⟨a198, s199, n200, c207, c208, c209, c210, c211, c212, c213, c214, hp203, e201, e202, hsg204, hnj205, hsp206, rfl⟩ | ⟨a198, s199, n200, c207, c208, c209, hp203, e201, e202, rfl⟩
        · skip
          have hfb215 : ∀ i, i < 72 → i < n200 → f191 (g.lk (g.lk P 2) i) = f191 (g.lk (g.lk P 2) i) := fun _ _ _ => rfl
          exact pe_zret hx hb hr hlocks hK hP hD hS d_NReader_readStatement_53 rfl ⟨(Or.inl ⟨a198, s199, n200, by omega, by omega, by omega, by omega, by omega, by omega, by omega, by omega, (by rw [px_s0, if_neg hk14, if_neg hk28, if_pos hk188]; exact hp203), e201, e202, hsg204, hnj205, (by rw [ox_s0', if_neg hk14, if_neg hk28, if_pos hk188]; exact hsp206), rfl⟩), hfr, hfn, hI1_196, hu⟩
        · skip
          exact pe_zret hx hb hr hlocks hK hP hD hS d_NReader_readStatement_53 rfl ⟨(Or.inr ⟨a198, s199, n200, by omega, by omega, by omega, (by rw [px_s0, if_neg hk14, if_neg hk28, if_pos hk188]; exact hp203), e201, e202, rfl⟩), hfr, hfn, hI1_196, hu⟩
    · skip
      have hr216 : r15 = nI 1 := (bl_1 bo_18 b23)
      have hi217 := i1_20 hr216
      obtain ⟨hc218, hl221, e219⟩ := hi217
      have hk220 : tk hT ln ax = 9 := kc_9.mpr hc218
      refine lv_aload_n hx hb d_NReader_readStatement_28 rfl (lv_at hl 0 rfl) ?_
      refine lv_aload_n hx hb d_NReader_readStatement_29 rfl (lv_at hl 0 rfl) ?_
      refine lv_iconst (v := nI 2) hx hb d_NReader_readStatement_30 (by decide) ?_
      refine pcc_i (va_runV (C := "BigRunner$Reader") (As := [.int (nI 2)]) (rest := [.ref Rd]) ⟨hx, hb, hml, hown, tb_nil⟩ (c_addSt l g H.size f16 Rd tl ln ((ax + 1)) P hT sn nn 2 hL t_Rd t_tl t_P hI1_21 e219 eT cT (by omega) (by omega) eP (by omega) (by omega) (by omega) (by omega)) ⟨(callB_of 1 (tb_one (wd_480 hB _)) tb_good1 rfl rfl rfl (wd_73 hB _) (wd_477 hB _) (by decide +kernel) ⟨(show 1 ≤ 2 * (F + 1) + 410 by omega), (show 21 ≤ 60 * (F + 1) + 13000 by omega)⟩), (wd_479 hB _), (wd_6 hB _)⟩ ⟨pe_bl, pg_recv (ci := 7) hK hP (lo_in hL t_Rd (by decide)) e219 rfl, pe_pre hB hK hP hD⟩ rfl rfl hl.1 rfl (lv_room (Nat.le_of_ble_eq_true rfl)) d_NReader_readStatement_31 ⟨Nat.le_of_ble_eq_true rfl, Nat.le_of_ble_eq_true rfl⟩) hS (fun r222 f223 H locs hq224 hP hD hS => ?_)
      obtain ⟨q_225, x1_226, xs_227, fr_228, hI1_229, hu1_230⟩ := hq224
      subst q_225
      have hu := hu.tr hu1_230 (by decide)
      have eT := hu1_230.at t_tl (by decide) eT
      have e219 := hu1_230.at t_Rd (by decide) e219
      have hfr : ∀ i, i < 36 → i < sn → f223 (g.lk (g.lk P 0) i) = f (g.lk (g.lk P 0) i) := fun i h1 h2 => (fr_228 i h1 (by omega)).trans (hfr i h1 h2)
      have hfn : ∀ i, i < 72 → i < nn → f223 (g.lk (g.lk P 2) i) = f (g.lk (g.lk P 2) i) := fun i h1 h2 => (hu1_230 _ (by rw [lo_e25 hL _ (lo_k7_2 hL _ t_P) i h1]; decide)).trans (hfn i h1 h2)
      obtain ⟨nm_231, fn_232, la_233, ta_234, c235, c236, c237, c238, e239⟩ := xs_227
      refine lv_iload_n hx hb d_NReader_readStatement_34 rfl (lv_at hl 1 rfl) ?_
      refine pcc_i (va_runV (C := "BigRunner$Reader") (As := [.int (nI sn), .int (nI d)]) (rest := []) ⟨hx, hb, hml, hown, tb_nil⟩ (c2_readExprOf l g H.size f223 Rd tl ln ((ax + 1)) P hT ((sn + 1)) nn sn 2 nm_231 fn_232 la_233 ta_234 d hL t_Rd t_tl t_P hI1_229 e219 eT cT (by omega) (by omega) x1_226 (by omega) (by omega) (by omega) e239 (by omega) (by omega) (by omega) c237 (by omega) (by omega) (by omega)) ⟨(callB_of 2 (tb_one (wd_488 hB _)) tb_good1 rfl rfl rfl (wd_73 hB _) (wd_485 hB _) (by decide +kernel) ⟨(show 405 ≤ 2 * (F + 1) + 410 by omega), (show 12247 ≤ 60 * (F + 1) + 13000 by omega)⟩), (wd_487 hB _), (wd_8 hB _)⟩ ⟨pe_bl, pg_recv (ci := 7) hK hP (lo_in hL t_Rd (by decide)) e219 rfl, pe_pre hB hK hP hD⟩ rfl rfl hl.1 rfl (lv_room (Nat.le_of_ble_eq_true rfl)) d_NReader_readStatement_35 ⟨Nat.le_of_ble_eq_true rfl, Nat.le_of_ble_eq_true rfl⟩) hS (fun r240 f241 H locs hq242 hP hD hS => ?_)
      obtain ⟨rs_243, fr_244, frn_245, hI1_246, hu1_247⟩ := hq242
      have hu := hu.tr hu1_247 (by decide)
      have eT := hu1_247.at t_tl (by decide) eT
      have hfr : ∀ i, i < 36 → i < sn → f241 (g.lk (g.lk P 0) i) = f (g.lk (g.lk P 0) i) := fun i h1 h2 => (fr_244 i h1 (by omega)).trans (hfr i h1 h2)
      have hfn : ∀ i, i < 72 → i < nn → f241 (g.lk (g.lk P 2) i) = f (g.lk (g.lk P 2) i) := fun i h1 h2 => (frn_245 i h1 (by omega)).trans (hfn i h1 h2)
      rcases rs_243 with ⟨a248, n249, j250, c256, c257, c258, c259, c260, c261, hp254, e251, e252, hx_255, e253, rfl⟩ | ⟨a248, n249, c256, c257, hp254, e251, e252, rfl⟩
      · skip
        have hfb262 : ∀ i, i < 72 → i < n249 → f241 (g.lk (g.lk P 2) i) = f241 (g.lk (g.lk P 2) i) := fun _ _ _ => rfl
        exact pe_zret hx hb hr hlocks hK hP hD hS d_NReader_readStatement_38 rfl ⟨(Or.inl ⟨a248, sn + 1, n249, by omega, by omega, by omega, by omega, by omega, by omega, by omega, by omega, (by rw [px_s0, if_neg hk14, if_pos hk220]; exact hp254), e251, e252, (SG_one e253 (by omega) (by omega) (by omega) (by omega) (fun _ => ⟨_, by omega, rfl⟩)), (nj_of e253 (by omega)), (by rw [ox_s0', if_neg hk14, if_pos hk220, c261]; exact SRP_st (XR_eq hx_255 (fun i q1 q2 => hfb262 i (by omega) (by omega))) e253 (by rw [← c261]; exact congrArg nI (show j250 = n249 - 1 by omega)) (Or.inr ⟨rfl, rfl⟩)), rfl⟩), hfr, hfn, hI1_246, hu⟩
      · skip
        exact pe_zret hx hb hr hlocks hK hP hD hS d_NReader_readStatement_38 rfl ⟨(Or.inr ⟨a248, sn + 1, n249, by omega, by omega, by omega, (by rw [px_s0, if_neg hk14, if_pos hk220]; exact hp254), e251, e252, rfl⟩), hfr, hfn, hI1_246, hu⟩
  · skip
    have hr263 : r1 = nI 1 := (bl_1 bo_4 b9)
    have hi264 := i1_6 hr263
    obtain ⟨hc265, hl268, e266⟩ := hi264
    have hk267 : tk hT ln ax = 8 := kc_8.mpr hc265
    refine lv_aload_n hx hb d_NReader_readStatement_9 rfl (lv_at hl 0 rfl) ?_
    refine lv_aload_n hx hb d_NReader_readStatement_10 rfl (lv_at hl 0 rfl) ?_
    refine lv_iconst (v := nI 1) hx hb d_NReader_readStatement_11 (by decide) ?_
    refine pcc_i (va_runV (C := "BigRunner$Reader") (As := [.int (nI 1)]) (rest := [.ref Rd]) ⟨hx, hb, hml, hown, tb_nil⟩ (c_addSt l g H.size f2 Rd tl ln ((ax + 1)) P hT sn nn 1 hL t_Rd t_tl t_P hI1_7 e266 eT cT (by omega) (by omega) eP (by omega) (by omega) (by omega) (by omega)) ⟨(callB_of 1 (tb_one (wd_480 hB _)) tb_good1 rfl rfl rfl (wd_73 hB _) (wd_477 hB _) (by decide +kernel) ⟨(show 1 ≤ 2 * (F + 1) + 410 by omega), (show 21 ≤ 60 * (F + 1) + 13000 by omega)⟩), (wd_479 hB _), (wd_6 hB _)⟩ ⟨pe_bl, pg_recv (ci := 7) hK hP (lo_in hL t_Rd (by decide)) e266 rfl, pe_pre hB hK hP hD⟩ rfl rfl hl.1 rfl (lv_room (Nat.le_of_ble_eq_true rfl)) d_NReader_readStatement_12 ⟨Nat.le_of_ble_eq_true rfl, Nat.le_of_ble_eq_true rfl⟩) hS (fun r269 f270 H locs hq271 hP hD hS => ?_)
    obtain ⟨q_272, x1_273, xs_274, fr_275, hI1_276, hu1_277⟩ := hq271
    subst q_272
    have hu := hu.tr hu1_277 (by decide)
    have eT := hu1_277.at t_tl (by decide) eT
    have e266 := hu1_277.at t_Rd (by decide) e266
    have hfr : ∀ i, i < 36 → i < sn → f270 (g.lk (g.lk P 0) i) = f (g.lk (g.lk P 0) i) := fun i h1 h2 => (fr_275 i h1 (by omega)).trans (hfr i h1 h2)
    have hfn : ∀ i, i < 72 → i < nn → f270 (g.lk (g.lk P 2) i) = f (g.lk (g.lk P 2) i) := fun i h1 h2 => (hu1_277 _ (by rw [lo_e25 hL _ (lo_k7_2 hL _ t_P) i h1]; decide)).trans (hfn i h1 h2)
    obtain ⟨nm_278, fn_279, la_280, ta_281, c282, c283, c284, c285, e286⟩ := xs_274
    refine pcc_i (va_runV (C := "BigRunner$Reader") (As := [.int (nI sn)]) (rest := []) ⟨hx, hb, hml, hown, tb_nil⟩ (c2_readName l g H.size f270 Rd tl ln ((ax + 1)) P hT ((sn + 1)) nn sn 1 nm_278 fn_279 la_280 ta_281 hL t_Rd t_tl t_P hI1_276 e266 eT cT (by omega) (by omega) x1_273 (by omega) (by omega) (by omega) e286 (by omega) (by omega) (by omega) c284 (by omega)) ⟨(callB_of 1 (tb_one (wd_484 hB _)) tb_good1 rfl rfl rfl (wd_73 hB _) (wd_481 hB _) (by decide +kernel) ⟨(show 2 ≤ 2 * (F + 1) + 410 by omega), (show 42 ≤ 60 * (F + 1) + 13000 by omega)⟩), (wd_483 hB _), (wd_7 hB _)⟩ ⟨pe_bl, pg_recv (ci := 7) hK hP (lo_in hL t_Rd (by decide)) e266 rfl, pe_pre hB hK hP hD⟩ rfl rfl hl.1 rfl (lv_room (Nat.le_of_ble_eq_true rfl)) d_NReader_readStatement_15 ⟨Nat.le_of_ble_eq_true rfl, Nat.le_of_ble_eq_true rfl⟩) hS (fun r287 f288 H locs hq289 hP hD hS => ?_)
    obtain ⟨bo_290, i0_291, i1_292, fr_293, hI1_294, hu1_295⟩ := hq289
    have hu := hu.tr hu1_295 (by decide)
    have eT := hu1_295.at t_tl (by decide) eT
    have x1_273 := hu1_295.at t_P (by decide) x1_273
    have hfr : ∀ i, i < 36 → i < sn → f288 (g.lk (g.lk P 0) i) = f (g.lk (g.lk P 0) i) := fun i h1 h2 => (fr_293 i h1 (by omega)).trans (hfr i h1 h2)
    have hfn : ∀ i, i < 72 → i < nn → f288 (g.lk (g.lk P 2) i) = f (g.lk (g.lk P 2) i) := fun i h1 h2 => (hu1_295 _ (by rw [lo_e25 hL _ (lo_k7_2 hL _ t_P) i h1]; decide)).trans (hfn i h1 h2)
    rcases bo_290 with hb9 | hb9
    · skip
      have hi296 := i0_291 hb9
      obtain ⟨hk297, e298, e299⟩ := hi296
      subst hb9
      exact pe_zret hx hb hr hlocks hK hP hD hS d_NReader_readStatement_18 rfl ⟨(Or.inr ⟨ax + 1, sn + 1, nn, by omega, by omega, by omega, (by rw [px_s0, if_pos hk267, if_neg hk297]), e298, x1_273, rfl⟩), hfr, hfn, hI1_294, hu⟩
    · skip
      have hi300 := i1_292 hb9
      obtain ⟨hk301, hl304, e302, nv305, hnv305, hvn306, e303⟩ := hi300
      subst hb9
      exact pe_zret hx hb hr hlocks hK hP hD hS d_NReader_readStatement_18 rfl ⟨(Or.inl ⟨ax + 1 + 1, sn + 1, nn, by omega, by omega, by omega, by omega, by omega, by omega, by omega, by omega, (by rw [px_s0, if_pos hk267, if_pos hk301]), e302, x1_273, (SG_one e303 (by omega) (by omega) (by omega) (by omega) (fun z => absurd rfl z)), (nj_of e303 (by omega)), (by rw [ox_s0', if_pos hk267, hvn306]; exact SRP_in e303 rfl), rfl⟩), hfr, hfn, hI1_294, hu⟩
set_option maxHeartbeats 4000000 in
set_option maxRecDepth 100000 in
theorem rg2_step (l : Launch) (F : Nat) (ih : ∀ F', F' ≤ F → RG2 l F' ∧ RS2 l F') : RG2 l (F + 1) := by
  intro g sz f Rd tl ln ax P hT sn nn d hL t_Rd t_tl t_P hI eR eT cT hln hax eP hsn hnn hna h2s hd hF
  refine pe_ofW (cc := prog_8_method_5_code) (maxL := 3) (ret := (some .boolean)) (lv := [(0, .ref Rd), (1, .int (nI d))]) (by decide) (Nat.le_of_ble_eq_true rfl) rfl ?_
  intro p e s m args below meth c ls hx hb hr hml hlocks hown hB hP hK hD hsz hS hl
  subst hsz
  have hu : un [6, 7, 8, 10] g f f := un.rf
  have hfr : ∀ i, i < 36 → i < sn → f (g.lk (g.lk P 0) i) = f (g.lk (g.lk P 0) i) := fun _ _ _ => rfl
  have hfn : ∀ i, i < 72 → i < nn → f (g.lk (g.lk P 2) i) = f (g.lk (g.lk P 2) i) := fun _ _ _ => rfl
  refine lv_iload_n hx hb d_NReader_readProgram_0 rfl (lv_at hl 1 rfl) ?_
  refine lv_bipush (v := nI 10) hx hb d_NReader_readProgram_1 (by decide) ?_
  refine lv_icmp_le (tgt := 8) hx hb d_NReader_readProgram_3 (by decide) (fun b1 => ?_) (fun b1 => ?_)
  · skip
    replace b1 := (nI_leI (a := d) (b := 10) (by omega) (by omega)).mp b1
    refine lv_iconst (v := nI 0) hx hb d_NReader_readProgram_8 (by decide) ?_
    refine lv_istore_n (lv' := [(2, .int (nI 0)), (0, .ref Rd), (1, .int (nI d))]) hx hb d_NReader_readProgram_9 rfl hl (by decide) rfl (fun ls hl => ?_)
    have lp2 : ∀ (k4 : Nat) (it : Nat) (a9 : Nat) (s9 : Nat) (n9 : Nat) (Fv : Nat) (t9 : List (Nat × Nat)) (f3 : Nat → va_E) (H : Heap) (locs : List Loc) (ls : Array Slot), (72 < it + k4) → (a9 ≤ ln) → (n9 + ax ≤ nn + a9) → (n9 ≤ 72) → (nn ≤ n9) → (sn ≤ s9) → (s9 ≤ 36) → (2 * s9 + ax ≤ 2 * sn + a9) → (2 * it + ax ≤ a9) → (it = 0 → s9 = sn) → (0 < it → sn < s9) → (Fv ≤ F + 1) → (2 * (ln - a9) + 2 ≤ Fv) → (px_s (tk hT ln) (F + 1) 1 d ax = px_s (tk hT ln) Fv 1 d a9) → (ox_s (tk hT ln) (vc hT ln) (F + 1) 1 d ax (sn + nn) = t9 ++ ox_s (tk hT ln) (vc hT ln) Fv 1 d a9 (s9 + n9)) → (∀ i, i < 36 → i < sn → f3 (g.lk (g.lk P 0) i) = f (g.lk (g.lk P 0) i)) → (∀ i, i < 72 → i < nn → f3 (g.lk (g.lk P 2) i) = f (g.lk (g.lk P 2) i)) → (SG g f3 P sn s9) → (it = 0 ∨ nj g f3 P sn) → (SRP g f3 P sn nn s9 n9 t9) → f3 Rd = .inr (7, [.ref tl, .int (nI ln), .int (nI a9), .ref P]) → f3 P = .inr (6, [.ref (g.lk P 0), .int (nI s9), .ref (g.lk P 2), .int (nI n9), .ref (g.lk P 4), .ref (g.lk P 5)]) → IV g f3 → un [6, 7, 8, 10] g f f3 → lv_has ls 3 [(2, .int (nI it)), (0, .ref Rd), (1, .int (nI d))] → va_P g.D vcl (va_pl g.LP f3) H → va_D (pc_A g s.heap.size) (va_pl g.LP f3) → va_S (pc_A g s.heap.size) s.heap H locs → W p l e ({ frames := 2 * (F + 1) + 410, cells := 0, slots := 0, locals := 60 * (F + 1) + 13000 }) s m args below meth c H locs 0 0 (MQ below (va_Qi (fun r f1 => ((∃ (a s1 n1 : Nat), a ≤ ln ∧ ax < a ∧ s1 ≤ 36 ∧ n1 ≤ 72 ∧ n1 + ax ≤ nn + a ∧ nn ≤ n1 ∧ sn < s1 ∧ 2 * s1 + ax ≤ 2 * sn + a ∧ px_s (tk hT ln) (F + 1) 1 d ax = some a ∧ f1 Rd = .inr (7, [.ref tl, .int (nI ln), .int (nI a), .ref P]) ∧ f1 P = .inr (6, [.ref (g.lk P 0), .int (nI s1), .ref (g.lk P 2), .int (nI n1), .ref (g.lk P 4), .ref (g.lk P 5)]) ∧ SG g f1 P sn s1 ∧ nj g f1 P sn ∧ SRP g f1 P sn nn s1 n1 (ox_s (tk hT ln) (vc hT ln) (F + 1) 1 d ax (sn + nn)) ∧ r = nI 1) ∨ (∃ (a s1 n1 : Nat), a ≤ ln ∧ s1 ≤ 36 ∧ n1 ≤ 72 ∧ px_s (tk hT ln) (F + 1) 1 d ax = none ∧ f1 Rd = .inr (7, [.ref tl, .int (nI ln), .int (nI a), .ref P]) ∧ f1 P = .inr (6, [.ref (g.lk P 0), .int (nI s1), .ref (g.lk P 2), .int (nI n1), .ref (g.lk P 4), .ref (g.lk P 5)]) ∧ r = nI 0)) ∧ (∀ i, i < 36 → i < sn → f1 (g.lk (g.lk P 0) i) = f (g.lk (g.lk P 0) i)) ∧ (∀ i, i < 72 → i < nn → f1 (g.lk (g.lk P 2) i) = f (g.lk (g.lk P 2) i)) ∧ (IV g f1) ∧ (un [6, 7, 8, 10] g f f1)) (pc_out g s.heap.size) (pc_A g s.heap.size)) args s 0 0 (pc_A g s.heap.size)) (F0 m 10 ls []) := by
      intro k4
      induction k4 with
      | zero => intros; exfalso; omega
      | succ k4 ih5 =>
        intro it a9 s9 n9 Fv t9 f3 H locs ls hfu6 ha9 hn9 hn92 hn93 hs91 hs92 hs93 hit hs0 hs1 hFv hFe hpx hox hfr hfn hSGa hnja hSRa e7 e8 hI9 hv10 hl hP hD hS
        have eT := hv10.at t_tl (by decide) eT
        have hu := hu.tr hv10 (by decide)
        obtain ⟨Fw, rfl⟩ : ∃ Fw, Fv = Fw + 1 := ⟨Fv - 1, by omega⟩
        have hfa : ∀ i, i < 36 → sn ≤ i ∧ i < s9 → f3 (g.lk (g.lk P 0) i) = f3 (g.lk (g.lk P 0) i) := fun _ _ _ => rfl
        have hna9 : ∀ i, i < 72 → i < n9 → f3 (g.lk (g.lk P 2) i) = f3 (g.lk (g.lk P 2) i) := fun _ _ _ => rfl
        refine lv_iload_n hx hb d_NReader_readProgram_10 rfl (lv_at hl 0 rfl) ?_
        refine lv_bipush (v := nI 72) hx hb d_NReader_readProgram_11 (by decide) ?_
        refine lv_icmp_ge (tgt := 43) hx hb d_NReader_readProgram_13 (by decide) (fun b11 => ?_) (fun b11 => ?_)
        · skip
          replace b11 := (nI_leI (a := 72) (b := it) (by omega) (by omega)).mp b11
          exfalso; omega
        · skip
          replace b11 := mt (nI_leI (a := 72) (b := it) (by omega) (by omega)).mpr b11
          refine lv_aload_n hx hb d_NReader_readProgram_16 rfl (lv_at hl 1 rfl) ?_
          refine lv_iload_n hx hb d_NReader_readProgram_17 rfl (lv_at hl 2 rfl) ?_
          refine pcc_i (va_runV (C := "BigRunner$Reader") (As := [.int (nI d)]) (rest := []) ⟨hx, hb, hml, hown, tb_nil⟩ ((ih Fw (by omega)).2 g H.size f3 Rd tl ln a9 P hT s9 n9 d hL t_Rd t_tl t_P hI9 e7 eT cT (by omega) (by omega) e8 (by omega) (by omega) (by omega) (by omega) (by omega) (by omega)) ⟨(callB_of 1 (tb_one (wd_468 hB _)) tb_good1 rfl rfl rfl (wd_73 hB _) (wd_465 hB _) (by decide +kernel) ⟨(show 2 * Fw + 410 + 1 ≤ 2 * (F + 1) + 410 by omega), (show 8 + (3 + 11) + (60 * Fw + 13000) ≤ 60 * (F + 1) + 13000 by omega)⟩), (wd_467 hB _), (wd_3 hB _)⟩ ⟨pe_bl, pg_recv (ci := 7) hK hP (lo_in hL t_Rd (by decide)) e7 rfl, pe_pre hB hK hP hD⟩ rfl rfl hl.1 rfl (lv_room (Nat.le_of_ble_eq_true rfl)) d_NReader_readProgram_18 ⟨Nat.le_of_ble_eq_true rfl, Nat.le_of_ble_eq_true rfl⟩) hS (fun r12 f13 H locs hq14 hP hD hS => ?_)
          obtain ⟨rs_15, fr_16, frn_17, hI1_18, hu1_19⟩ := hq14
          have hu := hu.tr hu1_19 (by decide)
          have hv10 := hv10.tr hu1_19 (by decide)
          have eT := hu1_19.at t_tl (by decide) eT
          have hfr : ∀ i, i < 36 → i < sn → f13 (g.lk (g.lk P 0) i) = f (g.lk (g.lk P 0) i) := fun i h1 h2 => (fr_16 i h1 (by omega)).trans (hfr i h1 h2)
          have hfa : ∀ i, i < 36 → sn ≤ i ∧ i < s9 → f13 (g.lk (g.lk P 0) i) = f3 (g.lk (g.lk P 0) i) := fun i h1 h2 => (fr_16 i h1 (by omega)).trans (hfa i h1 h2)
          have hfn : ∀ i, i < 72 → i < nn → f13 (g.lk (g.lk P 2) i) = f (g.lk (g.lk P 2) i) := fun i h1 h2 => (frn_17 i h1 (by omega)).trans (hfn i h1 h2)
          have hna9 : ∀ i, i < 72 → i < n9 → f13 (g.lk (g.lk P 2) i) = f3 (g.lk (g.lk P 2) i) := fun i h1 h2 => (frn_17 i h1 (by omega)).trans (hna9 i h1 h2)
          rcases rs_15 with ⟨a20, s21, n22, c29, c30, c31, c32, c33, c34, c35, c36, hp25, e23, e24, hsg26, hnj27, hsp28, rfl⟩ | ⟨a20, s21, n22, c29, c30, c31, hp25, e23, e24, rfl⟩
          · skip
            have hfb37 : ∀ i, i < 72 → i < n22 → f13 (g.lk (g.lk P 2) i) = f13 (g.lk (g.lk P 2) i) := fun _ _ _ => rfl
            have hfb : ∀ i, i < 36 → s9 ≤ i ∧ i < s21 → f13 (g.lk (g.lk P 0) i) = f13 (g.lk (g.lk P 0) i) := fun _ _ _ => rfl
            refine lv_if_ne (tgt := 26) hx hb d_NReader_readProgram_21 (by decide) (fun b38 => ?_) (fun b38 => ?_)
            · skip
              replace b38 := mt (nI_eq (a := 1) (b := 0) (by omega) (by omega)).mpr b38
              refine lv_aload_n hx hb d_NReader_readProgram_26 rfl (lv_at hl 1 rfl) ?_
              refine lv_bipush (v := nI 59) hx hb d_NReader_readProgram_27 (by decide) ?_
              refine pcc_i (va_runV (C := "BigRunner$Reader") (As := [.int (nI 59)]) (rest := []) ⟨hx, hb, hml, hown, tb_nil⟩ (c_accept l g H.size f13 Rd tl ln a20 P hT 59 hL t_Rd t_tl t_P hI1_18 e23 eT cT (by omega) (by omega) (by decide)) ⟨(callB_of 1 (tb_one (wd_472 hB _)) tb_good1 rfl rfl rfl (wd_73 hB _) (wd_469 hB _) (by decide +kernel) ⟨(show 2 ≤ 2 * (F + 1) + 410 by omega), (show 41 ≤ 60 * (F + 1) + 13000 by omega)⟩), (wd_471 hB _), (wd_4 hB _)⟩ ⟨pe_bl, pg_recv (ci := 7) hK hP (lo_in hL t_Rd (by decide)) e23 rfl, pe_pre hB hK hP hD⟩ rfl rfl hl.1 rfl (lv_room (Nat.le_of_ble_eq_true rfl)) d_NReader_readProgram_29 ⟨Nat.le_of_ble_eq_true rfl, Nat.le_of_ble_eq_true rfl⟩) hS (fun r39 f40 H locs hq41 hP hD hS => ?_)
              obtain ⟨bo_42, i0_43, i1_44, hI1_45, hu1_46⟩ := hq41
              have hu := hu.tr hu1_46 (by decide)
              have hv10 := hv10.tr hu1_46 (by decide)
              have eT := hu1_46.at t_tl (by decide) eT
              have e24 := hu1_46.at t_P (by decide) e24
              have hfr : ∀ i, i < 36 → i < sn → f40 (g.lk (g.lk P 0) i) = f (g.lk (g.lk P 0) i) := fun i h1 h2 => (hu1_46 _ (by rw [lo_e24 hL _ (lo_k7_0 hL _ t_P) i h1]; decide)).trans (hfr i h1 h2)
              have hfa : ∀ i, i < 36 → sn ≤ i ∧ i < s9 → f40 (g.lk (g.lk P 0) i) = f3 (g.lk (g.lk P 0) i) := fun i h1 h2 => (hu1_46 _ (by rw [lo_e24 hL _ (lo_k7_0 hL _ t_P) i h1]; decide)).trans (hfa i h1 h2)
              have hfb : ∀ i, i < 36 → s9 ≤ i ∧ i < s21 → f40 (g.lk (g.lk P 0) i) = f13 (g.lk (g.lk P 0) i) := fun i h1 h2 => (hu1_46 _ (by rw [lo_e24 hL _ (lo_k7_0 hL _ t_P) i h1]; decide)).trans (hfb i h1 h2)
              have hfn : ∀ i, i < 72 → i < nn → f40 (g.lk (g.lk P 2) i) = f (g.lk (g.lk P 2) i) := fun i h1 h2 => (hu1_46 _ (by rw [lo_e25 hL _ (lo_k7_2 hL _ t_P) i h1]; decide)).trans (hfn i h1 h2)
              have hna9 : ∀ i, i < 72 → i < n9 → f40 (g.lk (g.lk P 2) i) = f3 (g.lk (g.lk P 2) i) := fun i h1 h2 => (hu1_46 _ (by rw [lo_e25 hL _ (lo_k7_2 hL _ t_P) i h1]; decide)).trans (hna9 i h1 h2)
              have hfb37 : ∀ i, i < 72 → i < n22 → f40 (g.lk (g.lk P 2) i) = f13 (g.lk (g.lk P 2) i) := fun i h1 h2 => (hu1_46 _ (by rw [lo_e25 hL _ (lo_k7_2 hL _ t_P) i h1]; decide)).trans (hfb37 i h1 h2)
              refine lv_if_ne (tgt := 37) hx hb d_NReader_readProgram_32 (by decide) (fun b47 => ?_) (fun b47 => ?_)
              · skip
                have hr48 : r39 = nI 1 := (bl_1 bo_42 b47)
                have hi49 := i1_44 hr48
                obtain ⟨hc50, hl53, e51⟩ := hi49
                have hk52 : tk hT ln a20 = 16 := kc_16.mpr hc50
                refine lv_iinc (k := 0) (v := nI (it + 1)) (lv' := [(2, .int (nI (it + 1))), (0, .ref Rd), (1, .int (nI d))]) hx hb d_NReader_readProgram_37 hl rfl (by rw [nI_succ]; rfl) (by decide) rfl (fun ls hl => ?_)
                refine lv_goto (tgt := 10) hx hb d_NReader_readProgram_40 (by decide) ?_
                exact ih5 (it + 1) (a20 + 1) s21 n22 Fw (t9 ++ ox_s (tk hT ln) (vc hT ln) Fw 0 d a9 (s9 + n9)) f40 H locs ls (by omega) (by omega) (by omega) (by omega) (by omega) (by omega) (by omega) (by omega) (by omega) (fun z => absurd z (by omega)) (fun _ => by omega) (by omega) (by omega) (hpx.trans (by rw [px_s1, if_neg (by omega), hp25]; exact if_pos hk52)) (hox.trans (by rw [ox_s1, hp25, Option.getD_some, if_pos hk52, show s9 + n9 + (ox_s (tk hT ln) (vc hT ln) Fw 0 d a9 (s9 + n9)).length = s21 + n22 by have z := ren_len _ _ _ _ _ _ _ _ _ hsp28.1; omega, List.append_assoc])) hfr hfn (SG_app (b := s9) (by omega) (by omega) (SG_eq hSGa (fun i q1 q2 => hfa i (by omega) (by omega))) (SG_eq hsg26 (fun i q1 q2 => hfb i (by omega) (by omega)))) (Or.inr (by rcases Nat.eq_zero_or_pos it with z | z; exact nj_eq (by rw [← hs0 z]; exact hnj27) (hfb sn (by omega) (by have := hs0 z; omega)); exact nj_eq (hnja.resolve_left (by omega)) (hfa sn (by omega) (by omega)))) (SRP_app (SRP_eq hSRa (fun i q1 q2 => hfa i (by omega) (by omega)) (fun i q1 q2 => hna9 i (by omega) (by omega))) (SRP_eq hsp28 (fun i q1 q2 => hfb i (by omega) (by omega)) (fun i q1 q2 => hfb37 i (by omega) (by omega)))) e51 e24 hI1_45 hv10 hl hP hD hS
              · skip
                have hr54 : r39 = nI 0 := b47
                have hi55 := i0_43 hr54
                obtain ⟨hc56, e57⟩ := hi55
                have hk58 : tk hT ln a20 ≠ 16 := fun z => hc56 (kc_16.mp z)
                refine lv_iconst (v := nI 1) hx hb d_NReader_readProgram_35 (by decide) ?_
                exact pe_zret hx hb hr hlocks hK hP hD hS d_NReader_readProgram_36 rfl ⟨(Or.inl ⟨a20, s21, n22, by omega, by omega, by omega, by omega, by omega, by omega, by omega, by omega, (hpx.trans (by rw [px_s1, if_neg (by omega), hp25]; exact if_neg hk58)), e57, e24, (SG_app (b := s9) (by omega) (by omega) (SG_eq hSGa (fun i q1 q2 => hfa i (by omega) (by omega))) (SG_eq hsg26 (fun i q1 q2 => hfb i (by omega) (by omega)))), (by rcases Nat.eq_zero_or_pos it with z | z; exact nj_eq (by rw [← hs0 z]; exact hnj27) (hfb sn (by omega) (by have := hs0 z; omega)); exact nj_eq (hnja.resolve_left (by omega)) (hfa sn (by omega) (by omega))), (by rw [hox, ox_s1, hp25, Option.getD_some, if_neg hk58, List.append_nil]; exact (SRP_app (SRP_eq hSRa (fun i q1 q2 => hfa i (by omega) (by omega)) (fun i q1 q2 => hna9 i (by omega) (by omega))) (SRP_eq hsp28 (fun i q1 q2 => hfb i (by omega) (by omega)) (fun i q1 q2 => hfb37 i (by omega) (by omega))))), rfl⟩), hfr, hfn, hI1_45, hu⟩
            · skip
              replace b38 := (nI_eq (a := 1) (b := 0) (by omega) (by omega)).mp b38
              exfalso; omega
          · skip
            refine lv_if_ne (tgt := 26) hx hb d_NReader_readProgram_21 (by decide) (fun b59 => ?_) (fun b59 => ?_)
            · skip
              replace b59 := mt (nI_eq (a := 0) (b := 0) (by omega) (by omega)).mpr b59
              exfalso; omega
            · skip
              replace b59 := (nI_eq (a := 0) (b := 0) (by omega) (by omega)).mp b59
              refine lv_iconst (v := nI 0) hx hb d_NReader_readProgram_24 (by decide) ?_
              exact pe_zret hx hb hr hlocks hK hP hD hS d_NReader_readProgram_25 rfl ⟨(Or.inr ⟨a20, s21, n22, by omega, by omega, by omega, (hpx.trans (by rw [px_s1, if_neg (by omega), hp25]; rfl)), e23, e24, rfl⟩), hfr, hfn, hI1_18, hu⟩
    exact lp2 73 0 ax sn nn (F + 1) ([]) f s.heap [] ls (by omega) (by omega) (by omega) (by omega) (by omega) (by omega) (by omega) (by omega) (by omega) (fun _ => rfl) (fun z => absurd z (by omega)) (by omega) (by omega) rfl rfl hfr hfn SG_nil (Or.inl rfl) SRP_nil eR eP hI un.rf hl hP hD hS
  · skip
    replace b1 := mt (nI_leI (a := d) (b := 10) (by omega) (by omega)).mpr b1
    refine lv_iconst (v := nI 0) hx hb d_NReader_readProgram_6 (by decide) ?_
    exact pe_zret hx hb hr hlocks hK hP hD hS d_NReader_readProgram_7 rfl ⟨(Or.inr ⟨ax, sn, nn, by omega, by omega, by omega, (by rw [px_s1, if_pos (by omega)]), eR, eP, rfl⟩), hfr, hfn, hI, hu⟩
theorem rs2_all (l : Launch) : ∀ F, ∀ F', F' ≤ F → RG2 l F' ∧ RS2 l F' := by
  intro F
  induction F with
  | zero =>
    intro F' h
    obtain rfl : F' = 0 := by omega
    refine ⟨?_, ?_⟩
    · unfold RG2; intros; exfalso; omega
    · unfold RS2; intros; exfalso; omega
  | succ F ih =>
    intro F' h
    rcases Nat.lt_or_ge F' (F + 1) with q | q
    · exact ih F' (by omega)
    · obtain rfl : F' = F + 1 := by omega
      exact ⟨rg2_step l F ih, rs2_step l F ih⟩
set_option maxHeartbeats 4000000 in
set_option maxRecDepth 100000 in
theorem c2_readProgram (l : Launch) (g : Lay) (sz : Nat) (f : Nat → va_E) (Rd : Nat) (tl : Nat) (ln : Nat) (ax : Nat) (P : Nat) (hT : Nat → Int32) (sn : Nat) (nn : Nat) (d : Nat) (hL : LO g) (t_Rd : g.tg Rd = 8) (t_tl : g.tg tl = 20) (t_P : g.tg P = 7) (hI : IV g f) (eR : f Rd = .inr (7, [.ref tl, .int (nI ln), .int (nI ax), .ref P])) (eT : f tl = .inl (g.ac tl, 72, .inl hT)) (cT : ∀ i, i < 72 → vp_nar .char (hT i) = hT i) (hln : ln ≤ 72) (hax : ax ≤ ln) (eP : f P = .inr (6, [.ref (g.lk P 0), .int (nI sn), .ref (g.lk P 2), .int (nI nn), .ref (g.lk P 4), .ref (g.lk P 5)])) (hsn : sn ≤ 36) (hnn : nn ≤ 72) (hna : nn ≤ ax) (h2s : 2 * sn ≤ ax) (hd : d ≤ 11) : Met l ⟨"BigRunner$Reader", "readProgram", "(I)Z"⟩ [Cond.code ⟨"BigRunner$Reader", "readProgram", "(I)Z"⟩ prog_8_method_5_code 3 (some .boolean)] ({ frames := 1210, cells := 0, slots := 0, locals := 37000 }) (va_Pc [.ref Rd, .int (nI d)] (pc_in g sz f)) (va_Qi (fun r f1 => ((∃ (a s1 n1 : Nat), a ≤ ln ∧ ax < a ∧ s1 ≤ 36 ∧ n1 ≤ 72 ∧ n1 + ax ≤ nn + a ∧ nn ≤ n1 ∧ sn < s1 ∧ 2 * s1 + ax ≤ 2 * sn + a ∧ px_s (tk hT ln) 400 1 d ax = some a ∧ f1 Rd = .inr (7, [.ref tl, .int (nI ln), .int (nI a), .ref P]) ∧ f1 P = .inr (6, [.ref (g.lk P 0), .int (nI s1), .ref (g.lk P 2), .int (nI n1), .ref (g.lk P 4), .ref (g.lk P 5)]) ∧ SG g f1 P sn s1 ∧ nj g f1 P sn ∧ SRP g f1 P sn nn s1 n1 (ox_s (tk hT ln) (vc hT ln) 400 1 d ax (sn + nn)) ∧ r = nI 1) ∨ (∃ (a s1 n1 : Nat), a ≤ ln ∧ s1 ≤ 36 ∧ n1 ≤ 72 ∧ px_s (tk hT ln) 400 1 d ax = none ∧ f1 Rd = .inr (7, [.ref tl, .int (nI ln), .int (nI a), .ref P]) ∧ f1 P = .inr (6, [.ref (g.lk P 0), .int (nI s1), .ref (g.lk P 2), .int (nI n1), .ref (g.lk P 4), .ref (g.lk P 5)]) ∧ r = nI 0)) ∧ (∀ i, i < 36 → i < sn → f1 (g.lk (g.lk P 0) i) = f (g.lk (g.lk P 0) i)) ∧ (∀ i, i < 72 → i < nn → f1 (g.lk (g.lk P 2) i) = f (g.lk (g.lk P 2) i)) ∧ (IV g f1) ∧ (un [6, 7, 8, 10] g f f1)) (pc_out g sz) (pc_A g sz)) 0 0 (pc_A g sz) := (rs2_all l 400 400 (Nat.le_refl 400)).1 g sz f Rd tl ln ax P hT sn nn d hL t_Rd t_tl t_P hI eR eT cT hln hax eP hsn hnn hna h2s hd (by omega)
