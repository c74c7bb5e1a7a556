def RF2 (l : Launch) (F : Nat) : Prop := ∀ (g : Lay) (sz : Nat) (f : Nat → va_E) (Rd : Nat) (tl : Nat) (ln : Nat) (ax : Nat) (P : Nat) (hT : Nat → Int32) (sn : Nat) (nn : Nat) (d : Nat) (hL : LO g) (t_Rd : g.tg Rd = 8) (t_tl : g.tg tl = 20) (t_P : g.tg P = 7) (hI : IV g f) (eR : f Rd = .inr (7, [.ref tl, .int (nI ln), .int (nI ax), .ref P])) (eT : f tl = .inl (g.ac tl, 72, .inl hT)) (cT : ∀ i, i < 72 → vp_nar .char (hT i) = hT i) (hln : ln ≤ 72) (hax : ax ≤ ln) (eP : f P = .inr (6, [.ref (g.lk P 0), .int (nI sn), .ref (g.lk P 2), .int (nI nn), .ref (g.lk P 4), .ref (g.lk P 5)])) (hsn : sn ≤ 36) (hnn : nn ≤ 72) (hna : nn ≤ ax) (hd : d ≤ 11) (hF : 5 * (ln - ax) + 1 ≤ F), Met l ⟨"BigRunner$Reader", "readFactor", "(I)I"⟩ [Cond.code ⟨"BigRunner$Reader", "readFactor", "(I)I"⟩ prog_8_method_13_code 3 (some .int)] ({ frames := F + 3, cells := 0, slots := 0, locals := 30 * F + 200 }) (va_Pc [.ref Rd, .int (nI d)] (pc_in g sz f)) (va_Qi (fun r f1 => ((∃ (a n1 j : Nat), a ≤ ln ∧ n1 ≤ 72 ∧ j + 1 = n1 ∧ n1 + ax ≤ nn + a ∧ ax < a ∧ n1 = nn + (ox_e (tk hT ln) (vc hT ln) F 0 d ax).length ∧ px_e (tk hT ln) F 0 d ax = some a ∧ f1 Rd = .inr (7, [.ref tl, .int (nI ln), .int (nI a), .ref P]) ∧ f1 P = .inr (6, [.ref (g.lk P 0), .int (nI sn), .ref (g.lk P 2), .int (nI n1), .ref (g.lk P 4), .ref (g.lk P 5)]) ∧ XR g f1 P nn (ox_e (tk hT ln) (vc hT ln) F 0 d ax) ∧ r = nI j) ∨ (∃ (a n1 : Nat), a ≤ ln ∧ n1 ≤ 72 ∧ px_e (tk hT ln) F 0 d ax = none ∧ f1 Rd = .inr (7, [.ref tl, .int (nI ln), .int (nI a), .ref P]) ∧ f1 P = .inr (6, [.ref (g.lk P 0), .int (nI sn), .ref (g.lk P 2), .int (nI n1), .ref (g.lk P 4), .ref (g.lk P 5)]) ∧ r = (-1))) ∧ (∀ i, i < 72 → i < nn → f1 (g.lk (g.lk P 2) i) = f (g.lk (g.lk P 2) i)) ∧ (IV g f1) ∧ (un [6, 7, 8] g f f1)) (pc_out g sz) (pc_A g sz)) 0 0 (pc_A g sz)
def RE2 (l : Launch) (F : Nat) : Prop := ∀ (g : Lay) (sz : Nat) (f : Nat → va_E) (Rd : Nat) (tl : Nat) (ln : Nat) (ax : Nat) (P : Nat) (hT : Nat → Int32) (sn : Nat) (nn : Nat) (d : Nat) (hL : LO g) (t_Rd : g.tg Rd = 8) (t_tl : g.tg tl = 20) (t_P : g.tg P = 7) (hI : IV g f) (eR : f Rd = .inr (7, [.ref tl, .int (nI ln), .int (nI ax), .ref P])) (eT : f tl = .inl (g.ac tl, 72, .inl hT)) (cT : ∀ i, i < 72 → vp_nar .char (hT i) = hT i) (hln : ln ≤ 72) (hax : ax ≤ ln) (eP : f P = .inr (6, [.ref (g.lk P 0), .int (nI sn), .ref (g.lk P 2), .int (nI nn), .ref (g.lk P 4), .ref (g.lk P 5)])) (hsn : sn ≤ 36) (hnn : nn ≤ 72) (hna : nn ≤ ax) (hd : d ≤ 11) (hF : 5 * (ln - ax) + 3 ≤ F), Met l ⟨"BigRunner$Reader", "readExpr", "(I)I"⟩ [Cond.code ⟨"BigRunner$Reader", "readExpr", "(I)I"⟩ prog_8_method_11_code 4 (some .int)] ({ frames := F + 3, cells := 0, slots := 0, locals := 30 * F + 200 }) (va_Pc [.ref Rd, .int (nI d)] (pc_in g sz f)) (va_Qi (fun r f1 => ((∃ (a n1 j : Nat), a ≤ ln ∧ n1 ≤ 72 ∧ j + 1 = n1 ∧ n1 + ax ≤ nn + a ∧ ax < a ∧ n1 = nn + (ox_e (tk hT ln) (vc hT ln) F 1 d ax).length ∧ px_e (tk hT ln) F 1 d ax = some a ∧ f1 Rd = .inr (7, [.ref tl, .int (nI ln), .int (nI a), .ref P]) ∧ f1 P = .inr (6, [.ref (g.lk P 0), .int (nI sn), .ref (g.lk P 2), .int (nI n1), .ref (g.lk P 4), .ref (g.lk P 5)]) ∧ XR g f1 P nn (ox_e (tk hT ln) (vc hT ln) F 1 d ax) ∧ r = nI j) ∨ (∃ (a n1 : Nat), a ≤ ln ∧ n1 ≤ 72 ∧ px_e (tk hT ln) F 1 d ax = none ∧ f1 Rd = .inr (7, [.ref tl, .int (nI ln), .int (nI a), .ref P]) ∧ f1 P = .inr (6, [.ref (g.lk P 0), .int (nI sn), .ref (g.lk P 2), .int (nI n1), .ref (g.lk P 4), .ref (g.lk P 5)]) ∧ r = (-1))) ∧ (∀ i, i < 72 → i < nn → f1 (g.lk (g.lk P 2) i) = f (g.lk (g.lk P 2) i)) ∧ (IV g f1) ∧ (un [6, 7, 8] g f f1)) (pc_out g sz) (pc_A g sz)) 0 0 (pc_A g sz)
def RT2 (l : Launch) (F : Nat) : Prop := ∀ (g : Lay) (sz : Nat) (f : Nat → va_E) (Rd : Nat) (tl : Nat) (ln : Nat) (ax : Nat) (P : Nat) (hT : Nat → Int32) (sn : Nat) (nn : Nat) (d : Nat) (hL : LO g) (t_Rd : g.tg Rd = 8) (t_tl : g.tg tl = 20) (t_P : g.tg P = 7) (hI : IV g f) (eR : f Rd = .inr (7, [.ref tl, .int (nI ln), .int (nI ax), .ref P])) (eT : f tl = .inl (g.ac tl, 72, .inl hT)) (cT : ∀ i, i < 72 → vp_nar .char (hT i) = hT i) (hln : ln ≤ 72) (hax : ax ≤ ln) (eP : f P = .inr (6, [.ref (g.lk P 0), .int (nI sn), .ref (g.lk P 2), .int (nI nn), .ref (g.lk P 4), .ref (g.lk P 5)])) (hsn : sn ≤ 36) (hnn : nn ≤ 72) (hna : nn ≤ ax) (hd : d ≤ 11) (hF : 5 * (ln - ax) + 2 ≤ F), Met l ⟨"BigRunner$Reader", "readTerm", "(I)I"⟩ [Cond.code ⟨"BigRunner$Reader", "readTerm", "(I)I"⟩ prog_8_method_12_code 4 (some .int)] ({ frames := F + 3, cells := 0, slots := 0, locals := 30 * F + 200 }) (va_Pc [.ref Rd, .int (nI d)] (pc_in g sz f)) (va_Qi (fun r f1 => ((∃ (a n1 j : Nat), a ≤ ln ∧ n1 ≤ 72 ∧ j + 1 = n1 ∧ n1 + ax ≤ nn + a ∧ ax < a ∧ n1 = nn + (ox_e (tk hT ln) (vc hT ln) F 2 d ax).length ∧ px_e (tk hT ln) F 2 d ax = some a ∧ f1 Rd = .inr (7, [.ref tl, .int (nI ln), .int (nI a), .ref P]) ∧ f1 P = .inr (6, [.ref (g.lk P 0), .int (nI sn), .ref (g.lk P 2), .int (nI n1), .ref (g.lk P 4), .ref (g.lk P 5)]) ∧ XR g f1 P nn (ox_e (tk hT ln) (vc hT ln) F 2 d ax) ∧ r = nI j) ∨ (∃ (a n1 : Nat), a ≤ ln ∧ n1 ≤ 72 ∧ px_e (tk hT ln) F 2 d ax = none ∧ f1 Rd = .inr (7, [.ref tl, .int (nI ln), .int (nI a), .ref P]) ∧ f1 P = .inr (6, [.ref (g.lk P 0), .int (nI sn), .ref (g.lk P 2), .int (nI n1), .ref (g.lk P 4), .ref (g.lk P 5)]) ∧ r = (-1))) ∧ (∀ i, i < 72 → i < nn → f1 (g.lk (g.lk P 2) i) = f (g.lk (g.lk P 2) i)) ∧ (IV g f1) ∧ (un [6, 7, 8] g f f1)) (pc_out g sz) (pc_A g sz)) 0 0 (pc_A g sz)
set_option maxHeartbeats 4000000 in
set_option maxRecDepth 100000 in
theorem rf2_step (l : Launch) (F : Nat) (ih : ∀ F', F' ≤ F → RF2 l F' ∧ RE2 l F' ∧ RT2 l F') : RF2 l (F + 1) := by
  intro g sz f Rd tl ln ax P hT sn nn d hL t_Rd t_tl t_P hI eR eT cT hln hax eP hsn hnn hna hd hF
  refine pe_ofW (cc := prog_8_method_13_code) (maxL := 3) (ret := (some .int)) (lv := [(0, .ref Rd), (1, .int (nI d))]) (by decide) (Nat.le_of_ble_eq_true rfl) rfl ?_
  intro p e s m args below meth c ls hx hb hr hml hlocks hown hB hP hK hD hsz hS hl
  subst hsz
  have hu : un [6, 7, 8] g f f := un.rf
  have hfn : ∀ i, i < 72 → i < nn → f (g.lk (g.lk P 2) i) = f (g.lk (g.lk P 2) i) := fun _ _ _ => rfl
  refine lv_iload_n hx hb d_NReader_readFactor_0 rfl (lv_at hl 1 rfl) ?_
  refine lv_bipush (v := nI 10) hx hb d_NReader_readFactor_1 (by decide) ?_
  refine lv_icmp_le (tgt := 8) hx hb d_NReader_readFactor_3 (by decide) (fun b1 => ?_) (fun b1 => ?_)
  · skip
    replace b1 := (nI_leI (a := d) (b := 10) (by omega) (by omega)).mp b1
    refine lv_aload_n hx hb d_NReader_readFactor_8 rfl (lv_at hl 0 rfl) ?_
    refine lv_bipush (v := nI 45) hx hb d_NReader_readFactor_9 (by decide) ?_
    refine pcc_i (va_runV (C := "BigRunner$Reader") (As := [.int (nI 45)]) (rest := []) ⟨hx, hb, hml, hown, tb_nil⟩ (c_accept l g s.heap.size f Rd tl ln ax P hT 45 hL t_Rd t_tl t_P hI eR eT cT (by omega) (by omega) (by decide)) ⟨(callB_of 1 (tb_one (wd_472 hB _)) tb_good1 rfl rfl rfl (wd_73 hB _) (wd_469 hB _) (by decide +kernel) ⟨(show 2 ≤ (F + 1) + 3 by omega), (show 41 ≤ 30 * (F + 1) + 200 by omega)⟩), (wd_471 hB _), (wd_4 hB _)⟩ ⟨pe_bl, pg_recv (ci := 7) hK hP (lo_in hL t_Rd (by decide)) eR rfl, pe_pre hB hK hP hD⟩ rfl rfl hl.1 rfl (lv_room (Nat.le_of_ble_eq_true rfl)) d_NReader_readFactor_11 ⟨Nat.le_of_ble_eq_true rfl, Nat.le_of_ble_eq_true rfl⟩) hS (fun r2 f3 H locs hq4 hP hD hS => ?_)
    obtain ⟨bo_5, i0_6, i1_7, hI1_8, hu1_9⟩ := hq4
    have hu := hu.tr hu1_9 (by decide)
    have eT := hu1_9.at t_tl (by decide) eT
    have eP := hu1_9.at t_P (by decide) eP
    have hfn : ∀ i, i < 72 → i < nn → f3 (g.lk (g.lk P 2) i) = f (g.lk (g.lk P 2) i) := fun i h1 h2 => (hu1_9 _ (by rw [lo_e25 hL _ (lo_k7_2 hL _ t_P) i h1]; decide)).trans (hfn i h1 h2)
    refine lv_if_eq (tgt := 33) hx hb d_NReader_readFactor_14 (by decide) (fun b10 => ?_) (fun b10 => ?_)
    · skip
      have hr11 : r2 = nI 0 := b10
      have hi12 := i0_6 hr11
      obtain ⟨hc13, e14⟩ := hi12
      have hk15 : tk hT ln ax ≠ 2 := fun z => hc13 (kc_2.mp z)
      refine lv_aload_n hx hb d_NReader_readFactor_33 rfl (lv_at hl 0 rfl) ?_
      refine lv_bipush (v := nI 40) hx hb d_NReader_readFactor_34 (by decide) ?_
      refine pcc_i (va_runV (C := "BigRunner$Reader") (As := [.int (nI 40)]) (rest := []) ⟨hx, hb, hml, hown, tb_nil⟩ (c_accept l g H.size f3 Rd tl ln ax P hT 40 hL t_Rd t_tl t_P hI1_8 e14 eT cT (by omega) (by omega) (by decide)) ⟨(callB_of 1 (tb_one (wd_472 hB _)) tb_good1 rfl rfl rfl (wd_73 hB _) (wd_469 hB _) (by decide +kernel) ⟨(show 2 ≤ (F + 1) + 3 by omega), (show 41 ≤ 30 * (F + 1) + 200 by omega)⟩), (wd_471 hB _), (wd_4 hB _)⟩ ⟨pe_bl, pg_recv (ci := 7) hK hP (lo_in hL t_Rd (by decide)) e14 rfl, pe_pre hB hK hP hD⟩ rfl rfl hl.1 rfl (lv_room (Nat.le_of_ble_eq_true rfl)) d_NReader_readFactor_36 ⟨Nat.le_of_ble_eq_true rfl, Nat.le_of_ble_eq_true rfl⟩) hS (fun r16 f17 H locs hq18 hP hD hS => ?_)
      obtain ⟨bo_19, i0_20, i1_21, hI1_22, hu1_23⟩ := hq18
      have hu := hu.tr hu1_23 (by decide)
      have eT := hu1_23.at t_tl (by decide) eT
      have eP := hu1_23.at t_P (by decide) eP
      have hfn : ∀ i, i < 72 → i < nn → f17 (g.lk (g.lk P 2) i) = f (g.lk (g.lk P 2) i) := fun i h1 h2 => (hu1_23 _ (by rw [lo_e25 hL _ (lo_k7_2 hL _ t_P) i h1]; decide)).trans (hfn i h1 h2)
      refine lv_if_eq (tgt := 65) hx hb d_NReader_readFactor_39 (by decide) (fun b24 => ?_) (fun b24 => ?_)
      · skip
        have hr25 : r16 = nI 0 := b24
        have hi26 := i0_20 hr25
        obtain ⟨hc27, e28⟩ := hi26
        have hk29 : tk hT ln ax ≠ 4 := fun z => hc27 (kc_4.mp z)
        refine lv_aload_n hx hb d_NReader_readFactor_65 rfl (lv_at hl 0 rfl) ?_
        refine pcc_i (va_runV (C := "BigRunner$Reader") (As := []) (rest := []) ⟨hx, hb, hml, hown, tb_nil⟩ (c_next l g H.size f17 Rd tl ln ax P hT hL t_Rd t_tl t_P hI1_22.1 e28 eT cT (by omega) (by omega)) ⟨(callB_of 0 (tb_one (wd_476 hB _)) tb_good1 rfl rfl rfl (wd_73 hB _) (wd_473 hB _) (by decide +kernel) ⟨(show 1 ≤ (F + 1) + 3 by omega), (show 20 ≤ 30 * (F + 1) + 200 by omega)⟩), (wd_475 hB _), (wd_5 hB _)⟩ ⟨pe_bl, pg_recv (ci := 7) hK hP (lo_in hL t_Rd (by decide)) e28 rfl, pe_pre hB hK hP hD⟩ rfl rfl hl.1 rfl (lv_room (Nat.le_of_ble_eq_true rfl)) d_NReader_readFactor_66 ⟨Nat.le_of_ble_eq_true rfl, Nat.le_of_ble_eq_true rfl⟩) hS (fun r30 f31 H locs hq32 hP hD hS => ?_)
        obtain ⟨nx_33, rfl⟩ := hq32
        subst nx_33
        refine lv_istore_n (lv' := [(2, .int (nx hT ln ax)), (0, .ref Rd), (1, .int (nI d))]) hx hb d_NReader_readFactor_69 rfl hl (by decide) rfl (fun ls hl => ?_)
        refine lv_iload_n hx hb d_NReader_readFactor_70 rfl (lv_at hl 0 rfl) ?_
        refine lv_bipush (v := nI 97) hx hb d_NReader_readFactor_71 (by decide) ?_
        refine lv_icmp_lt (tgt := 103) hx hb d_NReader_readFactor_73 (by decide) (fun b34 => ?_) (fun b34 => ?_)
        · skip
          have hk6 : tk hT ln ax ≠ 6 := fun z => absurd (kc_6.mp z).1 (Int32.not_le.mpr b34)
          refine lv_aload_n hx hb d_NReader_readFactor_103 rfl (lv_at hl 1 rfl) ?_
          refine pcc_i (va_runV (C := "BigRunner$Reader") (As := []) (rest := []) ⟨hx, hb, hml, hown, tb_nil⟩ (c2_readNumber l g H.size f17 Rd tl ln ax P hT sn nn hL t_Rd t_tl t_P hI1_22 e28 eT cT (by omega) (by omega) eP (by omega) (by omega) (by omega)) ⟨(callB_of 0 (tb_one (wd_508 hB _)) tb_good1 rfl rfl rfl (wd_73 hB _) (wd_505 hB _) (by decide +kernel) ⟨(show 2 ≤ (F + 1) + 3 by omega), (show 47 ≤ 30 * (F + 1) + 200 by omega)⟩), (wd_507 hB _), (wd_13 hB _)⟩ ⟨pe_bl, pg_recv (ci := 7) hK hP (lo_in hL t_Rd (by decide)) e28 rfl, pe_pre hB hK hP hD⟩ rfl rfl hl.1 rfl (lv_room (Nat.le_of_ble_eq_true rfl)) d_NReader_readFactor_104 ⟨Nat.le_of_ble_eq_true rfl, Nat.le_of_ble_eq_true rfl⟩) hS (fun r35 f36 H locs hq37 hP hD hS => ?_)
          obtain ⟨rs_38, frn_39, hI1_40, hu1_41⟩ := hq37
          have hu := hu.tr hu1_41 (by decide)
          have eT := hu1_41.at t_tl (by decide) eT
          have hfn : ∀ i, i < 72 → i < nn → f36 (g.lk (g.lk P 2) i) = f (g.lk (g.lk P 2) i) := fun i h1 h2 => (frn_39 i h1 (by omega)).trans (hfn i h1 h2)
          rcases rs_38 with ⟨a42, n43, j44, c49, c50, c51, c52, c53, c54, hp47, e45, e46, hx_48, rfl⟩ | ⟨a42, n43, c49, c50, hp47, e45, e46, rfl⟩
          · skip
            have hfb55 : ∀ i, i < 72 → i < n43 → f36 (g.lk (g.lk P 2) i) = f36 (g.lk (g.lk P 2) i) := fun _ _ _ => rfl
            exact pe_iret hx hb hr hlocks hK hP hD hS d_NReader_readFactor_107 ⟨(Or.inl ⟨a42, n43, j44, by omega, by omega, by omega, by omega, by omega, (by rw [ox_e0, if_neg hk15, if_neg hk29, if_neg hk6]; exact c54), (by rw [px_e0, if_neg (by omega), if_neg hk15, if_neg hk29, if_neg hk6]; exact hp47), e45, e46, (by rw [ox_e0, if_neg hk15, if_neg hk29, if_neg hk6]; exact (XR_eq hx_48 (fun i q1 q2 => hfb55 i (by omega) (by omega)))), rfl⟩), hfn, hI1_40, hu⟩
          · skip
            exact pe_iret hx hb hr hlocks hK hP hD hS d_NReader_readFactor_107 ⟨(Or.inr ⟨a42, n43, by omega, by omega, (by rw [px_e0, if_neg (by omega), if_neg hk15, if_neg hk29, if_neg hk6]; exact hp47), e45, e46, rfl⟩), hfn, hI1_40, hu⟩
        · skip
          refine lv_iload_n hx hb d_NReader_readFactor_76 rfl (lv_at hl 0 rfl) ?_
          refine lv_bipush (v := nI 107) hx hb d_NReader_readFactor_77 (by decide) ?_
          refine lv_icmp_ge (tgt := 103) hx hb d_NReader_readFactor_79 (by decide) (fun b56 => ?_) (fun b56 => ?_)
          · skip
            have hk6 : tk hT ln ax ≠ 6 := fun z => absurd (kc_6.mp z).2 (Int32.not_lt.mpr b56)
            refine lv_aload_n hx hb d_NReader_readFactor_103 rfl (lv_at hl 1 rfl) ?_
            refine pcc_i (va_runV (C := "BigRunner$Reader") (As := []) (rest := []) ⟨hx, hb, hml, hown, tb_nil⟩ (c2_readNumber l g H.size f17 Rd tl ln ax P hT sn nn hL t_Rd t_tl t_P hI1_22 e28 eT cT (by omega) (by omega) eP (by omega) (by omega) (by omega)) ⟨(callB_of 0 (tb_one (wd_508 hB _)) tb_good1 rfl rfl rfl (wd_73 hB _) (wd_505 hB _) (by decide +kernel) ⟨(show 2 ≤ (F + 1) + 3 by omega), (show 47 ≤ 30 * (F + 1) + 200 by omega)⟩), (wd_507 hB _), (wd_13 hB _)⟩ ⟨pe_bl, pg_recv (ci := 7) hK hP (lo_in hL t_Rd (by decide)) e28 rfl, pe_pre hB hK hP hD⟩ rfl rfl hl.1 rfl (lv_room (Nat.le_of_ble_eq_true rfl)) d_NReader_readFactor_104 ⟨Nat.le_of_ble_eq_true rfl, Nat.le_of_ble_eq_true rfl⟩) hS (fun r57 f58 H locs hq59 hP hD hS => ?_)
            obtain ⟨rs_60, frn_61, hI1_62, hu1_63⟩ := hq59
            have hu := hu.tr hu1_63 (by decide)
            have eT := hu1_63.at t_tl (by decide) eT
            have hfn : ∀ i, i < 72 → i < nn → f58 (g.lk (g.lk P 2) i) = f (g.lk (g.lk P 2) i) := fun i h1 h2 => (frn_61 i h1 (by omega)).trans (hfn i h1 h2)
            rcases rs_60 with ⟨a64, n65, j66, c71, c72, c73, c74, c75, c76, hp69, e67, e68, hx_70, rfl⟩ | ⟨a64, n65, c71, c72, hp69, e67, e68, rfl⟩
            · skip
              have hfb77 : ∀ i, i < 72 → i < n65 → f58 (g.lk (g.lk P 2) i) = f58 (g.lk (g.lk P 2) i) := fun _ _ _ => rfl
              exact pe_iret hx hb hr hlocks hK hP hD hS d_NReader_readFactor_107 ⟨(Or.inl ⟨a64, n65, j66, by omega, by omega, by omega, by omega, by omega, (by rw [ox_e0, if_neg hk15, if_neg hk29, if_neg hk6]; exact c76), (by rw [px_e0, if_neg (by omega), if_neg hk15, if_neg hk29, if_neg hk6]; exact hp69), e67, e68, (by rw [ox_e0, if_neg hk15, if_neg hk29, if_neg hk6]; exact (XR_eq hx_70 (fun i q1 q2 => hfb77 i (by omega) (by omega)))), rfl⟩), hfn, hI1_62, hu⟩
            · skip
              exact pe_iret hx hb hr hlocks hK hP hD hS d_NReader_readFactor_107 ⟨(Or.inr ⟨a64, n65, by omega, by omega, (by rw [px_e0, if_neg (by omega), if_neg hk15, if_neg hk29, if_neg hk6]; exact hp69), e67, e68, rfl⟩), hfn, hI1_62, hu⟩
          · skip
            have h97 : nI 97 ≤ nx hT ln ax := Int32.not_lt.mp b34
            have h107 : nx hT ln ax < nI 107 := Int32.not_le.mp b56
            have hl9 : ax < ln := nx_lt h97
            have hk6 : tk hT ln ax = 6 := kc_6.mpr ⟨h97, h107⟩
            obtain ⟨vn, hvn, qvn⟩ := nm_of h97 h107
            refine lv_aload_n hx hb d_NReader_readFactor_82 rfl (lv_at hl 1 rfl) ?_
            refine lv_dup hx hb d_NReader_readFactor_83 rfl ?_
            refine pf_get (v := .int (nI ax)) (C := "BigRunner$Reader") (T := FT7) (N := 4) hx hb (hw7 hB _) (fun _ h9 => h9) hown hK hP (lo_in hL t_Rd (by decide)) e28 rfl 2 (by decide) (wd_272 hB _) rfl d_NReader_readFactor_84 ?_
            refine lv_iconst (v := nI 1) hx hb d_NReader_readFactor_87 (by decide) ?_
            refine pf_iaddN (x := ax) (y := 1) hx hb d_NReader_readFactor_88 ?_
            refine pf_put (v := .int (nI (ax + 1))) (ty := .int) (fs' := [.ref tl, .int (nI ln), .int (nI (ax + 1)), .ref P]) (C := "BigRunner$Reader") (T := FT7) (N := 4) hx hb (hw7 hB _) (fun _ h9 => h9) TY7 ok7 nm7 hown hK hP hD hS (lo_in hL t_Rd (by decide)) e28 rfl 2 (by decide) (wd_272 hB _) rfl (by decide +kernel) rfl rfl (Nat.le_of_ble_eq_true rfl) rfl d_NReader_readFactor_89 (fun f78 H locs e79 k80 hP hD hS => ?_)
            have eT := (k80 tl (tg_ne t_tl t_Rd (by decide))).trans eT
            have eP := (k80 P (tg_ne t_P t_Rd (by decide))).trans eP
            have hu := hu.st k80 t_Rd (by decide)
            have hk81 : ∀ b, b ≠ Rd → f78 b = f17 b := k80
            have hfn : ∀ i, i < 72 → i < nn → f78 (g.lk (g.lk P 2) i) = f (g.lk (g.lk P 2) i) := fun i h1 h2 => (k80 _ (tg_ne (lo_e25 hL _ (lo_k7_2 hL _ t_P) _ h1) t_Rd (by decide))).trans (hfn i h1 h2)
            refine lv_aload_n hx hb d_NReader_readFactor_92 rfl (lv_at hl 1 rfl) ?_
            refine lv_iconst (v := nI 1) hx hb d_NReader_readFactor_93 (by decide) ?_
            refine lv_iload_n hx hb d_NReader_readFactor_94 rfl (lv_at hl 0 rfl) ?_
            refine lv_bipush (v := nI 97) hx hb d_NReader_readFactor_95 (by decide) ?_
            refine lv_isub hx hb d_NReader_readFactor_97 ?_
            refine lv_topi (fun z_ hz_ => ?_)
            obtain rfl : z_ = nI vn := hz_.trans qvn
            refine lv_iconst (v := nI 0) hx hb d_NReader_readFactor_98 (by decide) ?_
            have hI82 := iv_1 hI1_22 hL t_Rd (by decide) hk81 (oc_8.mk t_Rd (⟨(.ref tl), ln, (ax + 1), P, e79, (by omega), (by omega), t_P⟩))
            refine pcc_i (va_runV (C := "BigRunner$Reader") (As := [.int (nI 1), .int (nI vn), .int (nI 0)]) (rest := []) ⟨hx, hb, hml, hown, tb_nil⟩ (c2_addOp l g H.size f78 Rd tl ln ((ax + 1)) P hT sn nn 1 vn 0 hL t_Rd t_tl t_P hI82 e79 eT cT (by omega) (by omega) eP (by omega) (by omega) (by omega) (by omega) (by omega) (by omega) (by omega) (by omega)) ⟨(callB_of 3 (tb_one (wd_504 hB _)) tb_good1 rfl rfl rfl (wd_73 hB _) (wd_501 hB _) (by decide +kernel) ⟨(show 1 ≤ (F + 1) + 3 by omega), (show 24 ≤ 30 * (F + 1) + 200 by omega)⟩), (wd_503 hB _), (wd_12 hB _)⟩ ⟨pe_bl, pg_recv (ci := 7) hK hP (lo_in hL t_Rd (by decide)) e79 rfl, pe_pre hB hK hP hD⟩ rfl rfl hl.1 rfl (lv_room (Nat.le_of_ble_eq_true rfl)) d_NReader_readFactor_99 ⟨Nat.le_of_ble_eq_true rfl, Nat.le_of_ble_eq_true rfl⟩) hS (fun r83 f84 H locs hq85 hP hD hS => ?_)
            obtain ⟨q_86, x1_87, xn_88, frn_89, hI1_90, hu1_91⟩ := hq85
            subst q_86
            have hu := hu.tr hu1_91 (by decide)
            have eT := hu1_91.at t_tl (by decide) eT
            have e79 := hu1_91.at t_Rd (by decide) e79
            have hfn : ∀ i, i < 72 → i < nn → f84 (g.lk (g.lk P 2) i) = f (g.lk (g.lk P 2) i) := fun i h1 h2 => (frn_89 i h1 (by omega)).trans (hfn i h1 h2)
            obtain ⟨sm_92, mv_93, hb94, e95⟩ := xn_88
            exact pe_iret hx hb hr hlocks hK hP hD hS d_NReader_readFactor_102 ⟨(Or.inl ⟨ax + 1, nn + 1, nn, by omega, by omega, by omega, by omega, by omega, (by rw [ox_e0, if_neg hk15, if_neg hk29, if_pos hk6]; rfl), (by rw [px_e0, if_neg (by omega), if_neg hk15, if_neg hk29, if_pos hk6]), e79, x1_87, (by rw [ox_e0, if_neg hk15, if_neg hk29, if_pos hk6, show vc hT ln ax - 97 = vn from vc_nm h97 h107 hvn qvn]; exact XR_one (by decide) (fun st => ⟨vn, 0, sm_92, mv_93, e95, by decide, fun q => absurd q (by decide), fun _ => ⟨rfl, hvn⟩, fun q => absurd q (by decide), fun q => absurd q (by decide)⟩)), rfl⟩), hfn, hI1_90, hu⟩
      · skip
        have hr96 : r16 = nI 1 := (bl_1 bo_19 b24)
        have hi97 := i1_21 hr96
        obtain ⟨hc98, hl101, e99⟩ := hi97
        have hk100 : tk hT ln ax = 4 := kc_4.mpr hc98
        refine lv_aload_n hx hb d_NReader_readFactor_42 rfl (lv_at hl 0 rfl) ?_
        refine lv_iload_n hx hb d_NReader_readFactor_43 rfl (lv_at hl 1 rfl) ?_
        refine lv_iconst (v := nI 1) hx hb d_NReader_readFactor_44 (by decide) ?_
        refine pf_iaddN (x := d) (y := 1) hx hb d_NReader_readFactor_45 ?_
        refine pcc_i (va_runV (C := "BigRunner$Reader") (As := [.int (nI (d + 1))]) (rest := []) ⟨hx, hb, hml, hown, tb_nil⟩ ((ih F (by omega)).2.1 g H.size f17 Rd tl ln ((ax + 1)) P hT sn nn ((d + 1)) hL t_Rd t_tl t_P hI1_22 e99 eT cT (by omega) (by omega) eP (by omega) (by omega) (by omega) (by omega) (by omega)) ⟨(callB_of 1 (tb_one (wd_492 hB _)) tb_good1 rfl rfl rfl (wd_73 hB _) (wd_489 hB _) (by decide +kernel) ⟨(show F + 3 + 1 ≤ (F + 1) + 3 by omega), (show 8 + (4 + 11) + (30 * F + 200) ≤ 30 * (F + 1) + 200 by omega)⟩), (wd_491 hB _), (wd_9 hB _)⟩ ⟨pe_bl, pg_recv (ci := 7) hK hP (lo_in hL t_Rd (by decide)) e99 rfl, pe_pre hB hK hP hD⟩ rfl rfl hl.1 rfl (lv_room (Nat.le_of_ble_eq_true rfl)) d_NReader_readFactor_46 ⟨Nat.le_of_ble_eq_true rfl, Nat.le_of_ble_eq_true rfl⟩) hS (fun r102 f103 H locs hq104 hP hD hS => ?_)
        obtain ⟨rs_105, frn_106, hI1_107, hu1_108⟩ := hq104
        have hu := hu.tr hu1_108 (by decide)
        have eT := hu1_108.at t_tl (by decide) eT
        have hfn : ∀ i, i < 72 → i < nn → f103 (g.lk (g.lk P 2) i) = f (g.lk (g.lk P 2) i) := fun i h1 h2 => (frn_106 i h1 (by omega)).trans (hfn i h1 h2)
        rcases rs_105 with ⟨a109, n110, j111, c116, c117, c118, c119, c120, c121, hp114, e112, e113, hx_115, rfl⟩ | ⟨a109, n110, c116, c117, hp114, e112, e113, rfl⟩
        · skip
          have hfb122 : ∀ i, i < 72 → i < n110 → f103 (g.lk (g.lk P 2) i) = f103 (g.lk (g.lk P 2) i) := fun _ _ _ => rfl
          refine lv_istore_n (lv' := [(2, .int (nI j111)), (0, .ref Rd), (1, .int (nI d))]) hx hb d_NReader_readFactor_49 rfl hl (by decide) rfl (fun ls hl => ?_)
          refine lv_aload_n hx hb d_NReader_readFactor_50 rfl (lv_at hl 1 rfl) ?_
          refine lv_bipush (v := nI 41) hx hb d_NReader_readFactor_51 (by decide) ?_
          refine pcc_i (va_runV (C := "BigRunner$Reader") (As := [.int (nI 41)]) (rest := []) ⟨hx, hb, hml, hown, tb_nil⟩ (c_accept l g H.size f103 Rd tl ln a109 P hT 41 hL t_Rd t_tl t_P hI1_107 e112 eT cT (by omega) (by omega) (by decide)) ⟨(callB_of 1 (tb_one (wd_472 hB _)) tb_good1 rfl rfl rfl (wd_73 hB _) (wd_469 hB _) (by decide +kernel) ⟨(show 2 ≤ (F + 1) + 3 by omega), (show 41 ≤ 30 * (F + 1) + 200 by omega)⟩), (wd_471 hB _), (wd_4 hB _)⟩ ⟨pe_bl, pg_recv (ci := 7) hK hP (lo_in hL t_Rd (by decide)) e112 rfl, pe_pre hB hK hP hD⟩ rfl rfl hl.1 rfl (lv_room (Nat.le_of_ble_eq_true rfl)) d_NReader_readFactor_53 ⟨Nat.le_of_ble_eq_true rfl, Nat.le_of_ble_eq_true rfl⟩) hS (fun r123 f124 H locs hq125 hP hD hS => ?_)
          obtain ⟨bo_126, i0_127, i1_128, hI1_129, hu1_130⟩ := hq125
          have hu := hu.tr hu1_130 (by decide)
          have eT := hu1_130.at t_tl (by decide) eT
          have e113 := hu1_130.at t_P (by decide) e113
          have hfn : ∀ i, i < 72 → i < nn → f124 (g.lk (g.lk P 2) i) = f (g.lk (g.lk P 2) i) := fun i h1 h2 => (hu1_130 _ (by rw [lo_e25 hL _ (lo_k7_2 hL _ t_P) i h1]; decide)).trans (hfn i h1 h2)
          have hfb122 : ∀ i, i < 72 → i < n110 → f124 (g.lk (g.lk P 2) i) = f103 (g.lk (g.lk P 2) i) := fun i h1 h2 => (hu1_130 _ (by rw [lo_e25 hL _ (lo_k7_2 hL _ t_P) i h1]; decide)).trans (hfb122 i h1 h2)
          refine lv_if_eq (tgt := 63) hx hb d_NReader_readFactor_56 (by decide) (fun b131 => ?_) (fun b131 => ?_)
          · skip
            have hr132 : r123 = nI 0 := b131
            have hi133 := i0_127 hr132
            obtain ⟨hc134, e135⟩ := hi133
            have hk136 : tk hT ln a109 ≠ 5 := fun z => hc134 (kc_5.mp z)
            refine lv_iconst (v := (-1)) hx hb d_NReader_readFactor_63 (by decide) ?_
            exact pe_iret hx hb hr hlocks hK hP hD hS d_NReader_readFactor_64 ⟨(Or.inr ⟨a109, n110, by omega, by omega, (by rw [px_e0, if_neg (by omega), if_neg hk15, if_pos hk100, hp114]; exact if_neg hk136), e135, e113, rfl⟩), hfn, hI1_129, hu⟩
          · skip
            have hr137 : r123 = nI 1 := (bl_1 bo_126 b131)
            have hi138 := i1_128 hr137
            obtain ⟨hc139, hl142, e140⟩ := hi138
            have hk141 : tk hT ln a109 = 5 := kc_5.mpr hc139
            refine lv_iload_n hx hb d_NReader_readFactor_59 rfl (lv_at hl 0 rfl) ?_
            refine lv_goto (tgt := 64) hx hb d_NReader_readFactor_60 (by decide) ?_
            exact pe_iret hx hb hr hlocks hK hP hD hS d_NReader_readFactor_64 ⟨(Or.inl ⟨a109 + 1, n110, j111, by omega, by omega, by omega, by omega, by omega, (by rw [ox_e0, if_neg hk15, if_pos hk100]; exact c121), (by rw [px_e0, if_neg (by omega), if_neg hk15, if_pos hk100, hp114]; exact if_pos hk141), e140, e113, (by rw [ox_e0, if_neg hk15, if_pos hk100]; exact (XR_eq hx_115 (fun i q1 q2 => hfb122 i (by omega) (by omega)))), rfl⟩), hfn, hI1_129, hu⟩
        · skip
          refine lv_istore_n (lv' := [(2, .int (-1)), (0, .ref Rd), (1, .int (nI d))]) hx hb d_NReader_readFactor_49 rfl hl (by decide) rfl (fun ls hl => ?_)
          refine lv_aload_n hx hb d_NReader_readFactor_50 rfl (lv_at hl 1 rfl) ?_
          refine lv_bipush (v := nI 41) hx hb d_NReader_readFactor_51 (by decide) ?_
          refine pcc_i (va_runV (C := "BigRunner$Reader") (As := [.int (nI 41)]) (rest := []) ⟨hx, hb, hml, hown, tb_nil⟩ (c_accept l g H.size f103 Rd tl ln a109 P hT 41 hL t_Rd t_tl t_P hI1_107 e112 eT cT (by omega) (by omega) (by decide)) ⟨(callB_of 1 (tb_one (wd_472 hB _)) tb_good1 rfl rfl rfl (wd_73 hB _) (wd_469 hB _) (by decide +kernel) ⟨(show 2 ≤ (F + 1) + 3 by omega), (show 41 ≤ 30 * (F + 1) + 200 by omega)⟩), (wd_471 hB _), (wd_4 hB _)⟩ ⟨pe_bl, pg_recv (ci := 7) hK hP (lo_in hL t_Rd (by decide)) e112 rfl, pe_pre hB hK hP hD⟩ rfl rfl hl.1 rfl (lv_room (Nat.le_of_ble_eq_true rfl)) d_NReader_readFactor_53 ⟨Nat.le_of_ble_eq_true rfl, Nat.le_of_ble_eq_true rfl⟩) hS (fun r143 f144 H locs hq145 hP hD hS => ?_)
          obtain ⟨bo_146, i0_147, i1_148, hI1_149, hu1_150⟩ := hq145
          have hu := hu.tr hu1_150 (by decide)
          have eT := hu1_150.at t_tl (by decide) eT
          have e113 := hu1_150.at t_P (by decide) e113
          have hfn : ∀ i, i < 72 → i < nn → f144 (g.lk (g.lk P 2) i) = f (g.lk (g.lk P 2) i) := fun i h1 h2 => (hu1_150 _ (by rw [lo_e25 hL _ (lo_k7_2 hL _ t_P) i h1]; decide)).trans (hfn i h1 h2)
          refine lv_if_eq (tgt := 63) hx hb d_NReader_readFactor_56 (by decide) (fun b151 => ?_) (fun b151 => ?_)
          · skip
            have hr152 : r143 = nI 0 := b151
            have hi153 := i0_147 hr152
            obtain ⟨hc154, e155⟩ := hi153
            have hk156 : tk hT ln a109 ≠ 5 := fun z => hc154 (kc_5.mp z)
            refine lv_iconst (v := (-1)) hx hb d_NReader_readFactor_63 (by decide) ?_
            exact pe_iret hx hb hr hlocks hK hP hD hS d_NReader_readFactor_64 ⟨(Or.inr ⟨a109, n110, by omega, by omega, (by rw [px_e0, if_neg (by omega), if_neg hk15, if_pos hk100, hp114]; rfl), e155, e113, rfl⟩), hfn, hI1_149, hu⟩
          · skip
            have hr157 : r143 = nI 1 := (bl_1 bo_146 b151)
            have hi158 := i1_148 hr157
            obtain ⟨hc159, hl162, e160⟩ := hi158
            have hk161 : tk hT ln a109 = 5 := kc_5.mpr hc159
            refine lv_iload_n hx hb d_NReader_readFactor_59 rfl (lv_at hl 0 rfl) ?_
            refine lv_goto (tgt := 64) hx hb d_NReader_readFactor_60 (by decide) ?_
            exact pe_iret hx hb hr hlocks hK hP hD hS d_NReader_readFactor_64 ⟨(Or.inr ⟨a109 + 1, n110, by omega, by omega, (by rw [px_e0, if_neg (by omega), if_neg hk15, if_pos hk100, hp114]; rfl), e160, e113, rfl⟩), hfn, hI1_149, hu⟩
    · skip
      have hr163 : r2 = nI 1 := (bl_1 bo_5 b10)
      have hi164 := i1_7 hr163
      obtain ⟨hc165, hl168, e166⟩ := hi164
      have hk167 : tk hT ln ax = 2 := kc_2.mpr hc165
      refine lv_aload_n hx hb d_NReader_readFactor_17 rfl (lv_at hl 0 rfl) ?_
      refine lv_iload_n hx hb d_NReader_readFactor_18 rfl (lv_at hl 1 rfl) ?_
      refine lv_iconst (v := nI 1) hx hb d_NReader_readFactor_19 (by decide) ?_
      refine pf_iaddN (x := d) (y := 1) hx hb d_NReader_readFactor_20 ?_
      refine pcc_i (va_runV (C := "BigRunner$Reader") (As := [.int (nI (d + 1))]) (rest := []) ⟨hx, hb, hml, hown, tb_nil⟩ ((ih F (by omega)).1 g H.size f3 Rd tl ln ((ax + 1)) P hT sn nn ((d + 1)) hL t_Rd t_tl t_P hI1_8 e166 eT cT (by omega) (by omega) eP (by omega) (by omega) (by omega) (by omega) (by omega)) ⟨(callB_of 1 (tb_one (wd_500 hB _)) tb_good1 rfl rfl rfl (wd_73 hB _) (wd_497 hB _) (by decide +kernel) ⟨(show F + 3 + 1 ≤ (F + 1) + 3 by omega), (show 8 + (3 + 11) + (30 * F + 200) ≤ 30 * (F + 1) + 200 by omega)⟩), (wd_499 hB _), (wd_11 hB _)⟩ ⟨pe_bl, pg_recv (ci := 7) hK hP (lo_in hL t_Rd (by decide)) e166 rfl, pe_pre hB hK hP hD⟩ rfl rfl hl.1 rfl (lv_room (Nat.le_of_ble_eq_true rfl)) d_NReader_readFactor_21 ⟨Nat.le_of_ble_eq_true rfl, Nat.le_of_ble_eq_true rfl⟩) hS (fun r169 f170 H locs hq171 hP hD hS => ?_)
      obtain ⟨rs_172, frn_173, hI1_174, hu1_175⟩ := hq171
      have hu := hu.tr hu1_175 (by decide)
      have eT := hu1_175.at t_tl (by decide) eT
      have hfn : ∀ i, i < 72 → i < nn → f170 (g.lk (g.lk P 2) i) = f (g.lk (g.lk P 2) i) := fun i h1 h2 => (frn_173 i h1 (by omega)).trans (hfn i h1 h2)
      rcases rs_172 with ⟨a176, n177, j178, c183, c184, c185, c186, c187, c188, hp181, e179, e180, hx_182, rfl⟩ | ⟨a176, n177, c183, c184, hp181, e179, e180, rfl⟩
      · skip
        have hfb189 : ∀ i, i < 72 → i < n177 → f170 (g.lk (g.lk P 2) i) = f170 (g.lk (g.lk P 2) i) := fun _ _ _ => rfl
        refine lv_istore_n (lv' := [(2, .int (nI j178)), (0, .ref Rd), (1, .int (nI d))]) hx hb d_NReader_readFactor_24 rfl hl (by decide) rfl (fun ls hl => ?_)
        refine lv_aload_n hx hb d_NReader_readFactor_25 rfl (lv_at hl 1 rfl) ?_
        refine lv_iconst (v := nI 2) hx hb d_NReader_readFactor_26 (by decide) ?_
        refine lv_iload_n hx hb d_NReader_readFactor_27 rfl (lv_at hl 0 rfl) ?_
        refine lv_iload_n hx hb d_NReader_readFactor_28 rfl (lv_at hl 0 rfl) ?_
        refine pcc_i (va_runV (C := "BigRunner$Reader") (As := [.int (nI 2), .int (nI j178), .int (nI j178)]) (rest := []) ⟨hx, hb, hml, hown, tb_nil⟩ (c2_addOp l g H.size f170 Rd tl ln a176 P hT sn n177 2 j178 j178 hL t_Rd t_tl t_P hI1_174 e179 eT cT (by omega) (by omega) e180 (by omega) (by omega) (by omega) (by omega) (by omega) (by omega) (by omega) (by omega)) ⟨(callB_of 3 (tb_one (wd_504 hB _)) tb_good1 rfl rfl rfl (wd_73 hB _) (wd_501 hB _) (by decide +kernel) ⟨(show 1 ≤ (F + 1) + 3 by omega), (show 24 ≤ 30 * (F + 1) + 200 by omega)⟩), (wd_503 hB _), (wd_12 hB _)⟩ ⟨pe_bl, pg_recv (ci := 7) hK hP (lo_in hL t_Rd (by decide)) e179 rfl, pe_pre hB hK hP hD⟩ rfl rfl hl.1 rfl (lv_room (Nat.le_of_ble_eq_true rfl)) d_NReader_readFactor_29 ⟨Nat.le_of_ble_eq_true rfl, Nat.le_of_ble_eq_true rfl⟩) hS (fun r190 f191 H locs hq192 hP hD hS => ?_)
        obtain ⟨q_193, x1_194, xn_195, frn_196, hI1_197, hu1_198⟩ := hq192
        subst q_193
        have hu := hu.tr hu1_198 (by decide)
        have eT := hu1_198.at t_tl (by decide) eT
        have e179 := hu1_198.at t_Rd (by decide) e179
        have hfn : ∀ i, i < 72 → i < nn → f191 (g.lk (g.lk P 2) i) = f (g.lk (g.lk P 2) i) := fun i h1 h2 => (frn_196 i h1 (by omega)).trans (hfn i h1 h2)
        have hfb189 : ∀ i, i < 72 → i < n177 → f191 (g.lk (g.lk P 2) i) = f170 (g.lk (g.lk P 2) i) := fun i h1 h2 => (frn_196 i h1 (by omega)).trans (hfb189 i h1 h2)
        obtain ⟨sm_199, mv_200, hb201, e202⟩ := xn_195
        exact pe_iret hx hb hr hlocks hK hP hD hS d_NReader_readFactor_32 ⟨(Or.inl ⟨a176, n177 + 1, n177, by omega, by omega, by omega, by omega, by omega, (by rw [ox_e0, if_pos hk167, List.length_append, List.length_singleton]; omega), (by rw [px_e0, if_neg (by omega), if_pos hk167]; exact hp181), e179, x1_194, (by rw [ox_e0, if_pos hk167]; exact XR_neg (XR_eq hx_182 (fun i q1 q2 => hfb189 i (by omega) (by omega))) (by rw [← c188]; have e9 := e202; rw [show j178 = n177 - 1 by omega] at e9; exact e9)), rfl⟩), hfn, hI1_197, hu⟩
      · skip
        refine lv_istore_n (lv' := [(2, .int (-1)), (0, .ref Rd), (1, .int (nI d))]) hx hb d_NReader_readFactor_24 rfl hl (by decide) rfl (fun ls hl => ?_)
        refine lv_aload_n hx hb d_NReader_readFactor_25 rfl (lv_at hl 1 rfl) ?_
        refine lv_iconst (v := nI 2) hx hb d_NReader_readFactor_26 (by decide) ?_
        refine lv_iload_n hx hb d_NReader_readFactor_27 rfl (lv_at hl 0 rfl) ?_
        refine lv_iload_n hx hb d_NReader_readFactor_28 rfl (lv_at hl 0 rfl) ?_
        refine pcc_i (va_runV (C := "BigRunner$Reader") (As := [.int (nI 2), .int (-1), .int (-1)]) (rest := []) ⟨hx, hb, hml, hown, tb_nil⟩ (c_addOpN l g H.size f170 Rd ((nI 2)) ((-1)) ((-1)) hL t_Rd hI1_174.1 (Or.inl rfl)) ⟨(callB_of 3 (tb_one (wd_504 hB _)) tb_good1 rfl rfl rfl (wd_73 hB _) (wd_501 hB _) (by decide +kernel) ⟨(show 1 ≤ (F + 1) + 3 by omega), (show 24 ≤ 30 * (F + 1) + 200 by omega)⟩), (wd_503 hB _), (wd_12 hB _)⟩ ⟨pe_bl, pg_recv (ci := 7) hK hP (lo_in hL t_Rd (by decide)) e179 rfl, pe_pre hB hK hP hD⟩ rfl rfl hl.1 rfl (lv_room (Nat.le_of_ble_eq_true rfl)) d_NReader_readFactor_29 ⟨Nat.le_of_ble_eq_true rfl, Nat.le_of_ble_eq_true rfl⟩) hS (fun r203 f204 H locs hq205 hP hD hS => ?_)
        obtain ⟨q_206, rfl⟩ := hq205
        subst q_206
        exact pe_iret hx hb hr hlocks hK hP hD hS d_NReader_readFactor_32 ⟨(Or.inr ⟨a176, n177, by omega, by omega, (by rw [px_e0, if_neg (by omega), if_pos hk167]; exact hp181), e179, e180, rfl⟩), hfn, hI1_174, hu⟩
  · skip
    replace b1 := mt (nI_leI (a := d) (b := 10) (by omega) (by omega)).mpr b1
    refine lv_iconst (v := (-1)) hx hb d_NReader_readFactor_6 (by decide) ?_
    exact pe_iret hx hb hr hlocks hK hP hD hS d_NReader_readFactor_7 ⟨(Or.inr ⟨ax, nn, by omega, by omega, (by rw [px_e0, if_pos (by omega)]), eR, eP, rfl⟩), hfn, hI, hu⟩
set_option maxHeartbeats 4000000 in
set_option maxRecDepth 100000 in
theorem rt2_step (l : Launch) (F : Nat) (ih : ∀ F', F' ≤ F → RF2 l F' ∧ RE2 l F' ∧ RT2 l F') : RT2 l (F + 1) := by
  intro g sz f Rd tl ln ax P hT sn nn d hL t_Rd t_tl t_P hI eR eT cT hln hax eP hsn hnn hna hd hF
  refine pe_ofW (cc := prog_8_method_12_code) (maxL := 4) (ret := (some .int)) (lv := [(0, .ref Rd), (1, .int (nI d))]) (by decide) (Nat.le_of_ble_eq_true rfl) rfl ?_
  intro p e s m args below meth c ls hx hb hr hml hlocks hown hB hP hK hD hsz hS hl
  subst hsz
  have hu : un [6, 7, 8] g f f := un.rf
  have hfn : ∀ i, i < 72 → i < nn → f (g.lk (g.lk P 2) i) = f (g.lk (g.lk P 2) i) := fun _ _ _ => rfl
  refine lv_aload_n hx hb d_NReader_readTerm_0 rfl (lv_at hl 0 rfl) ?_
  refine lv_iload_n hx hb d_NReader_readTerm_1 rfl (lv_at hl 1 rfl) ?_
  refine pcc_i (va_runV (C := "BigRunner$Reader") (As := [.int (nI d)]) (rest := []) ⟨hx, hb, hml, hown, tb_nil⟩ ((ih F (by omega)).1 g s.heap.size f Rd tl ln ax P hT sn nn d hL t_Rd t_tl t_P hI eR eT cT (by omega) (by omega) eP (by omega) (by omega) (by omega) (by omega) (by omega)) ⟨(callB_of 1 (tb_one (wd_500 hB _)) tb_good1 rfl rfl rfl (wd_73 hB _) (wd_497 hB _) (by decide +kernel) ⟨(show F + 3 + 1 ≤ (F + 1) + 3 by omega), (show 8 + (3 + 11) + (30 * F + 200) ≤ 30 * (F + 1) + 200 by omega)⟩), (wd_499 hB _), (wd_11 hB _)⟩ ⟨pe_bl, pg_recv (ci := 7) hK hP (lo_in hL t_Rd (by decide)) eR rfl, pe_pre hB hK hP hD⟩ rfl rfl hl.1 rfl (lv_room (Nat.le_of_ble_eq_true rfl)) d_NReader_readTerm_2 ⟨Nat.le_of_ble_eq_true rfl, Nat.le_of_ble_eq_true rfl⟩) hS (fun r1 f2 H locs hq3 hP hD hS => ?_)
  obtain ⟨rs_4, frn_5, hI1_6, hu1_7⟩ := hq3
  have hu := hu.tr hu1_7 (by decide)
  have eT := hu1_7.at t_tl (by decide) eT
  have hfn : ∀ i, i < 72 → i < nn → f2 (g.lk (g.lk P 2) i) = f (g.lk (g.lk P 2) i) := fun i h1 h2 => (frn_5 i h1 (by omega)).trans (hfn i h1 h2)
  rcases rs_4 with ⟨a8, n9, j10, c15, c16, c17, c18, c19, c20, hp13, e11, e12, hx_14, rfl⟩ | ⟨a8, n9, c15, c16, hp13, e11, e12, rfl⟩
  · skip
    have hfb21 : ∀ i, i < 72 → i < n9 → f2 (g.lk (g.lk P 2) i) = f2 (g.lk (g.lk P 2) i) := fun _ _ _ => rfl
    refine lv_istore_n (lv' := [(2, .int (nI j10)), (0, .ref Rd), (1, .int (nI d))]) hx hb d_NReader_readTerm_5 rfl hl (by decide) rfl (fun ls hl => ?_)
    refine lv_iconst (v := nI 0) hx hb d_NReader_readTerm_6 (by decide) ?_
    refine lv_istore_n (lv' := [(3, .int (nI 0)), (2, .int (nI j10)), (0, .ref Rd), (1, .int (nI d))]) hx hb d_NReader_readTerm_7 rfl hl (by decide) rfl (fun ls hl => ?_)
    have lp22 : ∀ (k24 : Nat) (it : Nat) (a9 : Nat) (n9 : Nat) (j9 : Nat) (Fv : Nat) (t9 : List (Nat × Nat)) (f23 : Nat → va_E) (H : Heap) (locs : List Loc) (ls : Array Slot), (72 < it + k24) → (a9 ≤ ln) → (n9 + ax ≤ nn + a9) → (n9 ≤ 72) → (nn ≤ n9) → (j9 + 1 = n9) → (it + ax < a9) → (Fv ≤ F) → (5 * (ln - a9) + 1 ≤ Fv) → (px_e (tk hT ln) (F + 1) 2 d ax = px_e (tk hT ln) Fv 4 d a9) → (ox_e (tk hT ln) (vc hT ln) (F + 1) 2 d ax = t9 ++ ox_e (tk hT ln) (vc hT ln) Fv 4 d a9) → (n9 = nn + t9.length) → (XR g f23 P nn t9) → (∀ i, i < 72 → i < nn → f23 (g.lk (g.lk P 2) i) = f (g.lk (g.lk P 2) i)) → f23 Rd = .inr (7, [.ref tl, .int (nI ln), .int (nI a9), .ref P]) → f23 P = .inr (6, [.ref (g.lk P 0), .int (nI sn), .ref (g.lk P 2), .int (nI n9), .ref (g.lk P 4), .ref (g.lk P 5)]) → IV g f23 → un [6, 7, 8] g f2 f23 → lv_has ls 4 [(3, .int (nI it)), (2, .int (nI j9)), (0, .ref Rd), (1, .int (nI d))] → va_P g.D vcl (va_pl g.LP f23) H → va_D (pc_A g s.heap.size) (va_pl g.LP f23) → va_S (pc_A g s.heap.size) s.heap H locs → W p l e ({ frames := (F + 1) + 3, cells := 0, slots := 0, locals := 30 * (F + 1) + 200 }) s m args below meth c H locs 0 0 (MQ below (va_Qi (fun r f1 => ((∃ (a n1 j : Nat), a ≤ ln ∧ n1 ≤ 72 ∧ j + 1 = n1 ∧ n1 + ax ≤ nn + a ∧ ax < a ∧ n1 = nn + (ox_e (tk hT ln) (vc hT ln) (F + 1) 2 d ax).length ∧ px_e (tk hT ln) (F + 1) 2 d ax = some a ∧ f1 Rd = .inr (7, [.ref tl, .int (nI ln), .int (nI a), .ref P]) ∧ f1 P = .inr (6, [.ref (g.lk P 0), .int (nI sn), .ref (g.lk P 2), .int (nI n1), .ref (g.lk P 4), .ref (g.lk P 5)]) ∧ XR g f1 P nn (ox_e (tk hT ln) (vc hT ln) (F + 1) 2 d ax) ∧ r = nI j) ∨ (∃ (a n1 : Nat), a ≤ ln ∧ n1 ≤ 72 ∧ px_e (tk hT ln) (F + 1) 2 d ax = none ∧ f1 Rd = .inr (7, [.ref tl, .int (nI ln), .int (nI a), .ref P]) ∧ f1 P = .inr (6, [.ref (g.lk P 0), .int (nI sn), .ref (g.lk P 2), .int (nI n1), .ref (g.lk P 4), .ref (g.lk P 5)]) ∧ r = (-1))) ∧ (∀ i, i < 72 → i < nn → f1 (g.lk (g.lk P 2) i) = f (g.lk (g.lk P 2) i)) ∧ (IV g f1) ∧ (un [6, 7, 8] g f f1)) (pc_out g s.heap.size) (pc_A g s.heap.size)) args s 0 0 (pc_A g s.heap.size)) (F0 m 8 ls []) := by
      intro k24
      induction k24 with
      | zero => intros; exfalso; omega
      | succ k24 ih25 =>
        intro it a9 n9 j9 Fv t9 f23 H locs ls hfu26 ha9 hn9 hn92 hn93 hj9 hit hFv hFe hpx hox hlt9 hxr hfn e27 e28 hI29 hv30 hl hP hD hS
        have eT := hv30.at t_tl (by decide) eT
        have hu := hu.tr hv30 (by decide)
        obtain ⟨Fw, rfl⟩ : ∃ Fw, Fv = Fw + 1 := ⟨Fv - 1, by omega⟩
        have hfb9 : ∀ i, i < 72 → i < n9 → f23 (g.lk (g.lk P 2) i) = f23 (g.lk (g.lk P 2) i) := fun _ _ _ => rfl
        refine lv_iload_n hx hb d_NReader_readTerm_8 rfl (lv_at hl 0 rfl) ?_
        refine lv_bipush (v := nI 72) hx hb d_NReader_readTerm_9 (by decide) ?_
        refine lv_icmp_ge (tgt := 101) hx hb d_NReader_readTerm_11 (by decide) (fun b31 => ?_) (fun b31 => ?_)
        · skip
          replace b31 := (nI_leI (a := 72) (b := it) (by omega) (by omega)).mp b31
          exfalso; omega
        · skip
          replace b31 := mt (nI_leI (a := 72) (b := it) (by omega) (by omega)).mpr b31
          refine lv_iload_n hx hb d_NReader_readTerm_14 rfl (lv_at hl 1 rfl) ?_
          refine lv_iconst (v := (-1)) hx hb d_NReader_readTerm_15 (by decide) ?_
          refine lv_icmp_eq (tgt := 101) hx hb d_NReader_readTerm_16 (by decide) (fun b32 => ?_) (fun b32 => ?_)
          · skip
            exact absurd b32 (nI_n1 (j := j9) (by omega))
          · skip
            refine lv_aload_n hx hb d_NReader_readTerm_19 rfl (lv_at hl 2 rfl) ?_
            refine lv_bipush (v := nI 42) hx hb d_NReader_readTerm_20 (by decide) ?_
            refine pcc_i (va_runV (C := "BigRunner$Reader") (As := [.int (nI 42)]) (rest := []) ⟨hx, hb, hml, hown, tb_nil⟩ (c_accept l g H.size f23 Rd tl ln a9 P hT 42 hL t_Rd t_tl t_P hI29 e27 eT cT (by omega) (by omega) (by decide)) ⟨(callB_of 1 (tb_one (wd_472 hB _)) tb_good1 rfl rfl rfl (wd_73 hB _) (wd_469 hB _) (by decide +kernel) ⟨(show 2 ≤ (F + 1) + 3 by omega), (show 41 ≤ 30 * (F + 1) + 200 by omega)⟩), (wd_471 hB _), (wd_4 hB _)⟩ ⟨pe_bl, pg_recv (ci := 7) hK hP (lo_in hL t_Rd (by decide)) e27 rfl, pe_pre hB hK hP hD⟩ rfl rfl hl.1 rfl (lv_room (Nat.le_of_ble_eq_true rfl)) d_NReader_readTerm_22 ⟨Nat.le_of_ble_eq_true rfl, Nat.le_of_ble_eq_true rfl⟩) hS (fun r33 f34 H locs hq35 hP hD hS => ?_)
            obtain ⟨bo_36, i0_37, i1_38, hI1_39, hu1_40⟩ := hq35
            have hu := hu.tr hu1_40 (by decide)
            have hv30 := hv30.tr hu1_40 (by decide)
            have eT := hu1_40.at t_tl (by decide) eT
            have e28 := hu1_40.at t_P (by decide) e28
            have hfn : ∀ i, i < 72 → i < nn → f34 (g.lk (g.lk P 2) i) = f (g.lk (g.lk P 2) i) := fun i h1 h2 => (hu1_40 _ (by rw [lo_e25 hL _ (lo_k7_2 hL _ t_P) i h1]; decide)).trans (hfn i h1 h2)
            have hfb9 : ∀ i, i < 72 → i < n9 → f34 (g.lk (g.lk P 2) i) = f23 (g.lk (g.lk P 2) i) := fun i h1 h2 => (hu1_40 _ (by rw [lo_e25 hL _ (lo_k7_2 hL _ t_P) i h1]; decide)).trans (hfb9 i h1 h2)
            refine lv_if_eq (tgt := 43) hx hb d_NReader_readTerm_25 (by decide) (fun b41 => ?_) (fun b41 => ?_)
            · skip
              have hr42 : r33 = nI 0 := b41
              have hi43 := i0_37 hr42
              obtain ⟨hc44, e45⟩ := hi43
              refine lv_aload_n hx hb d_NReader_readTerm_43 rfl (lv_at hl 2 rfl) ?_
              refine lv_bipush (v := nI 47) hx hb d_NReader_readTerm_44 (by decide) ?_
              refine pcc_i (va_runV (C := "BigRunner$Reader") (As := [.int (nI 47)]) (rest := []) ⟨hx, hb, hml, hown, tb_nil⟩ (c_accept l g H.size f34 Rd tl ln a9 P hT 47 hL t_Rd t_tl t_P hI1_39 e45 eT cT (by omega) (by omega) (by decide)) ⟨(callB_of 1 (tb_one (wd_472 hB _)) tb_good1 rfl rfl rfl (wd_73 hB _) (wd_469 hB _) (by decide +kernel) ⟨(show 2 ≤ (F + 1) + 3 by omega), (show 41 ≤ 30 * (F + 1) + 200 by omega)⟩), (wd_471 hB _), (wd_4 hB _)⟩ ⟨pe_bl, pg_recv (ci := 7) hK hP (lo_in hL t_Rd (by decide)) e45 rfl, pe_pre hB hK hP hD⟩ rfl rfl hl.1 rfl (lv_room (Nat.le_of_ble_eq_true rfl)) d_NReader_readTerm_46 ⟨Nat.le_of_ble_eq_true rfl, Nat.le_of_ble_eq_true rfl⟩) hS (fun r47 f48 H locs hq49 hP hD hS => ?_)
              obtain ⟨bo_50, i0_51, i1_52, hI1_53, hu1_54⟩ := hq49
              have hu := hu.tr hu1_54 (by decide)
              have hv30 := hv30.tr hu1_54 (by decide)
              have eT := hu1_54.at t_tl (by decide) eT
              have e28 := hu1_54.at t_P (by decide) e28
              have hfn : ∀ i, i < 72 → i < nn → f48 (g.lk (g.lk P 2) i) = f (g.lk (g.lk P 2) i) := fun i h1 h2 => (hu1_54 _ (by rw [lo_e25 hL _ (lo_k7_2 hL _ t_P) i h1]; decide)).trans (hfn i h1 h2)
              have hfb9 : ∀ i, i < 72 → i < n9 → f48 (g.lk (g.lk P 2) i) = f23 (g.lk (g.lk P 2) i) := fun i h1 h2 => (hu1_54 _ (by rw [lo_e25 hL _ (lo_k7_2 hL _ t_P) i h1]; decide)).trans (hfb9 i h1 h2)
              refine lv_if_eq (tgt := 68) hx hb d_NReader_readTerm_49 (by decide) (fun b55 => ?_) (fun b55 => ?_)
              · skip
                have hr56 : r47 = nI 0 := b55
                have hi57 := i0_51 hr56
                obtain ⟨hc58, e59⟩ := hi57
                refine lv_aload_n hx hb d_NReader_readTerm_68 rfl (lv_at hl 2 rfl) ?_
                refine lv_bipush (v := nI 37) hx hb d_NReader_readTerm_69 (by decide) ?_
                refine pcc_i (va_runV (C := "BigRunner$Reader") (As := [.int (nI 37)]) (rest := []) ⟨hx, hb, hml, hown, tb_nil⟩ (c_accept l g H.size f48 Rd tl ln a9 P hT 37 hL t_Rd t_tl t_P hI1_53 e59 eT cT (by omega) (by omega) (by decide)) ⟨(callB_of 1 (tb_one (wd_472 hB _)) tb_good1 rfl rfl rfl (wd_73 hB _) (wd_469 hB _) (by decide +kernel) ⟨(show 2 ≤ (F + 1) + 3 by omega), (show 41 ≤ 30 * (F + 1) + 200 by omega)⟩), (wd_471 hB _), (wd_4 hB _)⟩ ⟨pe_bl, pg_recv (ci := 7) hK hP (lo_in hL t_Rd (by decide)) e59 rfl, pe_pre hB hK hP hD⟩ rfl rfl hl.1 rfl (lv_room (Nat.le_of_ble_eq_true rfl)) d_NReader_readTerm_71 ⟨Nat.le_of_ble_eq_true rfl, Nat.le_of_ble_eq_true rfl⟩) hS (fun r61 f62 H locs hq63 hP hD hS => ?_)
                obtain ⟨bo_64, i0_65, i1_66, hI1_67, hu1_68⟩ := hq63
                have hu := hu.tr hu1_68 (by decide)
                have hv30 := hv30.tr hu1_68 (by decide)
                have eT := hu1_68.at t_tl (by decide) eT
                have e28 := hu1_68.at t_P (by decide) e28
                have hfn : ∀ i, i < 72 → i < nn → f62 (g.lk (g.lk P 2) i) = f (g.lk (g.lk P 2) i) := fun i h1 h2 => (hu1_68 _ (by rw [lo_e25 hL _ (lo_k7_2 hL _ t_P) i h1]; decide)).trans (hfn i h1 h2)
                have hfb9 : ∀ i, i < 72 → i < n9 → f62 (g.lk (g.lk P 2) i) = f23 (g.lk (g.lk P 2) i) := fun i h1 h2 => (hu1_68 _ (by rw [lo_e25 hL _ (lo_k7_2 hL _ t_P) i h1]; decide)).trans (hfb9 i h1 h2)
                refine lv_if_eq (tgt := 93) hx hb d_NReader_readTerm_74 (by decide) (fun b69 => ?_) (fun b69 => ?_)
                · skip
                  have hr70 : r61 = nI 0 := b69
                  have hi71 := i0_65 hr70
                  obtain ⟨hc72, e73⟩ := hi71
                  refine lv_iload_n hx hb d_NReader_readTerm_93 rfl (lv_at hl 1 rfl) ?_
                  exact pe_iret hx hb hr hlocks hK hP hD hS d_NReader_readTerm_94 ⟨(Or.inl ⟨a9, n9, j9, by omega, by omega, by omega, by omega, by omega, (by have e9 : ox_e (tk hT ln) (vc hT ln) (F + 1) 2 d ax = t9 := hox.trans (by rw [ox_e4, if_neg (show ¬ tk hT ln a9 = 3 from fun z => (kc_3.mp z).elim hc44 (fun z => z.elim hc58 hc72)), List.append_nil]); rw [e9]; exact hlt9), (hpx.trans (by rw [px_e4, if_neg (show ¬ tk hT ln a9 = 3 from fun z => (kc_3.mp z).elim hc44 (fun z => z.elim hc58 hc72))])), e73, e28, (by have e9 : ox_e (tk hT ln) (vc hT ln) (F + 1) 2 d ax = t9 := hox.trans (by rw [ox_e4, if_neg (show ¬ tk hT ln a9 = 3 from fun z => (kc_3.mp z).elim hc44 (fun z => z.elim hc58 hc72)), List.append_nil]); rw [e9]; exact XR_eq hxr (fun i q1 q2 => hfb9 i (by omega) (by omega))), rfl⟩), hfn, hI1_67, hu⟩
                · skip
                  have hr75 : r61 = nI 1 := (bl_1 bo_64 b69)
                  have hi76 := i1_66 hr75
                  obtain ⟨hc77, hl80, e78⟩ := hi76
                  have hk79 : tk hT ln a9 = 3 := kc_3.mpr (Or.inr (Or.inr hc77))
                  refine lv_aload_n hx hb d_NReader_readTerm_77 rfl (lv_at hl 2 rfl) ?_
                  refine lv_bipush (v := nI 7) hx hb d_NReader_readTerm_78 (by decide) ?_
                  refine lv_iload_n hx hb d_NReader_readTerm_80 rfl (lv_at hl 1 rfl) ?_
                  refine lv_aload_n hx hb d_NReader_readTerm_81 rfl (lv_at hl 2 rfl) ?_
                  refine lv_iload_n hx hb d_NReader_readTerm_82 rfl (lv_at hl 3 rfl) ?_
                  refine pcc_i (va_runV (C := "BigRunner$Reader") (As := [.int (nI d)]) (rest := [.int (nI j9), .int (nI 7), .ref Rd]) ⟨hx, hb, hml, hown, tb_nil⟩ ((ih Fw (by omega)).1 g H.size f62 Rd tl ln ((a9 + 1)) P hT sn n9 d hL t_Rd t_tl t_P hI1_67 e78 eT cT (by omega) (by omega) e28 (by omega) (by omega) (by omega) (by omega) (by omega)) ⟨(callB_of 1 (tb_one (wd_500 hB _)) tb_good1 rfl rfl rfl (wd_73 hB _) (wd_497 hB _) (by decide +kernel) ⟨(show Fw + 3 + 1 ≤ (F + 1) + 3 by omega), (show 8 + (3 + 11) + (30 * Fw + 200) ≤ 30 * (F + 1) + 200 by omega)⟩), (wd_499 hB _), (wd_11 hB _)⟩ ⟨pe_bl, pg_recv (ci := 7) hK hP (lo_in hL t_Rd (by decide)) e78 rfl, pe_pre hB hK hP hD⟩ rfl rfl hl.1 rfl (lv_room (Nat.le_of_ble_eq_true rfl)) d_NReader_readTerm_83 ⟨Nat.le_of_ble_eq_true rfl, Nat.le_of_ble_eq_true rfl⟩) hS (fun r81 f82 H locs hq83 hP hD hS => ?_)
                  obtain ⟨rs_84, frn_85, hI1_86, hu1_87⟩ := hq83
                  have hu := hu.tr hu1_87 (by decide)
                  have hv30 := hv30.tr hu1_87 (by decide)
                  have eT := hu1_87.at t_tl (by decide) eT
                  have hfn : ∀ i, i < 72 → i < nn → f82 (g.lk (g.lk P 2) i) = f (g.lk (g.lk P 2) i) := fun i h1 h2 => (frn_85 i h1 (by omega)).trans (hfn i h1 h2)
                  have hfb9 : ∀ i, i < 72 → i < n9 → f82 (g.lk (g.lk P 2) i) = f23 (g.lk (g.lk P 2) i) := fun i h1 h2 => (frn_85 i h1 (by omega)).trans (hfb9 i h1 h2)
                  rcases rs_84 with ⟨a88, n89, j90, c95, c96, c97, c98, c99, c100, hp93, e91, e92, hx_94, rfl⟩ | ⟨a88, n89, c95, c96, hp93, e91, e92, rfl⟩
                  · skip
                    have hfb101 : ∀ i, i < 72 → i < n89 → f82 (g.lk (g.lk P 2) i) = f82 (g.lk (g.lk P 2) i) := fun _ _ _ => rfl
                    refine pcc_i (va_runV (C := "BigRunner$Reader") (As := [.int (nI 7), .int (nI j9), .int (nI j90)]) (rest := []) ⟨hx, hb, hml, hown, tb_nil⟩ (c2_addOp l g H.size f82 Rd tl ln a88 P hT sn n89 7 j9 j90 hL t_Rd t_tl t_P hI1_86 e91 eT cT (by omega) (by omega) e92 (by omega) (by omega) (by omega) (by omega) (by omega) (by omega) (by omega) (by omega)) ⟨(callB_of 3 (tb_one (wd_504 hB _)) tb_good1 rfl rfl rfl (wd_73 hB _) (wd_501 hB _) (by decide +kernel) ⟨(show 1 ≤ (F + 1) + 3 by omega), (show 24 ≤ 30 * (F + 1) + 200 by omega)⟩), (wd_503 hB _), (wd_12 hB _)⟩ ⟨pe_bl, pg_recv (ci := 7) hK hP (lo_in hL t_Rd (by decide)) e91 rfl, pe_pre hB hK hP hD⟩ rfl rfl hl.1 rfl (lv_room (Nat.le_of_ble_eq_true rfl)) d_NReader_readTerm_86 ⟨Nat.le_of_ble_eq_true rfl, Nat.le_of_ble_eq_true rfl⟩) hS (fun r102 f103 H locs hq104 hP hD hS => ?_)
                    obtain ⟨q_105, x1_106, xn_107, frn_108, hI1_109, hu1_110⟩ := hq104
                    subst q_105
                    have hu := hu.tr hu1_110 (by decide)
                    have hv30 := hv30.tr hu1_110 (by decide)
                    have eT := hu1_110.at t_tl (by decide) eT
                    have e91 := hu1_110.at t_Rd (by decide) e91
                    have hfn : ∀ i, i < 72 → i < nn → f103 (g.lk (g.lk P 2) i) = f (g.lk (g.lk P 2) i) := fun i h1 h2 => (frn_108 i h1 (by omega)).trans (hfn i h1 h2)
                    have hfb9 : ∀ i, i < 72 → i < n9 → f103 (g.lk (g.lk P 2) i) = f23 (g.lk (g.lk P 2) i) := fun i h1 h2 => (frn_108 i h1 (by omega)).trans (hfb9 i h1 h2)
                    have hfb101 : ∀ i, i < 72 → i < n89 → f103 (g.lk (g.lk P 2) i) = f82 (g.lk (g.lk P 2) i) := fun i h1 h2 => (frn_108 i h1 (by omega)).trans (hfb101 i h1 h2)
                    obtain ⟨sm_111, mv_112, hb113, e114⟩ := xn_107
                    refine lv_istore_n (lv' := [(2, .int (nI n89)), (3, .int (nI it)), (0, .ref Rd), (1, .int (nI d))]) hx hb d_NReader_readTerm_89 rfl hl (by decide) rfl (fun ls hl => ?_)
                    refine lv_goto (tgt := 95) hx hb d_NReader_readTerm_90 (by decide) ?_
                    refine lv_iinc (k := 1) (v := nI (it + 1)) (lv' := [(3, .int (nI (it + 1))), (2, .int (nI n89)), (0, .ref Rd), (1, .int (nI d))]) hx hb d_NReader_readTerm_95 hl rfl (by rw [nI_succ]; rfl) (by decide) rfl (fun ls hl => ?_)
                    refine lv_goto (tgt := 8) hx hb d_NReader_readTerm_98 (by decide) ?_
                    exact ih25 (it + 1) a88 (n89 + 1) n89 Fw (t9 ++ (ox_e (tk hT ln) (vc hT ln) Fw 0 d (a9 + 1) ++ [(6, 0)])) f103 H locs ls (by omega) (by omega) (by omega) (by omega) (by omega) (by omega) (by omega) (by omega) (by omega) (hpx.trans (by rw [px_e4, if_pos hk79, hp93]; rfl)) (hox.trans (by rw [ox_e4, if_pos hk79, hp93, Option.getD_some, (show okd (vc hT ln a9) = 6 by rw [vc_of hc77 (by decide)]; decide)]; simp)) (by rw [List.length_append, List.length_append, List.length_singleton]; omega) (XR_bin (w := 6) (sm := sm_111) (mv := mv_112) (XR_eq hxr (fun i q1 q2 => hfb9 i (by omega) (by omega))) (by rw [← hlt9]; exact XR_eq hx_94 (fun i q1 q2 => hfb101 i (by omega) (by omega))) (by decide) (by decide) (by rw [← hlt9, ← c100]; have e9 := e114; rw [show j9 = n9 - 1 by omega, show j90 = n89 - 1 by omega] at e9; exact e9)) hfn e91 x1_106 hI1_109 hv30 hl hP hD hS
                  · skip
                    refine pcc_i (va_runV (C := "BigRunner$Reader") (As := [.int (nI 7), .int (nI j9), .int (-1)]) (rest := []) ⟨hx, hb, hml, hown, tb_nil⟩ (c_addOpN l g H.size f82 Rd ((nI 7)) ((nI j9)) ((-1)) hL t_Rd hI1_86.1 (Or.inr rfl)) ⟨(callB_of 3 (tb_one (wd_504 hB _)) tb_good1 rfl rfl rfl (wd_73 hB _) (wd_501 hB _) (by decide +kernel) ⟨(show 1 ≤ (F + 1) + 3 by omega), (show 24 ≤ 30 * (F + 1) + 200 by omega)⟩), (wd_503 hB _), (wd_12 hB _)⟩ ⟨pe_bl, pg_recv (ci := 7) hK hP (lo_in hL t_Rd (by decide)) e91 rfl, pe_pre hB hK hP hD⟩ rfl rfl hl.1 rfl (lv_room (Nat.le_of_ble_eq_true rfl)) d_NReader_readTerm_86 ⟨Nat.le_of_ble_eq_true rfl, Nat.le_of_ble_eq_true rfl⟩) hS (fun r115 f116 H locs hq117 hP hD hS => ?_)
                    obtain ⟨q_118, rfl⟩ := hq117
                    subst q_118
                    refine lv_istore_n (lv' := [(2, .int (-1)), (3, .int (nI it)), (0, .ref Rd), (1, .int (nI d))]) hx hb d_NReader_readTerm_89 rfl hl (by decide) rfl (fun ls hl => ?_)
                    refine lv_goto (tgt := 95) hx hb d_NReader_readTerm_90 (by decide) ?_
                    refine lv_iinc (k := 1) (v := nI (it + 1)) (lv' := [(3, .int (nI (it + 1))), (2, .int (-1)), (0, .ref Rd), (1, .int (nI d))]) hx hb d_NReader_readTerm_95 hl rfl (by rw [nI_succ]; rfl) (by decide) rfl (fun ls hl => ?_)
                    refine lv_goto (tgt := 8) hx hb d_NReader_readTerm_98 (by decide) ?_
                    refine lv_iload_n hx hb d_NReader_readTerm_8 rfl (lv_at hl 0 rfl) ?_
                    refine lv_bipush (v := nI 72) hx hb d_NReader_readTerm_9 (by decide) ?_
                    refine lv_icmp_ge (tgt := 101) hx hb d_NReader_readTerm_11 (by decide) (fun b119 => ?_) (fun b119 => ?_)
                    · skip
                      replace b119 := (nI_leI (a := 72) (b := it + 1) (by omega) (by omega)).mp b119
                      refine lv_iload_n hx hb d_NReader_readTerm_101 rfl (lv_at hl 1 rfl) ?_
                      exact pe_iret hx hb hr hlocks hK hP hD hS d_NReader_readTerm_102 ⟨(Or.inr ⟨a88, n89, by omega, by omega, (hpx.trans (by rw [px_e4, if_pos hk79, hp93]; rfl)), e91, e92, rfl⟩), hfn, hI1_86, hu⟩
                    · skip
                      replace b119 := mt (nI_leI (a := 72) (b := it + 1) (by omega) (by omega)).mpr b119
                      refine lv_iload_n hx hb d_NReader_readTerm_14 rfl (lv_at hl 1 rfl) ?_
                      refine lv_iconst (v := (-1)) hx hb d_NReader_readTerm_15 (by decide) ?_
                      refine lv_icmp_eq (tgt := 101) hx hb d_NReader_readTerm_16 (by decide) (fun b120 => ?_) (fun b120 => ?_)
                      · skip
                        refine lv_iload_n hx hb d_NReader_readTerm_101 rfl (lv_at hl 1 rfl) ?_
                        exact pe_iret hx hb hr hlocks hK hP hD hS d_NReader_readTerm_102 ⟨(Or.inr ⟨a88, n89, by omega, by omega, (hpx.trans (by rw [px_e4, if_pos hk79, hp93]; rfl)), e91, e92, rfl⟩), hfn, hI1_86, hu⟩
                      · skip
                        exact absurd (by decide) b120
              · skip
                have hr121 : r47 = nI 1 := (bl_1 bo_50 b55)
                have hi122 := i1_52 hr121
                obtain ⟨hc123, hl126, e124⟩ := hi122
                have hk125 : tk hT ln a9 = 3 := kc_3.mpr (Or.inr (Or.inl hc123))
                refine lv_aload_n hx hb d_NReader_readTerm_52 rfl (lv_at hl 2 rfl) ?_
                refine lv_bipush (v := nI 6) hx hb d_NReader_readTerm_53 (by decide) ?_
                refine lv_iload_n hx hb d_NReader_readTerm_55 rfl (lv_at hl 1 rfl) ?_
                refine lv_aload_n hx hb d_NReader_readTerm_56 rfl (lv_at hl 2 rfl) ?_
                refine lv_iload_n hx hb d_NReader_readTerm_57 rfl (lv_at hl 3 rfl) ?_
                refine pcc_i (va_runV (C := "BigRunner$Reader") (As := [.int (nI d)]) (rest := [.int (nI j9), .int (nI 6), .ref Rd]) ⟨hx, hb, hml, hown, tb_nil⟩ ((ih Fw (by omega)).1 g H.size f48 Rd tl ln ((a9 + 1)) P hT sn n9 d hL t_Rd t_tl t_P hI1_53 e124 eT cT (by omega) (by omega) e28 (by omega) (by omega) (by omega) (by omega) (by omega)) ⟨(callB_of 1 (tb_one (wd_500 hB _)) tb_good1 rfl rfl rfl (wd_73 hB _) (wd_497 hB _) (by decide +kernel) ⟨(show Fw + 3 + 1 ≤ (F + 1) + 3 by omega), (show 8 + (3 + 11) + (30 * Fw + 200) ≤ 30 * (F + 1) + 200 by omega)⟩), (wd_499 hB _), (wd_11 hB _)⟩ ⟨pe_bl, pg_recv (ci := 7) hK hP (lo_in hL t_Rd (by decide)) e124 rfl, pe_pre hB hK hP hD⟩ rfl rfl hl.1 rfl (lv_room (Nat.le_of_ble_eq_true rfl)) d_NReader_readTerm_58 ⟨Nat.le_of_ble_eq_true rfl, Nat.le_of_ble_eq_true rfl⟩) hS (fun r127 f128 H locs hq129 hP hD hS => ?_)
                obtain ⟨rs_130, frn_131, hI1_132, hu1_133⟩ := hq129
                have hu := hu.tr hu1_133 (by decide)
                have hv30 := hv30.tr hu1_133 (by decide)
                have eT := hu1_133.at t_tl (by decide) eT
                have hfn : ∀ i, i < 72 → i < nn → f128 (g.lk (g.lk P 2) i) = f (g.lk (g.lk P 2) i) := fun i h1 h2 => (frn_131 i h1 (by omega)).trans (hfn i h1 h2)
                have hfb9 : ∀ i, i < 72 → i < n9 → f128 (g.lk (g.lk P 2) i) = f23 (g.lk (g.lk P 2) i) := fun i h1 h2 => (frn_131 i h1 (by omega)).trans (hfb9 i h1 h2)
                rcases rs_130 with ⟨a134, n135, j136, c141, c142, c143, c144, c145, c146, hp139, e137, e138, hx_140, rfl⟩ | ⟨a134, n135, c141, c142, hp139, e137, e138, rfl⟩
                · skip
                  have hfb147 : ∀ i, i < 72 → i < n135 → f128 (g.lk (g.lk P 2) i) = f128 (g.lk (g.lk P 2) i) := fun _ _ _ => rfl
                  refine pcc_i (va_runV (C := "BigRunner$Reader") (As := [.int (nI 6), .int (nI j9), .int (nI j136)]) (rest := []) ⟨hx, hb, hml, hown, tb_nil⟩ (c2_addOp l g H.size f128 Rd tl ln a134 P hT sn n135 6 j9 j136 hL t_Rd t_tl t_P hI1_132 e137 eT cT (by omega) (by omega) e138 (by omega) (by omega) (by omega) (by omega) (by omega) (by omega) (by omega) (by omega)) ⟨(callB_of 3 (tb_one (wd_504 hB _)) tb_good1 rfl rfl rfl (wd_73 hB _) (wd_501 hB _) (by decide +kernel) ⟨(show 1 ≤ (F + 1) + 3 by omega), (show 24 ≤ 30 * (F + 1) + 200 by omega)⟩), (wd_503 hB _), (wd_12 hB _)⟩ ⟨pe_bl, pg_recv (ci := 7) hK hP (lo_in hL t_Rd (by decide)) e137 rfl, pe_pre hB hK hP hD⟩ rfl rfl hl.1 rfl (lv_room (Nat.le_of_ble_eq_true rfl)) d_NReader_readTerm_61 ⟨Nat.le_of_ble_eq_true rfl, Nat.le_of_ble_eq_true rfl⟩) hS (fun r148 f149 H locs hq150 hP hD hS => ?_)
                  obtain ⟨q_151, x1_152, xn_153, frn_154, hI1_155, hu1_156⟩ := hq150
                  subst q_151
                  have hu := hu.tr hu1_156 (by decide)
                  have hv30 := hv30.tr hu1_156 (by decide)
                  have eT := hu1_156.at t_tl (by decide) eT
                  have e137 := hu1_156.at t_Rd (by decide) e137
                  have hfn : ∀ i, i < 72 → i < nn → f149 (g.lk (g.lk P 2) i) = f (g.lk (g.lk P 2) i) := fun i h1 h2 => (frn_154 i h1 (by omega)).trans (hfn i h1 h2)
                  have hfb9 : ∀ i, i < 72 → i < n9 → f149 (g.lk (g.lk P 2) i) = f23 (g.lk (g.lk P 2) i) := fun i h1 h2 => (frn_154 i h1 (by omega)).trans (hfb9 i h1 h2)
                  have hfb147 : ∀ i, i < 72 → i < n135 → f149 (g.lk (g.lk P 2) i) = f128 (g.lk (g.lk P 2) i) := fun i h1 h2 => (frn_154 i h1 (by omega)).trans (hfb147 i h1 h2)
                  obtain ⟨sm_157, mv_158, hb159, e160⟩ := xn_153
                  refine lv_istore_n (lv' := [(2, .int (nI n135)), (3, .int (nI it)), (0, .ref Rd), (1, .int (nI d))]) hx hb d_NReader_readTerm_64 rfl hl (by decide) rfl (fun ls hl => ?_)
                  refine lv_goto (tgt := 95) hx hb d_NReader_readTerm_65 (by decide) ?_
                  refine lv_iinc (k := 1) (v := nI (it + 1)) (lv' := [(3, .int (nI (it + 1))), (2, .int (nI n135)), (0, .ref Rd), (1, .int (nI d))]) hx hb d_NReader_readTerm_95 hl rfl (by rw [nI_succ]; rfl) (by decide) rfl (fun ls hl => ?_)
                  refine lv_goto (tgt := 8) hx hb d_NReader_readTerm_98 (by decide) ?_
                  exact ih25 (it + 1) a134 (n135 + 1) n135 Fw (t9 ++ (ox_e (tk hT ln) (vc hT ln) Fw 0 d (a9 + 1) ++ [(5, 0)])) f149 H locs ls (by omega) (by omega) (by omega) (by omega) (by omega) (by omega) (by omega) (by omega) (by omega) (hpx.trans (by rw [px_e4, if_pos hk125, hp139]; rfl)) (hox.trans (by rw [ox_e4, if_pos hk125, hp139, Option.getD_some, (show okd (vc hT ln a9) = 5 by rw [vc_of hc123 (by decide)]; decide)]; simp)) (by rw [List.length_append, List.length_append, List.length_singleton]; omega) (XR_bin (w := 5) (sm := sm_157) (mv := mv_158) (XR_eq hxr (fun i q1 q2 => hfb9 i (by omega) (by omega))) (by rw [← hlt9]; exact XR_eq hx_140 (fun i q1 q2 => hfb147 i (by omega) (by omega))) (by decide) (by decide) (by rw [← hlt9, ← c146]; have e9 := e160; rw [show j9 = n9 - 1 by omega, show j136 = n135 - 1 by omega] at e9; exact e9)) hfn e137 x1_152 hI1_155 hv30 hl hP hD hS
                · skip
                  refine pcc_i (va_runV (C := "BigRunner$Reader") (As := [.int (nI 6), .int (nI j9), .int (-1)]) (rest := []) ⟨hx, hb, hml, hown, tb_nil⟩ (c_addOpN l g H.size f128 Rd ((nI 6)) ((nI j9)) ((-1)) hL t_Rd hI1_132.1 (Or.inr rfl)) ⟨(callB_of 3 (tb_one (wd_504 hB _)) tb_good1 rfl rfl rfl (wd_73 hB _) (wd_501 hB _) (by decide +kernel) ⟨(show 1 ≤ (F + 1) + 3 by omega), (show 24 ≤ 30 * (F + 1) + 200 by omega)⟩), (wd_503 hB _), (wd_12 hB _)⟩ ⟨pe_bl, pg_recv (ci := 7) hK hP (lo_in hL t_Rd (by decide)) e137 rfl, pe_pre hB hK hP hD⟩ rfl rfl hl.1 rfl (lv_room (Nat.le_of_ble_eq_true rfl)) d_NReader_readTerm_61 ⟨Nat.le_of_ble_eq_true rfl, Nat.le_of_ble_eq_true rfl⟩) hS (fun r161 f162 H locs hq163 hP hD hS => ?_)
                  obtain ⟨q_164, rfl⟩ := hq163
                  subst q_164
                  refine lv_istore_n (lv' := [(2, .int (-1)), (3, .int (nI it)), (0, .ref Rd), (1, .int (nI d))]) hx hb d_NReader_readTerm_64 rfl hl (by decide) rfl (fun ls hl => ?_)
                  refine lv_goto (tgt := 95) hx hb d_NReader_readTerm_65 (by decide) ?_
                  refine lv_iinc (k := 1) (v := nI (it + 1)) (lv' := [(3, .int (nI (it + 1))), (2, .int (-1)), (0, .ref Rd), (1, .int (nI d))]) hx hb d_NReader_readTerm_95 hl rfl (by rw [nI_succ]; rfl) (by decide) rfl (fun ls hl => ?_)
                  refine lv_goto (tgt := 8) hx hb d_NReader_readTerm_98 (by decide) ?_
                  refine lv_iload_n hx hb d_NReader_readTerm_8 rfl (lv_at hl 0 rfl) ?_
                  refine lv_bipush (v := nI 72) hx hb d_NReader_readTerm_9 (by decide) ?_
                  refine lv_icmp_ge (tgt := 101) hx hb d_NReader_readTerm_11 (by decide) (fun b165 => ?_) (fun b165 => ?_)
                  · skip
                    replace b165 := (nI_leI (a := 72) (b := it + 1) (by omega) (by omega)).mp b165
                    refine lv_iload_n hx hb d_NReader_readTerm_101 rfl (lv_at hl 1 rfl) ?_
                    exact pe_iret hx hb hr hlocks hK hP hD hS d_NReader_readTerm_102 ⟨(Or.inr ⟨a134, n135, by omega, by omega, (hpx.trans (by rw [px_e4, if_pos hk125, hp139]; rfl)), e137, e138, rfl⟩), hfn, hI1_132, hu⟩
                  · skip
                    replace b165 := mt (nI_leI (a := 72) (b := it + 1) (by omega) (by omega)).mpr b165
                    refine lv_iload_n hx hb d_NReader_readTerm_14 rfl (lv_at hl 1 rfl) ?_
                    refine lv_iconst (v := (-1)) hx hb d_NReader_readTerm_15 (by decide) ?_
                    refine lv_icmp_eq (tgt := 101) hx hb d_NReader_readTerm_16 (by decide) (fun b166 => ?_) (fun b166 => ?_)
                    · skip
                      refine lv_iload_n hx hb d_NReader_readTerm_101 rfl (lv_at hl 1 rfl) ?_
                      exact pe_iret hx hb hr hlocks hK hP hD hS d_NReader_readTerm_102 ⟨(Or.inr ⟨a134, n135, by omega, by omega, (hpx.trans (by rw [px_e4, if_pos hk125, hp139]; rfl)), e137, e138, rfl⟩), hfn, hI1_132, hu⟩
                    · skip
                      exact absurd (by decide) b166
            · skip
              have hr167 : r33 = nI 1 := (bl_1 bo_36 b41)
              have hi168 := i1_38 hr167
              obtain ⟨hc169, hl172, e170⟩ := hi168
              have hk171 : tk hT ln a9 = 3 := kc_3.mpr (Or.inl hc169)
              refine lv_aload_n hx hb d_NReader_readTerm_28 rfl (lv_at hl 2 rfl) ?_
              refine lv_iconst (v := nI 5) hx hb d_NReader_readTerm_29 (by decide) ?_
              refine lv_iload_n hx hb d_NReader_readTerm_30 rfl (lv_at hl 1 rfl) ?_
              refine lv_aload_n hx hb d_NReader_readTerm_31 rfl (lv_at hl 2 rfl) ?_
              refine lv_iload_n hx hb d_NReader_readTerm_32 rfl (lv_at hl 3 rfl) ?_
              refine pcc_i (va_runV (C := "BigRunner$Reader") (As := [.int (nI d)]) (rest := [.int (nI j9), .int (nI 5), .ref Rd]) ⟨hx, hb, hml, hown, tb_nil⟩ ((ih Fw (by omega)).1 g H.size f34 Rd tl ln ((a9 + 1)) P hT sn n9 d hL t_Rd t_tl t_P hI1_39 e170 eT cT (by omega) (by omega) e28 (by omega) (by omega) (by omega) (by omega) (by omega)) ⟨(callB_of 1 (tb_one (wd_500 hB _)) tb_good1 rfl rfl rfl (wd_73 hB _) (wd_497 hB _) (by decide +kernel) ⟨(show Fw + 3 + 1 ≤ (F + 1) + 3 by omega), (show 8 + (3 + 11) + (30 * Fw + 200) ≤ 30 * (F + 1) + 200 by omega)⟩), (wd_499 hB _), (wd_11 hB _)⟩ ⟨pe_bl, pg_recv (ci := 7) hK hP (lo_in hL t_Rd (by decide)) e170 rfl, pe_pre hB hK hP hD⟩ rfl rfl hl.1 rfl (lv_room (Nat.le_of_ble_eq_true rfl)) d_NReader_readTerm_33 ⟨Nat.le_of_ble_eq_true rfl, Nat.le_of_ble_eq_true rfl⟩) hS (fun r173 f174 H locs hq175 hP hD hS => ?_)
              obtain ⟨rs_176, frn_177, hI1_178, hu1_179⟩ := hq175
              have hu := hu.tr hu1_179 (by decide)
              have hv30 := hv30.tr hu1_179 (by decide)
              have eT := hu1_179.at t_tl (by decide) eT
              have hfn : ∀ i, i < 72 → i < nn → f174 (g.lk (g.lk P 2) i) = f (g.lk (g.lk P 2) i) := fun i h1 h2 => (frn_177 i h1 (by omega)).trans (hfn i h1 h2)
              have hfb9 : ∀ i, i < 72 → i < n9 → f174 (g.lk (g.lk P 2) i) = f23 (g.lk (g.lk P 2) i) := fun i h1 h2 => (frn_177 i h1 (by omega)).trans (hfb9 i h1 h2)
              rcases rs_176 with ⟨a180, n181, j182, c187, c188, c189, c190, c191, c192, hp185, e183, e184, hx_186, rfl⟩ | ⟨a180, n181, c187, c188, hp185, e183, e184, rfl⟩
              · skip
                have hfb193 : ∀ i, i < 72 → i < n181 → f174 (g.lk (g.lk P 2) i) = f174 (g.lk (g.lk P 2) i) := fun _ _ _ => rfl
                refine pcc_i (va_runV (C := "BigRunner$Reader") (As := [.int (nI 5), .int (nI j9), .int (nI j182)]) (rest := []) ⟨hx, hb, hml, hown, tb_nil⟩ (c2_addOp l g H.size f174 Rd tl ln a180 P hT sn n181 5 j9 j182 hL t_Rd t_tl t_P hI1_178 e183 eT cT (by omega) (by omega) e184 (by omega) (by omega) (by omega) (by omega) (by omega) (by omega) (by omega) (by omega)) ⟨(callB_of 3 (tb_one (wd_504 hB _)) tb_good1 rfl rfl rfl (wd_73 hB _) (wd_501 hB _) (by decide +kernel) ⟨(show 1 ≤ (F + 1) + 3 by omega), (show 24 ≤ 30 * (F + 1) + 200 by omega)⟩), (wd_503 hB _), (wd_12 hB _)⟩ ⟨pe_bl, pg_recv (ci := 7) hK hP (lo_in hL t_Rd (by decide)) e183 rfl, pe_pre hB hK hP hD⟩ rfl rfl hl.1 rfl (lv_room (Nat.le_of_ble_eq_true rfl)) d_NReader_readTerm_36 ⟨Nat.le_of_ble_eq_true rfl, Nat.le_of_ble_eq_true rfl⟩) hS (fun r194 f195 H locs hq196 hP hD hS => ?_)
                obtain ⟨q_197, x1_198, xn_199, frn_200, hI1_201, hu1_202⟩ := hq196
                subst q_197
                have hu := hu.tr hu1_202 (by decide)
                have hv30 := hv30.tr hu1_202 (by decide)
                have eT := hu1_202.at t_tl (by decide) eT
                have e183 := hu1_202.at t_Rd (by decide) e183
                have hfn : ∀ i, i < 72 → i < nn → f195 (g.lk (g.lk P 2) i) = f (g.lk (g.lk P 2) i) := fun i h1 h2 => (frn_200 i h1 (by omega)).trans (hfn i h1 h2)
                have hfb9 : ∀ i, i < 72 → i < n9 → f195 (g.lk (g.lk P 2) i) = f23 (g.lk (g.lk P 2) i) := fun i h1 h2 => (frn_200 i h1 (by omega)).trans (hfb9 i h1 h2)
                have hfb193 : ∀ i, i < 72 → i < n181 → f195 (g.lk (g.lk P 2) i) = f174 (g.lk (g.lk P 2) i) := fun i h1 h2 => (frn_200 i h1 (by omega)).trans (hfb193 i h1 h2)
                obtain ⟨sm_203, mv_204, hb205, e206⟩ := xn_199
                refine lv_istore_n (lv' := [(2, .int (nI n181)), (3, .int (nI it)), (0, .ref Rd), (1, .int (nI d))]) hx hb d_NReader_readTerm_39 rfl hl (by decide) rfl (fun ls hl => ?_)
                refine lv_goto (tgt := 95) hx hb d_NReader_readTerm_40 (by decide) ?_
                refine lv_iinc (k := 1) (v := nI (it + 1)) (lv' := [(3, .int (nI (it + 1))), (2, .int (nI n181)), (0, .ref Rd), (1, .int (nI d))]) hx hb d_NReader_readTerm_95 hl rfl (by rw [nI_succ]; rfl) (by decide) rfl (fun ls hl => ?_)
                refine lv_goto (tgt := 8) hx hb d_NReader_readTerm_98 (by decide) ?_
                exact ih25 (it + 1) a180 (n181 + 1) n181 Fw (t9 ++ (ox_e (tk hT ln) (vc hT ln) Fw 0 d (a9 + 1) ++ [(4, 0)])) f195 H locs ls (by omega) (by omega) (by omega) (by omega) (by omega) (by omega) (by omega) (by omega) (by omega) (hpx.trans (by rw [px_e4, if_pos hk171, hp185]; rfl)) (hox.trans (by rw [ox_e4, if_pos hk171, hp185, Option.getD_some, (show okd (vc hT ln a9) = 4 by rw [vc_of hc169 (by decide)]; decide)]; simp)) (by rw [List.length_append, List.length_append, List.length_singleton]; omega) (XR_bin (w := 4) (sm := sm_203) (mv := mv_204) (XR_eq hxr (fun i q1 q2 => hfb9 i (by omega) (by omega))) (by rw [← hlt9]; exact XR_eq hx_186 (fun i q1 q2 => hfb193 i (by omega) (by omega))) (by decide) (by decide) (by rw [← hlt9, ← c192]; have e9 := e206; rw [show j9 = n9 - 1 by omega, show j182 = n181 - 1 by omega] at e9; exact e9)) hfn e183 x1_198 hI1_201 hv30 hl hP hD hS
              · skip
                refine pcc_i (va_runV (C := "BigRunner$Reader") (As := [.int (nI 5), .int (nI j9), .int (-1)]) (rest := []) ⟨hx, hb, hml, hown, tb_nil⟩ (c_addOpN l g H.size f174 Rd ((nI 5)) ((nI j9)) ((-1)) hL t_Rd hI1_178.1 (Or.inr rfl)) ⟨(callB_of 3 (tb_one (wd_504 hB _)) tb_good1 rfl rfl rfl (wd_73 hB _) (wd_501 hB _) (by decide +kernel) ⟨(show 1 ≤ (F + 1) + 3 by omega), (show 24 ≤ 30 * (F + 1) + 200 by omega)⟩), (wd_503 hB _), (wd_12 hB _)⟩ ⟨pe_bl, pg_recv (ci := 7) hK hP (lo_in hL t_Rd (by decide)) e183 rfl, pe_pre hB hK hP hD⟩ rfl rfl hl.1 rfl (lv_room (Nat.le_of_ble_eq_true rfl)) d_NReader_readTerm_36 ⟨Nat.le_of_ble_eq_true rfl, Nat.le_of_ble_eq_true rfl⟩) hS (fun r207 f208 H locs hq209 hP hD hS => ?_)
                obtain ⟨q_210, rfl⟩ := hq209
                subst q_210
                refine lv_istore_n (lv' := [(2, .int (-1)), (3, .int (nI it)), (0, .ref Rd), (1, .int (nI d))]) hx hb d_NReader_readTerm_39 rfl hl (by decide) rfl (fun ls hl => ?_)
                refine lv_goto (tgt := 95) hx hb d_NReader_readTerm_40 (by decide) ?_
                refine lv_iinc (k := 1) (v := nI (it + 1)) (lv' := [(3, .int (nI (it + 1))), (2, .int (-1)), (0, .ref Rd), (1, .int (nI d))]) hx hb d_NReader_readTerm_95 hl rfl (by rw [nI_succ]; rfl) (by decide) rfl (fun ls hl => ?_)
                refine lv_goto (tgt := 8) hx hb d_NReader_readTerm_98 (by decide) ?_
                refine lv_iload_n hx hb d_NReader_readTerm_8 rfl (lv_at hl 0 rfl) ?_
                refine lv_bipush (v := nI 72) hx hb d_NReader_readTerm_9 (by decide) ?_
                refine lv_icmp_ge (tgt := 101) hx hb d_NReader_readTerm_11 (by decide) (fun b211 => ?_) (fun b211 => ?_)
                · skip
                  replace b211 := (nI_leI (a := 72) (b := it + 1) (by omega) (by omega)).mp b211
                  refine lv_iload_n hx hb d_NReader_readTerm_101 rfl (lv_at hl 1 rfl) ?_
                  exact pe_iret hx hb hr hlocks hK hP hD hS d_NReader_readTerm_102 ⟨(Or.inr ⟨a180, n181, by omega, by omega, (hpx.trans (by rw [px_e4, if_pos hk171, hp185]; rfl)), e183, e184, rfl⟩), hfn, hI1_178, hu⟩
                · skip
                  replace b211 := mt (nI_leI (a := 72) (b := it + 1) (by omega) (by omega)).mpr b211
                  refine lv_iload_n hx hb d_NReader_readTerm_14 rfl (lv_at hl 1 rfl) ?_
                  refine lv_iconst (v := (-1)) hx hb d_NReader_readTerm_15 (by decide) ?_
                  refine lv_icmp_eq (tgt := 101) hx hb d_NReader_readTerm_16 (by decide) (fun b212 => ?_) (fun b212 => ?_)
                  · skip
                    refine lv_iload_n hx hb d_NReader_readTerm_101 rfl (lv_at hl 1 rfl) ?_
                    exact pe_iret hx hb hr hlocks hK hP hD hS d_NReader_readTerm_102 ⟨(Or.inr ⟨a180, n181, by omega, by omega, (hpx.trans (by rw [px_e4, if_pos hk171, hp185]; rfl)), e183, e184, rfl⟩), hfn, hI1_178, hu⟩
                  · skip
                    exact absurd (by decide) b212
    exact lp22 73 0 a8 n9 j10 F (ox_e (tk hT ln) (vc hT ln) F 0 d ax) f2 H locs ls (by omega) (by omega) (by omega) (by omega) (by omega) (by omega) (by omega) (by omega) (by omega) (by rw [px_e2, hp13]; rfl) (by rw [ox_e2, hp13, Option.getD_some]) c20 (XR_eq hx_14 (fun i q1 q2 => hfb21 i (by omega) (by omega))) hfn e11 e12 hI1_6 un.rf hl hP hD hS
  · skip
    refine lv_istore_n (lv' := [(2, .int (-1)), (0, .ref Rd), (1, .int (nI d))]) hx hb d_NReader_readTerm_5 rfl hl (by decide) rfl (fun ls hl => ?_)
    refine lv_iconst (v := nI 0) hx hb d_NReader_readTerm_6 (by decide) ?_
    refine lv_istore_n (lv' := [(3, .int (nI 0)), (2, .int (-1)), (0, .ref Rd), (1, .int (nI d))]) hx hb d_NReader_readTerm_7 rfl hl (by decide) rfl (fun ls hl => ?_)
    refine lv_iload_n hx hb d_NReader_readTerm_8 rfl (lv_at hl 0 rfl) ?_
    refine lv_bipush (v := nI 72) hx hb d_NReader_readTerm_9 (by decide) ?_
    refine lv_icmp_ge (tgt := 101) hx hb d_NReader_readTerm_11 (by decide) (fun b213 => ?_) (fun b213 => ?_)
    · skip
      replace b213 := (nI_leI (a := 72) (b := 0) (by omega) (by omega)).mp b213
      exfalso; omega
    · skip
      replace b213 := mt (nI_leI (a := 72) (b := 0) (by omega) (by omega)).mpr b213
      refine lv_iload_n hx hb d_NReader_readTerm_14 rfl (lv_at hl 1 rfl) ?_
      refine lv_iconst (v := (-1)) hx hb d_NReader_readTerm_15 (by decide) ?_
      refine lv_icmp_eq (tgt := 101) hx hb d_NReader_readTerm_16 (by decide) (fun b214 => ?_) (fun b214 => ?_)
      · skip
        refine lv_iload_n hx hb d_NReader_readTerm_101 rfl (lv_at hl 1 rfl) ?_
        exact pe_iret hx hb hr hlocks hK hP hD hS d_NReader_readTerm_102 ⟨(Or.inr ⟨a8, n9, by omega, by omega, (by rw [px_e2, hp13]; rfl), e11, e12, rfl⟩), hfn, hI1_6, hu⟩
      · skip
        exact absurd (by decide) b214
set_option maxHeartbeats 4000000 in
set_option maxRecDepth 100000 in
theorem re2_step (l : Launch) (F : Nat) (ih : ∀ F', F' ≤ F → RF2 l F' ∧ RE2 l F' ∧ RT2 l F') : RE2 l (F + 1) := by
  intro g sz f Rd tl ln ax P hT sn nn d hL t_Rd t_tl t_P hI eR eT cT hln hax eP hsn hnn hna hd hF
  refine pe_ofW (cc := prog_8_method_11_code) (maxL := 4) (ret := (some .int)) (lv := [(0, .ref Rd), (1, .int (nI d))]) (by decide) (Nat.le_of_ble_eq_true rfl) rfl ?_
  intro p e s m args below meth c ls hx hb hr hml hlocks hown hB hP hK hD hsz hS hl
  subst hsz
  have hu : un [6, 7, 8] g f f := un.rf
  have hfn : ∀ i, i < 72 → i < nn → f (g.lk (g.lk P 2) i) = f (g.lk (g.lk P 2) i) := fun _ _ _ => rfl
  refine lv_aload_n hx hb d_NReader_readExpr_0 rfl (lv_at hl 0 rfl) ?_
  refine lv_iload_n hx hb d_NReader_readExpr_1 rfl (lv_at hl 1 rfl) ?_
  refine pcc_i (va_runV (C := "BigRunner$Reader") (As := [.int (nI d)]) (rest := []) ⟨hx, hb, hml, hown, tb_nil⟩ ((ih F (by omega)).2.2 g s.heap.size f Rd tl ln ax P hT sn nn d hL t_Rd t_tl t_P hI eR eT cT (by omega) (by omega) eP (by omega) (by omega) (by omega) (by omega) (by omega)) ⟨(callB_of 1 (tb_one (wd_496 hB _)) tb_good1 rfl rfl rfl (wd_73 hB _) (wd_493 hB _) (by decide +kernel) ⟨(show F + 3 + 1 ≤ (F + 1) + 3 by omega), (show 8 + (4 + 11) + (30 * F + 200) ≤ 30 * (F + 1) + 200 by omega)⟩), (wd_495 hB _), (wd_10 hB _)⟩ ⟨pe_bl, pg_recv (ci := 7) hK hP (lo_in hL t_Rd (by decide)) eR rfl, pe_pre hB hK hP hD⟩ rfl rfl hl.1 rfl (lv_room (Nat.le_of_ble_eq_true rfl)) d_NReader_readExpr_2 ⟨Nat.le_of_ble_eq_true rfl, Nat.le_of_ble_eq_true rfl⟩) hS (fun r1 f2 H locs hq3 hP hD hS => ?_)
  obtain ⟨rs_4, frn_5, hI1_6, hu1_7⟩ := hq3
  have hu := hu.tr hu1_7 (by decide)
  have eT := hu1_7.at t_tl (by decide) eT
  have hfn : ∀ i, i < 72 → i < nn → f2 (g.lk (g.lk P 2) i) = f (g.lk (g.lk P 2) i) := fun i h1 h2 => (frn_5 i h1 (by omega)).trans (hfn i h1 h2)
  rcases rs_4 with ⟨a8, n9, j10, c15, c16, c17, c18, c19, c20, hp13, e11, e12, hx_14, rfl⟩ | ⟨a8, n9, c15, c16, hp13, e11, e12, rfl⟩
  · skip
    have hfb21 : ∀ i, i < 72 → i < n9 → f2 (g.lk (g.lk P 2) i) = f2 (g.lk (g.lk P 2) i) := fun _ _ _ => rfl
    refine lv_istore_n (lv' := [(2, .int (nI j10)), (0, .ref Rd), (1, .int (nI d))]) hx hb d_NReader_readExpr_5 rfl hl (by decide) rfl (fun ls hl => ?_)
    refine lv_iconst (v := nI 0) hx hb d_NReader_readExpr_6 (by decide) ?_
    refine lv_istore_n (lv' := [(3, .int (nI 0)), (2, .int (nI j10)), (0, .ref Rd), (1, .int (nI d))]) hx hb d_NReader_readExpr_7 rfl hl (by decide) rfl (fun ls hl => ?_)
    have lp22 : ∀ (k24 : Nat) (it : Nat) (a9 : Nat) (n9 : Nat) (j9 : Nat) (Fv : Nat) (t9 : List (Nat × Nat)) (f23 : Nat → va_E) (H : Heap) (locs : List Loc) (ls : Array Slot), (72 < it + k24) → (a9 ≤ ln) → (n9 + ax ≤ nn + a9) → (n9 ≤ 72) → (nn ≤ n9) → (j9 + 1 = n9) → (it + ax < a9) → (Fv ≤ F) → (5 * (ln - a9) + 1 ≤ Fv) → (px_e (tk hT ln) (F + 1) 1 d ax = px_e (tk hT ln) Fv 3 d a9) → (ox_e (tk hT ln) (vc hT ln) (F + 1) 1 d ax = t9 ++ ox_e (tk hT ln) (vc hT ln) Fv 3 d a9) → (n9 = nn + t9.length) → (XR g f23 P nn t9) → (∀ i, i < 72 → i < nn → f23 (g.lk (g.lk P 2) i) = f (g.lk (g.lk P 2) i)) → f23 Rd = .inr (7, [.ref tl, .int (nI ln), .int (nI a9), .ref P]) → f23 P = .inr (6, [.ref (g.lk P 0), .int (nI sn), .ref (g.lk P 2), .int (nI n9), .ref (g.lk P 4), .ref (g.lk P 5)]) → IV g f23 → un [6, 7, 8] g f2 f23 → lv_has ls 4 [(3, .int (nI it)), (2, .int (nI j9)), (0, .ref Rd), (1, .int (nI d))] → va_P g.D vcl (va_pl g.LP f23) H → va_D (pc_A g s.heap.size) (va_pl g.LP f23) → va_S (pc_A g s.heap.size) s.heap H locs → W p l e ({ frames := (F + 1) + 3, cells := 0, slots := 0, locals := 30 * (F + 1) + 200 }) s m args below meth c H locs 0 0 (MQ below (va_Qi (fun r f1 => ((∃ (a n1 j : Nat), a ≤ ln ∧ n1 ≤ 72 ∧ j + 1 = n1 ∧ n1 + ax ≤ nn + a ∧ ax < a ∧ n1 = nn + (ox_e (tk hT ln) (vc hT ln) (F + 1) 1 d ax).length ∧ px_e (tk hT ln) (F + 1) 1 d ax = some a ∧ f1 Rd = .inr (7, [.ref tl, .int (nI ln), .int (nI a), .ref P]) ∧ f1 P = .inr (6, [.ref (g.lk P 0), .int (nI sn), .ref (g.lk P 2), .int (nI n1), .ref (g.lk P 4), .ref (g.lk P 5)]) ∧ XR g f1 P nn (ox_e (tk hT ln) (vc hT ln) (F + 1) 1 d ax) ∧ r = nI j) ∨ (∃ (a n1 : Nat), a ≤ ln ∧ n1 ≤ 72 ∧ px_e (tk hT ln) (F + 1) 1 d ax = none ∧ f1 Rd = .inr (7, [.ref tl, .int (nI ln), .int (nI a), .ref P]) ∧ f1 P = .inr (6, [.ref (g.lk P 0), .int (nI sn), .ref (g.lk P 2), .int (nI n1), .ref (g.lk P 4), .ref (g.lk P 5)]) ∧ r = (-1))) ∧ (∀ i, i < 72 → i < nn → f1 (g.lk (g.lk P 2) i) = f (g.lk (g.lk P 2) i)) ∧ (IV g f1) ∧ (un [6, 7, 8] g f f1)) (pc_out g s.heap.size) (pc_A g s.heap.size)) args s 0 0 (pc_A g s.heap.size)) (F0 m 8 ls []) := by
      intro k24
      induction k24 with
      | zero => intros; exfalso; omega
      | succ k24 ih25 =>
        intro it a9 n9 j9 Fv t9 f23 H locs ls hfu26 ha9 hn9 hn92 hn93 hj9 hit hFv hFe hpx hox hlt9 hxr hfn e27 e28 hI29 hv30 hl hP hD hS
        have eT := hv30.at t_tl (by decide) eT
        have hu := hu.tr hv30 (by decide)
        obtain ⟨Fw, rfl⟩ : ∃ Fw, Fv = Fw + 1 := ⟨Fv - 1, by omega⟩
        have hfb9 : ∀ i, i < 72 → i < n9 → f23 (g.lk (g.lk P 2) i) = f23 (g.lk (g.lk P 2) i) := fun _ _ _ => rfl
        refine lv_iload_n hx hb d_NReader_readExpr_8 rfl (lv_at hl 0 rfl) ?_
        refine lv_bipush (v := nI 72) hx hb d_NReader_readExpr_9 (by decide) ?_
        refine lv_icmp_ge (tgt := 75) hx hb d_NReader_readExpr_11 (by decide) (fun b31 => ?_) (fun b31 => ?_)
        · skip
          replace b31 := (nI_leI (a := 72) (b := it) (by omega) (by omega)).mp b31
          exfalso; omega
        · skip
          replace b31 := mt (nI_leI (a := 72) (b := it) (by omega) (by omega)).mpr b31
          refine lv_iload_n hx hb d_NReader_readExpr_14 rfl (lv_at hl 1 rfl) ?_
          refine lv_iconst (v := (-1)) hx hb d_NReader_readExpr_15 (by decide) ?_
          refine lv_icmp_eq (tgt := 75) hx hb d_NReader_readExpr_16 (by decide) (fun b32 => ?_) (fun b32 => ?_)
          · skip
            exact absurd b32 (nI_n1 (j := j9) (by omega))
          · skip
            refine lv_aload_n hx hb d_NReader_readExpr_19 rfl (lv_at hl 2 rfl) ?_
            refine lv_bipush (v := nI 43) hx hb d_NReader_readExpr_20 (by decide) ?_
            refine pcc_i (va_runV (C := "BigRunner$Reader") (As := [.int (nI 43)]) (rest := []) ⟨hx, hb, hml, hown, tb_nil⟩ (c_accept l g H.size f23 Rd tl ln a9 P hT 43 hL t_Rd t_tl t_P hI29 e27 eT cT (by omega) (by omega) (by decide)) ⟨(callB_of 1 (tb_one (wd_472 hB _)) tb_good1 rfl rfl rfl (wd_73 hB _) (wd_469 hB _) (by decide +kernel) ⟨(show 2 ≤ (F + 1) + 3 by omega), (show 41 ≤ 30 * (F + 1) + 200 by omega)⟩), (wd_471 hB _), (wd_4 hB _)⟩ ⟨pe_bl, pg_recv (ci := 7) hK hP (lo_in hL t_Rd (by decide)) e27 rfl, pe_pre hB hK hP hD⟩ rfl rfl hl.1 rfl (lv_room (Nat.le_of_ble_eq_true rfl)) d_NReader_readExpr_22 ⟨Nat.le_of_ble_eq_true rfl, Nat.le_of_ble_eq_true rfl⟩) hS (fun r33 f34 H locs hq35 hP hD hS => ?_)
            obtain ⟨bo_36, i0_37, i1_38, hI1_39, hu1_40⟩ := hq35
            have hu := hu.tr hu1_40 (by decide)
            have hv30 := hv30.tr hu1_40 (by decide)
            have eT := hu1_40.at t_tl (by decide) eT
            have e28 := hu1_40.at t_P (by decide) e28
            have hfn : ∀ i, i < 72 → i < nn → f34 (g.lk (g.lk P 2) i) = f (g.lk (g.lk P 2) i) := fun i h1 h2 => (hu1_40 _ (by rw [lo_e25 hL _ (lo_k7_2 hL _ t_P) i h1]; decide)).trans (hfn i h1 h2)
            have hfb9 : ∀ i, i < 72 → i < n9 → f34 (g.lk (g.lk P 2) i) = f23 (g.lk (g.lk P 2) i) := fun i h1 h2 => (hu1_40 _ (by rw [lo_e25 hL _ (lo_k7_2 hL _ t_P) i h1]; decide)).trans (hfb9 i h1 h2)
            refine lv_if_eq (tgt := 43) hx hb d_NReader_readExpr_25 (by decide) (fun b41 => ?_) (fun b41 => ?_)
            · skip
              have hr42 : r33 = nI 0 := b41
              have hi43 := i0_37 hr42
              obtain ⟨hc44, e45⟩ := hi43
              have hk46 : tk hT ln a9 ≠ 1 := fun z => hc44 (kc_1.mp z)
              refine lv_aload_n hx hb d_NReader_readExpr_43 rfl (lv_at hl 2 rfl) ?_
              refine lv_bipush (v := nI 45) hx hb d_NReader_readExpr_44 (by decide) ?_
              refine pcc_i (va_runV (C := "BigRunner$Reader") (As := [.int (nI 45)]) (rest := []) ⟨hx, hb, hml, hown, tb_nil⟩ (c_accept l g H.size f34 Rd tl ln a9 P hT 45 hL t_Rd t_tl t_P hI1_39 e45 eT cT (by omega) (by omega) (by decide)) ⟨(callB_of 1 (tb_one (wd_472 hB _)) tb_good1 rfl rfl rfl (wd_73 hB _) (wd_469 hB _) (by decide +kernel) ⟨(show 2 ≤ (F + 1) + 3 by omega), (show 41 ≤ 30 * (F + 1) + 200 by omega)⟩), (wd_471 hB _), (wd_4 hB _)⟩ ⟨pe_bl, pg_recv (ci := 7) hK hP (lo_in hL t_Rd (by decide)) e45 rfl, pe_pre hB hK hP hD⟩ rfl rfl hl.1 rfl (lv_room (Nat.le_of_ble_eq_true rfl)) d_NReader_readExpr_46 ⟨Nat.le_of_ble_eq_true rfl, Nat.le_of_ble_eq_true rfl⟩) hS (fun r47 f48 H locs hq49 hP hD hS => ?_)
              obtain ⟨bo_50, i0_51, i1_52, hI1_53, hu1_54⟩ := hq49
              have hu := hu.tr hu1_54 (by decide)
              have hv30 := hv30.tr hu1_54 (by decide)
              have eT := hu1_54.at t_tl (by decide) eT
              have e28 := hu1_54.at t_P (by decide) e28
              have hfn : ∀ i, i < 72 → i < nn → f48 (g.lk (g.lk P 2) i) = f (g.lk (g.lk P 2) i) := fun i h1 h2 => (hu1_54 _ (by rw [lo_e25 hL _ (lo_k7_2 hL _ t_P) i h1]; decide)).trans (hfn i h1 h2)
              have hfb9 : ∀ i, i < 72 → i < n9 → f48 (g.lk (g.lk P 2) i) = f23 (g.lk (g.lk P 2) i) := fun i h1 h2 => (hu1_54 _ (by rw [lo_e25 hL _ (lo_k7_2 hL _ t_P) i h1]; decide)).trans (hfb9 i h1 h2)
              refine lv_if_eq (tgt := 67) hx hb d_NReader_readExpr_49 (by decide) (fun b55 => ?_) (fun b55 => ?_)
              · skip
                have hr56 : r47 = nI 0 := b55
                have hi57 := i0_51 hr56
                obtain ⟨hc58, e59⟩ := hi57
                have hk60 : tk hT ln a9 ≠ 2 := fun z => hc58 (kc_2.mp z)
                refine lv_iload_n hx hb d_NReader_readExpr_67 rfl (lv_at hl 1 rfl) ?_
                exact pe_iret hx hb hr hlocks hK hP hD hS d_NReader_readExpr_68 ⟨(Or.inl ⟨a9, n9, j9, by omega, by omega, by omega, by omega, by omega, (by have e9 : ox_e (tk hT ln) (vc hT ln) (F + 1) 1 d ax = t9 := hox.trans (by rw [ox_e3, if_neg (fun z => z.elim hk46 hk60), List.append_nil]); rw [e9]; exact hlt9), (hpx.trans (by rw [px_e3, if_neg (fun z => z.elim hk46 hk60)])), e59, e28, (by have e9 : ox_e (tk hT ln) (vc hT ln) (F + 1) 1 d ax = t9 := hox.trans (by rw [ox_e3, if_neg (fun z => z.elim hk46 hk60), List.append_nil]); rw [e9]; exact XR_eq hxr (fun i q1 q2 => hfb9 i (by omega) (by omega))), rfl⟩), hfn, hI1_53, hu⟩
              · skip
                have hr61 : r47 = nI 1 := (bl_1 bo_50 b55)
                have hi62 := i1_52 hr61
                obtain ⟨hc63, hl66, e64⟩ := hi62
                have hk65 : tk hT ln a9 = 2 := kc_2.mpr hc63
                refine lv_aload_n hx hb d_NReader_readExpr_52 rfl (lv_at hl 2 rfl) ?_
                refine lv_iconst (v := nI 4) hx hb d_NReader_readExpr_53 (by decide) ?_
                refine lv_iload_n hx hb d_NReader_readExpr_54 rfl (lv_at hl 1 rfl) ?_
                refine lv_aload_n hx hb d_NReader_readExpr_55 rfl (lv_at hl 2 rfl) ?_
                refine lv_iload_n hx hb d_NReader_readExpr_56 rfl (lv_at hl 3 rfl) ?_
                refine pcc_i (va_runV (C := "BigRunner$Reader") (As := [.int (nI d)]) (rest := [.int (nI j9), .int (nI 4), .ref Rd]) ⟨hx, hb, hml, hown, tb_nil⟩ ((ih Fw (by omega)).2.2 g H.size f48 Rd tl ln ((a9 + 1)) P hT sn n9 d hL t_Rd t_tl t_P hI1_53 e64 eT cT (by omega) (by omega) e28 (by omega) (by omega) (by omega) (by omega) (by omega)) ⟨(callB_of 1 (tb_one (wd_496 hB _)) tb_good1 rfl rfl rfl (wd_73 hB _) (wd_493 hB _) (by decide +kernel) ⟨(show Fw + 3 + 1 ≤ (F + 1) + 3 by omega), (show 8 + (4 + 11) + (30 * Fw + 200) ≤ 30 * (F + 1) + 200 by omega)⟩), (wd_495 hB _), (wd_10 hB _)⟩ ⟨pe_bl, pg_recv (ci := 7) hK hP (lo_in hL t_Rd (by decide)) e64 rfl, pe_pre hB hK hP hD⟩ rfl rfl hl.1 rfl (lv_room (Nat.le_of_ble_eq_true rfl)) d_NReader_readExpr_57 ⟨Nat.le_of_ble_eq_true rfl, Nat.le_of_ble_eq_true rfl⟩) hS (fun r67 f68 H locs hq69 hP hD hS => ?_)
                obtain ⟨rs_70, frn_71, hI1_72, hu1_73⟩ := hq69
                have hu := hu.tr hu1_73 (by decide)
                have hv30 := hv30.tr hu1_73 (by decide)
                have eT := hu1_73.at t_tl (by decide) eT
                have hfn : ∀ i, i < 72 → i < nn → f68 (g.lk (g.lk P 2) i) = f (g.lk (g.lk P 2) i) := fun i h1 h2 => (frn_71 i h1 (by omega)).trans (hfn i h1 h2)
                have hfb9 : ∀ i, i < 72 → i < n9 → f68 (g.lk (g.lk P 2) i) = f23 (g.lk (g.lk P 2) i) := fun i h1 h2 => (frn_71 i h1 (by omega)).trans (hfb9 i h1 h2)
                rcases rs_70 with ⟨a74, n75, j76, c81, c82, c83, c84, c85, c86, hp79, e77, e78, hx_80, rfl⟩ | ⟨a74, n75, c81, c82, hp79, e77, e78, rfl⟩
                · skip
                  have hfb87 : ∀ i, i < 72 → i < n75 → f68 (g.lk (g.lk P 2) i) = f68 (g.lk (g.lk P 2) i) := fun _ _ _ => rfl
                  refine pcc_i (va_runV (C := "BigRunner$Reader") (As := [.int (nI 4), .int (nI j9), .int (nI j76)]) (rest := []) ⟨hx, hb, hml, hown, tb_nil⟩ (c2_addOp l g H.size f68 Rd tl ln a74 P hT sn n75 4 j9 j76 hL t_Rd t_tl t_P hI1_72 e77 eT cT (by omega) (by omega) e78 (by omega) (by omega) (by omega) (by omega) (by omega) (by omega) (by omega) (by omega)) ⟨(callB_of 3 (tb_one (wd_504 hB _)) tb_good1 rfl rfl rfl (wd_73 hB _) (wd_501 hB _) (by decide +kernel) ⟨(show 1 ≤ (F + 1) + 3 by omega), (show 24 ≤ 30 * (F + 1) + 200 by omega)⟩), (wd_503 hB _), (wd_12 hB _)⟩ ⟨pe_bl, pg_recv (ci := 7) hK hP (lo_in hL t_Rd (by decide)) e77 rfl, pe_pre hB hK hP hD⟩ rfl rfl hl.1 rfl (lv_room (Nat.le_of_ble_eq_true rfl)) d_NReader_readExpr_60 ⟨Nat.le_of_ble_eq_true rfl, Nat.le_of_ble_eq_true rfl⟩) hS (fun r88 f89 H locs hq90 hP hD hS => ?_)
                  obtain ⟨q_91, x1_92, xn_93, frn_94, hI1_95, hu1_96⟩ := hq90
                  subst q_91
                  have hu := hu.tr hu1_96 (by decide)
                  have hv30 := hv30.tr hu1_96 (by decide)
                  have eT := hu1_96.at t_tl (by decide) eT
                  have e77 := hu1_96.at t_Rd (by decide) e77
                  have hfn : ∀ i, i < 72 → i < nn → f89 (g.lk (g.lk P 2) i) = f (g.lk (g.lk P 2) i) := fun i h1 h2 => (frn_94 i h1 (by omega)).trans (hfn i h1 h2)
                  have hfb9 : ∀ i, i < 72 → i < n9 → f89 (g.lk (g.lk P 2) i) = f23 (g.lk (g.lk P 2) i) := fun i h1 h2 => (frn_94 i h1 (by omega)).trans (hfb9 i h1 h2)
                  have hfb87 : ∀ i, i < 72 → i < n75 → f89 (g.lk (g.lk P 2) i) = f68 (g.lk (g.lk P 2) i) := fun i h1 h2 => (frn_94 i h1 (by omega)).trans (hfb87 i h1 h2)
                  obtain ⟨sm_97, mv_98, hb99, e100⟩ := xn_93
                  refine lv_istore_n (lv' := [(2, .int (nI n75)), (3, .int (nI it)), (0, .ref Rd), (1, .int (nI d))]) hx hb d_NReader_readExpr_63 rfl hl (by decide) rfl (fun ls hl => ?_)
                  refine lv_goto (tgt := 69) hx hb d_NReader_readExpr_64 (by decide) ?_
                  refine lv_iinc (k := 1) (v := nI (it + 1)) (lv' := [(3, .int (nI (it + 1))), (2, .int (nI n75)), (0, .ref Rd), (1, .int (nI d))]) hx hb d_NReader_readExpr_69 hl rfl (by rw [nI_succ]; rfl) (by decide) rfl (fun ls hl => ?_)
                  refine lv_goto (tgt := 8) hx hb d_NReader_readExpr_72 (by decide) ?_
                  exact ih25 (it + 1) a74 (n75 + 1) n75 Fw (t9 ++ (ox_e (tk hT ln) (vc hT ln) Fw 2 d (a9 + 1) ++ [(3, 0)])) f89 H locs ls (by omega) (by omega) (by omega) (by omega) (by omega) (by omega) (by omega) (by omega) (by omega) (hpx.trans (by rw [px_e3, if_pos (Or.inr hk65), hp79]; rfl)) (hox.trans (by rw [ox_e3, if_pos (Or.inr hk65), hp79, Option.getD_some, (show okd (vc hT ln a9) = 3 by rw [vc_of hc63 (by decide)]; decide)]; simp)) (by rw [List.length_append, List.length_append, List.length_singleton]; omega) (XR_bin (w := 3) (sm := sm_97) (mv := mv_98) (XR_eq hxr (fun i q1 q2 => hfb9 i (by omega) (by omega))) (by rw [← hlt9]; exact XR_eq hx_80 (fun i q1 q2 => hfb87 i (by omega) (by omega))) (by decide) (by decide) (by rw [← hlt9, ← c86]; have e9 := e100; rw [show j9 = n9 - 1 by omega, show j76 = n75 - 1 by omega] at e9; exact e9)) hfn e77 x1_92 hI1_95 hv30 hl hP hD hS
                · skip
                  refine pcc_i (va_runV (C := "BigRunner$Reader") (As := [.int (nI 4), .int (nI j9), .int (-1)]) (rest := []) ⟨hx, hb, hml, hown, tb_nil⟩ (c_addOpN l g H.size f68 Rd ((nI 4)) ((nI j9)) ((-1)) hL t_Rd hI1_72.1 (Or.inr rfl)) ⟨(callB_of 3 (tb_one (wd_504 hB _)) tb_good1 rfl rfl rfl (wd_73 hB _) (wd_501 hB _) (by decide +kernel) ⟨(show 1 ≤ (F + 1) + 3 by omega), (show 24 ≤ 30 * (F + 1) + 200 by omega)⟩), (wd_503 hB _), (wd_12 hB _)⟩ ⟨pe_bl, pg_recv (ci := 7) hK hP (lo_in hL t_Rd (by decide)) e77 rfl, pe_pre hB hK hP hD⟩ rfl rfl hl.1 rfl (lv_room (Nat.le_of_ble_eq_true rfl)) d_NReader_readExpr_60 ⟨Nat.le_of_ble_eq_true rfl, Nat.le_of_ble_eq_true rfl⟩) hS (fun r101 f102 H locs hq103 hP hD hS => ?_)
                  obtain ⟨q_104, rfl⟩ := hq103
                  subst q_104
                  refine lv_istore_n (lv' := [(2, .int (-1)), (3, .int (nI it)), (0, .ref Rd), (1, .int (nI d))]) hx hb d_NReader_readExpr_63 rfl hl (by decide) rfl (fun ls hl => ?_)
                  refine lv_goto (tgt := 69) hx hb d_NReader_readExpr_64 (by decide) ?_
                  refine lv_iinc (k := 1) (v := nI (it + 1)) (lv' := [(3, .int (nI (it + 1))), (2, .int (-1)), (0, .ref Rd), (1, .int (nI d))]) hx hb d_NReader_readExpr_69 hl rfl (by rw [nI_succ]; rfl) (by decide) rfl (fun ls hl => ?_)
                  refine lv_goto (tgt := 8) hx hb d_NReader_readExpr_72 (by decide) ?_
                  refine lv_iload_n hx hb d_NReader_readExpr_8 rfl (lv_at hl 0 rfl) ?_
                  refine lv_bipush (v := nI 72) hx hb d_NReader_readExpr_9 (by decide) ?_
                  refine lv_icmp_ge (tgt := 75) hx hb d_NReader_readExpr_11 (by decide) (fun b105 => ?_) (fun b105 => ?_)
                  · skip
                    replace b105 := (nI_leI (a := 72) (b := it + 1) (by omega) (by omega)).mp b105
                    refine lv_iload_n hx hb d_NReader_readExpr_75 rfl (lv_at hl 1 rfl) ?_
                    exact pe_iret hx hb hr hlocks hK hP hD hS d_NReader_readExpr_76 ⟨(Or.inr ⟨a74, n75, by omega, by omega, (hpx.trans (by rw [px_e3, if_pos (Or.inr hk65), hp79]; rfl)), e77, e78, rfl⟩), hfn, hI1_72, hu⟩
                  · skip
                    replace b105 := mt (nI_leI (a := 72) (b := it + 1) (by omega) (by omega)).mpr b105
                    refine lv_iload_n hx hb d_NReader_readExpr_14 rfl (lv_at hl 1 rfl) ?_
                    refine lv_iconst (v := (-1)) hx hb d_NReader_readExpr_15 (by decide) ?_
                    refine lv_icmp_eq (tgt := 75) hx hb d_NReader_readExpr_16 (by decide) (fun b106 => ?_) (fun b106 => ?_)
                    · skip
                      refine lv_iload_n hx hb d_NReader_readExpr_75 rfl (lv_at hl 1 rfl) ?_
                      exact pe_iret hx hb hr hlocks hK hP hD hS d_NReader_readExpr_76 ⟨(Or.inr ⟨a74, n75, by omega, by omega, (hpx.trans (by rw [px_e3, if_pos (Or.inr hk65), hp79]; rfl)), e77, e78, rfl⟩), hfn, hI1_72, hu⟩
                    · skip
                      exact absurd (by decide) b106
            · skip
              have hr107 : r33 = nI 1 := (bl_1 bo_36 b41)
              have hi108 := i1_38 hr107
              obtain ⟨hc109, hl112, e110⟩ := hi108
              have hk111 : tk hT ln a9 = 1 := kc_1.mpr hc109
              refine lv_aload_n hx hb d_NReader_readExpr_28 rfl (lv_at hl 2 rfl) ?_
              refine lv_iconst (v := nI 3) hx hb d_NReader_readExpr_29 (by decide) ?_
              refine lv_iload_n hx hb d_NReader_readExpr_30 rfl (lv_at hl 1 rfl) ?_
              refine lv_aload_n hx hb d_NReader_readExpr_31 rfl (lv_at hl 2 rfl) ?_
              refine lv_iload_n hx hb d_NReader_readExpr_32 rfl (lv_at hl 3 rfl) ?_
              refine pcc_i (va_runV (C := "BigRunner$Reader") (As := [.int (nI d)]) (rest := [.int (nI j9), .int (nI 3), .ref Rd]) ⟨hx, hb, hml, hown, tb_nil⟩ ((ih Fw (by omega)).2.2 g H.size f34 Rd tl ln ((a9 + 1)) P hT sn n9 d hL t_Rd t_tl t_P hI1_39 e110 eT cT (by omega) (by omega) e28 (by omega) (by omega) (by omega) (by omega) (by omega)) ⟨(callB_of 1 (tb_one (wd_496 hB _)) tb_good1 rfl rfl rfl (wd_73 hB _) (wd_493 hB _) (by decide +kernel) ⟨(show Fw + 3 + 1 ≤ (F + 1) + 3 by omega), (show 8 + (4 + 11) + (30 * Fw + 200) ≤ 30 * (F + 1) + 200 by omega)⟩), (wd_495 hB _), (wd_10 hB _)⟩ ⟨pe_bl, pg_recv (ci := 7) hK hP (lo_in hL t_Rd (by decide)) e110 rfl, pe_pre hB hK hP hD⟩ rfl rfl hl.1 rfl (lv_room (Nat.le_of_ble_eq_true rfl)) d_NReader_readExpr_33 ⟨Nat.le_of_ble_eq_true rfl, Nat.le_of_ble_eq_true rfl⟩) hS (fun r113 f114 H locs hq115 hP hD hS => ?_)
              obtain ⟨rs_116, frn_117, hI1_118, hu1_119⟩ := hq115
              have hu := hu.tr hu1_119 (by decide)
              have hv30 := hv30.tr hu1_119 (by decide)
              have eT := hu1_119.at t_tl (by decide) eT
              have hfn : ∀ i, i < 72 → i < nn → f114 (g.lk (g.lk P 2) i) = f (g.lk (g.lk P 2) i) := fun i h1 h2 => (frn_117 i h1 (by omega)).trans (hfn i h1 h2)
              have hfb9 : ∀ i, i < 72 → i < n9 → f114 (g.lk (g.lk P 2) i) = f23 (g.lk (g.lk P 2) i) := fun i h1 h2 => (frn_117 i h1 (by omega)).trans (hfb9 i h1 h2)
              rcases rs_116 with ⟨a120, n121, j122, c127, c128, c129, c130, c131, c132, hp125, e123, e124, hx_126, rfl⟩ | ⟨a120, n121, c127, c128, hp125, e123, e124, rfl⟩
              · skip
                have hfb133 : ∀ i, i < 72 → i < n121 → f114 (g.lk (g.lk P 2) i) = f114 (g.lk (g.lk P 2) i) := fun _ _ _ => rfl
                refine pcc_i (va_runV (C := "BigRunner$Reader") (As := [.int (nI 3), .int (nI j9), .int (nI j122)]) (rest := []) ⟨hx, hb, hml, hown, tb_nil⟩ (c2_addOp l g H.size f114 Rd tl ln a120 P hT sn n121 3 j9 j122 hL t_Rd t_tl t_P hI1_118 e123 eT cT (by omega) (by omega) e124 (by omega) (by omega) (by omega) (by omega) (by omega) (by omega) (by omega) (by omega)) ⟨(callB_of 3 (tb_one (wd_504 hB _)) tb_good1 rfl rfl rfl (wd_73 hB _) (wd_501 hB _) (by decide +kernel) ⟨(show 1 ≤ (F + 1) + 3 by omega), (show 24 ≤ 30 * (F + 1) + 200 by omega)⟩), (wd_503 hB _), (wd_12 hB _)⟩ ⟨pe_bl, pg_recv (ci := 7) hK hP (lo_in hL t_Rd (by decide)) e123 rfl, pe_pre hB hK hP hD⟩ rfl rfl hl.1 rfl (lv_room (Nat.le_of_ble_eq_true rfl)) d_NReader_readExpr_36 ⟨Nat.le_of_ble_eq_true rfl, Nat.le_of_ble_eq_true rfl⟩) hS (fun r134 f135 H locs hq136 hP hD hS => ?_)
                obtain ⟨q_137, x1_138, xn_139, frn_140, hI1_141, hu1_142⟩ := hq136
                subst q_137
                have hu := hu.tr hu1_142 (by decide)
                have hv30 := hv30.tr hu1_142 (by decide)
                have eT := hu1_142.at t_tl (by decide) eT
                have e123 := hu1_142.at t_Rd (by decide) e123
                have hfn : ∀ i, i < 72 → i < nn → f135 (g.lk (g.lk P 2) i) = f (g.lk (g.lk P 2) i) := fun i h1 h2 => (frn_140 i h1 (by omega)).trans (hfn i h1 h2)
                have hfb9 : ∀ i, i < 72 → i < n9 → f135 (g.lk (g.lk P 2) i) = f23 (g.lk (g.lk P 2) i) := fun i h1 h2 => (frn_140 i h1 (by omega)).trans (hfb9 i h1 h2)
                have hfb133 : ∀ i, i < 72 → i < n121 → f135 (g.lk (g.lk P 2) i) = f114 (g.lk (g.lk P 2) i) := fun i h1 h2 => (frn_140 i h1 (by omega)).trans (hfb133 i h1 h2)
                obtain ⟨sm_143, mv_144, hb145, e146⟩ := xn_139
                refine lv_istore_n (lv' := [(2, .int (nI n121)), (3, .int (nI it)), (0, .ref Rd), (1, .int (nI d))]) hx hb d_NReader_readExpr_39 rfl hl (by decide) rfl (fun ls hl => ?_)
                refine lv_goto (tgt := 69) hx hb d_NReader_readExpr_40 (by decide) ?_
                refine lv_iinc (k := 1) (v := nI (it + 1)) (lv' := [(3, .int (nI (it + 1))), (2, .int (nI n121)), (0, .ref Rd), (1, .int (nI d))]) hx hb d_NReader_readExpr_69 hl rfl (by rw [nI_succ]; rfl) (by decide) rfl (fun ls hl => ?_)
                refine lv_goto (tgt := 8) hx hb d_NReader_readExpr_72 (by decide) ?_
                exact ih25 (it + 1) a120 (n121 + 1) n121 Fw (t9 ++ (ox_e (tk hT ln) (vc hT ln) Fw 2 d (a9 + 1) ++ [(2, 0)])) f135 H locs ls (by omega) (by omega) (by omega) (by omega) (by omega) (by omega) (by omega) (by omega) (by omega) (hpx.trans (by rw [px_e3, if_pos (Or.inl hk111), hp125]; rfl)) (hox.trans (by rw [ox_e3, if_pos (Or.inl hk111), hp125, Option.getD_some, (show okd (vc hT ln a9) = 2 by rw [vc_of hc109 (by decide)]; decide)]; simp)) (by rw [List.length_append, List.length_append, List.length_singleton]; omega) (XR_bin (w := 2) (sm := sm_143) (mv := mv_144) (XR_eq hxr (fun i q1 q2 => hfb9 i (by omega) (by omega))) (by rw [← hlt9]; exact XR_eq hx_126 (fun i q1 q2 => hfb133 i (by omega) (by omega))) (by decide) (by decide) (by rw [← hlt9, ← c132]; have e9 := e146; rw [show j9 = n9 - 1 by omega, show j122 = n121 - 1 by omega] at e9; exact e9)) hfn e123 x1_138 hI1_141 hv30 hl hP hD hS
              · skip
                refine pcc_i (va_runV (C := "BigRunner$Reader") (As := [.int (nI 3), .int (nI j9), .int (-1)]) (rest := []) ⟨hx, hb, hml, hown, tb_nil⟩ (c_addOpN l g H.size f114 Rd ((nI 3)) ((nI j9)) ((-1)) hL t_Rd hI1_118.1 (Or.inr rfl)) ⟨(callB_of 3 (tb_one (wd_504 hB _)) tb_good1 rfl rfl rfl (wd_73 hB _) (wd_501 hB _) (by decide +kernel) ⟨(show 1 ≤ (F + 1) + 3 by omega), (show 24 ≤ 30 * (F + 1) + 200 by omega)⟩), (wd_503 hB _), (wd_12 hB _)⟩ ⟨pe_bl, pg_recv (ci := 7) hK hP (lo_in hL t_Rd (by decide)) e123 rfl, pe_pre hB hK hP hD⟩ rfl rfl hl.1 rfl (lv_room (Nat.le_of_ble_eq_true rfl)) d_NReader_readExpr_36 ⟨Nat.le_of_ble_eq_true rfl, Nat.le_of_ble_eq_true rfl⟩) hS (fun r147 f148 H locs hq149 hP hD hS => ?_)
                obtain ⟨q_150, rfl⟩ := hq149
                subst q_150
                refine lv_istore_n (lv' := [(2, .int (-1)), (3, .int (nI it)), (0, .ref Rd), (1, .int (nI d))]) hx hb d_NReader_readExpr_39 rfl hl (by decide) rfl (fun ls hl => ?_)
                refine lv_goto (tgt := 69) hx hb d_NReader_readExpr_40 (by decide) ?_
                refine lv_iinc (k := 1) (v := nI (it + 1)) (lv' := [(3, .int (nI (it + 1))), (2, .int (-1)), (0, .ref Rd), (1, .int (nI d))]) hx hb d_NReader_readExpr_69 hl rfl (by rw [nI_succ]; rfl) (by decide) rfl (fun ls hl => ?_)
                refine lv_goto (tgt := 8) hx hb d_NReader_readExpr_72 (by decide) ?_
                refine lv_iload_n hx hb d_NReader_readExpr_8 rfl (lv_at hl 0 rfl) ?_
                refine lv_bipush (v := nI 72) hx hb d_NReader_readExpr_9 (by decide) ?_
                refine lv_icmp_ge (tgt := 75) hx hb d_NReader_readExpr_11 (by decide) (fun b151 => ?_) (fun b151 => ?_)
                · skip
                  replace b151 := (nI_leI (a := 72) (b := it + 1) (by omega) (by omega)).mp b151
                  refine lv_iload_n hx hb d_NReader_readExpr_75 rfl (lv_at hl 1 rfl) ?_
                  exact pe_iret hx hb hr hlocks hK hP hD hS d_NReader_readExpr_76 ⟨(Or.inr ⟨a120, n121, by omega, by omega, (hpx.trans (by rw [px_e3, if_pos (Or.inl hk111), hp125]; rfl)), e123, e124, rfl⟩), hfn, hI1_118, hu⟩
                · skip
                  replace b151 := mt (nI_leI (a := 72) (b := it + 1) (by omega) (by omega)).mpr b151
                  refine lv_iload_n hx hb d_NReader_readExpr_14 rfl (lv_at hl 1 rfl) ?_
                  refine lv_iconst (v := (-1)) hx hb d_NReader_readExpr_15 (by decide) ?_
                  refine lv_icmp_eq (tgt := 75) hx hb d_NReader_readExpr_16 (by decide) (fun b152 => ?_) (fun b152 => ?_)
                  · skip
                    refine lv_iload_n hx hb d_NReader_readExpr_75 rfl (lv_at hl 1 rfl) ?_
                    exact pe_iret hx hb hr hlocks hK hP hD hS d_NReader_readExpr_76 ⟨(Or.inr ⟨a120, n121, by omega, by omega, (hpx.trans (by rw [px_e3, if_pos (Or.inl hk111), hp125]; rfl)), e123, e124, rfl⟩), hfn, hI1_118, hu⟩
                  · skip
                    exact absurd (by decide) b152
    exact lp22 73 0 a8 n9 j10 F (ox_e (tk hT ln) (vc hT ln) F 2 d ax) f2 H locs ls (by omega) (by omega) (by omega) (by omega) (by omega) (by omega) (by omega) (by omega) (by omega) (by rw [px_e1, hp13]; rfl) (by rw [ox_e1, hp13, Option.getD_some]) c20 (XR_eq hx_14 (fun i q1 q2 => hfb21 i (by omega) (by omega))) hfn e11 e12 hI1_6 un.rf hl hP hD hS
  · skip
    refine lv_istore_n (lv' := [(2, .int (-1)), (0, .ref Rd), (1, .int (nI d))]) hx hb d_NReader_readExpr_5 rfl hl (by decide) rfl (fun ls hl => ?_)
    refine lv_iconst (v := nI 0) hx hb d_NReader_readExpr_6 (by decide) ?_
    refine lv_istore_n (lv' := [(3, .int (nI 0)), (2, .int (-1)), (0, .ref Rd), (1, .int (nI d))]) hx hb d_NReader_readExpr_7 rfl hl (by decide) rfl (fun ls hl => ?_)
    refine lv_iload_n hx hb d_NReader_readExpr_8 rfl (lv_at hl 0 rfl) ?_
    refine lv_bipush (v := nI 72) hx hb d_NReader_readExpr_9 (by decide) ?_
    refine lv_icmp_ge (tgt := 75) hx hb d_NReader_readExpr_11 (by decide) (fun b153 => ?_) (fun b153 => ?_)
    · skip
      replace b153 := (nI_leI (a := 72) (b := 0) (by omega) (by omega)).mp b153
      exfalso; omega
    · skip
      replace b153 := mt (nI_leI (a := 72) (b := 0) (by omega) (by omega)).mpr b153
      refine lv_iload_n hx hb d_NReader_readExpr_14 rfl (lv_at hl 1 rfl) ?_
      refine lv_iconst (v := (-1)) hx hb d_NReader_readExpr_15 (by decide) ?_
      refine lv_icmp_eq (tgt := 75) hx hb d_NReader_readExpr_16 (by decide) (fun b154 => ?_) (fun b154 => ?_)
      · skip
        refine lv_iload_n hx hb d_NReader_readExpr_75 rfl (lv_at hl 1 rfl) ?_
        exact pe_iret hx hb hr hlocks hK hP hD hS d_NReader_readExpr_76 ⟨(Or.inr ⟨a8, n9, by omega, by omega, (by rw [px_e1, hp13]; rfl), e11, e12, rfl⟩), hfn, hI1_6, hu⟩
      · skip
        exact absurd (by decide) b154
theorem rd2_all (l : Launch) : ∀ F, ∀ F', F' ≤ F → RF2 l F' ∧ RE2 l F' ∧ RT2 l F' := by
  intro F
  induction F with
  | zero =>
    intro F' h
    obtain rfl : F' = 0 := by omega
    refine ⟨?_, ?_, ?_⟩
    · unfold RF2; intros; exfalso; omega
    · unfold RE2; intros; exfalso; omega
    · unfold RT2; intros; exfalso; omega
  | succ F ih =>
    intro F' h
    rcases Nat.lt_or_ge F' (F + 1) with q | q
    · exact ih F' (by omega)
    · obtain rfl : F' = F + 1 := by omega
      exact ⟨rf2_step l F ih, re2_step l F ih, rt2_step l F ih⟩

