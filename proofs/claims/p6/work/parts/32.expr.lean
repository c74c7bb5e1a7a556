/-! ===== EXPRs: the class's reader does what px_e does ===== -/
theorem px_e0 (k : Nat → Nat) (f d i : Nat) : px_e k (f + 1) 0 d i = (if 10 < d then none else if k i = 2 then px_e k f 0 (d + 1) (i + 1) else if k i = 4 then (px_e k f 1 (d + 1) (i + 1)).bind (fun a => if k a = 5 then some (a + 1) else none) else if k i = 6 then some (i + 1) else px_n k i) := rfl
theorem px_e1 (k : Nat → Nat) (f d i : Nat) : px_e k (f + 1) 1 d i = (px_e k f 2 d i).bind (fun a => px_e k f 3 d a) := rfl
theorem px_e2 (k : Nat → Nat) (f d i : Nat) : px_e k (f + 1) 2 d i = (px_e k f 0 d i).bind (fun a => px_e k f 4 d a) := rfl
theorem px_e3 (k : Nat → Nat) (f d i : Nat) : px_e k (f + 1) 3 d i = (if k i = 1 ∨ k i = 2 then (px_e k f 2 d (i + 1)).bind (fun a => px_e k f 3 d a) else some i) := rfl
theorem px_e4 (k : Nat → Nat) (f d i : Nat) : px_e k (f + 1) 4 d i = (if k i = 3 then (px_e k f 0 d (i + 1)).bind (fun a => px_e k f 4 d a) else some i) := rfl
def RF (l : Launch) (F : Nat) : Prop := ∀ (g : Lay) (sz : Nat) (f : Nat → va_E) (Rd : Nat) (tl : Nat) (ln : Nat) (ax : Nat) (P : Nat) (hT : Nat → Int32) (sn : Nat) (nn : Nat) (d : Nat) (hL : LO g) (t_Rd : g.tg Rd = 8) (t_tl : g.tg tl = 20) (t_P : g.tg P = 7) (hI : IV g f) (eR : f Rd = .inr (7, [.ref tl, .int (nI ln), .int (nI ax), .ref P])) (eT : f tl = .inl (g.ac tl, 72, .inl hT)) (cT : ∀ i, i < 72 → vp_nar .char (hT i) = hT i) (hln : ln ≤ 72) (hax : ax ≤ ln) (eP : f P = .inr (6, [.ref (g.lk P 0), .int (nI sn), .ref (g.lk P 2), .int (nI nn), .ref (g.lk P 4), .ref (g.lk P 5)])) (hsn : sn ≤ 36) (hnn : nn ≤ 72) (hna : nn ≤ ax) (hd : d ≤ 11) (hF : 5 * (ln - ax) + 1 ≤ F), Met l ⟨"BigRunner$Reader", "readFactor", "(I)I"⟩ [Cond.code ⟨"BigRunner$Reader", "readFactor", "(I)I"⟩ prog_8_method_13_code 3 (some .int)] ({ frames := F + 3, cells := 0, slots := 0, locals := 30 * F + 200 }) (va_Pc [.ref Rd, .int (nI d)] (pc_in g sz f)) (va_Qi (fun r f1 => ((∃ (a n1 j : Nat), a ≤ ln ∧ n1 ≤ 72 ∧ j < n1 ∧ n1 + ax ≤ nn + a ∧ ax < a ∧ nn ≤ n1 ∧ px_e (tk hT ln) F 0 d ax = some a ∧ f1 Rd = .inr (7, [.ref tl, .int (nI ln), .int (nI a), .ref P]) ∧ f1 P = .inr (6, [.ref (g.lk P 0), .int (nI sn), .ref (g.lk P 2), .int (nI n1), .ref (g.lk P 4), .ref (g.lk P 5)]) ∧ r = nI j) ∨ (∃ (a n1 : Nat), a ≤ ln ∧ n1 ≤ 72 ∧ px_e (tk hT ln) F 0 d ax = none ∧ f1 Rd = .inr (7, [.ref tl, .int (nI ln), .int (nI a), .ref P]) ∧ f1 P = .inr (6, [.ref (g.lk P 0), .int (nI sn), .ref (g.lk P 2), .int (nI n1), .ref (g.lk P 4), .ref (g.lk P 5)]) ∧ r = (-1))) ∧ (IV g f1) ∧ (un [6, 7, 8] g f f1)) (pc_out g sz) (pc_A g sz)) 0 0 (pc_A g sz)
def RE (l : Launch) (F : Nat) : Prop := ∀ (g : Lay) (sz : Nat) (f : Nat → va_E) (Rd : Nat) (tl : Nat) (ln : Nat) (ax : Nat) (P : Nat) (hT : Nat → Int32) (sn : Nat) (nn : Nat) (d : Nat) (hL : LO g) (t_Rd : g.tg Rd = 8) (t_tl : g.tg tl = 20) (t_P : g.tg P = 7) (hI : IV g f) (eR : f Rd = .inr (7, [.ref tl, .int (nI ln), .int (nI ax), .ref P])) (eT : f tl = .inl (g.ac tl, 72, .inl hT)) (cT : ∀ i, i < 72 → vp_nar .char (hT i) = hT i) (hln : ln ≤ 72) (hax : ax ≤ ln) (eP : f P = .inr (6, [.ref (g.lk P 0), .int (nI sn), .ref (g.lk P 2), .int (nI nn), .ref (g.lk P 4), .ref (g.lk P 5)])) (hsn : sn ≤ 36) (hnn : nn ≤ 72) (hna : nn ≤ ax) (hd : d ≤ 11) (hF : 5 * (ln - ax) + 3 ≤ F), Met l ⟨"BigRunner$Reader", "readExpr", "(I)I"⟩ [Cond.code ⟨"BigRunner$Reader", "readExpr", "(I)I"⟩ prog_8_method_11_code 4 (some .int)] ({ frames := F + 3, cells := 0, slots := 0, locals := 30 * F + 200 }) (va_Pc [.ref Rd, .int (nI d)] (pc_in g sz f)) (va_Qi (fun r f1 => ((∃ (a n1 j : Nat), a ≤ ln ∧ n1 ≤ 72 ∧ j < n1 ∧ n1 + ax ≤ nn + a ∧ ax < a ∧ nn ≤ n1 ∧ px_e (tk hT ln) F 1 d ax = some a ∧ f1 Rd = .inr (7, [.ref tl, .int (nI ln), .int (nI a), .ref P]) ∧ f1 P = .inr (6, [.ref (g.lk P 0), .int (nI sn), .ref (g.lk P 2), .int (nI n1), .ref (g.lk P 4), .ref (g.lk P 5)]) ∧ r = nI j) ∨ (∃ (a n1 : Nat), a ≤ ln ∧ n1 ≤ 72 ∧ px_e (tk hT ln) F 1 d ax = none ∧ f1 Rd = .inr (7, [.ref tl, .int (nI ln), .int (nI a), .ref P]) ∧ f1 P = .inr (6, [.ref (g.lk P 0), .int (nI sn), .ref (g.lk P 2), .int (nI n1), .ref (g.lk P 4), .ref (g.lk P 5)]) ∧ r = (-1))) ∧ (IV g f1) ∧ (un [6, 7, 8] g f f1)) (pc_out g sz) (pc_A g sz)) 0 0 (pc_A g sz)
def RT (l : Launch) (F : Nat) : Prop := ∀ (g : Lay) (sz : Nat) (f : Nat → va_E) (Rd : Nat) (tl : Nat) (ln : Nat) (ax : Nat) (P : Nat) (hT : Nat → Int32) (sn : Nat) (nn : Nat) (d : Nat) (hL : LO g) (t_Rd : g.tg Rd = 8) (t_tl : g.tg tl = 20) (t_P : g.tg P = 7) (hI : IV g f) (eR : f Rd = .inr (7, [.ref tl, .int (nI ln), .int (nI ax), .ref P])) (eT : f tl = .inl (g.ac tl, 72, .inl hT)) (cT : ∀ i, i < 72 → vp_nar .char (hT i) = hT i) (hln : ln ≤ 72) (hax : ax ≤ ln) (eP : f P = .inr (6, [.ref (g.lk P 0), .int (nI sn), .ref (g.lk P 2), .int (nI nn), .ref (g.lk P 4), .ref (g.lk P 5)])) (hsn : sn ≤ 36) (hnn : nn ≤ 72) (hna : nn ≤ ax) (hd : d ≤ 11) (hF : 5 * (ln - ax) + 2 ≤ F), Met l ⟨"BigRunner$Reader", "readTerm", "(I)I"⟩ [Cond.code ⟨"BigRunner$Reader", "readTerm", "(I)I"⟩ prog_8_method_12_code 4 (some .int)] ({ frames := F + 3, cells := 0, slots := 0, locals := 30 * F + 200 }) (va_Pc [.ref Rd, .int (nI d)] (pc_in g sz f)) (va_Qi (fun r f1 => ((∃ (a n1 j : Nat), a ≤ ln ∧ n1 ≤ 72 ∧ j < n1 ∧ n1 + ax ≤ nn + a ∧ ax < a ∧ nn ≤ n1 ∧ px_e (tk hT ln) F 2 d ax = some a ∧ f1 Rd = .inr (7, [.ref tl, .int (nI ln), .int (nI a), .ref P]) ∧ f1 P = .inr (6, [.ref (g.lk P 0), .int (nI sn), .ref (g.lk P 2), .int (nI n1), .ref (g.lk P 4), .ref (g.lk P 5)]) ∧ r = nI j) ∨ (∃ (a n1 : Nat), a ≤ ln ∧ n1 ≤ 72 ∧ px_e (tk hT ln) F 2 d ax = none ∧ f1 Rd = .inr (7, [.ref tl, .int (nI ln), .int (nI a), .ref P]) ∧ f1 P = .inr (6, [.ref (g.lk P 0), .int (nI sn), .ref (g.lk P 2), .int (nI n1), .ref (g.lk P 4), .ref (g.lk P 5)]) ∧ r = (-1))) ∧ (IV g f1) ∧ (un [6, 7, 8] g f f1)) (pc_out g sz) (pc_A g sz)) 0 0 (pc_A g sz)
set_option maxHeartbeats 4000000 in
set_option maxRecDepth 100000 in
theorem rf_step (l : Launch) (F : Nat) (ih : ∀ F', F' ≤ F → RF l F' ∧ RE l F' ∧ RT l F') : RF l (F + 1) := by
  intro g sz f Rd tl ln ax P hT sn nn d hL t_Rd t_tl t_P hI eR eT cT hln hax eP hsn hnn hna hd hF
  refine pe_ofW (cc := prog_8_method_13_code) (maxL := 3) (ret := (some .int)) (lv := [(0, .ref Rd), (1, .int (nI d))]) (by decide) (Nat.le_of_ble_eq_true rfl) rfl ?_
  intro p e s m args below meth c ls hx hb hr hml hlocks hown hB hP hK hD hsz hS hl
  subst hsz
  have hu : un [6, 7, 8] g f f := un.rf
  refine lv_iload_n hx hb d_NReader_readFactor_0 rfl (lv_at hl 1 rfl) ?_
  refine lv_bipush (v := nI 10) hx hb d_NReader_readFactor_1 (by decide) ?_
  refine lv_icmp_le (tgt := 8) hx hb d_NReader_readFactor_3 (by decide) (fun b1 => ?_) (fun b1 => ?_)
  · skip
    replace b1 := (nI_leI (a := d) (b := 10) (by omega) (by omega)).mp b1
    refine lv_aload_n hx hb d_NReader_readFactor_8 rfl (lv_at hl 0 rfl) ?_
    refine lv_bipush (v := nI 45) hx hb d_NReader_readFactor_9 (by decide) ?_
    refine pcc_i (va_runV (C := "BigRunner$Reader") (As := [.int (nI 45)]) (rest := []) ⟨hx, hb, hml, hown, tb_nil⟩ (c_accept l g s.heap.size f Rd tl ln ax P hT 45 hL t_Rd t_tl t_P hI eR eT cT (by omega) (by omega) (by decide)) ⟨(callB_of 1 (tb_one (wd_472 hB _)) tb_good1 rfl rfl rfl (wd_73 hB _) (wd_469 hB _) (by decide +kernel) ⟨(show 2 ≤ (F + 1) + 3 by omega), (show 41 ≤ 30 * (F + 1) + 200 by omega)⟩), (wd_471 hB _), (wd_4 hB _)⟩ ⟨pe_bl, pg_recv (ci := 7) hK hP (lo_in hL t_Rd (by decide)) eR rfl, pe_pre hB hK hP hD⟩ rfl rfl hl.1 rfl (lv_room (Nat.le_of_ble_eq_true rfl)) d_NReader_readFactor_11 ⟨Nat.le_of_ble_eq_true rfl, Nat.le_of_ble_eq_true rfl⟩) hS (fun r2 f3 H locs hq4 hP hD hS => ?_)
    obtain ⟨bo_5, i0_6, i1_7, hI1_8, hu1_9⟩ := hq4
    have hu := hu.tr hu1_9 (by decide)
    have eT := hu1_9.at t_tl (by decide) eT
    have eP := hu1_9.at t_P (by decide) eP
    refine lv_if_eq (tgt := 33) hx hb d_NReader_readFactor_14 (by decide) (fun b10 => ?_) (fun b10 => ?_)
    · skip
      have hr11 : r2 = nI 0 := b10
      have hi12 := i0_6 hr11
      obtain ⟨hc13, e14⟩ := hi12
      have hk15 : tk hT ln ax ≠ 2 := fun z => hc13 (kc_2.mp z)
      refine lv_aload_n hx hb d_NReader_readFactor_33 rfl (lv_at hl 0 rfl) ?_
      refine lv_bipush (v := nI 40) hx hb d_NReader_readFactor_34 (by decide) ?_
      refine pcc_i (va_runV (C := "BigRunner$Reader") (As := [.int (nI 40)]) (rest := []) ⟨hx, hb, hml, hown, tb_nil⟩ (c_accept l g H.size f3 Rd tl ln ax P hT 40 hL t_Rd t_tl t_P hI1_8 e14 eT cT (by omega) (by omega) (by decide)) ⟨(callB_of 1 (tb_one (wd_472 hB _)) tb_good1 rfl rfl rfl (wd_73 hB _) (wd_469 hB _) (by decide +kernel) ⟨(show 2 ≤ (F + 1) + 3 by omega), (show 41 ≤ 30 * (F + 1) + 200 by omega)⟩), (wd_471 hB _), (wd_4 hB _)⟩ ⟨pe_bl, pg_recv (ci := 7) hK hP (lo_in hL t_Rd (by decide)) e14 rfl, pe_pre hB hK hP hD⟩ rfl rfl hl.1 rfl (lv_room (Nat.le_of_ble_eq_true rfl)) d_NReader_readFactor_36 ⟨Nat.le_of_ble_eq_true rfl, Nat.le_of_ble_eq_true rfl⟩) hS (fun r16 f17 H locs hq18 hP hD hS => ?_)
      obtain ⟨bo_19, i0_20, i1_21, hI1_22, hu1_23⟩ := hq18
      have hu := hu.tr hu1_23 (by decide)
      have eT := hu1_23.at t_tl (by decide) eT
      have eP := hu1_23.at t_P (by decide) eP
      refine lv_if_eq (tgt := 65) hx hb d_NReader_readFactor_39 (by decide) (fun b24 => ?_) (fun b24 => ?_)
      · skip
        have hr25 : r16 = nI 0 := b24
        have hi26 := i0_20 hr25
        obtain ⟨hc27, e28⟩ := hi26
        have hk29 : tk hT ln ax ≠ 4 := fun z => hc27 (kc_4.mp z)
        refine lv_aload_n hx hb d_NReader_readFactor_65 rfl (lv_at hl 0 rfl) ?_
        refine pcc_i (va_runV (C := "BigRunner$Reader") (As := []) (rest := []) ⟨hx, hb, hml, hown, tb_nil⟩ (c_next l g H.size f17 Rd tl ln ax P hT hL t_Rd t_tl t_P hI1_22.1 e28 eT cT (by omega) (by omega)) ⟨(callB_of 0 (tb_one (wd_476 hB _)) tb_good1 rfl rfl rfl (wd_73 hB _) (wd_473 hB _) (by decide +kernel) ⟨(show 1 ≤ (F + 1) + 3 by omega), (show 20 ≤ 30 * (F + 1) + 200 by omega)⟩), (wd_475 hB _), (wd_5 hB _)⟩ ⟨pe_bl, pg_recv (ci := 7) hK hP (lo_in hL t_Rd (by decide)) e28 rfl, pe_pre hB hK hP hD⟩ rfl rfl hl.1 rfl (lv_room (Nat.le_of_ble_eq_true rfl)) d_NReader_readFactor_66 ⟨Nat.le_of_ble_eq_true rfl, Nat.le_of_ble_eq_true rfl⟩) hS (fun r30 f31 H locs hq32 hP hD hS => ?_)
        obtain ⟨nx_33, rfl⟩ := hq32
        subst nx_33
        refine lv_istore_n (lv' := [(2, .int (nx hT ln ax)), (0, .ref Rd), (1, .int (nI d))]) hx hb d_NReader_readFactor_69 rfl hl (by decide) rfl (fun ls hl => ?_)
        refine lv_iload_n hx hb d_NReader_readFactor_70 rfl (lv_at hl 0 rfl) ?_
        refine lv_bipush (v := nI 97) hx hb d_NReader_readFactor_71 (by decide) ?_
        refine lv_icmp_lt (tgt := 103) hx hb d_NReader_readFactor_73 (by decide) (fun b34 => ?_) (fun b34 => ?_)
        · skip
          have hk6 : tk hT ln ax ≠ 6 := fun z => absurd (kc_6.mp z).1 (Int32.not_le.mpr b34)
          refine lv_aload_n hx hb d_NReader_readFactor_103 rfl (lv_at hl 1 rfl) ?_
          refine pcc_i (va_runV (C := "BigRunner$Reader") (As := []) (rest := []) ⟨hx, hb, hml, hown, tb_nil⟩ (c_readNumber l g H.size f17 Rd tl ln ax P hT sn nn hL t_Rd t_tl t_P hI1_22 e28 eT cT (by omega) (by omega) eP (by omega) (by omega) (by omega)) ⟨(callB_of 0 (tb_one (wd_508 hB _)) tb_good1 rfl rfl rfl (wd_73 hB _) (wd_505 hB _) (by decide +kernel) ⟨(show 2 ≤ (F + 1) + 3 by omega), (show 47 ≤ 30 * (F + 1) + 200 by omega)⟩), (wd_507 hB _), (wd_13 hB _)⟩ ⟨pe_bl, pg_recv (ci := 7) hK hP (lo_in hL t_Rd (by decide)) e28 rfl, pe_pre hB hK hP hD⟩ rfl rfl hl.1 rfl (lv_room (Nat.le_of_ble_eq_true rfl)) d_NReader_readFactor_104 ⟨Nat.le_of_ble_eq_true rfl, Nat.le_of_ble_eq_true rfl⟩) hS (fun r35 f36 H locs hq37 hP hD hS => ?_)
          obtain ⟨rs_38, hI1_39, hu1_40⟩ := hq37
          have hu := hu.tr hu1_40 (by decide)
          have eT := hu1_40.at t_tl (by decide) eT
          rcases rs_38 with ⟨a41, n42, j43, c47, c48, c49, c50, c51, c52, hp46, e44, e45, rfl⟩ | ⟨a41, n42, c47, c48, hp46, e44, e45, rfl⟩
          · skip
            exact pe_iret hx hb hr hlocks hK hP hD hS d_NReader_readFactor_107 ⟨(Or.inl ⟨a41, n42, j43, by omega, by omega, by omega, by omega, by omega, by omega, (by rw [px_e0, if_neg (by omega), if_neg hk15, if_neg hk29, if_neg hk6]; exact hp46), e44, e45, rfl⟩), hI1_39, hu⟩
          · skip
            exact pe_iret hx hb hr hlocks hK hP hD hS d_NReader_readFactor_107 ⟨(Or.inr ⟨a41, n42, by omega, by omega, (by rw [px_e0, if_neg (by omega), if_neg hk15, if_neg hk29, if_neg hk6]; exact hp46), e44, e45, rfl⟩), hI1_39, hu⟩
        · skip
          refine lv_iload_n hx hb d_NReader_readFactor_76 rfl (lv_at hl 0 rfl) ?_
          refine lv_bipush (v := nI 107) hx hb d_NReader_readFactor_77 (by decide) ?_
          refine lv_icmp_ge (tgt := 103) hx hb d_NReader_readFactor_79 (by decide) (fun b53 => ?_) (fun b53 => ?_)
          · skip
            have hk6 : tk hT ln ax ≠ 6 := fun z => absurd (kc_6.mp z).2 (Int32.not_lt.mpr b53)
            refine lv_aload_n hx hb d_NReader_readFactor_103 rfl (lv_at hl 1 rfl) ?_
            refine pcc_i (va_runV (C := "BigRunner$Reader") (As := []) (rest := []) ⟨hx, hb, hml, hown, tb_nil⟩ (c_readNumber l g H.size f17 Rd tl ln ax P hT sn nn hL t_Rd t_tl t_P hI1_22 e28 eT cT (by omega) (by omega) eP (by omega) (by omega) (by omega)) ⟨(callB_of 0 (tb_one (wd_508 hB _)) tb_good1 rfl rfl rfl (wd_73 hB _) (wd_505 hB _) (by decide +kernel) ⟨(show 2 ≤ (F + 1) + 3 by omega), (show 47 ≤ 30 * (F + 1) + 200 by omega)⟩), (wd_507 hB _), (wd_13 hB _)⟩ ⟨pe_bl, pg_recv (ci := 7) hK hP (lo_in hL t_Rd (by decide)) e28 rfl, pe_pre hB hK hP hD⟩ rfl rfl hl.1 rfl (lv_room (Nat.le_of_ble_eq_true rfl)) d_NReader_readFactor_104 ⟨Nat.le_of_ble_eq_true rfl, Nat.le_of_ble_eq_true rfl⟩) hS (fun r54 f55 H locs hq56 hP hD hS => ?_)
            obtain ⟨rs_57, hI1_58, hu1_59⟩ := hq56
            have hu := hu.tr hu1_59 (by decide)
            have eT := hu1_59.at t_tl (by decide) eT
            rcases rs_57 with ⟨a60, n61, j62, c66, c67, c68, c69, c70, c71, hp65, e63, e64, rfl⟩ | ⟨a60, n61, c66, c67, hp65, e63, e64, rfl⟩
            · skip
              exact pe_iret hx hb hr hlocks hK hP hD hS d_NReader_readFactor_107 ⟨(Or.inl ⟨a60, n61, j62, by omega, by omega, by omega, by omega, by omega, by omega, (by rw [px_e0, if_neg (by omega), if_neg hk15, if_neg hk29, if_neg hk6]; exact hp65), e63, e64, rfl⟩), hI1_58, hu⟩
            · skip
              exact pe_iret hx hb hr hlocks hK hP hD hS d_NReader_readFactor_107 ⟨(Or.inr ⟨a60, n61, by omega, by omega, (by rw [px_e0, if_neg (by omega), if_neg hk15, if_neg hk29, if_neg hk6]; exact hp65), e63, e64, rfl⟩), hI1_58, hu⟩
          · skip
            have h97 : nI 97 ≤ nx hT ln ax := Int32.not_lt.mp b34
            have h107 : nx hT ln ax < nI 107 := Int32.not_le.mp b53
            have hl9 : ax < ln := nx_lt h97
            have hk6 : tk hT ln ax = 6 := kc_6.mpr ⟨h97, h107⟩
            obtain ⟨vn, hvn, qvn⟩ := nm_of h97 h107
            refine lv_aload_n hx hb d_NReader_readFactor_82 rfl (lv_at hl 1 rfl) ?_
            refine lv_dup hx hb d_NReader_readFactor_83 rfl ?_
            refine pf_get (v := .int (nI ax)) (C := "BigRunner$Reader") (T := FT7) (N := 4) hx hb (hw7 hB _) (fun _ h9 => h9) hown hK hP (lo_in hL t_Rd (by decide)) e28 rfl 2 (by decide) (wd_272 hB _) rfl d_NReader_readFactor_84 ?_
            refine lv_iconst (v := nI 1) hx hb d_NReader_readFactor_87 (by decide) ?_
            refine pf_iaddN (x := ax) (y := 1) hx hb d_NReader_readFactor_88 ?_
            refine pf_put (v := .int (nI (ax + 1))) (ty := .int) (fs' := [.ref tl, .int (nI ln), .int (nI (ax + 1)), .ref P]) (C := "BigRunner$Reader") (T := FT7) (N := 4) hx hb (hw7 hB _) (fun _ h9 => h9) TY7 ok7 nm7 hown hK hP hD hS (lo_in hL t_Rd (by decide)) e28 rfl 2 (by decide) (wd_272 hB _) rfl (by decide +kernel) rfl rfl (Nat.le_of_ble_eq_true rfl) rfl d_NReader_readFactor_89 (fun f72 H locs e73 k74 hP hD hS => ?_)
            have eT := (k74 tl (tg_ne t_tl t_Rd (by decide))).trans eT
            have eP := (k74 P (tg_ne t_P t_Rd (by decide))).trans eP
            have hu := hu.st k74 t_Rd (by decide)
            have hk75 : ∀ b, b ≠ Rd → f72 b = f17 b := k74
            refine lv_aload_n hx hb d_NReader_readFactor_92 rfl (lv_at hl 1 rfl) ?_
            refine lv_iconst (v := nI 1) hx hb d_NReader_readFactor_93 (by decide) ?_
            refine lv_iload_n hx hb d_NReader_readFactor_94 rfl (lv_at hl 0 rfl) ?_
            refine lv_bipush (v := nI 97) hx hb d_NReader_readFactor_95 (by decide) ?_
            refine lv_isub hx hb d_NReader_readFactor_97 ?_
            refine lv_topi (fun z_ hz_ => ?_)
            obtain rfl : z_ = nI vn := hz_.trans qvn
            refine lv_iconst (v := nI 0) hx hb d_NReader_readFactor_98 (by decide) ?_
            have hI76 := iv_1 hI1_22 hL t_Rd (by decide) hk75 (oc_8.mk t_Rd (⟨(.ref tl), ln, (ax + 1), P, e73, (by omega), (by omega), t_P⟩))
            refine pcc_i (va_runV (C := "BigRunner$Reader") (As := [.int (nI 1), .int (nI vn), .int (nI 0)]) (rest := []) ⟨hx, hb, hml, hown, tb_nil⟩ (c_addOp l g H.size f72 Rd tl ln ((ax + 1)) P hT sn nn 1 vn 0 hL t_Rd t_tl t_P hI76 e73 eT cT (by omega) (by omega) eP (by omega) (by omega) (by omega) (by omega) (by omega) (by omega) (by omega) (by omega)) ⟨(callB_of 3 (tb_one (wd_504 hB _)) tb_good1 rfl rfl rfl (wd_73 hB _) (wd_501 hB _) (by decide +kernel) ⟨(show 1 ≤ (F + 1) + 3 by omega), (show 24 ≤ 30 * (F + 1) + 200 by omega)⟩), (wd_503 hB _), (wd_12 hB _)⟩ ⟨pe_bl, pg_recv (ci := 7) hK hP (lo_in hL t_Rd (by decide)) e73 rfl, pe_pre hB hK hP hD⟩ rfl rfl hl.1 rfl (lv_room (Nat.le_of_ble_eq_true rfl)) d_NReader_readFactor_99 ⟨Nat.le_of_ble_eq_true rfl, Nat.le_of_ble_eq_true rfl⟩) hS (fun r77 f78 H locs hq79 hP hD hS => ?_)
            obtain ⟨q_80, x1_81, hI1_82, hu1_83⟩ := hq79
            subst q_80
            have hu := hu.tr hu1_83 (by decide)
            have eT := hu1_83.at t_tl (by decide) eT
            have e73 := hu1_83.at t_Rd (by decide) e73
            exact pe_iret hx hb hr hlocks hK hP hD hS d_NReader_readFactor_102 ⟨(Or.inl ⟨ax + 1, nn + 1, nn, by omega, by omega, by omega, by omega, by omega, by omega, (by rw [px_e0, if_neg (by omega), if_neg hk15, if_neg hk29, if_pos hk6]), e73, x1_81, rfl⟩), hI1_82, hu⟩
      · skip
        have hr84 : r16 = nI 1 := (bl_1 bo_19 b24)
        have hi85 := i1_21 hr84
        obtain ⟨hc86, hl89, e87⟩ := hi85
        have hk88 : tk hT ln ax = 4 := kc_4.mpr hc86
        refine lv_aload_n hx hb d_NReader_readFactor_42 rfl (lv_at hl 0 rfl) ?_
        refine lv_iload_n hx hb d_NReader_readFactor_43 rfl (lv_at hl 1 rfl) ?_
        refine lv_iconst (v := nI 1) hx hb d_NReader_readFactor_44 (by decide) ?_
        refine pf_iaddN (x := d) (y := 1) hx hb d_NReader_readFactor_45 ?_
        refine pcc_i (va_runV (C := "BigRunner$Reader") (As := [.int (nI (d + 1))]) (rest := []) ⟨hx, hb, hml, hown, tb_nil⟩ ((ih F (by omega)).2.1 g H.size f17 Rd tl ln ((ax + 1)) P hT sn nn ((d + 1)) hL t_Rd t_tl t_P hI1_22 e87 eT cT (by omega) (by omega) eP (by omega) (by omega) (by omega) (by omega) (by omega)) ⟨(callB_of 1 (tb_one (wd_492 hB _)) tb_good1 rfl rfl rfl (wd_73 hB _) (wd_489 hB _) (by decide +kernel) ⟨(show F + 3 + 1 ≤ (F + 1) + 3 by omega), (show 8 + (4 + 11) + (30 * F + 200) ≤ 30 * (F + 1) + 200 by omega)⟩), (wd_491 hB _), (wd_9 hB _)⟩ ⟨pe_bl, pg_recv (ci := 7) hK hP (lo_in hL t_Rd (by decide)) e87 rfl, pe_pre hB hK hP hD⟩ rfl rfl hl.1 rfl (lv_room (Nat.le_of_ble_eq_true rfl)) d_NReader_readFactor_46 ⟨Nat.le_of_ble_eq_true rfl, Nat.le_of_ble_eq_true rfl⟩) hS (fun r90 f91 H locs hq92 hP hD hS => ?_)
        obtain ⟨rs_93, hI1_94, hu1_95⟩ := hq92
        have hu := hu.tr hu1_95 (by decide)
        have eT := hu1_95.at t_tl (by decide) eT
        rcases rs_93 with ⟨a96, n97, j98, c102, c103, c104, c105, c106, c107, hp101, e99, e100, rfl⟩ | ⟨a96, n97, c102, c103, hp101, e99, e100, rfl⟩
        · skip
          refine lv_istore_n (lv' := [(2, .int (nI j98)), (0, .ref Rd), (1, .int (nI d))]) hx hb d_NReader_readFactor_49 rfl hl (by decide) rfl (fun ls hl => ?_)
          refine lv_aload_n hx hb d_NReader_readFactor_50 rfl (lv_at hl 1 rfl) ?_
          refine lv_bipush (v := nI 41) hx hb d_NReader_readFactor_51 (by decide) ?_
          refine pcc_i (va_runV (C := "BigRunner$Reader") (As := [.int (nI 41)]) (rest := []) ⟨hx, hb, hml, hown, tb_nil⟩ (c_accept l g H.size f91 Rd tl ln a96 P hT 41 hL t_Rd t_tl t_P hI1_94 e99 eT cT (by omega) (by omega) (by decide)) ⟨(callB_of 1 (tb_one (wd_472 hB _)) tb_good1 rfl rfl rfl (wd_73 hB _) (wd_469 hB _) (by decide +kernel) ⟨(show 2 ≤ (F + 1) + 3 by omega), (show 41 ≤ 30 * (F + 1) + 200 by omega)⟩), (wd_471 hB _), (wd_4 hB _)⟩ ⟨pe_bl, pg_recv (ci := 7) hK hP (lo_in hL t_Rd (by decide)) e99 rfl, pe_pre hB hK hP hD⟩ rfl rfl hl.1 rfl (lv_room (Nat.le_of_ble_eq_true rfl)) d_NReader_readFactor_53 ⟨Nat.le_of_ble_eq_true rfl, Nat.le_of_ble_eq_true rfl⟩) hS (fun r108 f109 H locs hq110 hP hD hS => ?_)
          obtain ⟨bo_111, i0_112, i1_113, hI1_114, hu1_115⟩ := hq110
          have hu := hu.tr hu1_115 (by decide)
          have eT := hu1_115.at t_tl (by decide) eT
          have e100 := hu1_115.at t_P (by decide) e100
          refine lv_if_eq (tgt := 63) hx hb d_NReader_readFactor_56 (by decide) (fun b116 => ?_) (fun b116 => ?_)
          · skip
            have hr117 : r108 = nI 0 := b116
            have hi118 := i0_112 hr117
            obtain ⟨hc119, e120⟩ := hi118
            have hk121 : tk hT ln a96 ≠ 5 := fun z => hc119 (kc_5.mp z)
            refine lv_iconst (v := (-1)) hx hb d_NReader_readFactor_63 (by decide) ?_
            exact pe_iret hx hb hr hlocks hK hP hD hS d_NReader_readFactor_64 ⟨(Or.inr ⟨a96, n97, by omega, by omega, (by rw [px_e0, if_neg (by omega), if_neg hk15, if_pos hk88, hp101]; exact if_neg hk121), e120, e100, rfl⟩), hI1_114, hu⟩
          · skip
            have hr122 : r108 = nI 1 := (bl_1 bo_111 b116)
            have hi123 := i1_113 hr122
            obtain ⟨hc124, hl127, e125⟩ := hi123
            have hk126 : tk hT ln a96 = 5 := kc_5.mpr hc124
            refine lv_iload_n hx hb d_NReader_readFactor_59 rfl (lv_at hl 0 rfl) ?_
            refine lv_goto (tgt := 64) hx hb d_NReader_readFactor_60 (by decide) ?_
            exact pe_iret hx hb hr hlocks hK hP hD hS d_NReader_readFactor_64 ⟨(Or.inl ⟨a96 + 1, n97, j98, by omega, by omega, by omega, by omega, by omega, by omega, (by rw [px_e0, if_neg (by omega), if_neg hk15, if_pos hk88, hp101]; exact if_pos hk126), e125, e100, rfl⟩), hI1_114, hu⟩
        · skip
          refine lv_istore_n (lv' := [(2, .int (-1)), (0, .ref Rd), (1, .int (nI d))]) hx hb d_NReader_readFactor_49 rfl hl (by decide) rfl (fun ls hl => ?_)
          refine lv_aload_n hx hb d_NReader_readFactor_50 rfl (lv_at hl 1 rfl) ?_
          refine lv_bipush (v := nI 41) hx hb d_NReader_readFactor_51 (by decide) ?_
          refine pcc_i (va_runV (C := "BigRunner$Reader") (As := [.int (nI 41)]) (rest := []) ⟨hx, hb, hml, hown, tb_nil⟩ (c_accept l g H.size f91 Rd tl ln a96 P hT 41 hL t_Rd t_tl t_P hI1_94 e99 eT cT (by omega) (by omega) (by decide)) ⟨(callB_of 1 (tb_one (wd_472 hB _)) tb_good1 rfl rfl rfl (wd_73 hB _) (wd_469 hB _) (by decide +kernel) ⟨(show 2 ≤ (F + 1) + 3 by omega), (show 41 ≤ 30 * (F + 1) + 200 by omega)⟩), (wd_471 hB _), (wd_4 hB _)⟩ ⟨pe_bl, pg_recv (ci := 7) hK hP (lo_in hL t_Rd (by decide)) e99 rfl, pe_pre hB hK hP hD⟩ rfl rfl hl.1 rfl (lv_room (Nat.le_of_ble_eq_true rfl)) d_NReader_readFactor_53 ⟨Nat.le_of_ble_eq_true rfl, Nat.le_of_ble_eq_true rfl⟩) hS (fun r128 f129 H locs hq130 hP hD hS => ?_)
          obtain ⟨bo_131, i0_132, i1_133, hI1_134, hu1_135⟩ := hq130
          have hu := hu.tr hu1_135 (by decide)
          have eT := hu1_135.at t_tl (by decide) eT
          have e100 := hu1_135.at t_P (by decide) e100
          refine lv_if_eq (tgt := 63) hx hb d_NReader_readFactor_56 (by decide) (fun b136 => ?_) (fun b136 => ?_)
          · skip
            have hr137 : r128 = nI 0 := b136
            have hi138 := i0_132 hr137
            obtain ⟨hc139, e140⟩ := hi138
            have hk141 : tk hT ln a96 ≠ 5 := fun z => hc139 (kc_5.mp z)
            refine lv_iconst (v := (-1)) hx hb d_NReader_readFactor_63 (by decide) ?_
            exact pe_iret hx hb hr hlocks hK hP hD hS d_NReader_readFactor_64 ⟨(Or.inr ⟨a96, n97, by omega, by omega, (by rw [px_e0, if_neg (by omega), if_neg hk15, if_pos hk88, hp101]; rfl), e140, e100, rfl⟩), hI1_134, hu⟩
          · skip
            have hr142 : r128 = nI 1 := (bl_1 bo_131 b136)
            have hi143 := i1_133 hr142
            obtain ⟨hc144, hl147, e145⟩ := hi143
            have hk146 : tk hT ln a96 = 5 := kc_5.mpr hc144
            refine lv_iload_n hx hb d_NReader_readFactor_59 rfl (lv_at hl 0 rfl) ?_
            refine lv_goto (tgt := 64) hx hb d_NReader_readFactor_60 (by decide) ?_
            exact pe_iret hx hb hr hlocks hK hP hD hS d_NReader_readFactor_64 ⟨(Or.inr ⟨a96 + 1, n97, by omega, by omega, (by rw [px_e0, if_neg (by omega), if_neg hk15, if_pos hk88, hp101]; rfl), e145, e100, rfl⟩), hI1_134, hu⟩
    · skip
      have hr148 : r2 = nI 1 := (bl_1 bo_5 b10)
      have hi149 := i1_7 hr148
      obtain ⟨hc150, hl153, e151⟩ := hi149
      have hk152 : tk hT ln ax = 2 := kc_2.mpr hc150
      refine lv_aload_n hx hb d_NReader_readFactor_17 rfl (lv_at hl 0 rfl) ?_
      refine lv_iload_n hx hb d_NReader_readFactor_18 rfl (lv_at hl 1 rfl) ?_
      refine lv_iconst (v := nI 1) hx hb d_NReader_readFactor_19 (by decide) ?_
      refine pf_iaddN (x := d) (y := 1) hx hb d_NReader_readFactor_20 ?_
      refine pcc_i (va_runV (C := "BigRunner$Reader") (As := [.int (nI (d + 1))]) (rest := []) ⟨hx, hb, hml, hown, tb_nil⟩ ((ih F (by omega)).1 g H.size f3 Rd tl ln ((ax + 1)) P hT sn nn ((d + 1)) hL t_Rd t_tl t_P hI1_8 e151 eT cT (by omega) (by omega) eP (by omega) (by omega) (by omega) (by omega) (by omega)) ⟨(callB_of 1 (tb_one (wd_500 hB _)) tb_good1 rfl rfl rfl (wd_73 hB _) (wd_497 hB _) (by decide +kernel) ⟨(show F + 3 + 1 ≤ (F + 1) + 3 by omega), (show 8 + (3 + 11) + (30 * F + 200) ≤ 30 * (F + 1) + 200 by omega)⟩), (wd_499 hB _), (wd_11 hB _)⟩ ⟨pe_bl, pg_recv (ci := 7) hK hP (lo_in hL t_Rd (by decide)) e151 rfl, pe_pre hB hK hP hD⟩ rfl rfl hl.1 rfl (lv_room (Nat.le_of_ble_eq_true rfl)) d_NReader_readFactor_21 ⟨Nat.le_of_ble_eq_true rfl, Nat.le_of_ble_eq_true rfl⟩) hS (fun r154 f155 H locs hq156 hP hD hS => ?_)
      obtain ⟨rs_157, hI1_158, hu1_159⟩ := hq156
      have hu := hu.tr hu1_159 (by decide)
      have eT := hu1_159.at t_tl (by decide) eT
      rcases rs_157 with ⟨a160, n161, j162, c166, c167, c168, c169, c170, c171, hp165, e163, e164, rfl⟩ | ⟨a160, n161, c166, c167, hp165, e163, e164, rfl⟩
      · skip
        refine lv_istore_n (lv' := [(2, .int (nI j162)), (0, .ref Rd), (1, .int (nI d))]) hx hb d_NReader_readFactor_24 rfl hl (by decide) rfl (fun ls hl => ?_)
        refine lv_aload_n hx hb d_NReader_readFactor_25 rfl (lv_at hl 1 rfl) ?_
        refine lv_iconst (v := nI 2) hx hb d_NReader_readFactor_26 (by decide) ?_
        refine lv_iload_n hx hb d_NReader_readFactor_27 rfl (lv_at hl 0 rfl) ?_
        refine lv_iload_n hx hb d_NReader_readFactor_28 rfl (lv_at hl 0 rfl) ?_
        refine pcc_i (va_runV (C := "BigRunner$Reader") (As := [.int (nI 2), .int (nI j162), .int (nI j162)]) (rest := []) ⟨hx, hb, hml, hown, tb_nil⟩ (c_addOp l g H.size f155 Rd tl ln a160 P hT sn n161 2 j162 j162 hL t_Rd t_tl t_P hI1_158 e163 eT cT (by omega) (by omega) e164 (by omega) (by omega) (by omega) (by omega) (by omega) (by omega) (by omega) (by omega)) ⟨(callB_of 3 (tb_one (wd_504 hB _)) tb_good1 rfl rfl rfl (wd_73 hB _) (wd_501 hB _) (by decide +kernel) ⟨(show 1 ≤ (F + 1) + 3 by omega), (show 24 ≤ 30 * (F + 1) + 200 by omega)⟩), (wd_503 hB _), (wd_12 hB _)⟩ ⟨pe_bl, pg_recv (ci := 7) hK hP (lo_in hL t_Rd (by decide)) e163 rfl, pe_pre hB hK hP hD⟩ rfl rfl hl.1 rfl (lv_room (Nat.le_of_ble_eq_true rfl)) d_NReader_readFactor_29 ⟨Nat.le_of_ble_eq_true rfl, Nat.le_of_ble_eq_true rfl⟩) hS (fun r172 f173 H locs hq174 hP hD hS => ?_)
        obtain ⟨q_175, x1_176, hI1_177, hu1_178⟩ := hq174
        subst q_175
        have hu := hu.tr hu1_178 (by decide)
        have eT := hu1_178.at t_tl (by decide) eT
        have e163 := hu1_178.at t_Rd (by decide) e163
        exact pe_iret hx hb hr hlocks hK hP hD hS d_NReader_readFactor_32 ⟨(Or.inl ⟨a160, n161 + 1, n161, by omega, by omega, by omega, by omega, by omega, by omega, (by rw [px_e0, if_neg (by omega), if_pos hk152]; exact hp165), e163, x1_176, rfl⟩), hI1_177, hu⟩
      · skip
        refine lv_istore_n (lv' := [(2, .int (-1)), (0, .ref Rd), (1, .int (nI d))]) hx hb d_NReader_readFactor_24 rfl hl (by decide) rfl (fun ls hl => ?_)
        refine lv_aload_n hx hb d_NReader_readFactor_25 rfl (lv_at hl 1 rfl) ?_
        refine lv_iconst (v := nI 2) hx hb d_NReader_readFactor_26 (by decide) ?_
        refine lv_iload_n hx hb d_NReader_readFactor_27 rfl (lv_at hl 0 rfl) ?_
        refine lv_iload_n hx hb d_NReader_readFactor_28 rfl (lv_at hl 0 rfl) ?_
        refine pcc_i (va_runV (C := "BigRunner$Reader") (As := [.int (nI 2), .int (-1), .int (-1)]) (rest := []) ⟨hx, hb, hml, hown, tb_nil⟩ (c_addOpN l g H.size f155 Rd ((nI 2)) ((-1)) ((-1)) hL t_Rd hI1_158.1 (Or.inl rfl)) ⟨(callB_of 3 (tb_one (wd_504 hB _)) tb_good1 rfl rfl rfl (wd_73 hB _) (wd_501 hB _) (by decide +kernel) ⟨(show 1 ≤ (F + 1) + 3 by omega), (show 24 ≤ 30 * (F + 1) + 200 by omega)⟩), (wd_503 hB _), (wd_12 hB _)⟩ ⟨pe_bl, pg_recv (ci := 7) hK hP (lo_in hL t_Rd (by decide)) e163 rfl, pe_pre hB hK hP hD⟩ rfl rfl hl.1 rfl (lv_room (Nat.le_of_ble_eq_true rfl)) d_NReader_readFactor_29 ⟨Nat.le_of_ble_eq_true rfl, Nat.le_of_ble_eq_true rfl⟩) hS (fun r179 f180 H locs hq181 hP hD hS => ?_)
        obtain ⟨q_182, rfl⟩ := hq181
        subst q_182
        exact pe_iret hx hb hr hlocks hK hP hD hS d_NReader_readFactor_32 ⟨(Or.inr ⟨a160, n161, by omega, by omega, (by rw [px_e0, if_neg (by omega), if_pos hk152]; exact hp165), e163, e164, rfl⟩), hI1_158, hu⟩
  · skip
    replace b1 := mt (nI_leI (a := d) (b := 10) (by omega) (by omega)).mpr b1
    refine lv_iconst (v := (-1)) hx hb d_NReader_readFactor_6 (by decide) ?_
    exact pe_iret hx hb hr hlocks hK hP hD hS d_NReader_readFactor_7 ⟨(Or.inr ⟨ax, nn, by omega, by omega, (by rw [px_e0, if_pos (by omega)]), eR, eP, rfl⟩), hI, hu⟩
set_option maxHeartbeats 4000000 in
set_option maxRecDepth 100000 in
theorem rt_step (l : Launch) (F : Nat) (ih : ∀ F', F' ≤ F → RF l F' ∧ RE l F' ∧ RT l F') : RT l (F + 1) := by
  intro g sz f Rd tl ln ax P hT sn nn d hL t_Rd t_tl t_P hI eR eT cT hln hax eP hsn hnn hna hd hF
  refine pe_ofW (cc := prog_8_method_12_code) (maxL := 4) (ret := (some .int)) (lv := [(0, .ref Rd), (1, .int (nI d))]) (by decide) (Nat.le_of_ble_eq_true rfl) rfl ?_
  intro p e s m args below meth c ls hx hb hr hml hlocks hown hB hP hK hD hsz hS hl
  subst hsz
  have hu : un [6, 7, 8] g f f := un.rf
  refine lv_aload_n hx hb d_NReader_readTerm_0 rfl (lv_at hl 0 rfl) ?_
  refine lv_iload_n hx hb d_NReader_readTerm_1 rfl (lv_at hl 1 rfl) ?_
  refine pcc_i (va_runV (C := "BigRunner$Reader") (As := [.int (nI d)]) (rest := []) ⟨hx, hb, hml, hown, tb_nil⟩ ((ih F (by omega)).1 g s.heap.size f Rd tl ln ax P hT sn nn d hL t_Rd t_tl t_P hI eR eT cT (by omega) (by omega) eP (by omega) (by omega) (by omega) (by omega) (by omega)) ⟨(callB_of 1 (tb_one (wd_500 hB _)) tb_good1 rfl rfl rfl (wd_73 hB _) (wd_497 hB _) (by decide +kernel) ⟨(show F + 3 + 1 ≤ (F + 1) + 3 by omega), (show 8 + (3 + 11) + (30 * F + 200) ≤ 30 * (F + 1) + 200 by omega)⟩), (wd_499 hB _), (wd_11 hB _)⟩ ⟨pe_bl, pg_recv (ci := 7) hK hP (lo_in hL t_Rd (by decide)) eR rfl, pe_pre hB hK hP hD⟩ rfl rfl hl.1 rfl (lv_room (Nat.le_of_ble_eq_true rfl)) d_NReader_readTerm_2 ⟨Nat.le_of_ble_eq_true rfl, Nat.le_of_ble_eq_true rfl⟩) hS (fun r1 f2 H locs hq3 hP hD hS => ?_)
  obtain ⟨rs_4, hI1_5, hu1_6⟩ := hq3
  have hu := hu.tr hu1_6 (by decide)
  have eT := hu1_6.at t_tl (by decide) eT
  rcases rs_4 with ⟨a7, n8, j9, c13, c14, c15, c16, c17, c18, hp12, e10, e11, rfl⟩ | ⟨a7, n8, c13, c14, hp12, e10, e11, rfl⟩
  · skip
    refine lv_istore_n (lv' := [(2, .int (nI j9)), (0, .ref Rd), (1, .int (nI d))]) hx hb d_NReader_readTerm_5 rfl hl (by decide) rfl (fun ls hl => ?_)
    refine lv_iconst (v := nI 0) hx hb d_NReader_readTerm_6 (by decide) ?_
    refine lv_istore_n (lv' := [(3, .int (nI 0)), (2, .int (nI j9)), (0, .ref Rd), (1, .int (nI d))]) hx hb d_NReader_readTerm_7 rfl hl (by decide) rfl (fun ls hl => ?_)
    have lp19 : ∀ (k21 : Nat) (it : Nat) (a9 : Nat) (n9 : Nat) (j9 : Nat) (Fv : Nat) (f20 : Nat → va_E) (H : Heap) (locs : List Loc) (ls : Array Slot), (72 < it + k21) → (a9 ≤ ln) → (n9 + ax ≤ nn + a9) → (n9 ≤ 72) → (nn ≤ n9) → (j9 < n9) → (it + ax < a9) → (Fv ≤ F) → (5 * (ln - a9) + 1 ≤ Fv) → (px_e (tk hT ln) (F + 1) 2 d ax = px_e (tk hT ln) Fv 4 d a9) → f20 Rd = .inr (7, [.ref tl, .int (nI ln), .int (nI a9), .ref P]) → f20 P = .inr (6, [.ref (g.lk P 0), .int (nI sn), .ref (g.lk P 2), .int (nI n9), .ref (g.lk P 4), .ref (g.lk P 5)]) → IV g f20 → un [6, 7, 8] g f2 f20 → lv_has ls 4 [(3, .int (nI it)), (2, .int (nI j9)), (0, .ref Rd), (1, .int (nI d))] → va_P g.D vcl (va_pl g.LP f20) H → va_D (pc_A g s.heap.size) (va_pl g.LP f20) → va_S (pc_A g s.heap.size) s.heap H locs → W p l e ({ frames := (F + 1) + 3, cells := 0, slots := 0, locals := 30 * (F + 1) + 200 }) s m args below meth c H locs 0 0 (MQ below (va_Qi (fun r f1 => ((∃ (a n1 j : Nat), a ≤ ln ∧ n1 ≤ 72 ∧ j < n1 ∧ n1 + ax ≤ nn + a ∧ ax < a ∧ nn ≤ n1 ∧ px_e (tk hT ln) (F + 1) 2 d ax = some a ∧ f1 Rd = .inr (7, [.ref tl, .int (nI ln), .int (nI a), .ref P]) ∧ f1 P = .inr (6, [.ref (g.lk P 0), .int (nI sn), .ref (g.lk P 2), .int (nI n1), .ref (g.lk P 4), .ref (g.lk P 5)]) ∧ r = nI j) ∨ (∃ (a n1 : Nat), a ≤ ln ∧ n1 ≤ 72 ∧ px_e (tk hT ln) (F + 1) 2 d ax = none ∧ f1 Rd = .inr (7, [.ref tl, .int (nI ln), .int (nI a), .ref P]) ∧ f1 P = .inr (6, [.ref (g.lk P 0), .int (nI sn), .ref (g.lk P 2), .int (nI n1), .ref (g.lk P 4), .ref (g.lk P 5)]) ∧ r = (-1))) ∧ (IV g f1) ∧ (un [6, 7, 8] g f f1)) (pc_out g s.heap.size) (pc_A g s.heap.size)) args s 0 0 (pc_A g s.heap.size)) (F0 m 8 ls []) := by
      intro k21
      induction k21 with
      | zero => intros; exfalso; omega
      | succ k21 ih22 =>
        intro it a9 n9 j9 Fv f20 H locs ls hfu23 ha9 hn9 hn92 hn93 hj9 hit hFv hFe hpx e24 e25 hI26 hv27 hl hP hD hS
        have eT := hv27.at t_tl (by decide) eT
        have hu := hu.tr hv27 (by decide)
        obtain ⟨Fw, rfl⟩ : ∃ Fw, Fv = Fw + 1 := ⟨Fv - 1, by omega⟩
        refine lv_iload_n hx hb d_NReader_readTerm_8 rfl (lv_at hl 0 rfl) ?_
        refine lv_bipush (v := nI 72) hx hb d_NReader_readTerm_9 (by decide) ?_
        refine lv_icmp_ge (tgt := 101) hx hb d_NReader_readTerm_11 (by decide) (fun b28 => ?_) (fun b28 => ?_)
        · skip
          replace b28 := (nI_leI (a := 72) (b := it) (by omega) (by omega)).mp b28
          exfalso; omega
        · skip
          replace b28 := mt (nI_leI (a := 72) (b := it) (by omega) (by omega)).mpr b28
          refine lv_iload_n hx hb d_NReader_readTerm_14 rfl (lv_at hl 1 rfl) ?_
          refine lv_iconst (v := (-1)) hx hb d_NReader_readTerm_15 (by decide) ?_
          refine lv_icmp_eq (tgt := 101) hx hb d_NReader_readTerm_16 (by decide) (fun b29 => ?_) (fun b29 => ?_)
          · skip
            exact absurd b29 (nI_n1 (j := j9) (by omega))
          · skip
            refine lv_aload_n hx hb d_NReader_readTerm_19 rfl (lv_at hl 2 rfl) ?_
            refine lv_bipush (v := nI 42) hx hb d_NReader_readTerm_20 (by decide) ?_
            refine pcc_i (va_runV (C := "BigRunner$Reader") (As := [.int (nI 42)]) (rest := []) ⟨hx, hb, hml, hown, tb_nil⟩ (c_accept l g H.size f20 Rd tl ln a9 P hT 42 hL t_Rd t_tl t_P hI26 e24 eT cT (by omega) (by omega) (by decide)) ⟨(callB_of 1 (tb_one (wd_472 hB _)) tb_good1 rfl rfl rfl (wd_73 hB _) (wd_469 hB _) (by decide +kernel) ⟨(show 2 ≤ (F + 1) + 3 by omega), (show 41 ≤ 30 * (F + 1) + 200 by omega)⟩), (wd_471 hB _), (wd_4 hB _)⟩ ⟨pe_bl, pg_recv (ci := 7) hK hP (lo_in hL t_Rd (by decide)) e24 rfl, pe_pre hB hK hP hD⟩ rfl rfl hl.1 rfl (lv_room (Nat.le_of_ble_eq_true rfl)) d_NReader_readTerm_22 ⟨Nat.le_of_ble_eq_true rfl, Nat.le_of_ble_eq_true rfl⟩) hS (fun r30 f31 H locs hq32 hP hD hS => ?_)
            obtain ⟨bo_33, i0_34, i1_35, hI1_36, hu1_37⟩ := hq32
            have hu := hu.tr hu1_37 (by decide)
            have hv27 := hv27.tr hu1_37 (by decide)
            have eT := hu1_37.at t_tl (by decide) eT
            have e25 := hu1_37.at t_P (by decide) e25
            refine lv_if_eq (tgt := 43) hx hb d_NReader_readTerm_25 (by decide) (fun b38 => ?_) (fun b38 => ?_)
            · skip
              have hr39 : r30 = nI 0 := b38
              have hi40 := i0_34 hr39
              obtain ⟨hc41, e42⟩ := hi40
              refine lv_aload_n hx hb d_NReader_readTerm_43 rfl (lv_at hl 2 rfl) ?_
              refine lv_bipush (v := nI 47) hx hb d_NReader_readTerm_44 (by decide) ?_
              refine pcc_i (va_runV (C := "BigRunner$Reader") (As := [.int (nI 47)]) (rest := []) ⟨hx, hb, hml, hown, tb_nil⟩ (c_accept l g H.size f31 Rd tl ln a9 P hT 47 hL t_Rd t_tl t_P hI1_36 e42 eT cT (by omega) (by omega) (by decide)) ⟨(callB_of 1 (tb_one (wd_472 hB _)) tb_good1 rfl rfl rfl (wd_73 hB _) (wd_469 hB _) (by decide +kernel) ⟨(show 2 ≤ (F + 1) + 3 by omega), (show 41 ≤ 30 * (F + 1) + 200 by omega)⟩), (wd_471 hB _), (wd_4 hB _)⟩ ⟨pe_bl, pg_recv (ci := 7) hK hP (lo_in hL t_Rd (by decide)) e42 rfl, pe_pre hB hK hP hD⟩ rfl rfl hl.1 rfl (lv_room (Nat.le_of_ble_eq_true rfl)) d_NReader_readTerm_46 ⟨Nat.le_of_ble_eq_true rfl, Nat.le_of_ble_eq_true rfl⟩) hS (fun r44 f45 H locs hq46 hP hD hS => ?_)
              obtain ⟨bo_47, i0_48, i1_49, hI1_50, hu1_51⟩ := hq46
              have hu := hu.tr hu1_51 (by decide)
              have hv27 := hv27.tr hu1_51 (by decide)
              have eT := hu1_51.at t_tl (by decide) eT
              have e25 := hu1_51.at t_P (by decide) e25
              refine lv_if_eq (tgt := 68) hx hb d_NReader_readTerm_49 (by decide) (fun b52 => ?_) (fun b52 => ?_)
              · skip
                have hr53 : r44 = nI 0 := b52
                have hi54 := i0_48 hr53
                obtain ⟨hc55, e56⟩ := hi54
                refine lv_aload_n hx hb d_NReader_readTerm_68 rfl (lv_at hl 2 rfl) ?_
                refine lv_bipush (v := nI 37) hx hb d_NReader_readTerm_69 (by decide) ?_
                refine pcc_i (va_runV (C := "BigRunner$Reader") (As := [.int (nI 37)]) (rest := []) ⟨hx, hb, hml, hown, tb_nil⟩ (c_accept l g H.size f45 Rd tl ln a9 P hT 37 hL t_Rd t_tl t_P hI1_50 e56 eT cT (by omega) (by omega) (by decide)) ⟨(callB_of 1 (tb_one (wd_472 hB _)) tb_good1 rfl rfl rfl (wd_73 hB _) (wd_469 hB _) (by decide +kernel) ⟨(show 2 ≤ (F + 1) + 3 by omega), (show 41 ≤ 30 * (F + 1) + 200 by omega)⟩), (wd_471 hB _), (wd_4 hB _)⟩ ⟨pe_bl, pg_recv (ci := 7) hK hP (lo_in hL t_Rd (by decide)) e56 rfl, pe_pre hB hK hP hD⟩ rfl rfl hl.1 rfl (lv_room (Nat.le_of_ble_eq_true rfl)) d_NReader_readTerm_71 ⟨Nat.le_of_ble_eq_true rfl, Nat.le_of_ble_eq_true rfl⟩) hS (fun r58 f59 H locs hq60 hP hD hS => ?_)
                obtain ⟨bo_61, i0_62, i1_63, hI1_64, hu1_65⟩ := hq60
                have hu := hu.tr hu1_65 (by decide)
                have hv27 := hv27.tr hu1_65 (by decide)
                have eT := hu1_65.at t_tl (by decide) eT
                have e25 := hu1_65.at t_P (by decide) e25
                refine lv_if_eq (tgt := 93) hx hb d_NReader_readTerm_74 (by decide) (fun b66 => ?_) (fun b66 => ?_)
                · skip
                  have hr67 : r58 = nI 0 := b66
                  have hi68 := i0_62 hr67
                  obtain ⟨hc69, e70⟩ := hi68
                  refine lv_iload_n hx hb d_NReader_readTerm_93 rfl (lv_at hl 1 rfl) ?_
                  exact pe_iret hx hb hr hlocks hK hP hD hS d_NReader_readTerm_94 ⟨(Or.inl ⟨a9, n9, j9, by omega, by omega, by omega, by omega, by omega, by omega, (hpx.trans (by rw [px_e4, if_neg (show ¬ tk hT ln a9 = 3 from fun z => (kc_3.mp z).elim hc41 (fun z => z.elim hc55 hc69))])), e70, e25, rfl⟩), hI1_64, hu⟩
                · skip
                  have hr72 : r58 = nI 1 := (bl_1 bo_61 b66)
                  have hi73 := i1_63 hr72
                  obtain ⟨hc74, hl77, e75⟩ := hi73
                  have hk76 : tk hT ln a9 = 3 := kc_3.mpr (Or.inr (Or.inr hc74))
                  refine lv_aload_n hx hb d_NReader_readTerm_77 rfl (lv_at hl 2 rfl) ?_
                  refine lv_bipush (v := nI 7) hx hb d_NReader_readTerm_78 (by decide) ?_
                  refine lv_iload_n hx hb d_NReader_readTerm_80 rfl (lv_at hl 1 rfl) ?_
                  refine lv_aload_n hx hb d_NReader_readTerm_81 rfl (lv_at hl 2 rfl) ?_
                  refine lv_iload_n hx hb d_NReader_readTerm_82 rfl (lv_at hl 3 rfl) ?_
                  refine pcc_i (va_runV (C := "BigRunner$Reader") (As := [.int (nI d)]) (rest := [.int (nI j9), .int (nI 7), .ref Rd]) ⟨hx, hb, hml, hown, tb_nil⟩ ((ih Fw (by omega)).1 g H.size f59 Rd tl ln ((a9 + 1)) P hT sn n9 d hL t_Rd t_tl t_P hI1_64 e75 eT cT (by omega) (by omega) e25 (by omega) (by omega) (by omega) (by omega) (by omega)) ⟨(callB_of 1 (tb_one (wd_500 hB _)) tb_good1 rfl rfl rfl (wd_73 hB _) (wd_497 hB _) (by decide +kernel) ⟨(show Fw + 3 + 1 ≤ (F + 1) + 3 by omega), (show 8 + (3 + 11) + (30 * Fw + 200) ≤ 30 * (F + 1) + 200 by omega)⟩), (wd_499 hB _), (wd_11 hB _)⟩ ⟨pe_bl, pg_recv (ci := 7) hK hP (lo_in hL t_Rd (by decide)) e75 rfl, pe_pre hB hK hP hD⟩ rfl rfl hl.1 rfl (lv_room (Nat.le_of_ble_eq_true rfl)) d_NReader_readTerm_83 ⟨Nat.le_of_ble_eq_true rfl, Nat.le_of_ble_eq_true rfl⟩) hS (fun r78 f79 H locs hq80 hP hD hS => ?_)
                  obtain ⟨rs_81, hI1_82, hu1_83⟩ := hq80
                  have hu := hu.tr hu1_83 (by decide)
                  have hv27 := hv27.tr hu1_83 (by decide)
                  have eT := hu1_83.at t_tl (by decide) eT
                  rcases rs_81 with ⟨a84, n85, j86, c90, c91, c92, c93, c94, c95, hp89, e87, e88, rfl⟩ | ⟨a84, n85, c90, c91, hp89, e87, e88, rfl⟩
                  · skip
                    refine pcc_i (va_runV (C := "BigRunner$Reader") (As := [.int (nI 7), .int (nI j9), .int (nI j86)]) (rest := []) ⟨hx, hb, hml, hown, tb_nil⟩ (c_addOp l g H.size f79 Rd tl ln a84 P hT sn n85 7 j9 j86 hL t_Rd t_tl t_P hI1_82 e87 eT cT (by omega) (by omega) e88 (by omega) (by omega) (by omega) (by omega) (by omega) (by omega) (by omega) (by omega)) ⟨(callB_of 3 (tb_one (wd_504 hB _)) tb_good1 rfl rfl rfl (wd_73 hB _) (wd_501 hB _) (by decide +kernel) ⟨(show 1 ≤ (F + 1) + 3 by omega), (show 24 ≤ 30 * (F + 1) + 200 by omega)⟩), (wd_503 hB _), (wd_12 hB _)⟩ ⟨pe_bl, pg_recv (ci := 7) hK hP (lo_in hL t_Rd (by decide)) e87 rfl, pe_pre hB hK hP hD⟩ rfl rfl hl.1 rfl (lv_room (Nat.le_of_ble_eq_true rfl)) d_NReader_readTerm_86 ⟨Nat.le_of_ble_eq_true rfl, Nat.le_of_ble_eq_true rfl⟩) hS (fun r96 f97 H locs hq98 hP hD hS => ?_)
                    obtain ⟨q_99, x1_100, hI1_101, hu1_102⟩ := hq98
                    subst q_99
                    have hu := hu.tr hu1_102 (by decide)
                    have hv27 := hv27.tr hu1_102 (by decide)
                    have eT := hu1_102.at t_tl (by decide) eT
                    have e87 := hu1_102.at t_Rd (by decide) e87
                    refine lv_istore_n (lv' := [(2, .int (nI n85)), (3, .int (nI it)), (0, .ref Rd), (1, .int (nI d))]) hx hb d_NReader_readTerm_89 rfl hl (by decide) rfl (fun ls hl => ?_)
                    refine lv_goto (tgt := 95) hx hb d_NReader_readTerm_90 (by decide) ?_
                    refine lv_iinc (k := 1) (v := nI (it + 1)) (lv' := [(3, .int (nI (it + 1))), (2, .int (nI n85)), (0, .ref Rd), (1, .int (nI d))]) hx hb d_NReader_readTerm_95 hl rfl (by rw [nI_succ]; rfl) (by decide) rfl (fun ls hl => ?_)
                    refine lv_goto (tgt := 8) hx hb d_NReader_readTerm_98 (by decide) ?_
                    exact ih22 (it + 1) a84 (n85 + 1) n85 Fw f97 H locs ls (by omega) (by omega) (by omega) (by omega) (by omega) (by omega) (by omega) (by omega) (by omega) (hpx.trans (by rw [px_e4, if_pos hk76, hp89]; rfl)) e87 x1_100 hI1_101 hv27 hl hP hD hS
                  · skip
                    refine pcc_i (va_runV (C := "BigRunner$Reader") (As := [.int (nI 7), .int (nI j9), .int (-1)]) (rest := []) ⟨hx, hb, hml, hown, tb_nil⟩ (c_addOpN l g H.size f79 Rd ((nI 7)) ((nI j9)) ((-1)) hL t_Rd hI1_82.1 (Or.inr rfl)) ⟨(callB_of 3 (tb_one (wd_504 hB _)) tb_good1 rfl rfl rfl (wd_73 hB _) (wd_501 hB _) (by decide +kernel) ⟨(show 1 ≤ (F + 1) + 3 by omega), (show 24 ≤ 30 * (F + 1) + 200 by omega)⟩), (wd_503 hB _), (wd_12 hB _)⟩ ⟨pe_bl, pg_recv (ci := 7) hK hP (lo_in hL t_Rd (by decide)) e87 rfl, pe_pre hB hK hP hD⟩ rfl rfl hl.1 rfl (lv_room (Nat.le_of_ble_eq_true rfl)) d_NReader_readTerm_86 ⟨Nat.le_of_ble_eq_true rfl, Nat.le_of_ble_eq_true rfl⟩) hS (fun r103 f104 H locs hq105 hP hD hS => ?_)
                    obtain ⟨q_106, rfl⟩ := hq105
                    subst q_106
                    refine lv_istore_n (lv' := [(2, .int (-1)), (3, .int (nI it)), (0, .ref Rd), (1, .int (nI d))]) hx hb d_NReader_readTerm_89 rfl hl (by decide) rfl (fun ls hl => ?_)
                    refine lv_goto (tgt := 95) hx hb d_NReader_readTerm_90 (by decide) ?_
                    refine lv_iinc (k := 1) (v := nI (it + 1)) (lv' := [(3, .int (nI (it + 1))), (2, .int (-1)), (0, .ref Rd), (1, .int (nI d))]) hx hb d_NReader_readTerm_95 hl rfl (by rw [nI_succ]; rfl) (by decide) rfl (fun ls hl => ?_)
                    refine lv_goto (tgt := 8) hx hb d_NReader_readTerm_98 (by decide) ?_
                    refine lv_iload_n hx hb d_NReader_readTerm_8 rfl (lv_at hl 0 rfl) ?_
                    refine lv_bipush (v := nI 72) hx hb d_NReader_readTerm_9 (by decide) ?_
                    refine lv_icmp_ge (tgt := 101) hx hb d_NReader_readTerm_11 (by decide) (fun b107 => ?_) (fun b107 => ?_)
                    · skip
                      replace b107 := (nI_leI (a := 72) (b := it + 1) (by omega) (by omega)).mp b107
                      refine lv_iload_n hx hb d_NReader_readTerm_101 rfl (lv_at hl 1 rfl) ?_
                      exact pe_iret hx hb hr hlocks hK hP hD hS d_NReader_readTerm_102 ⟨(Or.inr ⟨a84, n85, by omega, by omega, (hpx.trans (by rw [px_e4, if_pos hk76, hp89]; rfl)), e87, e88, rfl⟩), hI1_82, hu⟩
                    · skip
                      replace b107 := mt (nI_leI (a := 72) (b := it + 1) (by omega) (by omega)).mpr b107
                      refine lv_iload_n hx hb d_NReader_readTerm_14 rfl (lv_at hl 1 rfl) ?_
                      refine lv_iconst (v := (-1)) hx hb d_NReader_readTerm_15 (by decide) ?_
                      refine lv_icmp_eq (tgt := 101) hx hb d_NReader_readTerm_16 (by decide) (fun b108 => ?_) (fun b108 => ?_)
                      · skip
                        refine lv_iload_n hx hb d_NReader_readTerm_101 rfl (lv_at hl 1 rfl) ?_
                        exact pe_iret hx hb hr hlocks hK hP hD hS d_NReader_readTerm_102 ⟨(Or.inr ⟨a84, n85, by omega, by omega, (hpx.trans (by rw [px_e4, if_pos hk76, hp89]; rfl)), e87, e88, rfl⟩), hI1_82, hu⟩
                      · skip
                        exact absurd (by decide) b108
              · skip
                have hr109 : r44 = nI 1 := (bl_1 bo_47 b52)
                have hi110 := i1_49 hr109
                obtain ⟨hc111, hl114, e112⟩ := hi110
                have hk113 : tk hT ln a9 = 3 := kc_3.mpr (Or.inr (Or.inl hc111))
                refine lv_aload_n hx hb d_NReader_readTerm_52 rfl (lv_at hl 2 rfl) ?_
                refine lv_bipush (v := nI 6) hx hb d_NReader_readTerm_53 (by decide) ?_
                refine lv_iload_n hx hb d_NReader_readTerm_55 rfl (lv_at hl 1 rfl) ?_
                refine lv_aload_n hx hb d_NReader_readTerm_56 rfl (lv_at hl 2 rfl) ?_
                refine lv_iload_n hx hb d_NReader_readTerm_57 rfl (lv_at hl 3 rfl) ?_
                refine pcc_i (va_runV (C := "BigRunner$Reader") (As := [.int (nI d)]) (rest := [.int (nI j9), .int (nI 6), .ref Rd]) ⟨hx, hb, hml, hown, tb_nil⟩ ((ih Fw (by omega)).1 g H.size f45 Rd tl ln ((a9 + 1)) P hT sn n9 d hL t_Rd t_tl t_P hI1_50 e112 eT cT (by omega) (by omega) e25 (by omega) (by omega) (by omega) (by omega) (by omega)) ⟨(callB_of 1 (tb_one (wd_500 hB _)) tb_good1 rfl rfl rfl (wd_73 hB _) (wd_497 hB _) (by decide +kernel) ⟨(show Fw + 3 + 1 ≤ (F + 1) + 3 by omega), (show 8 + (3 + 11) + (30 * Fw + 200) ≤ 30 * (F + 1) + 200 by omega)⟩), (wd_499 hB _), (wd_11 hB _)⟩ ⟨pe_bl, pg_recv (ci := 7) hK hP (lo_in hL t_Rd (by decide)) e112 rfl, pe_pre hB hK hP hD⟩ rfl rfl hl.1 rfl (lv_room (Nat.le_of_ble_eq_true rfl)) d_NReader_readTerm_58 ⟨Nat.le_of_ble_eq_true rfl, Nat.le_of_ble_eq_true rfl⟩) hS (fun r115 f116 H locs hq117 hP hD hS => ?_)
                obtain ⟨rs_118, hI1_119, hu1_120⟩ := hq117
                have hu := hu.tr hu1_120 (by decide)
                have hv27 := hv27.tr hu1_120 (by decide)
                have eT := hu1_120.at t_tl (by decide) eT
                rcases rs_118 with ⟨a121, n122, j123, c127, c128, c129, c130, c131, c132, hp126, e124, e125, rfl⟩ | ⟨a121, n122, c127, c128, hp126, e124, e125, rfl⟩
                · skip
                  refine pcc_i (va_runV (C := "BigRunner$Reader") (As := [.int (nI 6), .int (nI j9), .int (nI j123)]) (rest := []) ⟨hx, hb, hml, hown, tb_nil⟩ (c_addOp l g H.size f116 Rd tl ln a121 P hT sn n122 6 j9 j123 hL t_Rd t_tl t_P hI1_119 e124 eT cT (by omega) (by omega) e125 (by omega) (by omega) (by omega) (by omega) (by omega) (by omega) (by omega) (by omega)) ⟨(callB_of 3 (tb_one (wd_504 hB _)) tb_good1 rfl rfl rfl (wd_73 hB _) (wd_501 hB _) (by decide +kernel) ⟨(show 1 ≤ (F + 1) + 3 by omega), (show 24 ≤ 30 * (F + 1) + 200 by omega)⟩), (wd_503 hB _), (wd_12 hB _)⟩ ⟨pe_bl, pg_recv (ci := 7) hK hP (lo_in hL t_Rd (by decide)) e124 rfl, pe_pre hB hK hP hD⟩ rfl rfl hl.1 rfl (lv_room (Nat.le_of_ble_eq_true rfl)) d_NReader_readTerm_61 ⟨Nat.le_of_ble_eq_true rfl, Nat.le_of_ble_eq_true rfl⟩) hS (fun r133 f134 H locs hq135 hP hD hS => ?_)
                  obtain ⟨q_136, x1_137, hI1_138, hu1_139⟩ := hq135
                  subst q_136
                  have hu := hu.tr hu1_139 (by decide)
                  have hv27 := hv27.tr hu1_139 (by decide)
                  have eT := hu1_139.at t_tl (by decide) eT
                  have e124 := hu1_139.at t_Rd (by decide) e124
                  refine lv_istore_n (lv' := [(2, .int (nI n122)), (3, .int (nI it)), (0, .ref Rd), (1, .int (nI d))]) hx hb d_NReader_readTerm_64 rfl hl (by decide) rfl (fun ls hl => ?_)
                  refine lv_goto (tgt := 95) hx hb d_NReader_readTerm_65 (by decide) ?_
                  refine lv_iinc (k := 1) (v := nI (it + 1)) (lv' := [(3, .int (nI (it + 1))), (2, .int (nI n122)), (0, .ref Rd), (1, .int (nI d))]) hx hb d_NReader_readTerm_95 hl rfl (by rw [nI_succ]; rfl) (by decide) rfl (fun ls hl => ?_)
                  refine lv_goto (tgt := 8) hx hb d_NReader_readTerm_98 (by decide) ?_
                  exact ih22 (it + 1) a121 (n122 + 1) n122 Fw f134 H locs ls (by omega) (by omega) (by omega) (by omega) (by omega) (by omega) (by omega) (by omega) (by omega) (hpx.trans (by rw [px_e4, if_pos hk113, hp126]; rfl)) e124 x1_137 hI1_138 hv27 hl hP hD hS
                · skip
                  refine pcc_i (va_runV (C := "BigRunner$Reader") (As := [.int (nI 6), .int (nI j9), .int (-1)]) (rest := []) ⟨hx, hb, hml, hown, tb_nil⟩ (c_addOpN l g H.size f116 Rd ((nI 6)) ((nI j9)) ((-1)) hL t_Rd hI1_119.1 (Or.inr rfl)) ⟨(callB_of 3 (tb_one (wd_504 hB _)) tb_good1 rfl rfl rfl (wd_73 hB _) (wd_501 hB _) (by decide +kernel) ⟨(show 1 ≤ (F + 1) + 3 by omega), (show 24 ≤ 30 * (F + 1) + 200 by omega)⟩), (wd_503 hB _), (wd_12 hB _)⟩ ⟨pe_bl, pg_recv (ci := 7) hK hP (lo_in hL t_Rd (by decide)) e124 rfl, pe_pre hB hK hP hD⟩ rfl rfl hl.1 rfl (lv_room (Nat.le_of_ble_eq_true rfl)) d_NReader_readTerm_61 ⟨Nat.le_of_ble_eq_true rfl, Nat.le_of_ble_eq_true rfl⟩) hS (fun r140 f141 H locs hq142 hP hD hS => ?_)
                  obtain ⟨q_143, rfl⟩ := hq142
                  subst q_143
                  refine lv_istore_n (lv' := [(2, .int (-1)), (3, .int (nI it)), (0, .ref Rd), (1, .int (nI d))]) hx hb d_NReader_readTerm_64 rfl hl (by decide) rfl (fun ls hl => ?_)
                  refine lv_goto (tgt := 95) hx hb d_NReader_readTerm_65 (by decide) ?_
                  refine lv_iinc (k := 1) (v := nI (it + 1)) (lv' := [(3, .int (nI (it + 1))), (2, .int (-1)), (0, .ref Rd), (1, .int (nI d))]) hx hb d_NReader_readTerm_95 hl rfl (by rw [nI_succ]; rfl) (by decide) rfl (fun ls hl => ?_)
                  refine lv_goto (tgt := 8) hx hb d_NReader_readTerm_98 (by decide) ?_
                  refine lv_iload_n hx hb d_NReader_readTerm_8 rfl (lv_at hl 0 rfl) ?_
                  refine lv_bipush (v := nI 72) hx hb d_NReader_readTerm_9 (by decide) ?_
                  refine lv_icmp_ge (tgt := 101) hx hb d_NReader_readTerm_11 (by decide) (fun b144 => ?_) (fun b144 => ?_)
                  · skip
                    replace b144 := (nI_leI (a := 72) (b := it + 1) (by omega) (by omega)).mp b144
                    refine lv_iload_n hx hb d_NReader_readTerm_101 rfl (lv_at hl 1 rfl) ?_
                    exact pe_iret hx hb hr hlocks hK hP hD hS d_NReader_readTerm_102 ⟨(Or.inr ⟨a121, n122, by omega, by omega, (hpx.trans (by rw [px_e4, if_pos hk113, hp126]; rfl)), e124, e125, rfl⟩), hI1_119, hu⟩
                  · skip
                    replace b144 := mt (nI_leI (a := 72) (b := it + 1) (by omega) (by omega)).mpr b144
                    refine lv_iload_n hx hb d_NReader_readTerm_14 rfl (lv_at hl 1 rfl) ?_
                    refine lv_iconst (v := (-1)) hx hb d_NReader_readTerm_15 (by decide) ?_
                    refine lv_icmp_eq (tgt := 101) hx hb d_NReader_readTerm_16 (by decide) (fun b145 => ?_) (fun b145 => ?_)
                    · skip
                      refine lv_iload_n hx hb d_NReader_readTerm_101 rfl (lv_at hl 1 rfl) ?_
                      exact pe_iret hx hb hr hlocks hK hP hD hS d_NReader_readTerm_102 ⟨(Or.inr ⟨a121, n122, by omega, by omega, (hpx.trans (by rw [px_e4, if_pos hk113, hp126]; rfl)), e124, e125, rfl⟩), hI1_119, hu⟩
                    · skip
                      exact absurd (by decide) b145
            · skip
              have hr146 : r30 = nI 1 := (bl_1 bo_33 b38)
              have hi147 := i1_35 hr146
              obtain ⟨hc148, hl151, e149⟩ := hi147
              have hk150 : tk hT ln a9 = 3 := kc_3.mpr (Or.inl hc148)
              refine lv_aload_n hx hb d_NReader_readTerm_28 rfl (lv_at hl 2 rfl) ?_
              refine lv_iconst (v := nI 5) hx hb d_NReader_readTerm_29 (by decide) ?_
              refine lv_iload_n hx hb d_NReader_readTerm_30 rfl (lv_at hl 1 rfl) ?_
              refine lv_aload_n hx hb d_NReader_readTerm_31 rfl (lv_at hl 2 rfl) ?_
              refine lv_iload_n hx hb d_NReader_readTerm_32 rfl (lv_at hl 3 rfl) ?_
              refine pcc_i (va_runV (C := "BigRunner$Reader") (As := [.int (nI d)]) (rest := [.int (nI j9), .int (nI 5), .ref Rd]) ⟨hx, hb, hml, hown, tb_nil⟩ ((ih Fw (by omega)).1 g H.size f31 Rd tl ln ((a9 + 1)) P hT sn n9 d hL t_Rd t_tl t_P hI1_36 e149 eT cT (by omega) (by omega) e25 (by omega) (by omega) (by omega) (by omega) (by omega)) ⟨(callB_of 1 (tb_one (wd_500 hB _)) tb_good1 rfl rfl rfl (wd_73 hB _) (wd_497 hB _) (by decide +kernel) ⟨(show Fw + 3 + 1 ≤ (F + 1) + 3 by omega), (show 8 + (3 + 11) + (30 * Fw + 200) ≤ 30 * (F + 1) + 200 by omega)⟩), (wd_499 hB _), (wd_11 hB _)⟩ ⟨pe_bl, pg_recv (ci := 7) hK hP (lo_in hL t_Rd (by decide)) e149 rfl, pe_pre hB hK hP hD⟩ rfl rfl hl.1 rfl (lv_room (Nat.le_of_ble_eq_true rfl)) d_NReader_readTerm_33 ⟨Nat.le_of_ble_eq_true rfl, Nat.le_of_ble_eq_true rfl⟩) hS (fun r152 f153 H locs hq154 hP hD hS => ?_)
              obtain ⟨rs_155, hI1_156, hu1_157⟩ := hq154
              have hu := hu.tr hu1_157 (by decide)
              have hv27 := hv27.tr hu1_157 (by decide)
              have eT := hu1_157.at t_tl (by decide) eT
              rcases rs_155 with ⟨a158, n159, j160, c164, c165, c166, c167, c168, c169, hp163, e161, e162, rfl⟩ | ⟨a158, n159, c164, c165, hp163, e161, e162, rfl⟩
              · skip
                refine pcc_i (va_runV (C := "BigRunner$Reader") (As := [.int (nI 5), .int (nI j9), .int (nI j160)]) (rest := []) ⟨hx, hb, hml, hown, tb_nil⟩ (c_addOp l g H.size f153 Rd tl ln a158 P hT sn n159 5 j9 j160 hL t_Rd t_tl t_P hI1_156 e161 eT cT (by omega) (by omega) e162 (by omega) (by omega) (by omega) (by omega) (by omega) (by omega) (by omega) (by omega)) ⟨(callB_of 3 (tb_one (wd_504 hB _)) tb_good1 rfl rfl rfl (wd_73 hB _) (wd_501 hB _) (by decide +kernel) ⟨(show 1 ≤ (F + 1) + 3 by omega), (show 24 ≤ 30 * (F + 1) + 200 by omega)⟩), (wd_503 hB _), (wd_12 hB _)⟩ ⟨pe_bl, pg_recv (ci := 7) hK hP (lo_in hL t_Rd (by decide)) e161 rfl, pe_pre hB hK hP hD⟩ rfl rfl hl.1 rfl (lv_room (Nat.le_of_ble_eq_true rfl)) d_NReader_readTerm_36 ⟨Nat.le_of_ble_eq_true rfl, Nat.le_of_ble_eq_true rfl⟩) hS (fun r170 f171 H locs hq172 hP hD hS => ?_)
                obtain ⟨q_173, x1_174, hI1_175, hu1_176⟩ := hq172
                subst q_173
                have hu := hu.tr hu1_176 (by decide)
                have hv27 := hv27.tr hu1_176 (by decide)
                have eT := hu1_176.at t_tl (by decide) eT
                have e161 := hu1_176.at t_Rd (by decide) e161
                refine lv_istore_n (lv' := [(2, .int (nI n159)), (3, .int (nI it)), (0, .ref Rd), (1, .int (nI d))]) hx hb d_NReader_readTerm_39 rfl hl (by decide) rfl (fun ls hl => ?_)
                refine lv_goto (tgt := 95) hx hb d_NReader_readTerm_40 (by decide) ?_
                refine lv_iinc (k := 1) (v := nI (it + 1)) (lv' := [(3, .int (nI (it + 1))), (2, .int (nI n159)), (0, .ref Rd), (1, .int (nI d))]) hx hb d_NReader_readTerm_95 hl rfl (by rw [nI_succ]; rfl) (by decide) rfl (fun ls hl => ?_)
                refine lv_goto (tgt := 8) hx hb d_NReader_readTerm_98 (by decide) ?_
                exact ih22 (it + 1) a158 (n159 + 1) n159 Fw f171 H locs ls (by omega) (by omega) (by omega) (by omega) (by omega) (by omega) (by omega) (by omega) (by omega) (hpx.trans (by rw [px_e4, if_pos hk150, hp163]; rfl)) e161 x1_174 hI1_175 hv27 hl hP hD hS
              · skip
                refine pcc_i (va_runV (C := "BigRunner$Reader") (As := [.int (nI 5), .int (nI j9), .int (-1)]) (rest := []) ⟨hx, hb, hml, hown, tb_nil⟩ (c_addOpN l g H.size f153 Rd ((nI 5)) ((nI j9)) ((-1)) hL t_Rd hI1_156.1 (Or.inr rfl)) ⟨(callB_of 3 (tb_one (wd_504 hB _)) tb_good1 rfl rfl rfl (wd_73 hB _) (wd_501 hB _) (by decide +kernel) ⟨(show 1 ≤ (F + 1) + 3 by omega), (show 24 ≤ 30 * (F + 1) + 200 by omega)⟩), (wd_503 hB _), (wd_12 hB _)⟩ ⟨pe_bl, pg_recv (ci := 7) hK hP (lo_in hL t_Rd (by decide)) e161 rfl, pe_pre hB hK hP hD⟩ rfl rfl hl.1 rfl (lv_room (Nat.le_of_ble_eq_true rfl)) d_NReader_readTerm_36 ⟨Nat.le_of_ble_eq_true rfl, Nat.le_of_ble_eq_true rfl⟩) hS (fun r177 f178 H locs hq179 hP hD hS => ?_)
                obtain ⟨q_180, rfl⟩ := hq179
                subst q_180
                refine lv_istore_n (lv' := [(2, .int (-1)), (3, .int (nI it)), (0, .ref Rd), (1, .int (nI d))]) hx hb d_NReader_readTerm_39 rfl hl (by decide) rfl (fun ls hl => ?_)
                refine lv_goto (tgt := 95) hx hb d_NReader_readTerm_40 (by decide) ?_
                refine lv_iinc (k := 1) (v := nI (it + 1)) (lv' := [(3, .int (nI (it + 1))), (2, .int (-1)), (0, .ref Rd), (1, .int (nI d))]) hx hb d_NReader_readTerm_95 hl rfl (by rw [nI_succ]; rfl) (by decide) rfl (fun ls hl => ?_)
                refine lv_goto (tgt := 8) hx hb d_NReader_readTerm_98 (by decide) ?_
                refine lv_iload_n hx hb d_NReader_readTerm_8 rfl (lv_at hl 0 rfl) ?_
                refine lv_bipush (v := nI 72) hx hb d_NReader_readTerm_9 (by decide) ?_
                refine lv_icmp_ge (tgt := 101) hx hb d_NReader_readTerm_11 (by decide) (fun b181 => ?_) (fun b181 => ?_)
                · skip
                  replace b181 := (nI_leI (a := 72) (b := it + 1) (by omega) (by omega)).mp b181
                  refine lv_iload_n hx hb d_NReader_readTerm_101 rfl (lv_at hl 1 rfl) ?_
                  exact pe_iret hx hb hr hlocks hK hP hD hS d_NReader_readTerm_102 ⟨(Or.inr ⟨a158, n159, by omega, by omega, (hpx.trans (by rw [px_e4, if_pos hk150, hp163]; rfl)), e161, e162, rfl⟩), hI1_156, hu⟩
                · skip
                  replace b181 := mt (nI_leI (a := 72) (b := it + 1) (by omega) (by omega)).mpr b181
                  refine lv_iload_n hx hb d_NReader_readTerm_14 rfl (lv_at hl 1 rfl) ?_
                  refine lv_iconst (v := (-1)) hx hb d_NReader_readTerm_15 (by decide) ?_
                  refine lv_icmp_eq (tgt := 101) hx hb d_NReader_readTerm_16 (by decide) (fun b182 => ?_) (fun b182 => ?_)
                  · skip
                    refine lv_iload_n hx hb d_NReader_readTerm_101 rfl (lv_at hl 1 rfl) ?_
                    exact pe_iret hx hb hr hlocks hK hP hD hS d_NReader_readTerm_102 ⟨(Or.inr ⟨a158, n159, by omega, by omega, (hpx.trans (by rw [px_e4, if_pos hk150, hp163]; rfl)), e161, e162, rfl⟩), hI1_156, hu⟩
                  · skip
                    exact absurd (by decide) b182
    exact lp19 73 0 a7 n8 j9 F f2 H locs ls (by omega) (by omega) (by omega) (by omega) (by omega) (by omega) (by omega) (by omega) (by omega) (by rw [px_e2, hp12]; rfl) e10 e11 hI1_5 un.rf hl hP hD hS
  · skip
    refine lv_istore_n (lv' := [(2, .int (-1)), (0, .ref Rd), (1, .int (nI d))]) hx hb d_NReader_readTerm_5 rfl hl (by decide) rfl (fun ls hl => ?_)
    refine lv_iconst (v := nI 0) hx hb d_NReader_readTerm_6 (by decide) ?_
    refine lv_istore_n (lv' := [(3, .int (nI 0)), (2, .int (-1)), (0, .ref Rd), (1, .int (nI d))]) hx hb d_NReader_readTerm_7 rfl hl (by decide) rfl (fun ls hl => ?_)
    refine lv_iload_n hx hb d_NReader_readTerm_8 rfl (lv_at hl 0 rfl) ?_
    refine lv_bipush (v := nI 72) hx hb d_NReader_readTerm_9 (by decide) ?_
    refine lv_icmp_ge (tgt := 101) hx hb d_NReader_readTerm_11 (by decide) (fun b183 => ?_) (fun b183 => ?_)
    · skip
      replace b183 := (nI_leI (a := 72) (b := 0) (by omega) (by omega)).mp b183
      exfalso; omega
    · skip
      replace b183 := mt (nI_leI (a := 72) (b := 0) (by omega) (by omega)).mpr b183
      refine lv_iload_n hx hb d_NReader_readTerm_14 rfl (lv_at hl 1 rfl) ?_
      refine lv_iconst (v := (-1)) hx hb d_NReader_readTerm_15 (by decide) ?_
      refine lv_icmp_eq (tgt := 101) hx hb d_NReader_readTerm_16 (by decide) (fun b184 => ?_) (fun b184 => ?_)
      · skip
        refine lv_iload_n hx hb d_NReader_readTerm_101 rfl (lv_at hl 1 rfl) ?_
        exact pe_iret hx hb hr hlocks hK hP hD hS d_NReader_readTerm_102 ⟨(Or.inr ⟨a7, n8, by omega, by omega, (by rw [px_e2, hp12]; rfl), e10, e11, rfl⟩), hI1_5, hu⟩
      · skip
        exact absurd (by decide) b184
set_option maxHeartbeats 4000000 in
set_option maxRecDepth 100000 in
theorem re_step (l : Launch) (F : Nat) (ih : ∀ F', F' ≤ F → RF l F' ∧ RE l F' ∧ RT l F') : RE l (F + 1) := by
  intro g sz f Rd tl ln ax P hT sn nn d hL t_Rd t_tl t_P hI eR eT cT hln hax eP hsn hnn hna hd hF
  refine pe_ofW (cc := prog_8_method_11_code) (maxL := 4) (ret := (some .int)) (lv := [(0, .ref Rd), (1, .int (nI d))]) (by decide) (Nat.le_of_ble_eq_true rfl) rfl ?_
  intro p e s m args below meth c ls hx hb hr hml hlocks hown hB hP hK hD hsz hS hl
  subst hsz
  have hu : un [6, 7, 8] g f f := un.rf
  refine lv_aload_n hx hb d_NReader_readExpr_0 rfl (lv_at hl 0 rfl) ?_
  refine lv_iload_n hx hb d_NReader_readExpr_1 rfl (lv_at hl 1 rfl) ?_
  refine pcc_i (va_runV (C := "BigRunner$Reader") (As := [.int (nI d)]) (rest := []) ⟨hx, hb, hml, hown, tb_nil⟩ ((ih F (by omega)).2.2 g s.heap.size f Rd tl ln ax P hT sn nn d hL t_Rd t_tl t_P hI eR eT cT (by omega) (by omega) eP (by omega) (by omega) (by omega) (by omega) (by omega)) ⟨(callB_of 1 (tb_one (wd_496 hB _)) tb_good1 rfl rfl rfl (wd_73 hB _) (wd_493 hB _) (by decide +kernel) ⟨(show F + 3 + 1 ≤ (F + 1) + 3 by omega), (show 8 + (4 + 11) + (30 * F + 200) ≤ 30 * (F + 1) + 200 by omega)⟩), (wd_495 hB _), (wd_10 hB _)⟩ ⟨pe_bl, pg_recv (ci := 7) hK hP (lo_in hL t_Rd (by decide)) eR rfl, pe_pre hB hK hP hD⟩ rfl rfl hl.1 rfl (lv_room (Nat.le_of_ble_eq_true rfl)) d_NReader_readExpr_2 ⟨Nat.le_of_ble_eq_true rfl, Nat.le_of_ble_eq_true rfl⟩) hS (fun r1 f2 H locs hq3 hP hD hS => ?_)
  obtain ⟨rs_4, hI1_5, hu1_6⟩ := hq3
  have hu := hu.tr hu1_6 (by decide)
  have eT := hu1_6.at t_tl (by decide) eT
  rcases rs_4 with ⟨a7, n8, j9, c13, c14, c15, c16, c17, c18, hp12, e10, e11, rfl⟩ | ⟨a7, n8, c13, c14, hp12, e10, e11, rfl⟩
  · skip
    refine lv_istore_n (lv' := [(2, .int (nI j9)), (0, .ref Rd), (1, .int (nI d))]) hx hb d_NReader_readExpr_5 rfl hl (by decide) rfl (fun ls hl => ?_)
    refine lv_iconst (v := nI 0) hx hb d_NReader_readExpr_6 (by decide) ?_
    refine lv_istore_n (lv' := [(3, .int (nI 0)), (2, .int (nI j9)), (0, .ref Rd), (1, .int (nI d))]) hx hb d_NReader_readExpr_7 rfl hl (by decide) rfl (fun ls hl => ?_)
    have lp19 : ∀ (k21 : Nat) (it : Nat) (a9 : Nat) (n9 : Nat) (j9 : Nat) (Fv : Nat) (f20 : Nat → va_E) (H : Heap) (locs : List Loc) (ls : Array Slot), (72 < it + k21) → (a9 ≤ ln) → (n9 + ax ≤ nn + a9) → (n9 ≤ 72) → (nn ≤ n9) → (j9 < n9) → (it + ax < a9) → (Fv ≤ F) → (5 * (ln - a9) + 1 ≤ Fv) → (px_e (tk hT ln) (F + 1) 1 d ax = px_e (tk hT ln) Fv 3 d a9) → f20 Rd = .inr (7, [.ref tl, .int (nI ln), .int (nI a9), .ref P]) → f20 P = .inr (6, [.ref (g.lk P 0), .int (nI sn), .ref (g.lk P 2), .int (nI n9), .ref (g.lk P 4), .ref (g.lk P 5)]) → IV g f20 → un [6, 7, 8] g f2 f20 → lv_has ls 4 [(3, .int (nI it)), (2, .int (nI j9)), (0, .ref Rd), (1, .int (nI d))] → va_P g.D vcl (va_pl g.LP f20) H → va_D (pc_A g s.heap.size) (va_pl g.LP f20) → va_S (pc_A g s.heap.size) s.heap H locs → W p l e ({ frames := (F + 1) + 3, cells := 0, slots := 0, locals := 30 * (F + 1) + 200 }) s m args below meth c H locs 0 0 (MQ below (va_Qi (fun r f1 => ((∃ (a n1 j : Nat), a ≤ ln ∧ n1 ≤ 72 ∧ j < n1 ∧ n1 + ax ≤ nn + a ∧ ax < a ∧ nn ≤ n1 ∧ px_e (tk hT ln) (F + 1) 1 d ax = some a ∧ f1 Rd = .inr (7, [.ref tl, .int (nI ln), .int (nI a), .ref P]) ∧ f1 P = .inr (6, [.ref (g.lk P 0), .int (nI sn), .ref (g.lk P 2), .int (nI n1), .ref (g.lk P 4), .ref (g.lk P 5)]) ∧ r = nI j) ∨ (∃ (a n1 : Nat), a ≤ ln ∧ n1 ≤ 72 ∧ px_e (tk hT ln) (F + 1) 1 d ax = none ∧ f1 Rd = .inr (7, [.ref tl, .int (nI ln), .int (nI a), .ref P]) ∧ f1 P = .inr (6, [.ref (g.lk P 0), .int (nI sn), .ref (g.lk P 2), .int (nI n1), .ref (g.lk P 4), .ref (g.lk P 5)]) ∧ r = (-1))) ∧ (IV g f1) ∧ (un [6, 7, 8] g f f1)) (pc_out g s.heap.size) (pc_A g s.heap.size)) args s 0 0 (pc_A g s.heap.size)) (F0 m 8 ls []) := by
      intro k21
      induction k21 with
      | zero => intros; exfalso; omega
      | succ k21 ih22 =>
        intro it a9 n9 j9 Fv f20 H locs ls hfu23 ha9 hn9 hn92 hn93 hj9 hit hFv hFe hpx e24 e25 hI26 hv27 hl hP hD hS
        have eT := hv27.at t_tl (by decide) eT
        have hu := hu.tr hv27 (by decide)
        obtain ⟨Fw, rfl⟩ : ∃ Fw, Fv = Fw + 1 := ⟨Fv - 1, by omega⟩
        refine lv_iload_n hx hb d_NReader_readExpr_8 rfl (lv_at hl 0 rfl) ?_
        refine lv_bipush (v := nI 72) hx hb d_NReader_readExpr_9 (by decide) ?_
        refine lv_icmp_ge (tgt := 75) hx hb d_NReader_readExpr_11 (by decide) (fun b28 => ?_) (fun b28 => ?_)
        · skip
          replace b28 := (nI_leI (a := 72) (b := it) (by omega) (by omega)).mp b28
          exfalso; omega
        · skip
          replace b28 := mt (nI_leI (a := 72) (b := it) (by omega) (by omega)).mpr b28
          refine lv_iload_n hx hb d_NReader_readExpr_14 rfl (lv_at hl 1 rfl) ?_
          refine lv_iconst (v := (-1)) hx hb d_NReader_readExpr_15 (by decide) ?_
          refine lv_icmp_eq (tgt := 75) hx hb d_NReader_readExpr_16 (by decide) (fun b29 => ?_) (fun b29 => ?_)
          · skip
            exact absurd b29 (nI_n1 (j := j9) (by omega))
          · skip
            refine lv_aload_n hx hb d_NReader_readExpr_19 rfl (lv_at hl 2 rfl) ?_
            refine lv_bipush (v := nI 43) hx hb d_NReader_readExpr_20 (by decide) ?_
            refine pcc_i (va_runV (C := "BigRunner$Reader") (As := [.int (nI 43)]) (rest := []) ⟨hx, hb, hml, hown, tb_nil⟩ (c_accept l g H.size f20 Rd tl ln a9 P hT 43 hL t_Rd t_tl t_P hI26 e24 eT cT (by omega) (by omega) (by decide)) ⟨(callB_of 1 (tb_one (wd_472 hB _)) tb_good1 rfl rfl rfl (wd_73 hB _) (wd_469 hB _) (by decide +kernel) ⟨(show 2 ≤ (F + 1) + 3 by omega), (show 41 ≤ 30 * (F + 1) + 200 by omega)⟩), (wd_471 hB _), (wd_4 hB _)⟩ ⟨pe_bl, pg_recv (ci := 7) hK hP (lo_in hL t_Rd (by decide)) e24 rfl, pe_pre hB hK hP hD⟩ rfl rfl hl.1 rfl (lv_room (Nat.le_of_ble_eq_true rfl)) d_NReader_readExpr_22 ⟨Nat.le_of_ble_eq_true rfl, Nat.le_of_ble_eq_true rfl⟩) hS (fun r30 f31 H locs hq32 hP hD hS => ?_)
            obtain ⟨bo_33, i0_34, i1_35, hI1_36, hu1_37⟩ := hq32
            have hu := hu.tr hu1_37 (by decide)
            have hv27 := hv27.tr hu1_37 (by decide)
            have eT := hu1_37.at t_tl (by decide) eT
            have e25 := hu1_37.at t_P (by decide) e25
            refine lv_if_eq (tgt := 43) hx hb d_NReader_readExpr_25 (by decide) (fun b38 => ?_) (fun b38 => ?_)
            · skip
              have hr39 : r30 = nI 0 := b38
              have hi40 := i0_34 hr39
              obtain ⟨hc41, e42⟩ := hi40
              have hk43 : tk hT ln a9 ≠ 1 := fun z => hc41 (kc_1.mp z)
              refine lv_aload_n hx hb d_NReader_readExpr_43 rfl (lv_at hl 2 rfl) ?_
              refine lv_bipush (v := nI 45) hx hb d_NReader_readExpr_44 (by decide) ?_
              refine pcc_i (va_runV (C := "BigRunner$Reader") (As := [.int (nI 45)]) (rest := []) ⟨hx, hb, hml, hown, tb_nil⟩ (c_accept l g H.size f31 Rd tl ln a9 P hT 45 hL t_Rd t_tl t_P hI1_36 e42 eT cT (by omega) (by omega) (by decide)) ⟨(callB_of 1 (tb_one (wd_472 hB _)) tb_good1 rfl rfl rfl (wd_73 hB _) (wd_469 hB _) (by decide +kernel) ⟨(show 2 ≤ (F + 1) + 3 by omega), (show 41 ≤ 30 * (F + 1) + 200 by omega)⟩), (wd_471 hB _), (wd_4 hB _)⟩ ⟨pe_bl, pg_recv (ci := 7) hK hP (lo_in hL t_Rd (by decide)) e42 rfl, pe_pre hB hK hP hD⟩ rfl rfl hl.1 rfl (lv_room (Nat.le_of_ble_eq_true rfl)) d_NReader_readExpr_46 ⟨Nat.le_of_ble_eq_true rfl, Nat.le_of_ble_eq_true rfl⟩) hS (fun r44 f45 H locs hq46 hP hD hS => ?_)
              obtain ⟨bo_47, i0_48, i1_49, hI1_50, hu1_51⟩ := hq46
              have hu := hu.tr hu1_51 (by decide)
              have hv27 := hv27.tr hu1_51 (by decide)
              have eT := hu1_51.at t_tl (by decide) eT
              have e25 := hu1_51.at t_P (by decide) e25
              refine lv_if_eq (tgt := 67) hx hb d_NReader_readExpr_49 (by decide) (fun b52 => ?_) (fun b52 => ?_)
              · skip
                have hr53 : r44 = nI 0 := b52
                have hi54 := i0_48 hr53
                obtain ⟨hc55, e56⟩ := hi54
                have hk57 : tk hT ln a9 ≠ 2 := fun z => hc55 (kc_2.mp z)
                refine lv_iload_n hx hb d_NReader_readExpr_67 rfl (lv_at hl 1 rfl) ?_
                exact pe_iret hx hb hr hlocks hK hP hD hS d_NReader_readExpr_68 ⟨(Or.inl ⟨a9, n9, j9, by omega, by omega, by omega, by omega, by omega, by omega, (hpx.trans (by rw [px_e3, if_neg (fun z => z.elim hk43 hk57)])), e56, e25, rfl⟩), hI1_50, hu⟩
              · skip
                have hr58 : r44 = nI 1 := (bl_1 bo_47 b52)
                have hi59 := i1_49 hr58
                obtain ⟨hc60, hl63, e61⟩ := hi59
                have hk62 : tk hT ln a9 = 2 := kc_2.mpr hc60
                refine lv_aload_n hx hb d_NReader_readExpr_52 rfl (lv_at hl 2 rfl) ?_
                refine lv_iconst (v := nI 4) hx hb d_NReader_readExpr_53 (by decide) ?_
                refine lv_iload_n hx hb d_NReader_readExpr_54 rfl (lv_at hl 1 rfl) ?_
                refine lv_aload_n hx hb d_NReader_readExpr_55 rfl (lv_at hl 2 rfl) ?_
                refine lv_iload_n hx hb d_NReader_readExpr_56 rfl (lv_at hl 3 rfl) ?_
                refine pcc_i (va_runV (C := "BigRunner$Reader") (As := [.int (nI d)]) (rest := [.int (nI j9), .int (nI 4), .ref Rd]) ⟨hx, hb, hml, hown, tb_nil⟩ ((ih Fw (by omega)).2.2 g H.size f45 Rd tl ln ((a9 + 1)) P hT sn n9 d hL t_Rd t_tl t_P hI1_50 e61 eT cT (by omega) (by omega) e25 (by omega) (by omega) (by omega) (by omega) (by omega)) ⟨(callB_of 1 (tb_one (wd_496 hB _)) tb_good1 rfl rfl rfl (wd_73 hB _) (wd_493 hB _) (by decide +kernel) ⟨(show Fw + 3 + 1 ≤ (F + 1) + 3 by omega), (show 8 + (4 + 11) + (30 * Fw + 200) ≤ 30 * (F + 1) + 200 by omega)⟩), (wd_495 hB _), (wd_10 hB _)⟩ ⟨pe_bl, pg_recv (ci := 7) hK hP (lo_in hL t_Rd (by decide)) e61 rfl, pe_pre hB hK hP hD⟩ rfl rfl hl.1 rfl (lv_room (Nat.le_of_ble_eq_true rfl)) d_NReader_readExpr_57 ⟨Nat.le_of_ble_eq_true rfl, Nat.le_of_ble_eq_true rfl⟩) hS (fun r64 f65 H locs hq66 hP hD hS => ?_)
                obtain ⟨rs_67, hI1_68, hu1_69⟩ := hq66
                have hu := hu.tr hu1_69 (by decide)
                have hv27 := hv27.tr hu1_69 (by decide)
                have eT := hu1_69.at t_tl (by decide) eT
                rcases rs_67 with ⟨a70, n71, j72, c76, c77, c78, c79, c80, c81, hp75, e73, e74, rfl⟩ | ⟨a70, n71, c76, c77, hp75, e73, e74, rfl⟩
                · skip
                  refine pcc_i (va_runV (C := "BigRunner$Reader") (As := [.int (nI 4), .int (nI j9), .int (nI j72)]) (rest := []) ⟨hx, hb, hml, hown, tb_nil⟩ (c_addOp l g H.size f65 Rd tl ln a70 P hT sn n71 4 j9 j72 hL t_Rd t_tl t_P hI1_68 e73 eT cT (by omega) (by omega) e74 (by omega) (by omega) (by omega) (by omega) (by omega) (by omega) (by omega) (by omega)) ⟨(callB_of 3 (tb_one (wd_504 hB _)) tb_good1 rfl rfl rfl (wd_73 hB _) (wd_501 hB _) (by decide +kernel) ⟨(show 1 ≤ (F + 1) + 3 by omega), (show 24 ≤ 30 * (F + 1) + 200 by omega)⟩), (wd_503 hB _), (wd_12 hB _)⟩ ⟨pe_bl, pg_recv (ci := 7) hK hP (lo_in hL t_Rd (by decide)) e73 rfl, pe_pre hB hK hP hD⟩ rfl rfl hl.1 rfl (lv_room (Nat.le_of_ble_eq_true rfl)) d_NReader_readExpr_60 ⟨Nat.le_of_ble_eq_true rfl, Nat.le_of_ble_eq_true rfl⟩) hS (fun r82 f83 H locs hq84 hP hD hS => ?_)
                  obtain ⟨q_85, x1_86, hI1_87, hu1_88⟩ := hq84
                  subst q_85
                  have hu := hu.tr hu1_88 (by decide)
                  have hv27 := hv27.tr hu1_88 (by decide)
                  have eT := hu1_88.at t_tl (by decide) eT
                  have e73 := hu1_88.at t_Rd (by decide) e73
                  refine lv_istore_n (lv' := [(2, .int (nI n71)), (3, .int (nI it)), (0, .ref Rd), (1, .int (nI d))]) hx hb d_NReader_readExpr_63 rfl hl (by decide) rfl (fun ls hl => ?_)
                  refine lv_goto (tgt := 69) hx hb d_NReader_readExpr_64 (by decide) ?_
                  refine lv_iinc (k := 1) (v := nI (it + 1)) (lv' := [(3, .int (nI (it + 1))), (2, .int (nI n71)), (0, .ref Rd), (1, .int (nI d))]) hx hb d_NReader_readExpr_69 hl rfl (by rw [nI_succ]; rfl) (by decide) rfl (fun ls hl => ?_)
                  refine lv_goto (tgt := 8) hx hb d_NReader_readExpr_72 (by decide) ?_
                  exact ih22 (it + 1) a70 (n71 + 1) n71 Fw f83 H locs ls (by omega) (by omega) (by omega) (by omega) (by omega) (by omega) (by omega) (by omega) (by omega) (hpx.trans (by rw [px_e3, if_pos (Or.inr hk62), hp75]; rfl)) e73 x1_86 hI1_87 hv27 hl hP hD hS
                · skip
                  refine pcc_i (va_runV (C := "BigRunner$Reader") (As := [.int (nI 4), .int (nI j9), .int (-1)]) (rest := []) ⟨hx, hb, hml, hown, tb_nil⟩ (c_addOpN l g H.size f65 Rd ((nI 4)) ((nI j9)) ((-1)) hL t_Rd hI1_68.1 (Or.inr rfl)) ⟨(callB_of 3 (tb_one (wd_504 hB _)) tb_good1 rfl rfl rfl (wd_73 hB _) (wd_501 hB _) (by decide +kernel) ⟨(show 1 ≤ (F + 1) + 3 by omega), (show 24 ≤ 30 * (F + 1) + 200 by omega)⟩), (wd_503 hB _), (wd_12 hB _)⟩ ⟨pe_bl, pg_recv (ci := 7) hK hP (lo_in hL t_Rd (by decide)) e73 rfl, pe_pre hB hK hP hD⟩ rfl rfl hl.1 rfl (lv_room (Nat.le_of_ble_eq_true rfl)) d_NReader_readExpr_60 ⟨Nat.le_of_ble_eq_true rfl, Nat.le_of_ble_eq_true rfl⟩) hS (fun r89 f90 H locs hq91 hP hD hS => ?_)
                  obtain ⟨q_92, rfl⟩ := hq91
                  subst q_92
                  refine lv_istore_n (lv' := [(2, .int (-1)), (3, .int (nI it)), (0, .ref Rd), (1, .int (nI d))]) hx hb d_NReader_readExpr_63 rfl hl (by decide) rfl (fun ls hl => ?_)
                  refine lv_goto (tgt := 69) hx hb d_NReader_readExpr_64 (by decide) ?_
                  refine lv_iinc (k := 1) (v := nI (it + 1)) (lv' := [(3, .int (nI (it + 1))), (2, .int (-1)), (0, .ref Rd), (1, .int (nI d))]) hx hb d_NReader_readExpr_69 hl rfl (by rw [nI_succ]; rfl) (by decide) rfl (fun ls hl => ?_)
                  refine lv_goto (tgt := 8) hx hb d_NReader_readExpr_72 (by decide) ?_
                  refine lv_iload_n hx hb d_NReader_readExpr_8 rfl (lv_at hl 0 rfl) ?_
                  refine lv_bipush (v := nI 72) hx hb d_NReader_readExpr_9 (by decide) ?_
                  refine lv_icmp_ge (tgt := 75) hx hb d_NReader_readExpr_11 (by decide) (fun b93 => ?_) (fun b93 => ?_)
                  · skip
                    replace b93 := (nI_leI (a := 72) (b := it + 1) (by omega) (by omega)).mp b93
                    refine lv_iload_n hx hb d_NReader_readExpr_75 rfl (lv_at hl 1 rfl) ?_
                    exact pe_iret hx hb hr hlocks hK hP hD hS d_NReader_readExpr_76 ⟨(Or.inr ⟨a70, n71, by omega, by omega, (hpx.trans (by rw [px_e3, if_pos (Or.inr hk62), hp75]; rfl)), e73, e74, rfl⟩), hI1_68, hu⟩
                  · skip
                    replace b93 := mt (nI_leI (a := 72) (b := it + 1) (by omega) (by omega)).mpr b93
                    refine lv_iload_n hx hb d_NReader_readExpr_14 rfl (lv_at hl 1 rfl) ?_
                    refine lv_iconst (v := (-1)) hx hb d_NReader_readExpr_15 (by decide) ?_
                    refine lv_icmp_eq (tgt := 75) hx hb d_NReader_readExpr_16 (by decide) (fun b94 => ?_) (fun b94 => ?_)
                    · skip
                      refine lv_iload_n hx hb d_NReader_readExpr_75 rfl (lv_at hl 1 rfl) ?_
                      exact pe_iret hx hb hr hlocks hK hP hD hS d_NReader_readExpr_76 ⟨(Or.inr ⟨a70, n71, by omega, by omega, (hpx.trans (by rw [px_e3, if_pos (Or.inr hk62), hp75]; rfl)), e73, e74, rfl⟩), hI1_68, hu⟩
                    · skip
                      exact absurd (by decide) b94
            · skip
              have hr95 : r30 = nI 1 := (bl_1 bo_33 b38)
              have hi96 := i1_35 hr95
              obtain ⟨hc97, hl100, e98⟩ := hi96
              have hk99 : tk hT ln a9 = 1 := kc_1.mpr hc97
              refine lv_aload_n hx hb d_NReader_readExpr_28 rfl (lv_at hl 2 rfl) ?_
              refine lv_iconst (v := nI 3) hx hb d_NReader_readExpr_29 (by decide) ?_
              refine lv_iload_n hx hb d_NReader_readExpr_30 rfl (lv_at hl 1 rfl) ?_
              refine lv_aload_n hx hb d_NReader_readExpr_31 rfl (lv_at hl 2 rfl) ?_
              refine lv_iload_n hx hb d_NReader_readExpr_32 rfl (lv_at hl 3 rfl) ?_
              refine pcc_i (va_runV (C := "BigRunner$Reader") (As := [.int (nI d)]) (rest := [.int (nI j9), .int (nI 3), .ref Rd]) ⟨hx, hb, hml, hown, tb_nil⟩ ((ih Fw (by omega)).2.2 g H.size f31 Rd tl ln ((a9 + 1)) P hT sn n9 d hL t_Rd t_tl t_P hI1_36 e98 eT cT (by omega) (by omega) e25 (by omega) (by omega) (by omega) (by omega) (by omega)) ⟨(callB_of 1 (tb_one (wd_496 hB _)) tb_good1 rfl rfl rfl (wd_73 hB _) (wd_493 hB _) (by decide +kernel) ⟨(show Fw + 3 + 1 ≤ (F + 1) + 3 by omega), (show 8 + (4 + 11) + (30 * Fw + 200) ≤ 30 * (F + 1) + 200 by omega)⟩), (wd_495 hB _), (wd_10 hB _)⟩ ⟨pe_bl, pg_recv (ci := 7) hK hP (lo_in hL t_Rd (by decide)) e98 rfl, pe_pre hB hK hP hD⟩ rfl rfl hl.1 rfl (lv_room (Nat.le_of_ble_eq_true rfl)) d_NReader_readExpr_33 ⟨Nat.le_of_ble_eq_true rfl, Nat.le_of_ble_eq_true rfl⟩) hS (fun r101 f102 H locs hq103 hP hD hS => ?_)
              obtain ⟨rs_104, hI1_105, hu1_106⟩ := hq103
              have hu := hu.tr hu1_106 (by decide)
              have hv27 := hv27.tr hu1_106 (by decide)
              have eT := hu1_106.at t_tl (by decide) eT
              rcases rs_104 with ⟨a107, n108, j109, c113, c114, c115, c116, c117, c118, hp112, e110, e111, rfl⟩ | ⟨a107, n108, c113, c114, hp112, e110, e111, rfl⟩
              · skip
                refine pcc_i (va_runV (C := "BigRunner$Reader") (As := [.int (nI 3), .int (nI j9), .int (nI j109)]) (rest := []) ⟨hx, hb, hml, hown, tb_nil⟩ (c_addOp l g H.size f102 Rd tl ln a107 P hT sn n108 3 j9 j109 hL t_Rd t_tl t_P hI1_105 e110 eT cT (by omega) (by omega) e111 (by omega) (by omega) (by omega) (by omega) (by omega) (by omega) (by omega) (by omega)) ⟨(callB_of 3 (tb_one (wd_504 hB _)) tb_good1 rfl rfl rfl (wd_73 hB _) (wd_501 hB _) (by decide +kernel) ⟨(show 1 ≤ (F + 1) + 3 by omega), (show 24 ≤ 30 * (F + 1) + 200 by omega)⟩), (wd_503 hB _), (wd_12 hB _)⟩ ⟨pe_bl, pg_recv (ci := 7) hK hP (lo_in hL t_Rd (by decide)) e110 rfl, pe_pre hB hK hP hD⟩ rfl rfl hl.1 rfl (lv_room (Nat.le_of_ble_eq_true rfl)) d_NReader_readExpr_36 ⟨Nat.le_of_ble_eq_true rfl, Nat.le_of_ble_eq_true rfl⟩) hS (fun r119 f120 H locs hq121 hP hD hS => ?_)
                obtain ⟨q_122, x1_123, hI1_124, hu1_125⟩ := hq121
                subst q_122
                have hu := hu.tr hu1_125 (by decide)
                have hv27 := hv27.tr hu1_125 (by decide)
                have eT := hu1_125.at t_tl (by decide) eT
                have e110 := hu1_125.at t_Rd (by decide) e110
                refine lv_istore_n (lv' := [(2, .int (nI n108)), (3, .int (nI it)), (0, .ref Rd), (1, .int (nI d))]) hx hb d_NReader_readExpr_39 rfl hl (by decide) rfl (fun ls hl => ?_)
                refine lv_goto (tgt := 69) hx hb d_NReader_readExpr_40 (by decide) ?_
                refine lv_iinc (k := 1) (v := nI (it + 1)) (lv' := [(3, .int (nI (it + 1))), (2, .int (nI n108)), (0, .ref Rd), (1, .int (nI d))]) hx hb d_NReader_readExpr_69 hl rfl (by rw [nI_succ]; rfl) (by decide) rfl (fun ls hl => ?_)
                refine lv_goto (tgt := 8) hx hb d_NReader_readExpr_72 (by decide) ?_
                exact ih22 (it + 1) a107 (n108 + 1) n108 Fw f120 H locs ls (by omega) (by omega) (by omega) (by omega) (by omega) (by omega) (by omega) (by omega) (by omega) (hpx.trans (by rw [px_e3, if_pos (Or.inl hk99), hp112]; rfl)) e110 x1_123 hI1_124 hv27 hl hP hD hS
              · skip
                refine pcc_i (va_runV (C := "BigRunner$Reader") (As := [.int (nI 3), .int (nI j9), .int (-1)]) (rest := []) ⟨hx, hb, hml, hown, tb_nil⟩ (c_addOpN l g H.size f102 Rd ((nI 3)) ((nI j9)) ((-1)) hL t_Rd hI1_105.1 (Or.inr rfl)) ⟨(callB_of 3 (tb_one (wd_504 hB _)) tb_good1 rfl rfl rfl (wd_73 hB _) (wd_501 hB _) (by decide +kernel) ⟨(show 1 ≤ (F + 1) + 3 by omega), (show 24 ≤ 30 * (F + 1) + 200 by omega)⟩), (wd_503 hB _), (wd_12 hB _)⟩ ⟨pe_bl, pg_recv (ci := 7) hK hP (lo_in hL t_Rd (by decide)) e110 rfl, pe_pre hB hK hP hD⟩ rfl rfl hl.1 rfl (lv_room (Nat.le_of_ble_eq_true rfl)) d_NReader_readExpr_36 ⟨Nat.le_of_ble_eq_true rfl, Nat.le_of_ble_eq_true rfl⟩) hS (fun r126 f127 H locs hq128 hP hD hS => ?_)
                obtain ⟨q_129, rfl⟩ := hq128
                subst q_129
                refine lv_istore_n (lv' := [(2, .int (-1)), (3, .int (nI it)), (0, .ref Rd), (1, .int (nI d))]) hx hb d_NReader_readExpr_39 rfl hl (by decide) rfl (fun ls hl => ?_)
                refine lv_goto (tgt := 69) hx hb d_NReader_readExpr_40 (by decide) ?_
                refine lv_iinc (k := 1) (v := nI (it + 1)) (lv' := [(3, .int (nI (it + 1))), (2, .int (-1)), (0, .ref Rd), (1, .int (nI d))]) hx hb d_NReader_readExpr_69 hl rfl (by rw [nI_succ]; rfl) (by decide) rfl (fun ls hl => ?_)
                refine lv_goto (tgt := 8) hx hb d_NReader_readExpr_72 (by decide) ?_
                refine lv_iload_n hx hb d_NReader_readExpr_8 rfl (lv_at hl 0 rfl) ?_
                refine lv_bipush (v := nI 72) hx hb d_NReader_readExpr_9 (by decide) ?_
                refine lv_icmp_ge (tgt := 75) hx hb d_NReader_readExpr_11 (by decide) (fun b130 => ?_) (fun b130 => ?_)
                · skip
                  replace b130 := (nI_leI (a := 72) (b := it + 1) (by omega) (by omega)).mp b130
                  refine lv_iload_n hx hb d_NReader_readExpr_75 rfl (lv_at hl 1 rfl) ?_
                  exact pe_iret hx hb hr hlocks hK hP hD hS d_NReader_readExpr_76 ⟨(Or.inr ⟨a107, n108, by omega, by omega, (hpx.trans (by rw [px_e3, if_pos (Or.inl hk99), hp112]; rfl)), e110, e111, rfl⟩), hI1_105, hu⟩
                · skip
                  replace b130 := mt (nI_leI (a := 72) (b := it + 1) (by omega) (by omega)).mpr b130
                  refine lv_iload_n hx hb d_NReader_readExpr_14 rfl (lv_at hl 1 rfl) ?_
                  refine lv_iconst (v := (-1)) hx hb d_NReader_readExpr_15 (by decide) ?_
                  refine lv_icmp_eq (tgt := 75) hx hb d_NReader_readExpr_16 (by decide) (fun b131 => ?_) (fun b131 => ?_)
                  · skip
                    refine lv_iload_n hx hb d_NReader_readExpr_75 rfl (lv_at hl 1 rfl) ?_
                    exact pe_iret hx hb hr hlocks hK hP hD hS d_NReader_readExpr_76 ⟨(Or.inr ⟨a107, n108, by omega, by omega, (hpx.trans (by rw [px_e3, if_pos (Or.inl hk99), hp112]; rfl)), e110, e111, rfl⟩), hI1_105, hu⟩
                  · skip
                    exact absurd (by decide) b131
    exact lp19 73 0 a7 n8 j9 F f2 H locs ls (by omega) (by omega) (by omega) (by omega) (by omega) (by omega) (by omega) (by omega) (by omega) (by rw [px_e1, hp12]; rfl) e10 e11 hI1_5 un.rf hl hP hD hS
  · skip
    refine lv_istore_n (lv' := [(2, .int (-1)), (0, .ref Rd), (1, .int (nI d))]) hx hb d_NReader_readExpr_5 rfl hl (by decide) rfl (fun ls hl => ?_)
    refine lv_iconst (v := nI 0) hx hb d_NReader_readExpr_6 (by decide) ?_
    refine lv_istore_n (lv' := [(3, .int (nI 0)), (2, .int (-1)), (0, .ref Rd), (1, .int (nI d))]) hx hb d_NReader_readExpr_7 rfl hl (by decide) rfl (fun ls hl => ?_)
    refine lv_iload_n hx hb d_NReader_readExpr_8 rfl (lv_at hl 0 rfl) ?_
    refine lv_bipush (v := nI 72) hx hb d_NReader_readExpr_9 (by decide) ?_
    refine lv_icmp_ge (tgt := 75) hx hb d_NReader_readExpr_11 (by decide) (fun b132 => ?_) (fun b132 => ?_)
    · skip
      replace b132 := (nI_leI (a := 72) (b := 0) (by omega) (by omega)).mp b132
      exfalso; omega
    · skip
      replace b132 := mt (nI_leI (a := 72) (b := 0) (by omega) (by omega)).mpr b132
      refine lv_iload_n hx hb d_NReader_readExpr_14 rfl (lv_at hl 1 rfl) ?_
      refine lv_iconst (v := (-1)) hx hb d_NReader_readExpr_15 (by decide) ?_
      refine lv_icmp_eq (tgt := 75) hx hb d_NReader_readExpr_16 (by decide) (fun b133 => ?_) (fun b133 => ?_)
      · skip
        refine lv_iload_n hx hb d_NReader_readExpr_75 rfl (lv_at hl 1 rfl) ?_
        exact pe_iret hx hb hr hlocks hK hP hD hS d_NReader_readExpr_76 ⟨(Or.inr ⟨a7, n8, by omega, by omega, (by rw [px_e1, hp12]; rfl), e10, e11, rfl⟩), hI1_5, hu⟩
      · skip
        exact absurd (by decide) b133
theorem rd_all (l : Launch) : ∀ F, ∀ F', F' ≤ F → RF l F' ∧ RE l F' ∧ RT l F' := by
  intro F
  induction F with
  | zero =>
    intro F' h
    obtain rfl : F' = 0 := by omega
    refine ⟨?_, ?_, ?_⟩
    · unfold RF; intros; exfalso; omega
    · unfold RE; intros; exfalso; omega
    · unfold RT; intros; exfalso; omega
  | succ F ih =>
    intro F' h
    rcases Nat.lt_or_ge F' (F + 1) with q | q
    · exact ih F' (by omega)
    · obtain rfl : F' = F + 1 := by omega
      exact ⟨rf_step l F ih, re_step l F ih, rt_step l F ih⟩
