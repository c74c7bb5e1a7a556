theorem KU_cn {o : Option Int} {u : Int64} (h : RP u o) (q : KU u = true) : o = none := by
  rw [KU_RP h] at q
  cases o with
  | none => rfl
  | some x => cases q
theorem KU_cs {o : Option Int} {u : Int64} (h : RP u o) (q : KU u = false) : ∃ x, o = some x ∧ u = Int64.ofInt x := by
  rw [KU_RP h] at q
  cases o with
  | none => cases q
  | some x => exact ⟨x, rfl, by rw [← (h.2 x rfl).1, Int64.ofInt_toInt]⟩
set_option maxHeartbeats 4000000 in
set_option maxRecDepth 100000 in
theorem c3_bound (l : Launch) (g : Lay) (sz : Nat) (f : Nat → va_E) (B : Nat) (n : Nat) (hT : Nat → Int32) (ld : Int32) (tx : Value) (ln0 : Nat) (ax0 : Nat) (PR : Nat) (pr : Nat) (ix : Nat) (os : Nat) (st : Nat) (mo : Int32) (lo : Int32) (tr : Nat) (sn : Nat) (nn : Nat) (sg : Option (Nat → IVL)) (v : Int32) (gr : Int32) (hL : LO g) (t_B : g.tg B = 1) (t_PR : g.tg PR = 7) (t_pr : g.tg pr = 7) (hI : OC g f) (eB : f B = .inr (0, [.ref (g.lk B 0), .int (nI n), .ref (g.lk B 2), .ref (g.lk B 3), .int ld])) (hn : n ≤ 72) (hld : ld = nI 0 ∨ ld = nI 1) (eT : f (g.lk B 0) = .inl (g.ac (g.lk B 0), 72, .inl hT)) (cT : ∀ i, i < 72 → vp_nar .char (hT i) = hT i) (eR : f (g.lk B 2) = .inr (7, [tx, .int (nI ln0), .int (nI ax0), .ref PR])) (hl0 : ln0 ≤ 72) (ha0 : ax0 ≤ 72) (eX : f (g.lk B 3) = .inr (8, [.ref pr, .ref (g.lk (g.lk B 3) 1), .int (nI ix), .ref (g.lk (g.lk B 3) 3), .ref (g.lk (g.lk B 3) 4), .ref (g.lk (g.lk B 3) 5), .ref (g.lk (g.lk B 3) 6), .ref (g.lk (g.lk B 3) 7), .int (nI os), .int (nI st), .int mo, .int lo, .int (nI tr)])) (hix : ix ≤ 36) (hos : os ≤ st) (hst : st ≤ 3000) (htr : tr ≤ 3) (hPR : PR ≠ pr) (eP : f pr = .inr (6, [.ref (g.lk pr 0), .int (nI sn), .ref (g.lk pr 2), .int (nI nn), .ref (g.lk pr 4), .ref (g.lk pr 5)])) (hsn : sn ≤ 36) (hnn : nn ≤ 72) (hSG : SG g f pr 0 sn) (hnj : sn ≤ ix ∨ nj g f pr ix) (hi1 : OIN g f PR) (hi2 : OIN g f pr) (hce : CE g f pr ld sg) (hLt : l.stackTraces = false) : tw_Met l ⟨"BigRunner", "bound", "(IZ)J"⟩ [Cond.code ⟨"BigRunner", "bound", "(IZ)J"⟩ prog_1_method_8_code 6 (some .long)] ({ frames := 6, cells := 1, slots := 6, locals := 120 }) (va_Pc [.ref B, .int v, .int gr] (pt_in g sz f)) (tq (fun v9 f1 => ∃ r, v9 = some (.long r) ∧ ((bnd sg v gr).1 = 0) ∧ (r = (bnd sg v gr).2) ∧ (f = f1)) (fun C9 f1 => ((C9 = "java/lang/IndexOutOfBoundsException" ∧ (bnd sg v gr).1 = 1) ∨ (C9 = "java/lang/UnsupportedOperationException" ∧ (bnd sg v gr).1 = 2)) ∧ (f = f1)) g sz) 1 6 (pc_A g sz) := by
  refine pt_ofW (cc := prog_1_method_8_code) (maxL := 6) (ret := (some .long)) (lv := [(0, .ref B), (1, .int v), (2, .int gr)]) (by decide) (Nat.le_of_ble_eq_true rfl) rfl ?_
  intro p e s m args below meth c ls hx hb hr hml hlocks hown hB hP hK hD hsz hS hl hno hTZ
  subst hsz
  by_cases hvk : vok v = true
  · skip
    obtain ⟨k9, hk9, rfl⟩ := vok_k hvk
    rcases sg with _ | en
    · skip
      obtain rfl : ld = nI 0 := hce
      have hbn : bnd none (nI k9) gr = (1, nL 0) := rfl
      refine lv_aload_n hx hb d_B_bound_0 rfl (lv_at hl 0 rfl) ?_
      refine lv_iload_n hx hb d_B_bound_1 rfl (lv_at hl 1 rfl) ?_
      refine pcc_i (va_runV (C := "BigRunner") (As := [.int (nI k9)]) (rest := []) ⟨hx, hb, hml, hown, tb_nil⟩ (c3_hasVarIn l g s.heap.size f B n ((nI 0)) k9 hL t_B hI eB (Or.inl rfl) (by omega)) ⟨(callB_of 1 (tb_one (wd_436 hB _)) tb_good1 rfl rfl rfl (wd_72 hB _) (wd_433 hB _) (by decide +kernel) ⟨Nat.le_of_ble_eq_true rfl, Nat.le_of_ble_eq_true rfl⟩), (wd_435 hB _), (wd_1 hB _)⟩ ⟨pe_bl, pg_recv (ci := 0) hK hP (lo_in hL t_B (by decide)) eB rfl, pe_pre hB hK hP hD⟩ rfl rfl hl.1 rfl (lv_room (Nat.le_of_ble_eq_true rfl)) d_B_bound_2 ⟨Nat.le_of_ble_eq_true rfl, Nat.le_of_ble_eq_true rfl⟩) hS (fun r1 f2 H locs hq3 hP hD hS => ?_)
      obtain ⟨qv_4, rfl⟩ := hq3
      subst qv_4
      refine lv_if_ne (tgt := 18) hx hb d_B_bound_5 (by decide) (fun b5 => ?_) (fun b5 => ?_)
      · skip
        replace b5 := mt (nI_eq (a := 0) (b := 0) (by omega) (by omega)).mpr b5
        exfalso; omega
      · skip
        replace b5 := (nI_eq (a := 0) (b := 0) (by omega) (by omega)).mp b5
        exact pt_throw (own := "BigRunner") (cls := "java/lang/IndexOutOfBoundsException") (text := "no such variable") (names := ["java/lang/RuntimeException", "java/lang/Exception"]) hx hb (hl.1.trans hml.symm) hlocks hno hLt hown (by decide +kernel) (by decide +kernel) hB hTZ (fun U hB hH => ⟨(wd_888 hB _), (wd_889 hB _), (wd_94 hB _), (wd_897 hB _), oa_1 hB hH _⟩) hK hP hD hS d_B_bound_8 d_B_bound_11 d_B_bound_12 d_B_bound_14 d_B_bound_17 (Nat.le_of_ble_eq_true rfl) (Nat.le_of_ble_eq_true rfl) (Nat.le_of_ble_eq_true rfl) (Nat.le_of_ble_eq_true rfl) ⟨(Or.inl ⟨rfl, by rw [hbn]⟩), rfl⟩
    · skip
      obtain ⟨rfl, hEV⟩ := hce
      have eva := hEV.2 k9 hk9
      have hbn := bnd_k (en := en) (gr := gr) hk9
      refine lv_aload_n hx hb d_B_bound_0 rfl (lv_at hl 0 rfl) ?_
      refine lv_iload_n hx hb d_B_bound_1 rfl (lv_at hl 1 rfl) ?_
      refine pcc_i (va_runV (C := "BigRunner") (As := [.int (nI k9)]) (rest := []) ⟨hx, hb, hml, hown, tb_nil⟩ (c3_hasVarIn l g s.heap.size f B n ((nI 1)) k9 hL t_B hI eB (Or.inr rfl) (by omega)) ⟨(callB_of 1 (tb_one (wd_436 hB _)) tb_good1 rfl rfl rfl (wd_72 hB _) (wd_433 hB _) (by decide +kernel) ⟨Nat.le_of_ble_eq_true rfl, Nat.le_of_ble_eq_true rfl⟩), (wd_435 hB _), (wd_1 hB _)⟩ ⟨pe_bl, pg_recv (ci := 0) hK hP (lo_in hL t_B (by decide)) eB rfl, pe_pre hB hK hP hD⟩ rfl rfl hl.1 rfl (lv_room (Nat.le_of_ble_eq_true rfl)) d_B_bound_2 ⟨Nat.le_of_ble_eq_true rfl, Nat.le_of_ble_eq_true rfl⟩) hS (fun r6 f7 H locs hq8 hP hD hS => ?_)
      obtain ⟨qv_9, rfl⟩ := hq8
      subst qv_9
      refine lv_if_ne (tgt := 18) hx hb d_B_bound_5 (by decide) (fun b10 => ?_) (fun b10 => ?_)
      · skip
        replace b10 := mt (nI_eq (a := 1) (b := 0) (by omega) (by omega)).mpr b10
        refine lv_aload_n hx hb d_B_bound_18 rfl (lv_at hl 0 rfl) ?_
        refine pf_get (v := .ref (g.lk B 3)) (C := "BigRunner") (T := FT0) (N := 5) hx hb (hw0 hB _) (fun _ h9 => h9) hown hK hP (lo_in hL t_B (by decide)) eB rfl 3 (by decide) (wd_381 hB _) rfl d_B_bound_19 ?_
        refine pf_get (v := .ref pr) (C := "BigRunner$Runner") (T := FT8) (N := 13) hx hb (hw8 hB _) (fun _ h9 => h9) hown hK hP (lo_in hL (lo_k1_3 hL _ t_B) (by decide)) eX rfl 0 (by decide) (wd_331 hB _) rfl d_B_bound_22 ?_
        refine pf_get (v := .ref (g.lk pr 4)) (C := "BigRunner$Program") (T := FT6) (N := 6) hx hb (hw6 hB _) (fun _ h9 => h9) hown hK hP (lo_in hL t_pr (by decide)) eP rfl 4 (by decide) (wd_255 hB _) rfl d_B_bound_25 ?_
        refine lv_iload_n hx hb d_B_bound_28 rfl (lv_at hl 1 rfl) ?_
        have e11 := oc_26.of (lo_k7_4 hL _ t_pr) (hI (g.lk pr 4))
        refine pf_aald (i := k9) hx hb hK hP (lo_in hL (lo_k7_4 hL _ t_pr) (by decide)) e11 (lo_t26 hL _ (lo_k7_4 hL _ t_pr)) (by omega) (by decide) d_B_bound_29 ?_
        have t12 := lo_e26 hL _ (lo_k7_4 hL _ t_pr) k9 (by omega)
        refine lv_astore_n (lv' := [(3, .ref (g.lk (g.lk pr 4) k9)), (0, .ref B), (1, .int (nI k9)), (2, .int gr)]) hx hb d_B_bound_30 rfl hl (by decide) rfl (fun ls hl => ?_)
        refine lv_iload_n hx hb d_B_bound_31 rfl (lv_at hl 3 rfl) ?_
        refine lv_if_eq (tgt := 42) hx hb d_B_bound_32 (by decide) (fun b13 => ?_) (fun b13 => ?_)
        · skip
          replace b13 : gr = nI 0 := b13
          have hbs : bsel en k9 gr = (en k9).1 := if_pos b13
          have hRPx := RP_L (hEV.1 k9).1
          refine lv_aload_n hx hb d_B_bound_42 rfl (lv_at hl 0 rfl) ?_
          refine pf_get (v := .long (cL ((en k9)).1)) (C := "BigRunner$Interval") (T := FT2) (N := 2) hx hb (hw2 hB _) (fun _ h9 => h9) hown hK hP (lo_in hL t12 (by decide)) eva rfl 0 (by decide) (wd_128 hB _) rfl d_B_bound_43 ?_
          refine lv_lstore (lv' := [(4, .long (cL ((en k9)).1)), (3, .ref (g.lk (g.lk pr 4) k9)), (0, .ref B), (1, .int (nI k9)), (2, .int gr)]) hx hb d_B_bound_46 hl (by decide) rfl (fun ls hl => ?_)
          refine lv_lload hx hb d_B_bound_48 (lv_at hl 0 rfl) ?_
          refine pcc_i (va_runS (As := [.long (cL ((en k9)).1)]) (rest := []) ⟨hx, hb, hml, hown, tb_nil⟩ (c2_isUnb l g H.size f ((cL ((en k9)).1)) hL hI) ⟨(callB_of 1 (tb_one (wd_443 hB _)) tb_good1 rfl rfl rfl (wd_75 hB _) (wd_904 hB _) (by decide +kernel) ⟨Nat.le_of_ble_eq_true rfl, Nat.le_of_ble_eq_true rfl⟩), (wd_442 hB _)⟩ ⟨pe_bl, pe_pre hB hK hP hD⟩ rfl rfl hl.1 rfl (lv_room (Nat.le_of_ble_eq_true rfl)) d_B_bound_50 ⟨Nat.le_of_ble_eq_true rfl, Nat.le_of_ble_eq_true rfl⟩) hS (fun r14 f15 H locs hq16 hP hD hS => ?_)
          obtain ⟨bo_17, i0_18, i1_19, rfl⟩ := hq16
          refine lv_if_eq (tgt := 66) hx hb d_B_bound_53 (by decide) (fun b20 => ?_) (fun b20 => ?_)
          · skip
            have hr21 : r14 = nI 0 := b20
            have hi22 := i0_18 hr21
            obtain ⟨x9, hx9, hy9⟩ := KU_cs hRPx hi22
            have hon : bsel en k9 gr = some x9 := by rw [hbs]; exact hx9
            refine lv_lload hx hb d_B_bound_66 (lv_at hl 0 rfl) ?_
            exact pt_lret hx hb hr hlocks hK hP hD hS d_B_bound_68 ⟨_, rfl, ⟨(by rw [hbn, hon]; rfl), (by rw [hbn, hon]; exact hy9), rfl⟩⟩
          · skip
            have hr23 : r14 = nI 1 := (bl_1 bo_17 b20)
            have hi24 := i1_19 hr23
            have hon : bsel en k9 gr = none := by rw [hbs]; exact KU_cn hRPx hi24
            exact pt_throw (own := "BigRunner") (cls := "java/lang/UnsupportedOperationException") (text := "UNBOUNDED") (names := ["java/lang/RuntimeException", "java/lang/Exception"]) hx hb (hl.1.trans hml.symm) hlocks hno hLt hown (by decide +kernel) (by decide +kernel) hB hTZ (fun U hB hH => ⟨(wd_864 hB _), (wd_865 hB _), (wd_93 hB _), (wd_905 hB _), oa_0 hB hH _⟩) hK hP hD hS d_B_bound_56 d_B_bound_59 d_B_bound_60 d_B_bound_62 d_B_bound_65 (Nat.le_of_ble_eq_true rfl) (Nat.le_of_ble_eq_true rfl) (Nat.le_of_ble_eq_true rfl) (Nat.le_of_ble_eq_true rfl) ⟨(Or.inr ⟨rfl, by rw [hbn, hon]; rfl⟩), rfl⟩
        · skip
          replace b13 : ¬ gr = nI 0 := b13
          have hbs : bsel en k9 gr = (en k9).2 := if_neg b13
          have hRPx := RP_H (hEV.1 k9).2
          refine lv_aload_n hx hb d_B_bound_35 rfl (lv_at hl 0 rfl) ?_
          refine pf_get (v := .long (cH ((en k9)).2)) (C := "BigRunner$Interval") (T := FT2) (N := 2) hx hb (hw2 hB _) (fun _ h9 => h9) hown hK hP (lo_in hL t12 (by decide)) eva rfl 1 (by decide) (wd_131 hB _) rfl d_B_bound_36 ?_
          refine lv_goto (tgt := 46) hx hb d_B_bound_39 (by decide) ?_
          refine lv_lstore (lv' := [(4, .long (cH ((en k9)).2)), (3, .ref (g.lk (g.lk pr 4) k9)), (0, .ref B), (1, .int (nI k9)), (2, .int gr)]) hx hb d_B_bound_46 hl (by decide) rfl (fun ls hl => ?_)
          refine lv_lload hx hb d_B_bound_48 (lv_at hl 0 rfl) ?_
          refine pcc_i (va_runS (As := [.long (cH ((en k9)).2)]) (rest := []) ⟨hx, hb, hml, hown, tb_nil⟩ (c2_isUnb l g H.size f ((cH ((en k9)).2)) hL hI) ⟨(callB_of 1 (tb_one (wd_443 hB _)) tb_good1 rfl rfl rfl (wd_75 hB _) (wd_904 hB _) (by decide +kernel) ⟨Nat.le_of_ble_eq_true rfl, Nat.le_of_ble_eq_true rfl⟩), (wd_442 hB _)⟩ ⟨pe_bl, pe_pre hB hK hP hD⟩ rfl rfl hl.1 rfl (lv_room (Nat.le_of_ble_eq_true rfl)) d_B_bound_50 ⟨Nat.le_of_ble_eq_true rfl, Nat.le_of_ble_eq_true rfl⟩) hS (fun r25 f26 H locs hq27 hP hD hS => ?_)
          obtain ⟨bo_28, i0_29, i1_30, rfl⟩ := hq27
          refine lv_if_eq (tgt := 66) hx hb d_B_bound_53 (by decide) (fun b31 => ?_) (fun b31 => ?_)
          · skip
            have hr32 : r25 = nI 0 := b31
            have hi33 := i0_29 hr32
            obtain ⟨x9, hx9, hy9⟩ := KU_cs hRPx hi33
            have hon : bsel en k9 gr = some x9 := by rw [hbs]; exact hx9
            refine lv_lload hx hb d_B_bound_66 (lv_at hl 0 rfl) ?_
            exact pt_lret hx hb hr hlocks hK hP hD hS d_B_bound_68 ⟨_, rfl, ⟨(by rw [hbn, hon]; rfl), (by rw [hbn, hon]; exact hy9), rfl⟩⟩
          · skip
            have hr34 : r25 = nI 1 := (bl_1 bo_28 b31)
            have hi35 := i1_30 hr34
            have hon : bsel en k9 gr = none := by rw [hbs]; exact KU_cn hRPx hi35
            exact pt_throw (own := "BigRunner") (cls := "java/lang/UnsupportedOperationException") (text := "UNBOUNDED") (names := ["java/lang/RuntimeException", "java/lang/Exception"]) hx hb (hl.1.trans hml.symm) hlocks hno hLt hown (by decide +kernel) (by decide +kernel) hB hTZ (fun U hB hH => ⟨(wd_864 hB _), (wd_865 hB _), (wd_93 hB _), (wd_905 hB _), oa_0 hB hH _⟩) hK hP hD hS d_B_bound_56 d_B_bound_59 d_B_bound_60 d_B_bound_62 d_B_bound_65 (Nat.le_of_ble_eq_true rfl) (Nat.le_of_ble_eq_true rfl) (Nat.le_of_ble_eq_true rfl) (Nat.le_of_ble_eq_true rfl) ⟨(Or.inr ⟨rfl, by rw [hbn, hon]; rfl⟩), rfl⟩
      · skip
        replace b10 := (nI_eq (a := 1) (b := 0) (by omega) (by omega)).mp b10
        exfalso; omega
  · skip
    have hvf := Bool.eq_false_iff.mpr hvk
    have hbn := bnd_o (sg := sg) (gr := gr) hvf
    refine lv_aload_n hx hb d_B_bound_0 rfl (lv_at hl 0 rfl) ?_
    refine lv_iload_n hx hb d_B_bound_1 rfl (lv_at hl 1 rfl) ?_
    refine pcc_i (va_runV (C := "BigRunner") (As := [.int v]) (rest := []) ⟨hx, hb, hml, hown, tb_nil⟩ (c3_hasVarOut l g s.heap.size f B n ld v hL t_B hI eB hld (Or.inl hvf)) ⟨(callB_of 1 (tb_one (wd_436 hB _)) tb_good1 rfl rfl rfl (wd_72 hB _) (wd_433 hB _) (by decide +kernel) ⟨Nat.le_of_ble_eq_true rfl, Nat.le_of_ble_eq_true rfl⟩), (wd_435 hB _), (wd_1 hB _)⟩ ⟨pe_bl, pg_recv (ci := 0) hK hP (lo_in hL t_B (by decide)) eB rfl, pe_pre hB hK hP hD⟩ rfl rfl hl.1 rfl (lv_room (Nat.le_of_ble_eq_true rfl)) d_B_bound_2 ⟨Nat.le_of_ble_eq_true rfl, Nat.le_of_ble_eq_true rfl⟩) hS (fun r36 f37 H locs hq38 hP hD hS => ?_)
    obtain ⟨qv_39, rfl⟩ := hq38
    subst qv_39
    refine lv_if_ne (tgt := 18) hx hb d_B_bound_5 (by decide) (fun b40 => ?_) (fun b40 => ?_)
    · skip
      replace b40 := mt (nI_eq (a := 0) (b := 0) (by omega) (by omega)).mpr b40
      exfalso; omega
    · skip
      replace b40 := (nI_eq (a := 0) (b := 0) (by omega) (by omega)).mp b40
      exact pt_throw (own := "BigRunner") (cls := "java/lang/IndexOutOfBoundsException") (text := "no such variable") (names := ["java/lang/RuntimeException", "java/lang/Exception"]) hx hb (hl.1.trans hml.symm) hlocks hno hLt hown (by decide +kernel) (by decide +kernel) hB hTZ (fun U hB hH => ⟨(wd_888 hB _), (wd_889 hB _), (wd_94 hB _), (wd_897 hB _), oa_1 hB hH _⟩) hK hP hD hS d_B_bound_8 d_B_bound_11 d_B_bound_12 d_B_bound_14 d_B_bound_17 (Nat.le_of_ble_eq_true rfl) (Nat.le_of_ble_eq_true rfl) (Nat.le_of_ble_eq_true rfl) (Nat.le_of_ble_eq_true rfl) ⟨(Or.inl ⟨rfl, by rw [hbn]⟩), rfl⟩

