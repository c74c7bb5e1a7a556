set_option maxHeartbeats 4000000 in
set_option maxRecDepth 100000 in
theorem c_append (l : Launch) (g : Lay) (sz : Nat) (f : Nat → va_E) (x : Nat) (v : Int32) (hL : LO g) (t_x : g.tg x = 2) (hI : IV g f) : Met l ⟨"BigRunner$Inputs", "append", "(I)Z"⟩ [Cond.code ⟨"BigRunner$Inputs", "append", "(I)Z"⟩ prog_2_method_2_code 2 (some .boolean)] ({ frames := 0, cells := 0, slots := 0, locals := 0 }) (va_Pc [.ref x, .int v] (pc_in g sz f)) (va_Qi (fun r f1 => (r = nI 0 ∨ r = nI 1) ∧ (IV g f1) ∧ (un [2, 21] g f f1)) (pc_out g sz) (pc_A g sz)) 0 0 (pc_A g sz) := by
  refine pe_ofW (cc := prog_2_method_2_code) (maxL := 2) (ret := (some .boolean)) (lv := [(0, .ref x), (1, .int v)]) (by decide) (Nat.le_of_ble_eq_true rfl) rfl ?_
  intro p e s m args below meth c ls hx hb hr hml hlocks hown hB hP hK hD hsz hS hl
  subst hsz
  have hu : un [2, 21] g f f := un.rf
  refine lv_iload_n hx hb d_NInputs_append_0 rfl (lv_at hl 1 rfl) ?_
  refine lv_ldc (v := (-1000000000)) hx hb hown (wd_410 hB _) d_NInputs_append_1 ?_
  refine lv_icmp_lt (tgt := 21) hx hb d_NInputs_append_3 (by decide) (fun b1 => ?_) (fun b1 => ?_)
  · skip
    refine lv_iconst (v := nI 0) hx hb d_NInputs_append_21 (by decide) ?_
    exact pe_zret hx hb hr hlocks hK hP hD hS d_NInputs_append_22 rfl ⟨(Or.inl rfl), hI, hu⟩
  · skip
    refine lv_iload_n hx hb d_NInputs_append_6 rfl (lv_at hl 1 rfl) ?_
    refine lv_ldc (v := 1000000000) hx hb hown (wd_411 hB _) d_NInputs_append_7 ?_
    refine lv_topi (fun z_ hz_ => ?_)
    obtain rfl : z_ = nI 1000000000 := hz_
    refine lv_icmp_gt (tgt := 21) hx hb d_NInputs_append_9 (by decide) (fun b2 => ?_) (fun b2 => ?_)
    · skip
      refine lv_iconst (v := nI 0) hx hb d_NInputs_append_21 (by decide) ?_
      exact pe_zret hx hb hr hlocks hK hP hD hS d_NInputs_append_22 rfl ⟨(Or.inl rfl), hI, hu⟩
    · skip
      refine lv_aload_n hx hb d_NInputs_append_12 rfl (lv_at hl 0 rfl) ?_
      obtain ⟨fi_4, wa_5, e3, c6, c7⟩ := oc_2.of t_x (hI.1 x)
      refine pf_get (v := .int (nI wa_5)) (C := "BigRunner$Inputs") (T := FT1) (N := 3) hx hb (hw1 hB _) (fun _ h9 => h9) hown hK hP (lo_in hL t_x (by decide)) e3 rfl 2 (by decide) (wd_300 hB _) rfl d_NInputs_append_13 ?_
      refine lv_bipush (v := nI 20) hx hb d_NInputs_append_16 (by decide) ?_
      refine lv_icmp_lt (tgt := 23) hx hb d_NInputs_append_18 (by decide) (fun b8 => ?_) (fun b8 => ?_)
      · skip
        replace b8 := (nI_ltI (a := wa_5) (b := 20) (by omega) (by omega)).mp b8
        refine lv_aload_n hx hb d_NInputs_append_23 rfl (lv_at hl 0 rfl) ?_
        refine pf_get (v := .ref (g.lk x 0)) (C := "BigRunner$Inputs") (T := FT1) (N := 3) hx hb (hw1 hB _) (fun _ h9 => h9) hown hK hP (lo_in hL t_x (by decide)) e3 rfl 0 (by decide) (wd_298 hB _) rfl d_NInputs_append_24 ?_
        refine lv_aload_n hx hb d_NInputs_append_27 rfl (lv_at hl 0 rfl) ?_
        refine pf_get (v := .int (nI fi_4)) (C := "BigRunner$Inputs") (T := FT1) (N := 3) hx hb (hw1 hB _) (fun _ h9 => h9) hown hK hP (lo_in hL t_x (by decide)) e3 rfl 1 (by decide) (wd_299 hB _) rfl d_NInputs_append_28 ?_
        refine lv_aload_n hx hb d_NInputs_append_31 rfl (lv_at hl 0 rfl) ?_
        refine pf_get (v := .int (nI wa_5)) (C := "BigRunner$Inputs") (T := FT1) (N := 3) hx hb (hw1 hB _) (fun _ h9 => h9) hown hK hP (lo_in hL t_x (by decide)) e3 rfl 2 (by decide) (wd_300 hB _) rfl d_NInputs_append_32 ?_
        refine pf_iaddN (x := fi_4) (y := wa_5) hx hb d_NInputs_append_35 ?_
        refine lv_bipush (v := nI 20) hx hb d_NInputs_append_36 (by decide) ?_
        refine pf_iremN (x := fi_4 + wa_5) (y := 20) hx hb (by omega) (by omega) (by omega) d_NInputs_append_38 ?_
        refine lv_iload_n hx hb d_NInputs_append_39 rfl (lv_at hl 1 rfl) ?_
        obtain ⟨h_10, e9⟩ := oc_21.of (lo_k2_0 hL _ t_x) (hI.1 (g.lk x 0))
        refine pf_iast (i := (fi_4 + wa_5) % 20) hx hb hK hP hD hS (lo_in hL (lo_k2_0 hL _ t_x) (by decide)) e9 (lo_t21 hL _ (lo_k2_0 hL _ t_x)) (by omega) (by decide) d_NInputs_append_40 (fun f12 H locs e13 k14 hP hD hS => ?_)
        have e3 := (k14 x (tg_ne t_x (lo_k2_0 hL _ t_x) (by decide))).trans e3
        have hu := hu.st k14 (lo_k2_0 hL _ t_x) (by decide)
        have hk15 : ∀ b, b ≠ (g.lk x 0) → f12 b = f b := k14
        refine lv_aload_n hx hb d_NInputs_append_41 rfl (lv_at hl 0 rfl) ?_
        refine lv_dup hx hb d_NInputs_append_42 rfl ?_
        refine pf_get (v := .int (nI wa_5)) (C := "BigRunner$Inputs") (T := FT1) (N := 3) hx hb (hw1 hB _) (fun _ h9 => h9) hown hK hP (lo_in hL t_x (by decide)) e3 rfl 2 (by decide) (wd_300 hB _) rfl d_NInputs_append_43 ?_
        refine lv_iconst (v := nI 1) hx hb d_NInputs_append_46 (by decide) ?_
        refine pf_iaddN (x := wa_5) (y := 1) hx hb d_NInputs_append_47 ?_
        have hI16 := iv_1 hI hL (lo_k2_0 hL _ t_x) (by decide) hk15 (oc_21.mk (lo_k2_0 hL _ t_x) (⟨_, e13⟩))
        refine pf_put (v := .int (nI (wa_5 + 1))) (ty := .int) (fs' := [.ref (g.lk x 0), .int (nI fi_4), .int (nI (wa_5 + 1))]) (C := "BigRunner$Inputs") (T := FT1) (N := 3) hx hb (hw1 hB _) (fun _ h9 => h9) TY1 ok1 nm1 hown hK hP hD hS (lo_in hL t_x (by decide)) e3 rfl 2 (by decide) (wd_300 hB _) rfl (by decide +kernel) rfl rfl (Nat.le_of_ble_eq_true rfl) rfl d_NInputs_append_48 (fun f17 H locs e18 k19 hP hD hS => ?_)
        have e13 := (k19 (g.lk x 0) (tg_ne (lo_k2_0 hL _ t_x) t_x (by decide))).trans e13
        have hu := hu.st k19 t_x (by decide)
        have hk20 : ∀ b, b ≠ x → f17 b = f12 b := k19
        refine lv_iconst (v := nI 1) hx hb d_NInputs_append_51 (by decide) ?_
        have hI21 := iv_1 hI16 hL t_x (by decide) hk20 (oc_2.mk t_x (⟨fi_4, (wa_5 + 1), e18, (by omega), (by omega)⟩))
        exact pe_zret hx hb hr hlocks hK hP hD hS d_NInputs_append_52 rfl ⟨(Or.inr rfl), hI21, hu⟩
      · skip
        replace b8 := mt (nI_ltI (a := wa_5) (b := 20) (by omega) (by omega)).mpr b8
        refine lv_iconst (v := nI 0) hx hb d_NInputs_append_21 (by decide) ?_
        exact pe_zret hx hb hr hlocks hK hP hD hS d_NInputs_append_22 rfl ⟨(Or.inl rfl), hI, hu⟩
set_option maxHeartbeats 4000000 in
set_option maxRecDepth 100000 in
theorem c_take (l : Launch) (g : Lay) (sz : Nat) (f : Nat → va_E) (x : Nat) (hL : LO g) (t_x : g.tg x = 2) (hI : IV g f) : Met l ⟨"BigRunner$Inputs", "take", "()I"⟩ [Cond.code ⟨"BigRunner$Inputs", "take", "()I"⟩ prog_2_method_3_code 2 (some .int)] ({ frames := 0, cells := 0, slots := 0, locals := 0 }) (va_Pc [.ref x] (pc_in g sz f)) (va_Qi (fun r f1 => (IV g f1) ∧ (un [2] g f f1)) (pc_out g sz) (pc_A g sz)) 0 0 (pc_A g sz) := by
  refine pe_ofW (cc := prog_2_method_3_code) (maxL := 2) (ret := (some .int)) (lv := [(0, .ref x)]) (by decide) (Nat.le_of_ble_eq_true rfl) rfl ?_
  intro p e s m args below meth c ls hx hb hr hml hlocks hown hB hP hK hD hsz hS hl
  subst hsz
  have hu : un [2] g f f := un.rf
  refine lv_aload_n hx hb d_NInputs_take_0 rfl (lv_at hl 0 rfl) ?_
  obtain ⟨fi_2, wa_3, e1, c4, c5⟩ := oc_2.of t_x (hI.1 x)
  refine pf_get (v := .int (nI wa_3)) (C := "BigRunner$Inputs") (T := FT1) (N := 3) hx hb (hw1 hB _) (fun _ h9 => h9) hown hK hP (lo_in hL t_x (by decide)) e1 rfl 2 (by decide) (wd_300 hB _) rfl d_NInputs_take_1 ?_
  refine lv_if_ne (tgt := 9) hx hb d_NInputs_take_4 (by decide) (fun b6 => ?_) (fun b6 => ?_)
  · skip
    replace b6 := mt (nI_eq (a := wa_3) (b := 0) (by omega) (by omega)).mpr b6
    refine lv_aload_n hx hb d_NInputs_take_9 rfl (lv_at hl 0 rfl) ?_
    refine pf_get (v := .ref (g.lk x 0)) (C := "BigRunner$Inputs") (T := FT1) (N := 3) hx hb (hw1 hB _) (fun _ h9 => h9) hown hK hP (lo_in hL t_x (by decide)) e1 rfl 0 (by decide) (wd_298 hB _) rfl d_NInputs_take_10 ?_
    refine lv_aload_n hx hb d_NInputs_take_13 rfl (lv_at hl 0 rfl) ?_
    refine pf_get (v := .int (nI fi_2)) (C := "BigRunner$Inputs") (T := FT1) (N := 3) hx hb (hw1 hB _) (fun _ h9 => h9) hown hK hP (lo_in hL t_x (by decide)) e1 rfl 1 (by decide) (wd_299 hB _) rfl d_NInputs_take_14 ?_
    obtain ⟨h_8, e7⟩ := oc_21.of (lo_k2_0 hL _ t_x) (hI.1 (g.lk x 0))
    refine pf_iald (i := fi_2) hx hb hK hP (lo_in hL (lo_k2_0 hL _ t_x) (by decide)) e7 (lo_t21 hL _ (lo_k2_0 hL _ t_x)) (by omega) (by decide) d_NInputs_take_17 ?_
    refine lv_istore_n (lv' := [(1, .int (h_8 fi_2)), (0, .ref x)]) hx hb d_NInputs_take_18 rfl hl (by decide) rfl (fun ls hl => ?_)
    refine lv_aload_n hx hb d_NInputs_take_19 rfl (lv_at hl 1 rfl) ?_
    refine lv_aload_n hx hb d_NInputs_take_20 rfl (lv_at hl 1 rfl) ?_
    refine pf_get (v := .int (nI fi_2)) (C := "BigRunner$Inputs") (T := FT1) (N := 3) hx hb (hw1 hB _) (fun _ h9 => h9) hown hK hP (lo_in hL t_x (by decide)) e1 rfl 1 (by decide) (wd_299 hB _) rfl d_NInputs_take_21 ?_
    refine lv_iconst (v := nI 1) hx hb d_NInputs_take_24 (by decide) ?_
    refine pf_iaddN (x := fi_2) (y := 1) hx hb d_NInputs_take_25 ?_
    refine lv_bipush (v := nI 20) hx hb d_NInputs_take_26 (by decide) ?_
    refine pf_iremN (x := fi_2 + 1) (y := 20) hx hb (by omega) (by omega) (by omega) d_NInputs_take_28 ?_
    refine pf_put (v := .int (nI ((fi_2 + 1) % 20))) (ty := .int) (fs' := [.ref (g.lk x 0), .int (nI ((fi_2 + 1) % 20)), .int (nI wa_3)]) (C := "BigRunner$Inputs") (T := FT1) (N := 3) hx hb (hw1 hB _) (fun _ h9 => h9) TY1 ok1 nm1 hown hK hP hD hS (lo_in hL t_x (by decide)) e1 rfl 1 (by decide) (wd_299 hB _) rfl (by decide +kernel) rfl rfl (Nat.le_of_ble_eq_true rfl) rfl d_NInputs_take_29 (fun f10 H locs e11 k12 hP hD hS => ?_)
    have e7 := (k12 (g.lk x 0) (tg_ne (lo_k2_0 hL _ t_x) t_x (by decide))).trans e7
    have hu := hu.st k12 t_x (by decide)
    have hk13 : ∀ b, b ≠ x → f10 b = f b := k12
    refine lv_aload_n hx hb d_NInputs_take_32 rfl (lv_at hl 1 rfl) ?_
    refine lv_dup hx hb d_NInputs_take_33 rfl ?_
    refine pf_get (v := .int (nI wa_3)) (C := "BigRunner$Inputs") (T := FT1) (N := 3) hx hb (hw1 hB _) (fun _ h9 => h9) hown hK hP (lo_in hL t_x (by decide)) e11 rfl 2 (by decide) (wd_300 hB _) rfl d_NInputs_take_34 ?_
    refine lv_iconst (v := nI 1) hx hb d_NInputs_take_37 (by decide) ?_
    refine pf_isubN (x := wa_3) (y := 1) hx hb (by omega) d_NInputs_take_38 ?_
    refine pf_put (v := .int (nI (wa_3 - 1))) (ty := .int) (fs' := [.ref (g.lk x 0), .int (nI ((fi_2 + 1) % 20)), .int (nI (wa_3 - 1))]) (C := "BigRunner$Inputs") (T := FT1) (N := 3) hx hb (hw1 hB _) (fun _ h9 => h9) TY1 ok1 nm1 hown hK hP hD hS (lo_in hL t_x (by decide)) e11 rfl 2 (by decide) (wd_300 hB _) rfl (by decide +kernel) rfl rfl (Nat.le_of_ble_eq_true rfl) rfl d_NInputs_take_39 (fun f14 H locs e15 k16 hP hD hS => ?_)
    have e7 := (k16 (g.lk x 0) (tg_ne (lo_k2_0 hL _ t_x) t_x (by decide))).trans e7
    have hu := hu.st k16 t_x (by decide)
    have hk17 : ∀ b, b ≠ x → f14 b = f b := fun b q0 => (k16 b q0).trans (hk13 b q0)
    refine lv_iload_n hx hb d_NInputs_take_42 rfl (lv_at hl 0 rfl) ?_
    have hI18 := iv_1 hI hL t_x (by decide) hk17 (oc_2.mk t_x (⟨((fi_2 + 1) % 20), (wa_3 - 1), e15, (by omega), (by omega)⟩))
    exact pe_iret hx hb hr hlocks hK hP hD hS d_NInputs_take_43 ⟨hI18, hu⟩
  · skip
    replace b6 := (nI_eq (a := wa_3) (b := 0) (by omega) (by omega)).mp b6
    refine lv_iconst (v := nI 0) hx hb d_NInputs_take_7 (by decide) ?_
    exact pe_iret hx hb hr hlocks hK hP hD hS d_NInputs_take_8 ⟨hI, hu⟩
set_option maxHeartbeats 4000000 in
set_option maxRecDepth 100000 in
theorem c_isUnb (l : Launch) (g : Lay) (sz : Nat) (f : Nat → va_E) (v : Int64) (hL : LO g) (hI : OC g f) : Met l ⟨"BigRunner$Interval", "isUnbounded", "(J)Z"⟩ [Cond.code ⟨"BigRunner$Interval", "isUnbounded", "(J)Z"⟩ prog_3_method_2_code 2 (some .boolean)] ({ frames := 0, cells := 0, slots := 0, locals := 0 }) (va_Pc [.long v] (pc_in g sz f)) (va_Qi (fun r f1 => (r = nI 0 ∨ r = nI 1) ∧ (f = f1)) (pc_out g sz) (pc_A g sz)) 0 0 (pc_A g sz) := by
  refine pe_ofW (cc := prog_3_method_2_code) (maxL := 2) (ret := (some .boolean)) (lv := [(0, .long v)]) (by decide) (Nat.le_of_ble_eq_true rfl) rfl ?_
  intro p e s m args below meth c ls hx hb hr hml hlocks hown hB hP hK hD hsz hS hl
  subst hsz
  refine lv_lload_n hx hb d_NInterval_isUnbounded_0 rfl (lv_at hl 0 rfl) ?_
  refine lv_ldc2 (v := (-1152921504606846976)) hx hb hown (wd_444 hB _) d_NInterval_isUnbounded_1 ?_
  refine W.lcmp hx hb d_NInterval_isUnbounded_4 ?_
  refine lv_if_lt (tgt := 16) hx hb d_NInterval_isUnbounded_5 (by decide) (fun b1 => ?_) (fun b1 => ?_)
  · skip
    replace b1 := pl_lt.mp b1
    refine lv_iconst (v := nI 1) hx hb d_NInterval_isUnbounded_16 (by decide) ?_
    refine lv_goto (tgt := 21) hx hb d_NInterval_isUnbounded_17 (by decide) ?_
    exact pe_zret hx hb hr hlocks hK hP hD hS d_NInterval_isUnbounded_21 rfl ⟨(Or.inr rfl), rfl⟩
  · skip
    replace b1 := mt pl_lt.mpr b1
    refine lv_lload_n hx hb d_NInterval_isUnbounded_8 rfl (lv_at hl 0 rfl) ?_
    refine lv_ldc2 (v := 1152921504606846976) hx hb hown (wd_445 hB _) d_NInterval_isUnbounded_9 ?_
    refine lv_topl (fun z_ hz_ => ?_)
    obtain rfl : z_ = nL 1152921504606846976 := hz_
    refine W.lcmp hx hb d_NInterval_isUnbounded_12 ?_
    refine lv_if_le (tgt := 20) hx hb d_NInterval_isUnbounded_13 (by decide) (fun b2 => ?_) (fun b2 => ?_)
    · skip
      replace b2 := pl_le.mp b2
      refine lv_iconst (v := nI 0) hx hb d_NInterval_isUnbounded_20 (by decide) ?_
      exact pe_zret hx hb hr hlocks hK hP hD hS d_NInterval_isUnbounded_21 rfl ⟨(Or.inl rfl), rfl⟩
    · skip
      replace b2 := mt pl_le.mpr b2
      refine lv_iconst (v := nI 1) hx hb d_NInterval_isUnbounded_16 (by decide) ?_
      refine lv_goto (tgt := 21) hx hb d_NInterval_isUnbounded_17 (by decide) ?_
      exact pe_zret hx hb hr hlocks hK hP hD hS d_NInterval_isUnbounded_21 rfl ⟨(Or.inr rfl), rfl⟩
set_option maxHeartbeats 4000000 in
set_option maxRecDepth 100000 in
theorem c_isBounded (l : Launch) (g : Lay) (sz : Nat) (f : Nat → va_E) (x : Nat) (hL : LO g) (t_x : g.tg x = 3) (hI : OC g f) : Met l ⟨"BigRunner$Interval", "isBounded", "()Z"⟩ [Cond.code ⟨"BigRunner$Interval", "isBounded", "()Z"⟩ prog_3_method_3_code 1 (some .boolean)] ({ frames := 1, cells := 0, slots := 0, locals := 21 }) (va_Pc [.ref x] (pc_in g sz f)) (va_Qi (fun r f1 => (r = nI 0 ∨ r = nI 1) ∧ (f = f1)) (pc_out g sz) (pc_A g sz)) 0 0 (pc_A g sz) := by
  refine pe_ofW (cc := prog_3_method_3_code) (maxL := 1) (ret := (some .boolean)) (lv := [(0, .ref x)]) (by decide) (Nat.le_of_ble_eq_true rfl) rfl ?_
  intro p e s m args below meth c ls hx hb hr hml hlocks hown hB hP hK hD hsz hS hl
  subst hsz
  refine lv_aload_n hx hb d_NInterval_isBounded_0 rfl (lv_at hl 0 rfl) ?_
  obtain ⟨lo_2, hi_3, e1⟩ := oc_3.of t_x (hI x)
  refine pf_get (v := .long lo_2) (C := "BigRunner$Interval") (T := FT2) (N := 2) hx hb (hw2 hB _) (fun _ h9 => h9) hown hK hP (lo_in hL t_x (by decide)) e1 rfl 0 (by decide) (wd_126 hB _) rfl d_NInterval_isBounded_1 ?_
  refine pcc_i (va_runS (As := [.long lo_2]) (rest := []) ⟨hx, hb, hml, hown, tb_nil⟩ (c_isUnb l g s.heap.size f lo_2 hL hI) ⟨(callB_of 1 (tb_one (wd_443 hB _)) tb_good1 rfl rfl rfl (wd_75 hB _) (wd_441 hB _) (by decide +kernel) ⟨Nat.le_of_ble_eq_true rfl, Nat.le_of_ble_eq_true rfl⟩), (wd_442 hB _)⟩ ⟨pe_bl, pe_pre hB hK hP hD⟩ rfl rfl hl.1 rfl (lv_room (Nat.le_of_ble_eq_true rfl)) d_NInterval_isBounded_4 ⟨Nat.le_of_ble_eq_true rfl, Nat.le_of_ble_eq_true rfl⟩) hS (fun r4 f5 H locs hq6 hP hD hS => ?_)
  obtain ⟨bo_7, rfl⟩ := hq6
  refine lv_if_ne (tgt := 24) hx hb d_NInterval_isBounded_7 (by decide) (fun b8 => ?_) (fun b8 => ?_)
  · skip
    have hr9 : r4 = nI 1 := (bl_1 bo_7 b8)
    refine lv_iconst (v := nI 0) hx hb d_NInterval_isBounded_24 (by decide) ?_
    exact pe_zret hx hb hr hlocks hK hP hD hS d_NInterval_isBounded_25 rfl ⟨(Or.inl rfl), rfl⟩
  · skip
    have hr10 : r4 = nI 0 := b8
    refine lv_aload_n hx hb d_NInterval_isBounded_10 rfl (lv_at hl 0 rfl) ?_
    refine pf_get (v := .long hi_3) (C := "BigRunner$Interval") (T := FT2) (N := 2) hx hb (hw2 hB _) (fun _ h9 => h9) hown hK hP (lo_in hL t_x (by decide)) e1 rfl 1 (by decide) (wd_129 hB _) rfl d_NInterval_isBounded_11 ?_
    refine pcc_i (va_runS (As := [.long hi_3]) (rest := []) ⟨hx, hb, hml, hown, tb_nil⟩ (c_isUnb l g H.size f hi_3 hL hI) ⟨(callB_of 1 (tb_one (wd_443 hB _)) tb_good1 rfl rfl rfl (wd_75 hB _) (wd_441 hB _) (by decide +kernel) ⟨Nat.le_of_ble_eq_true rfl, Nat.le_of_ble_eq_true rfl⟩), (wd_442 hB _)⟩ ⟨pe_bl, pe_pre hB hK hP hD⟩ rfl rfl hl.1 rfl (lv_room (Nat.le_of_ble_eq_true rfl)) d_NInterval_isBounded_14 ⟨Nat.le_of_ble_eq_true rfl, Nat.le_of_ble_eq_true rfl⟩) hS (fun r11 f12 H locs hq13 hP hD hS => ?_)
    obtain ⟨bo_14, rfl⟩ := hq13
    refine lv_if_ne (tgt := 24) hx hb d_NInterval_isBounded_17 (by decide) (fun b15 => ?_) (fun b15 => ?_)
    · skip
      have hr16 : r11 = nI 1 := (bl_1 bo_14 b15)
      refine lv_iconst (v := nI 0) hx hb d_NInterval_isBounded_24 (by decide) ?_
      exact pe_zret hx hb hr hlocks hK hP hD hS d_NInterval_isBounded_25 rfl ⟨(Or.inl rfl), rfl⟩
    · skip
      have hr17 : r11 = nI 0 := b15
      refine lv_iconst (v := nI 1) hx hb d_NInterval_isBounded_20 (by decide) ?_
      refine lv_goto (tgt := 25) hx hb d_NInterval_isBounded_21 (by decide) ?_
      exact pe_zret hx hb hr hlocks hK hP hD hS d_NInterval_isBounded_25 rfl ⟨(Or.inr rfl), rfl⟩
set_option maxHeartbeats 4000000 in
set_option maxRecDepth 100000 in
theorem c_iset (l : Launch) (g : Lay) (sz : Nat) (f : Nat → va_E) (x : Nat) (u : Int64) (v : Int64) (hL : LO g) (t_x : g.tg x = 3) (hI : IV g f) : Met l ⟨"BigRunner$Interval", "set", "(JJ)V"⟩ [Cond.code ⟨"BigRunner$Interval", "set", "(JJ)V"⟩ prog_3_method_4_code 5 none] ({ frames := 1, cells := 0, slots := 0, locals := 21 }) (va_Pc [.ref x, .long u, .long v] (pc_in g sz f)) (va_Qv (fun f1 => (IV g f1) ∧ (un [3] g f f1)) (pc_out g sz) (pc_A g sz)) 0 0 (pc_A g sz) := by
  refine pe_ofW (cc := prog_3_method_4_code) (maxL := 5) (ret := none) (lv := [(0, .ref x), (1, .long u), (3, .long v)]) (by decide) (Nat.le_of_ble_eq_true rfl) rfl ?_
  intro p e s m args below meth c ls hx hb hr hml hlocks hown hB hP hK hD hsz hS hl
  subst hsz
  have hu : un [3] g f f := un.rf
  refine lv_aload_n hx hb d_NInterval_set_0 rfl (lv_at hl 0 rfl) ?_
  refine lv_lload_n hx hb d_NInterval_set_1 rfl (lv_at hl 1 rfl) ?_
  refine pcc_i (va_runS (As := [.long u]) (rest := [.ref x]) ⟨hx, hb, hml, hown, tb_nil⟩ (c_isUnb l g s.heap.size f u hL hI.1) ⟨(callB_of 1 (tb_one (wd_443 hB _)) tb_good1 rfl rfl rfl (wd_75 hB _) (wd_441 hB _) (by decide +kernel) ⟨Nat.le_of_ble_eq_true rfl, Nat.le_of_ble_eq_true rfl⟩), (wd_442 hB _)⟩ ⟨pe_bl, pe_pre hB hK hP hD⟩ rfl rfl hl.1 rfl (lv_room (Nat.le_of_ble_eq_true rfl)) d_NInterval_set_2 ⟨Nat.le_of_ble_eq_true rfl, Nat.le_of_ble_eq_true rfl⟩) hS (fun r1 f2 H locs hq3 hP hD hS => ?_)
  obtain ⟨bo_4, rfl⟩ := hq3
  refine lv_if_eq (tgt := 14) hx hb d_NInterval_set_5 (by decide) (fun b5 => ?_) (fun b5 => ?_)
  · skip
    have hr6 : r1 = nI 0 := b5
    refine lv_lload_n hx hb d_NInterval_set_14 rfl (lv_at hl 1 rfl) ?_
    obtain ⟨lo_8, hi_9, e7⟩ := oc_3.of t_x (hI.1 x)
    refine pf_put (v := .long u) (ty := .long) (fs' := [.long u, .long hi_9]) (C := "BigRunner$Interval") (T := FT2) (N := 2) hx hb (hw2 hB _) (fun _ h9 => h9) TY2 ok2 nm2 hown hK hP hD hS (lo_in hL t_x (by decide)) e7 rfl 0 (by decide) (wd_126 hB _) rfl (by decide +kernel) rfl rfl (Nat.le_of_ble_eq_true rfl) rfl d_NInterval_set_15 (fun f10 H locs e11 k12 hP hD hS => ?_)
    have hu := hu.st k12 t_x (by decide)
    have hk13 : ∀ b, b ≠ x → f10 b = f b := k12
    refine lv_aload_n hx hb d_NInterval_set_18 rfl (lv_at hl 0 rfl) ?_
    refine lv_lload_n hx hb d_NInterval_set_19 rfl (lv_at hl 2 rfl) ?_
    have hI14 := iv_1 hI hL t_x (by decide) hk13 (oc_3.mk t_x (⟨u, hi_9, e11⟩))
    refine pcc_i (va_runS (As := [.long v]) (rest := [.ref x]) ⟨hx, hb, hml, hown, tb_nil⟩ (c_isUnb l g H.size f10 v hL hI14.1) ⟨(callB_of 1 (tb_one (wd_443 hB _)) tb_good1 rfl rfl rfl (wd_75 hB _) (wd_441 hB _) (by decide +kernel) ⟨Nat.le_of_ble_eq_true rfl, Nat.le_of_ble_eq_true rfl⟩), (wd_442 hB _)⟩ ⟨pe_bl, pe_pre hB hK hP hD⟩ rfl rfl hl.1 rfl (lv_room (Nat.le_of_ble_eq_true rfl)) d_NInterval_set_20 ⟨Nat.le_of_ble_eq_true rfl, Nat.le_of_ble_eq_true rfl⟩) hS (fun r15 f16 H locs hq17 hP hD hS => ?_)
    obtain ⟨bo_18, rfl⟩ := hq17
    refine lv_if_eq (tgt := 32) hx hb d_NInterval_set_23 (by decide) (fun b19 => ?_) (fun b19 => ?_)
    · skip
      have hr20 : r15 = nI 0 := b19
      refine lv_lload_n hx hb d_NInterval_set_32 rfl (lv_at hl 2 rfl) ?_
      refine pf_put (v := .long v) (ty := .long) (fs' := [.long u, .long v]) (C := "BigRunner$Interval") (T := FT2) (N := 2) hx hb (hw2 hB _) (fun _ h9 => h9) TY2 ok2 nm2 hown hK hP hD hS (lo_in hL t_x (by decide)) e11 rfl 1 (by decide) (wd_129 hB _) rfl (by decide +kernel) rfl rfl (Nat.le_of_ble_eq_true rfl) rfl d_NInterval_set_33 (fun f21 H locs e22 k23 hP hD hS => ?_)
      have hu := hu.st k23 t_x (by decide)
      have hk24 : ∀ b, b ≠ x → f21 b = f10 b := k23
      have hI25 := iv_1 hI14 hL t_x (by decide) hk24 (oc_3.mk t_x (⟨u, v, e22⟩))
      exact pe_vret hx hb hr hlocks hK hP hD hS d_NInterval_set_36 ⟨hI25, hu⟩
    · skip
      have hr26 : r15 = nI 1 := (bl_1 bo_18 b19)
      refine lv_ldc2 (v := 9223372036854775807) hx hb hown (wd_600 hB _) d_NInterval_set_26 ?_
      refine lv_topl (fun z_ hz_ => ?_)
      obtain rfl : z_ = nL 9223372036854775807 := hz_
      refine lv_goto (tgt := 33) hx hb d_NInterval_set_29 (by decide) ?_
      refine pf_put (v := .long (nL 9223372036854775807)) (ty := .long) (fs' := [.long u, .long (nL 9223372036854775807)]) (C := "BigRunner$Interval") (T := FT2) (N := 2) hx hb (hw2 hB _) (fun _ h9 => h9) TY2 ok2 nm2 hown hK hP hD hS (lo_in hL t_x (by decide)) e11 rfl 1 (by decide) (wd_129 hB _) rfl (by decide +kernel) rfl rfl (Nat.le_of_ble_eq_true rfl) rfl d_NInterval_set_33 (fun f27 H locs e28 k29 hP hD hS => ?_)
      have hu := hu.st k29 t_x (by decide)
      have hk30 : ∀ b, b ≠ x → f27 b = f10 b := k29
      have hI31 := iv_1 hI14 hL t_x (by decide) hk30 (oc_3.mk t_x (⟨u, ((nL 9223372036854775807)), e28⟩))
      exact pe_vret hx hb hr hlocks hK hP hD hS d_NInterval_set_36 ⟨hI31, hu⟩
  · skip
    have hr32 : r1 = nI 1 := (bl_1 bo_4 b5)
    refine lv_ldc2 (v := (-9223372036854775808)) hx hb hown (wd_599 hB _) d_NInterval_set_8 ?_
    refine lv_goto (tgt := 15) hx hb d_NInterval_set_11 (by decide) ?_
    obtain ⟨lo_34, hi_35, e33⟩ := oc_3.of t_x (hI.1 x)
    refine pf_put (v := .long (-9223372036854775808)) (ty := .long) (fs' := [.long (-9223372036854775808), .long hi_35]) (C := "BigRunner$Interval") (T := FT2) (N := 2) hx hb (hw2 hB _) (fun _ h9 => h9) TY2 ok2 nm2 hown hK hP hD hS (lo_in hL t_x (by decide)) e33 rfl 0 (by decide) (wd_126 hB _) rfl (by decide +kernel) rfl rfl (Nat.le_of_ble_eq_true rfl) rfl d_NInterval_set_15 (fun f36 H locs e37 k38 hP hD hS => ?_)
    have hu := hu.st k38 t_x (by decide)
    have hk39 : ∀ b, b ≠ x → f36 b = f b := k38
    refine lv_aload_n hx hb d_NInterval_set_18 rfl (lv_at hl 0 rfl) ?_
    refine lv_lload_n hx hb d_NInterval_set_19 rfl (lv_at hl 2 rfl) ?_
    have hI40 := iv_1 hI hL t_x (by decide) hk39 (oc_3.mk t_x (⟨((-9223372036854775808)), hi_35, e37⟩))
    refine pcc_i (va_runS (As := [.long v]) (rest := [.ref x]) ⟨hx, hb, hml, hown, tb_nil⟩ (c_isUnb l g H.size f36 v hL hI40.1) ⟨(callB_of 1 (tb_one (wd_443 hB _)) tb_good1 rfl rfl rfl (wd_75 hB _) (wd_441 hB _) (by decide +kernel) ⟨Nat.le_of_ble_eq_true rfl, Nat.le_of_ble_eq_true rfl⟩), (wd_442 hB _)⟩ ⟨pe_bl, pe_pre hB hK hP hD⟩ rfl rfl hl.1 rfl (lv_room (Nat.le_of_ble_eq_true rfl)) d_NInterval_set_20 ⟨Nat.le_of_ble_eq_true rfl, Nat.le_of_ble_eq_true rfl⟩) hS (fun r41 f42 H locs hq43 hP hD hS => ?_)
    obtain ⟨bo_44, rfl⟩ := hq43
    refine lv_if_eq (tgt := 32) hx hb d_NInterval_set_23 (by decide) (fun b45 => ?_) (fun b45 => ?_)
    · skip
      have hr46 : r41 = nI 0 := b45
      refine lv_lload_n hx hb d_NInterval_set_32 rfl (lv_at hl 2 rfl) ?_
      refine pf_put (v := .long v) (ty := .long) (fs' := [.long (-9223372036854775808), .long v]) (C := "BigRunner$Interval") (T := FT2) (N := 2) hx hb (hw2 hB _) (fun _ h9 => h9) TY2 ok2 nm2 hown hK hP hD hS (lo_in hL t_x (by decide)) e37 rfl 1 (by decide) (wd_129 hB _) rfl (by decide +kernel) rfl rfl (Nat.le_of_ble_eq_true rfl) rfl d_NInterval_set_33 (fun f47 H locs e48 k49 hP hD hS => ?_)
      have hu := hu.st k49 t_x (by decide)
      have hk50 : ∀ b, b ≠ x → f47 b = f36 b := k49
      have hI51 := iv_1 hI40 hL t_x (by decide) hk50 (oc_3.mk t_x (⟨((-9223372036854775808)), v, e48⟩))
      exact pe_vret hx hb hr hlocks hK hP hD hS d_NInterval_set_36 ⟨hI51, hu⟩
    · skip
      have hr52 : r41 = nI 1 := (bl_1 bo_44 b45)
      refine lv_ldc2 (v := 9223372036854775807) hx hb hown (wd_600 hB _) d_NInterval_set_26 ?_
      refine lv_topl (fun z_ hz_ => ?_)
      obtain rfl : z_ = nL 9223372036854775807 := hz_
      refine lv_goto (tgt := 33) hx hb d_NInterval_set_29 (by decide) ?_
      refine pf_put (v := .long (nL 9223372036854775807)) (ty := .long) (fs' := [.long (-9223372036854775808), .long (nL 9223372036854775807)]) (C := "BigRunner$Interval") (T := FT2) (N := 2) hx hb (hw2 hB _) (fun _ h9 => h9) TY2 ok2 nm2 hown hK hP hD hS (lo_in hL t_x (by decide)) e37 rfl 1 (by decide) (wd_129 hB _) rfl (by decide +kernel) rfl rfl (Nat.le_of_ble_eq_true rfl) rfl d_NInterval_set_33 (fun f53 H locs e54 k55 hP hD hS => ?_)
      have hu := hu.st k55 t_x (by decide)
      have hk56 : ∀ b, b ≠ x → f53 b = f36 b := k55
      have hI57 := iv_1 hI40 hL t_x (by decide) hk56 (oc_3.mk t_x (⟨((-9223372036854775808)), ((nL 9223372036854775807)), e54⟩))
      exact pe_vret hx hb hr hlocks hK hP hD hS d_NInterval_set_36 ⟨hI57, hu⟩
set_option maxHeartbeats 4000000 in
set_option maxRecDepth 100000 in
theorem c_join (l : Launch) (g : Lay) (sz : Nat) (f : Nat → va_E) (x : Nat) (y : Nat) (wd : Int32) (hL : LO g) (t_x : g.tg x = 3) (t_y : g.tg y = 3) (hI : IV g f) : Met l ⟨"BigRunner$Interval", "join", "(LBigRunner$Interval;Z)Z"⟩ [Cond.code ⟨"BigRunner$Interval", "join", "(LBigRunner$Interval;Z)Z"⟩ prog_3_method_5_code 4 (some .boolean)] ({ frames := 0, cells := 0, slots := 0, locals := 0 }) (va_Pc [.ref x, .ref y, .int wd] (pc_in g sz f)) (va_Qi (fun r f1 => (r = nI 0 ∨ r = nI 1) ∧ (IV g f1) ∧ (un [3] g f f1)) (pc_out g sz) (pc_A g sz)) 0 0 (pc_A g sz) := by
  refine pe_ofW (cc := prog_3_method_5_code) (maxL := 4) (ret := (some .boolean)) (lv := [(0, .ref x), (1, .ref y), (2, .int wd)]) (by decide) (Nat.le_of_ble_eq_true rfl) rfl ?_
  intro p e s m args below meth c ls hx hb hr hml hlocks hown hB hP hK hD hsz hS hl
  subst hsz
  have hu : un [3] g f f := un.rf
  refine lv_iconst (v := nI 0) hx hb d_NInterval_join_0 (by decide) ?_
  refine lv_istore_n (lv' := [(3, .int (nI 0)), (0, .ref x), (1, .ref y), (2, .int wd)]) hx hb d_NInterval_join_1 rfl hl (by decide) rfl (fun ls hl => ?_)
  refine lv_aload_n hx hb d_NInterval_join_2 rfl (lv_at hl 2 rfl) ?_
  obtain ⟨lo_2, hi_3, e1⟩ := oc_3.of t_y (hI.1 y)
  refine pf_get (v := .long lo_2) (C := "BigRunner$Interval") (T := FT2) (N := 2) hx hb (hw2 hB _) (fun _ h9 => h9) hown hK hP (lo_in hL t_y (by decide)) e1 rfl 0 (by decide) (wd_126 hB _) rfl d_NInterval_join_3 ?_
  refine lv_aload_n hx hb d_NInterval_join_6 rfl (lv_at hl 1 rfl) ?_
  obtain ⟨lo_5, hi_6, e4⟩ := oc_3.of t_x (hI.1 x)
  refine pf_get (v := .long lo_5) (C := "BigRunner$Interval") (T := FT2) (N := 2) hx hb (hw2 hB _) (fun _ h9 => h9) hown hK hP (lo_in hL t_x (by decide)) e4 rfl 0 (by decide) (wd_126 hB _) rfl d_NInterval_join_7 ?_
  refine W.lcmp hx hb d_NInterval_join_10 ?_
  refine lv_if_ge (tgt := 34) hx hb d_NInterval_join_11 (by decide) (fun b7 => ?_) (fun b7 => ?_)
  · skip
    replace b7 := pl_ge.mp b7
    refine lv_aload_n hx hb d_NInterval_join_34 rfl (lv_at hl 2 rfl) ?_
    refine pf_get (v := .long hi_3) (C := "BigRunner$Interval") (T := FT2) (N := 2) hx hb (hw2 hB _) (fun _ h9 => h9) hown hK hP (lo_in hL t_y (by decide)) e1 rfl 1 (by decide) (wd_129 hB _) rfl d_NInterval_join_35 ?_
    refine lv_aload_n hx hb d_NInterval_join_38 rfl (lv_at hl 1 rfl) ?_
    refine pf_get (v := .long hi_6) (C := "BigRunner$Interval") (T := FT2) (N := 2) hx hb (hw2 hB _) (fun _ h9 => h9) hown hK hP (lo_in hL t_x (by decide)) e4 rfl 1 (by decide) (wd_129 hB _) rfl d_NInterval_join_39 ?_
    refine W.lcmp hx hb d_NInterval_join_42 ?_
    refine lv_if_le (tgt := 66) hx hb d_NInterval_join_43 (by decide) (fun b8 => ?_) (fun b8 => ?_)
    · skip
      replace b8 := pl_le.mp b8
      refine lv_iload_n hx hb d_NInterval_join_66 rfl (lv_at hl 0 rfl) ?_
      exact pe_zret hx hb hr hlocks hK hP hD hS d_NInterval_join_67 rfl ⟨(Or.inl rfl), hI, hu⟩
    · skip
      replace b8 := mt pl_le.mpr b8
      refine lv_aload_n hx hb d_NInterval_join_46 rfl (lv_at hl 1 rfl) ?_
      refine lv_iload_n hx hb d_NInterval_join_47 rfl (lv_at hl 3 rfl) ?_
      refine lv_if_eq (tgt := 57) hx hb d_NInterval_join_48 (by decide) (fun b9 => ?_) (fun b9 => ?_)
      · skip
        refine lv_aload_n hx hb d_NInterval_join_57 rfl (lv_at hl 2 rfl) ?_
        refine pf_get (v := .long hi_3) (C := "BigRunner$Interval") (T := FT2) (N := 2) hx hb (hw2 hB _) (fun _ h9 => h9) hown hK hP (lo_in hL t_y (by decide)) e1 rfl 1 (by decide) (wd_129 hB _) rfl d_NInterval_join_58 ?_
        refine pf_put (v := .long hi_3) (ty := .long) (fs' := [.long lo_5, .long hi_3]) (C := "BigRunner$Interval") (T := FT2) (N := 2) hx hb (hw2 hB _) (fun _ h9 => h9) TY2 ok2 nm2 hown hK hP hD hS (lo_in hL t_x (by decide)) e4 rfl 1 (by decide) (wd_129 hB _) rfl (by decide +kernel) rfl rfl (Nat.le_of_ble_eq_true rfl) rfl d_NInterval_join_61 (fun f10 H locs e11 k12 hP hD hS => ?_)
        have hu := hu.st k12 t_x (by decide)
        have hk13 : ∀ b, b ≠ x → f10 b = f b := k12
        refine lv_iconst (v := nI 1) hx hb d_NInterval_join_64 (by decide) ?_
        refine lv_istore_n (lv' := [(3, .int (nI 1)), (0, .ref x), (1, .ref y), (2, .int wd)]) hx hb d_NInterval_join_65 rfl hl (by decide) rfl (fun ls hl => ?_)
        refine lv_iload_n hx hb d_NInterval_join_66 rfl (lv_at hl 0 rfl) ?_
        have hI14 := iv_1 hI hL t_x (by decide) hk13 (oc_3.mk t_x (⟨lo_5, hi_3, e11⟩))
        exact pe_zret hx hb hr hlocks hK hP hD hS d_NInterval_join_67 rfl ⟨(Or.inr rfl), hI14, hu⟩
      · skip
        refine lv_ldc2 (v := 9223372036854775807) hx hb hown (wd_600 hB _) d_NInterval_join_51 ?_
        refine lv_topl (fun z_ hz_ => ?_)
        obtain rfl : z_ = nL 9223372036854775807 := hz_
        refine lv_goto (tgt := 61) hx hb d_NInterval_join_54 (by decide) ?_
        refine pf_put (v := .long (nL 9223372036854775807)) (ty := .long) (fs' := [.long lo_5, .long (nL 9223372036854775807)]) (C := "BigRunner$Interval") (T := FT2) (N := 2) hx hb (hw2 hB _) (fun _ h9 => h9) TY2 ok2 nm2 hown hK hP hD hS (lo_in hL t_x (by decide)) e4 rfl 1 (by decide) (wd_129 hB _) rfl (by decide +kernel) rfl rfl (Nat.le_of_ble_eq_true rfl) rfl d_NInterval_join_61 (fun f15 H locs e16 k17 hP hD hS => ?_)
        have hu := hu.st k17 t_x (by decide)
        have hk18 : ∀ b, b ≠ x → f15 b = f b := k17
        refine lv_iconst (v := nI 1) hx hb d_NInterval_join_64 (by decide) ?_
        refine lv_istore_n (lv' := [(3, .int (nI 1)), (0, .ref x), (1, .ref y), (2, .int wd)]) hx hb d_NInterval_join_65 rfl hl (by decide) rfl (fun ls hl => ?_)
        refine lv_iload_n hx hb d_NInterval_join_66 rfl (lv_at hl 0 rfl) ?_
        have hI19 := iv_1 hI hL t_x (by decide) hk18 (oc_3.mk t_x (⟨lo_5, ((nL 9223372036854775807)), e16⟩))
        exact pe_zret hx hb hr hlocks hK hP hD hS d_NInterval_join_67 rfl ⟨(Or.inr rfl), hI19, hu⟩
  · skip
    replace b7 := mt pl_ge.mpr b7
    refine lv_aload_n hx hb d_NInterval_join_14 rfl (lv_at hl 1 rfl) ?_
    refine lv_iload_n hx hb d_NInterval_join_15 rfl (lv_at hl 3 rfl) ?_
    refine lv_if_eq (tgt := 25) hx hb d_NInterval_join_16 (by decide) (fun b20 => ?_) (fun b20 => ?_)
    · skip
      refine lv_aload_n hx hb d_NInterval_join_25 rfl (lv_at hl 2 rfl) ?_
      refine pf_get (v := .long lo_2) (C := "BigRunner$Interval") (T := FT2) (N := 2) hx hb (hw2 hB _) (fun _ h9 => h9) hown hK hP (lo_in hL t_y (by decide)) e1 rfl 0 (by decide) (wd_126 hB _) rfl d_NInterval_join_26 ?_
      refine pf_put (v := .long lo_2) (ty := .long) (fs' := [.long lo_2, .long hi_6]) (C := "BigRunner$Interval") (T := FT2) (N := 2) hx hb (hw2 hB _) (fun _ h9 => h9) TY2 ok2 nm2 hown hK hP hD hS (lo_in hL t_x (by decide)) e4 rfl 0 (by decide) (wd_126 hB _) rfl (by decide +kernel) rfl rfl (Nat.le_of_ble_eq_true rfl) rfl d_NInterval_join_29 (fun f21 H locs e22 k23 hP hD hS => ?_)
      have hu := hu.st k23 t_x (by decide)
      have hk24 : ∀ b, b ≠ x → f21 b = f b := k23
      refine lv_iconst (v := nI 1) hx hb d_NInterval_join_32 (by decide) ?_
      refine lv_istore_n (lv' := [(3, .int (nI 1)), (0, .ref x), (1, .ref y), (2, .int wd)]) hx hb d_NInterval_join_33 rfl hl (by decide) rfl (fun ls hl => ?_)
      refine lv_aload_n hx hb d_NInterval_join_34 rfl (lv_at hl 2 rfl) ?_
      have hI25 := iv_1 hI hL t_x (by decide) hk24 (oc_3.mk t_x (⟨lo_2, hi_6, e22⟩))
      obtain ⟨lo_27, hi_28, e26⟩ := oc_3.of t_y (hI25.1 y)
      refine pf_get (v := .long hi_28) (C := "BigRunner$Interval") (T := FT2) (N := 2) hx hb (hw2 hB _) (fun _ h9 => h9) hown hK hP (lo_in hL t_y (by decide)) e26 rfl 1 (by decide) (wd_129 hB _) rfl d_NInterval_join_35 ?_
      refine lv_aload_n hx hb d_NInterval_join_38 rfl (lv_at hl 1 rfl) ?_
      refine pf_get (v := .long hi_6) (C := "BigRunner$Interval") (T := FT2) (N := 2) hx hb (hw2 hB _) (fun _ h9 => h9) hown hK hP (lo_in hL t_x (by decide)) e22 rfl 1 (by decide) (wd_129 hB _) rfl d_NInterval_join_39 ?_
      refine W.lcmp hx hb d_NInterval_join_42 ?_
      refine lv_if_le (tgt := 66) hx hb d_NInterval_join_43 (by decide) (fun b29 => ?_) (fun b29 => ?_)
      · skip
        replace b29 := pl_le.mp b29
        refine lv_iload_n hx hb d_NInterval_join_66 rfl (lv_at hl 0 rfl) ?_
        exact pe_zret hx hb hr hlocks hK hP hD hS d_NInterval_join_67 rfl ⟨(Or.inr rfl), hI25, hu⟩
      · skip
        replace b29 := mt pl_le.mpr b29
        refine lv_aload_n hx hb d_NInterval_join_46 rfl (lv_at hl 1 rfl) ?_
        refine lv_iload_n hx hb d_NInterval_join_47 rfl (lv_at hl 3 rfl) ?_
        refine lv_if_eq (tgt := 57) hx hb d_NInterval_join_48 (by decide) (fun b30 => ?_) (fun b30 => ?_)
        · skip
          refine lv_aload_n hx hb d_NInterval_join_57 rfl (lv_at hl 2 rfl) ?_
          refine pf_get (v := .long hi_28) (C := "BigRunner$Interval") (T := FT2) (N := 2) hx hb (hw2 hB _) (fun _ h9 => h9) hown hK hP (lo_in hL t_y (by decide)) e26 rfl 1 (by decide) (wd_129 hB _) rfl d_NInterval_join_58 ?_
          refine pf_put (v := .long hi_28) (ty := .long) (fs' := [.long lo_2, .long hi_28]) (C := "BigRunner$Interval") (T := FT2) (N := 2) hx hb (hw2 hB _) (fun _ h9 => h9) TY2 ok2 nm2 hown hK hP hD hS (lo_in hL t_x (by decide)) e22 rfl 1 (by decide) (wd_129 hB _) rfl (by decide +kernel) rfl rfl (Nat.le_of_ble_eq_true rfl) rfl d_NInterval_join_61 (fun f31 H locs e32 k33 hP hD hS => ?_)
          have hu := hu.st k33 t_x (by decide)
          have hk34 : ∀ b, b ≠ x → f31 b = f21 b := k33
          refine lv_iconst (v := nI 1) hx hb d_NInterval_join_64 (by decide) ?_
          refine lv_istore_n (lv' := [(3, .int (nI 1)), (0, .ref x), (1, .ref y), (2, .int wd)]) hx hb d_NInterval_join_65 rfl hl (by decide) rfl (fun ls hl => ?_)
          refine lv_iload_n hx hb d_NInterval_join_66 rfl (lv_at hl 0 rfl) ?_
          have hI35 := iv_1 hI25 hL t_x (by decide) hk34 (oc_3.mk t_x (⟨lo_2, hi_28, e32⟩))
          exact pe_zret hx hb hr hlocks hK hP hD hS d_NInterval_join_67 rfl ⟨(Or.inr rfl), hI35, hu⟩
        · skip
          refine lv_ldc2 (v := 9223372036854775807) hx hb hown (wd_600 hB _) d_NInterval_join_51 ?_
          refine lv_topl (fun z_ hz_ => ?_)
          obtain rfl : z_ = nL 9223372036854775807 := hz_
          refine lv_goto (tgt := 61) hx hb d_NInterval_join_54 (by decide) ?_
          refine pf_put (v := .long (nL 9223372036854775807)) (ty := .long) (fs' := [.long lo_2, .long (nL 9223372036854775807)]) (C := "BigRunner$Interval") (T := FT2) (N := 2) hx hb (hw2 hB _) (fun _ h9 => h9) TY2 ok2 nm2 hown hK hP hD hS (lo_in hL t_x (by decide)) e22 rfl 1 (by decide) (wd_129 hB _) rfl (by decide +kernel) rfl rfl (Nat.le_of_ble_eq_true rfl) rfl d_NInterval_join_61 (fun f36 H locs e37 k38 hP hD hS => ?_)
          have hu := hu.st k38 t_x (by decide)
          have hk39 : ∀ b, b ≠ x → f36 b = f21 b := k38
          refine lv_iconst (v := nI 1) hx hb d_NInterval_join_64 (by decide) ?_
          refine lv_istore_n (lv' := [(3, .int (nI 1)), (0, .ref x), (1, .ref y), (2, .int wd)]) hx hb d_NInterval_join_65 rfl hl (by decide) rfl (fun ls hl => ?_)
          refine lv_iload_n hx hb d_NInterval_join_66 rfl (lv_at hl 0 rfl) ?_
          have hI40 := iv_1 hI25 hL t_x (by decide) hk39 (oc_3.mk t_x (⟨lo_2, ((nL 9223372036854775807)), e37⟩))
          exact pe_zret hx hb hr hlocks hK hP hD hS d_NInterval_join_67 rfl ⟨(Or.inr rfl), hI40, hu⟩
    · skip
      refine lv_ldc2 (v := (-9223372036854775808)) hx hb hown (wd_599 hB _) d_NInterval_join_19 ?_
      refine lv_goto (tgt := 29) hx hb d_NInterval_join_22 (by decide) ?_
      refine pf_put (v := .long (-9223372036854775808)) (ty := .long) (fs' := [.long (-9223372036854775808), .long hi_6]) (C := "BigRunner$Interval") (T := FT2) (N := 2) hx hb (hw2 hB _) (fun _ h9 => h9) TY2 ok2 nm2 hown hK hP hD hS (lo_in hL t_x (by decide)) e4 rfl 0 (by decide) (wd_126 hB _) rfl (by decide +kernel) rfl rfl (Nat.le_of_ble_eq_true rfl) rfl d_NInterval_join_29 (fun f41 H locs e42 k43 hP hD hS => ?_)
      have hu := hu.st k43 t_x (by decide)
      have hk44 : ∀ b, b ≠ x → f41 b = f b := k43
      refine lv_iconst (v := nI 1) hx hb d_NInterval_join_32 (by decide) ?_
      refine lv_istore_n (lv' := [(3, .int (nI 1)), (0, .ref x), (1, .ref y), (2, .int wd)]) hx hb d_NInterval_join_33 rfl hl (by decide) rfl (fun ls hl => ?_)
      refine lv_aload_n hx hb d_NInterval_join_34 rfl (lv_at hl 2 rfl) ?_
      have hI45 := iv_1 hI hL t_x (by decide) hk44 (oc_3.mk t_x (⟨((-9223372036854775808)), hi_6, e42⟩))
      obtain ⟨lo_47, hi_48, e46⟩ := oc_3.of t_y (hI45.1 y)
      refine pf_get (v := .long hi_48) (C := "BigRunner$Interval") (T := FT2) (N := 2) hx hb (hw2 hB _) (fun _ h9 => h9) hown hK hP (lo_in hL t_y (by decide)) e46 rfl 1 (by decide) (wd_129 hB _) rfl d_NInterval_join_35 ?_
      refine lv_aload_n hx hb d_NInterval_join_38 rfl (lv_at hl 1 rfl) ?_
      refine pf_get (v := .long hi_6) (C := "BigRunner$Interval") (T := FT2) (N := 2) hx hb (hw2 hB _) (fun _ h9 => h9) hown hK hP (lo_in hL t_x (by decide)) e42 rfl 1 (by decide) (wd_129 hB _) rfl d_NInterval_join_39 ?_
      refine W.lcmp hx hb d_NInterval_join_42 ?_
      refine lv_if_le (tgt := 66) hx hb d_NInterval_join_43 (by decide) (fun b49 => ?_) (fun b49 => ?_)
      · skip
        replace b49 := pl_le.mp b49
        refine lv_iload_n hx hb d_NInterval_join_66 rfl (lv_at hl 0 rfl) ?_
        exact pe_zret hx hb hr hlocks hK hP hD hS d_NInterval_join_67 rfl ⟨(Or.inr rfl), hI45, hu⟩
      · skip
        replace b49 := mt pl_le.mpr b49
        refine lv_aload_n hx hb d_NInterval_join_46 rfl (lv_at hl 1 rfl) ?_
        refine lv_iload_n hx hb d_NInterval_join_47 rfl (lv_at hl 3 rfl) ?_
        refine lv_if_eq (tgt := 57) hx hb d_NInterval_join_48 (by decide) (fun b50 => ?_) (fun b50 => ?_)
        · skip
          refine lv_aload_n hx hb d_NInterval_join_57 rfl (lv_at hl 2 rfl) ?_
          refine pf_get (v := .long hi_48) (C := "BigRunner$Interval") (T := FT2) (N := 2) hx hb (hw2 hB _) (fun _ h9 => h9) hown hK hP (lo_in hL t_y (by decide)) e46 rfl 1 (by decide) (wd_129 hB _) rfl d_NInterval_join_58 ?_
          refine pf_put (v := .long hi_48) (ty := .long) (fs' := [.long (-9223372036854775808), .long hi_48]) (C := "BigRunner$Interval") (T := FT2) (N := 2) hx hb (hw2 hB _) (fun _ h9 => h9) TY2 ok2 nm2 hown hK hP hD hS (lo_in hL t_x (by decide)) e42 rfl 1 (by decide) (wd_129 hB _) rfl (by decide +kernel) rfl rfl (Nat.le_of_ble_eq_true rfl) rfl d_NInterval_join_61 (fun f51 H locs e52 k53 hP hD hS => ?_)
          have hu := hu.st k53 t_x (by decide)
          have hk54 : ∀ b, b ≠ x → f51 b = f41 b := k53
          refine lv_iconst (v := nI 1) hx hb d_NInterval_join_64 (by decide) ?_
          refine lv_istore_n (lv' := [(3, .int (nI 1)), (0, .ref x), (1, .ref y), (2, .int wd)]) hx hb d_NInterval_join_65 rfl hl (by decide) rfl (fun ls hl => ?_)
          refine lv_iload_n hx hb d_NInterval_join_66 rfl (lv_at hl 0 rfl) ?_
          have hI55 := iv_1 hI45 hL t_x (by decide) hk54 (oc_3.mk t_x (⟨((-9223372036854775808)), hi_48, e52⟩))
          exact pe_zret hx hb hr hlocks hK hP hD hS d_NInterval_join_67 rfl ⟨(Or.inr rfl), hI55, hu⟩
        · skip
          refine lv_ldc2 (v := 9223372036854775807) hx hb hown (wd_600 hB _) d_NInterval_join_51 ?_
          refine lv_topl (fun z_ hz_ => ?_)
          obtain rfl : z_ = nL 9223372036854775807 := hz_
          refine lv_goto (tgt := 61) hx hb d_NInterval_join_54 (by decide) ?_
          refine pf_put (v := .long (nL 9223372036854775807)) (ty := .long) (fs' := [.long (-9223372036854775808), .long (nL 9223372036854775807)]) (C := "BigRunner$Interval") (T := FT2) (N := 2) hx hb (hw2 hB _) (fun _ h9 => h9) TY2 ok2 nm2 hown hK hP hD hS (lo_in hL t_x (by decide)) e42 rfl 1 (by decide) (wd_129 hB _) rfl (by decide +kernel) rfl rfl (Nat.le_of_ble_eq_true rfl) rfl d_NInterval_join_61 (fun f56 H locs e57 k58 hP hD hS => ?_)
          have hu := hu.st k58 t_x (by decide)
          have hk59 : ∀ b, b ≠ x → f56 b = f41 b := k58
          refine lv_iconst (v := nI 1) hx hb d_NInterval_join_64 (by decide) ?_
          refine lv_istore_n (lv' := [(3, .int (nI 1)), (0, .ref x), (1, .ref y), (2, .int wd)]) hx hb d_NInterval_join_65 rfl hl (by decide) rfl (fun ls hl => ?_)
          refine lv_iload_n hx hb d_NInterval_join_66 rfl (lv_at hl 0 rfl) ?_
          have hI60 := iv_1 hI45 hL t_x (by decide) hk59 (oc_3.mk t_x (⟨((-9223372036854775808)), ((nL 9223372036854775807)), e57⟩))
          exact pe_zret hx hb hr hlocks hK hP hD hS d_NInterval_join_67 rfl ⟨(Or.inr rfl), hI60, hu⟩
set_option maxHeartbeats 4000000 in
set_option maxRecDepth 100000 in
theorem c_isZero (l : Launch) (g : Lay) (sz : Nat) (f : Nat → va_E) (x : Nat) (hL : LO g) (t_x : g.tg x = 3) (hI : OC g f) : Met l ⟨"BigRunner$Interval", "isZero", "()Z"⟩ [Cond.code ⟨"BigRunner$Interval", "isZero", "()Z"⟩ prog_3_method_12_code 1 (some .boolean)] ({ frames := 0, cells := 0, slots := 0, locals := 0 }) (va_Pc [.ref x] (pc_in g sz f)) (va_Qi (fun r f1 => (r = nI 0 ∨ r = nI 1) ∧ (f = f1)) (pc_out g sz) (pc_A g sz)) 0 0 (pc_A g sz) := by
  refine pe_ofW (cc := prog_3_method_12_code) (maxL := 1) (ret := (some .boolean)) (lv := [(0, .ref x)]) (by decide) (Nat.le_of_ble_eq_true rfl) rfl ?_
  intro p e s m args below meth c ls hx hb hr hml hlocks hown hB hP hK hD hsz hS hl
  subst hsz
  refine lv_aload_n hx hb d_NInterval_isZero_0 rfl (lv_at hl 0 rfl) ?_
  obtain ⟨lo_2, hi_3, e1⟩ := oc_3.of t_x (hI x)
  refine pf_get (v := .long lo_2) (C := "BigRunner$Interval") (T := FT2) (N := 2) hx hb (hw2 hB _) (fun _ h9 => h9) hown hK hP (lo_in hL t_x (by decide)) e1 rfl 0 (by decide) (wd_126 hB _) rfl d_NInterval_isZero_1 ?_
  refine lv_lconst (v := nL 0) hx hb d_NInterval_isZero_4 (by decide) ?_
  refine W.lcmp hx hb d_NInterval_isZero_5 ?_
  refine lv_if_ne (tgt := 22) hx hb d_NInterval_isZero_6 (by decide) (fun b4 => ?_) (fun b4 => ?_)
  · skip
    replace b4 := mt pl_eq.mpr b4
    refine lv_iconst (v := nI 0) hx hb d_NInterval_isZero_22 (by decide) ?_
    exact pe_zret hx hb hr hlocks hK hP hD hS d_NInterval_isZero_23 rfl ⟨(Or.inl rfl), rfl⟩
  · skip
    replace b4 := pl_eq.mp b4
    refine lv_aload_n hx hb d_NInterval_isZero_9 rfl (lv_at hl 0 rfl) ?_
    refine pf_get (v := .long hi_3) (C := "BigRunner$Interval") (T := FT2) (N := 2) hx hb (hw2 hB _) (fun _ h9 => h9) hown hK hP (lo_in hL t_x (by decide)) e1 rfl 1 (by decide) (wd_129 hB _) rfl d_NInterval_isZero_10 ?_
    refine lv_lconst (v := nL 0) hx hb d_NInterval_isZero_13 (by decide) ?_
    refine W.lcmp hx hb d_NInterval_isZero_14 ?_
    refine lv_if_ne (tgt := 22) hx hb d_NInterval_isZero_15 (by decide) (fun b5 => ?_) (fun b5 => ?_)
    · skip
      replace b5 := mt pl_eq.mpr b5
      refine lv_iconst (v := nI 0) hx hb d_NInterval_isZero_22 (by decide) ?_
      exact pe_zret hx hb hr hlocks hK hP hD hS d_NInterval_isZero_23 rfl ⟨(Or.inl rfl), rfl⟩
    · skip
      replace b5 := pl_eq.mp b5
      refine lv_iconst (v := nI 1) hx hb d_NInterval_isZero_18 (by decide) ?_
      refine lv_goto (tgt := 23) hx hb d_NInterval_isZero_19 (by decide) ?_
      exact pe_zret hx hb hr hlocks hK hP hD hS d_NInterval_isZero_23 rfl ⟨(Or.inr rfl), rfl⟩
set_option maxHeartbeats 4000000 in
set_option maxRecDepth 100000 in
theorem c_farthest (l : Launch) (g : Lay) (sz : Nat) (f : Nat → va_E) (x : Nat) (hL : LO g) (t_x : g.tg x = 3) (hI : OC g f) : Met l ⟨"BigRunner$Interval", "farthest", "()J"⟩ [Cond.code ⟨"BigRunner$Interval", "farthest", "()J"⟩ prog_3_method_13_code 1 (some .long)] ({ frames := 2, cells := 0, slots := 0, locals := 41 }) (va_Pc [.ref x] (pc_in g sz f)) (va_Ql (fun r f1 => (f = f1)) (pc_out g sz) (pc_A g sz)) 0 0 (pc_A g sz) := by
  refine pe_ofW (cc := prog_3_method_13_code) (maxL := 1) (ret := (some .long)) (lv := [(0, .ref x)]) (by decide) (Nat.le_of_ble_eq_true rfl) rfl ?_
  intro p e s m args below meth c ls hx hb hr hml hlocks hown hB hP hK hD hsz hS hl
  subst hsz
  refine lv_aload_n hx hb d_NInterval_farthest_0 rfl (lv_at hl 0 rfl) ?_
  obtain ⟨lo_2, hi_3, e1⟩ := oc_3.of t_x (hI x)
  refine pcc_i (va_runV (C := "BigRunner$Interval") (As := []) (rest := []) ⟨hx, hb, hml, hown, tb_nil⟩ (c_isBounded l g s.heap.size f x hL t_x hI) ⟨(callB_of 0 (tb_one (wd_440 hB _)) tb_good1 rfl rfl rfl (wd_75 hB _) (wd_642 hB _) (by decide +kernel) ⟨Nat.le_of_ble_eq_true rfl, Nat.le_of_ble_eq_true rfl⟩), (wd_438 hB _), (wd_439 hB _)⟩ ⟨pe_bl, pg_recv (ci := 2) hK hP (lo_in hL t_x (by decide)) e1 rfl, pe_pre hB hK hP hD⟩ rfl rfl hl.1 rfl (lv_room (Nat.le_of_ble_eq_true rfl)) d_NInterval_farthest_1 ⟨Nat.le_of_ble_eq_true rfl, Nat.le_of_ble_eq_true rfl⟩) hS (fun r4 f5 H locs hq6 hP hD hS => ?_)
  obtain ⟨bo_7, rfl⟩ := hq6
  refine lv_if_eq (tgt := 27) hx hb d_NInterval_farthest_4 (by decide) (fun b8 => ?_) (fun b8 => ?_)
  · skip
    have hr9 : r4 = nI 0 := b8
    refine lv_ldc2 (v := 9223372036854775807) hx hb hown (wd_600 hB _) d_NInterval_farthest_27 ?_
    refine lv_topl (fun z_ hz_ => ?_)
    obtain rfl : z_ = nL 9223372036854775807 := hz_
    exact pe_lret hx hb hr hlocks hK hP hD hS d_NInterval_farthest_30 rfl
  · skip
    have hr10 : r4 = nI 1 := (bl_1 bo_7 b8)
    refine lv_aload_n hx hb d_NInterval_farthest_7 rfl (lv_at hl 0 rfl) ?_
    refine pf_get (v := .long lo_2) (C := "BigRunner$Interval") (T := FT2) (N := 2) hx hb (hw2 hB _) (fun _ h9 => h9) hown hK hP (lo_in hL t_x (by decide)) e1 rfl 0 (by decide) (wd_126 hB _) rfl d_NInterval_farthest_8 ?_
    refine va_mabs_long hx hb (hml.trans hl.1.symm) hown (wd_646 hB _) (wd_647 hB _) (wd_83 hB _) (wd_648 hB _) (Nat.le_of_ble_eq_true rfl) (Nat.le_of_ble_eq_true rfl) (Nat.le_of_ble_eq_true rfl) (Nat.le_of_ble_eq_true rfl) d_NInterval_farthest_11 ?_
    refine lv_topl (fun lv11 hlv11 => ?_)
    refine lv_aload_n hx hb d_NInterval_farthest_14 rfl (lv_at hl 0 rfl) ?_
    refine pf_get (v := .long hi_3) (C := "BigRunner$Interval") (T := FT2) (N := 2) hx hb (hw2 hB _) (fun _ h9 => h9) hown hK hP (lo_in hL t_x (by decide)) e1 rfl 1 (by decide) (wd_129 hB _) rfl d_NInterval_farthest_15 ?_
    refine va_mabs_long hx hb (hml.trans hl.1.symm) hown (wd_646 hB _) (wd_647 hB _) (wd_83 hB _) (wd_648 hB _) (Nat.le_of_ble_eq_true rfl) (Nat.le_of_ble_eq_true rfl) (Nat.le_of_ble_eq_true rfl) (Nat.le_of_ble_eq_true rfl) d_NInterval_farthest_18 ?_
    refine lv_topl (fun lv12 hlv12 => ?_)
    refine va_mmax_long hx hb (hml.trans hl.1.symm) hown (wd_653 hB _) (wd_654 hB _) (wd_83 hB _) (wd_655 hB _) (Nat.le_of_ble_eq_true rfl) (Nat.le_of_ble_eq_true rfl) (Nat.le_of_ble_eq_true rfl) (Nat.le_of_ble_eq_true rfl) d_NInterval_farthest_21 ?_
    refine lv_topl (fun lv13 hlv13 => ?_)
    refine lv_goto (tgt := 30) hx hb d_NInterval_farthest_24 (by decide) ?_
    exact pe_lret hx hb hr hlocks hK hP hD hS d_NInterval_farthest_30 rfl
set_option maxHeartbeats 4000000 in
set_option maxRecDepth 100000 in
theorem c_isum (l : Launch) (g : Lay) (sz : Nat) (f : Nat → va_E) (u : Int64) (v : Int64) (hL : LO g) (hI : OC g f) : Met l ⟨"BigRunner$Interval", "sum", "(JJ)J"⟩ [Cond.code ⟨"BigRunner$Interval", "sum", "(JJ)J"⟩ prog_3_method_14_code 4 (some .long)] ({ frames := 1, cells := 0, slots := 0, locals := 21 }) (va_Pc [.long u, .long v] (pc_in g sz f)) (va_Ql (fun r f1 => (f = f1)) (pc_out g sz) (pc_A g sz)) 0 0 (pc_A g sz) := by
  refine pe_ofW (cc := prog_3_method_14_code) (maxL := 4) (ret := (some .long)) (lv := [(0, .long u), (2, .long v)]) (by decide) (Nat.le_of_ble_eq_true rfl) rfl ?_
  intro p e s m args below meth c ls hx hb hr hml hlocks hown hB hP hK hD hsz hS hl
  subst hsz
  refine lv_lload_n hx hb d_NInterval_sum_0 rfl (lv_at hl 0 rfl) ?_
  refine pcc_i (va_runS (As := [.long u]) (rest := []) ⟨hx, hb, hml, hown, tb_nil⟩ (c_isUnb l g s.heap.size f u hL hI) ⟨(callB_of 1 (tb_one (wd_443 hB _)) tb_good1 rfl rfl rfl (wd_75 hB _) (wd_441 hB _) (by decide +kernel) ⟨Nat.le_of_ble_eq_true rfl, Nat.le_of_ble_eq_true rfl⟩), (wd_442 hB _)⟩ ⟨pe_bl, pe_pre hB hK hP hD⟩ rfl rfl hl.1 rfl (lv_room (Nat.le_of_ble_eq_true rfl)) d_NInterval_sum_1 ⟨Nat.le_of_ble_eq_true rfl, Nat.le_of_ble_eq_true rfl⟩) hS (fun r1 f2 H locs hq3 hP hD hS => ?_)
  obtain ⟨bo_4, rfl⟩ := hq3
  refine lv_if_ne (tgt := 14) hx hb d_NInterval_sum_4 (by decide) (fun b5 => ?_) (fun b5 => ?_)
  · skip
    have hr6 : r1 = nI 1 := (bl_1 bo_4 b5)
    refine lv_ldc2 (v := 1152921504606846977) hx hb hown (wd_629 hB _) d_NInterval_sum_14 ?_
    refine lv_topl (fun z_ hz_ => ?_)
    obtain rfl : z_ = nL 1152921504606846977 := hz_
    refine lv_goto (tgt := 23) hx hb d_NInterval_sum_17 (by decide) ?_
    exact pe_lret hx hb hr hlocks hK hP hD hS d_NInterval_sum_23 rfl
  · skip
    have hr7 : r1 = nI 0 := b5
    refine lv_lload_n hx hb d_NInterval_sum_7 rfl (lv_at hl 1 rfl) ?_
    refine pcc_i (va_runS (As := [.long v]) (rest := []) ⟨hx, hb, hml, hown, tb_nil⟩ (c_isUnb l g H.size f v hL hI) ⟨(callB_of 1 (tb_one (wd_443 hB _)) tb_good1 rfl rfl rfl (wd_75 hB _) (wd_441 hB _) (by decide +kernel) ⟨Nat.le_of_ble_eq_true rfl, Nat.le_of_ble_eq_true rfl⟩), (wd_442 hB _)⟩ ⟨pe_bl, pe_pre hB hK hP hD⟩ rfl rfl hl.1 rfl (lv_room (Nat.le_of_ble_eq_true rfl)) d_NInterval_sum_8 ⟨Nat.le_of_ble_eq_true rfl, Nat.le_of_ble_eq_true rfl⟩) hS (fun r8 f9 H locs hq10 hP hD hS => ?_)
    obtain ⟨bo_11, rfl⟩ := hq10
    refine lv_if_eq (tgt := 20) hx hb d_NInterval_sum_11 (by decide) (fun b12 => ?_) (fun b12 => ?_)
    · skip
      have hr13 : r8 = nI 0 := b12
      refine lv_lload_n hx hb d_NInterval_sum_20 rfl (lv_at hl 0 rfl) ?_
      refine lv_lload_n hx hb d_NInterval_sum_21 rfl (lv_at hl 1 rfl) ?_
      refine lv_ladd hx hb d_NInterval_sum_22 ?_
      exact pe_lret hx hb hr hlocks hK hP hD hS d_NInterval_sum_23 rfl
    · skip
      have hr14 : r8 = nI 1 := (bl_1 bo_11 b12)
      refine lv_ldc2 (v := 1152921504606846977) hx hb hown (wd_629 hB _) d_NInterval_sum_14 ?_
      refine lv_topl (fun z_ hz_ => ?_)
      obtain rfl : z_ = nL 1152921504606846977 := hz_
      refine lv_goto (tgt := 23) hx hb d_NInterval_sum_17 (by decide) ?_
      exact pe_lret hx hb hr hlocks hK hP hD hS d_NInterval_sum_23 rfl
set_option maxHeartbeats 4000000 in
set_option maxRecDepth 100000 in
theorem c_iproduct (l : Launch) (g : Lay) (sz : Nat) (f : Nat → va_E) (u : Int64) (v : Int64) (hL : LO g) (hI : OC g f) : Met l ⟨"BigRunner$Interval", "product", "(JJ)J"⟩ [Cond.code ⟨"BigRunner$Interval", "product", "(JJ)J"⟩ prog_3_method_15_code 4 (some .long)] ({ frames := 1, cells := 0, slots := 0, locals := 40 }) (va_Pc [.long u, .long v] (pc_in g sz f)) (va_Ql (fun r f1 => (f = f1)) (pc_out g sz) (pc_A g sz)) 0 0 (pc_A g sz) := by
  refine pe_ofW (cc := prog_3_method_15_code) (maxL := 4) (ret := (some .long)) (lv := [(0, .long u), (2, .long v)]) (by decide) (Nat.le_of_ble_eq_true rfl) rfl ?_
  intro p e s m args below meth c ls hx hb hr hml hlocks hown hB hP hK hD hsz hS hl
  subst hsz
  refine lv_lload_n hx hb d_NInterval_product_0 rfl (lv_at hl 0 rfl) ?_
  refine lv_lconst (v := nL 0) hx hb d_NInterval_product_1 (by decide) ?_
  refine W.lcmp hx hb d_NInterval_product_2 ?_
  refine lv_if_eq (tgt := 12) hx hb d_NInterval_product_3 (by decide) (fun b1 => ?_) (fun b1 => ?_)
  · skip
    replace b1 := pl_eq.mp b1
    refine lv_lconst (v := nL 0) hx hb d_NInterval_product_12 (by decide) ?_
    exact pe_lret hx hb hr hlocks hK hP hD hS d_NInterval_product_13 rfl
  · skip
    replace b1 := mt pl_eq.mpr b1
    refine lv_lload_n hx hb d_NInterval_product_6 rfl (lv_at hl 1 rfl) ?_
    refine lv_lconst (v := nL 0) hx hb d_NInterval_product_7 (by decide) ?_
    refine W.lcmp hx hb d_NInterval_product_8 ?_
    refine lv_if_ne (tgt := 14) hx hb d_NInterval_product_9 (by decide) (fun b2 => ?_) (fun b2 => ?_)
    · skip
      replace b2 := mt pl_eq.mpr b2
      refine lv_lload_n hx hb d_NInterval_product_14 rfl (lv_at hl 0 rfl) ?_
      refine va_mabs_long hx hb (hml.trans hl.1.symm) hown (wd_646 hB _) (wd_647 hB _) (wd_83 hB _) (wd_648 hB _) (Nat.le_of_ble_eq_true rfl) (Nat.le_of_ble_eq_true rfl) (Nat.le_of_ble_eq_true rfl) (Nat.le_of_ble_eq_true rfl) d_NInterval_product_15 ?_
      refine lv_topl (fun lv3 hlv3 => ?_)
      refine lv_ldc2 (v := 1152921504606846976) hx hb hown (wd_445 hB _) d_NInterval_product_18 ?_
      refine lv_topl (fun z_ hz_ => ?_)
      obtain rfl : z_ = nL 1152921504606846976 := hz_
      refine lv_lload_n hx hb d_NInterval_product_21 rfl (lv_at hl 1 rfl) ?_
      refine va_mabs_long hx hb (hml.trans hl.1.symm) hown (wd_646 hB _) (wd_647 hB _) (wd_83 hB _) (wd_648 hB _) (Nat.le_of_ble_eq_true rfl) (Nat.le_of_ble_eq_true rfl) (Nat.le_of_ble_eq_true rfl) (Nat.le_of_ble_eq_true rfl) d_NInterval_product_22 ?_
      refine lv_topl (fun lv4 hlv4 => ?_)
      refine lv_ldiv hx hb d_NInterval_product_25 (ab_ne (by assumption) hlv4) ?_
      refine W.lcmp hx hb d_NInterval_product_26 ?_
      refine lv_if_le (tgt := 65) hx hb d_NInterval_product_27 (by decide) (fun b5 => ?_) (fun b5 => ?_)
      · skip
        replace b5 := pl_le.mp b5
        refine lv_lload_n hx hb d_NInterval_product_65 rfl (lv_at hl 0 rfl) ?_
        refine lv_lload_n hx hb d_NInterval_product_66 rfl (lv_at hl 1 rfl) ?_
        refine lv_lmul hx hb d_NInterval_product_67 ?_
        exact pe_lret hx hb hr hlocks hK hP hD hS d_NInterval_product_68 rfl
      · skip
        replace b5 := mt pl_le.mpr b5
        refine lv_lload_n hx hb d_NInterval_product_30 rfl (lv_at hl 0 rfl) ?_
        refine lv_lconst (v := nL 0) hx hb d_NInterval_product_31 (by decide) ?_
        refine W.lcmp hx hb d_NInterval_product_32 ?_
        refine lv_if_ge (tgt := 40) hx hb d_NInterval_product_33 (by decide) (fun b6 => ?_) (fun b6 => ?_)
        · skip
          replace b6 := pl_ge.mp b6
          refine lv_iconst (v := nI 0) hx hb d_NInterval_product_40 (by decide) ?_
          refine lv_lload_n hx hb d_NInterval_product_41 rfl (lv_at hl 1 rfl) ?_
          refine lv_lconst (v := nL 0) hx hb d_NInterval_product_42 (by decide) ?_
          refine W.lcmp hx hb d_NInterval_product_43 ?_
          refine lv_if_ge (tgt := 51) hx hb d_NInterval_product_44 (by decide) (fun b7 => ?_) (fun b7 => ?_)
          · skip
            replace b7 := pl_ge.mp b7
            refine lv_iconst (v := nI 0) hx hb d_NInterval_product_51 (by decide) ?_
            refine lv_icmp_ne (tgt := 61) hx hb d_NInterval_product_52 (by decide) (fun b8 => ?_) (fun b8 => ?_)
            · skip
              replace b8 := mt (nI_eq (a := 0) (b := 0) (by omega) (by omega)).mpr b8
              exfalso; omega
            · skip
              replace b8 := (nI_eq (a := 0) (b := 0) (by omega) (by omega)).mp b8
              refine lv_ldc2 (v := 1152921504606846977) hx hb hown (wd_629 hB _) d_NInterval_product_55 ?_
              refine lv_topl (fun z_ hz_ => ?_)
              obtain rfl : z_ = nL 1152921504606846977 := hz_
              refine lv_goto (tgt := 64) hx hb d_NInterval_product_58 (by decide) ?_
              exact pe_lret hx hb hr hlocks hK hP hD hS d_NInterval_product_64 rfl
          · skip
            replace b7 := mt pl_ge.mpr b7
            refine lv_iconst (v := nI 1) hx hb d_NInterval_product_47 (by decide) ?_
            refine lv_goto (tgt := 52) hx hb d_NInterval_product_48 (by decide) ?_
            refine lv_icmp_ne (tgt := 61) hx hb d_NInterval_product_52 (by decide) (fun b9 => ?_) (fun b9 => ?_)
            · skip
              replace b9 := mt (nI_eq (a := 0) (b := 1) (by omega) (by omega)).mpr b9
              refine lv_ldc2 (v := (-1152921504606846977)) hx hb hown (wd_649 hB _) d_NInterval_product_61 ?_
              exact pe_lret hx hb hr hlocks hK hP hD hS d_NInterval_product_64 rfl
            · skip
              replace b9 := (nI_eq (a := 0) (b := 1) (by omega) (by omega)).mp b9
              exfalso; omega
        · skip
          replace b6 := mt pl_ge.mpr b6
          refine lv_iconst (v := nI 1) hx hb d_NInterval_product_36 (by decide) ?_
          refine lv_goto (tgt := 41) hx hb d_NInterval_product_37 (by decide) ?_
          refine lv_lload_n hx hb d_NInterval_product_41 rfl (lv_at hl 1 rfl) ?_
          refine lv_lconst (v := nL 0) hx hb d_NInterval_product_42 (by decide) ?_
          refine W.lcmp hx hb d_NInterval_product_43 ?_
          refine lv_if_ge (tgt := 51) hx hb d_NInterval_product_44 (by decide) (fun b10 => ?_) (fun b10 => ?_)
          · skip
            replace b10 := pl_ge.mp b10
            refine lv_iconst (v := nI 0) hx hb d_NInterval_product_51 (by decide) ?_
            refine lv_icmp_ne (tgt := 61) hx hb d_NInterval_product_52 (by decide) (fun b11 => ?_) (fun b11 => ?_)
            · skip
              replace b11 := mt (nI_eq (a := 1) (b := 0) (by omega) (by omega)).mpr b11
              refine lv_ldc2 (v := (-1152921504606846977)) hx hb hown (wd_649 hB _) d_NInterval_product_61 ?_
              exact pe_lret hx hb hr hlocks hK hP hD hS d_NInterval_product_64 rfl
            · skip
              replace b11 := (nI_eq (a := 1) (b := 0) (by omega) (by omega)).mp b11
              exfalso; omega
          · skip
            replace b10 := mt pl_ge.mpr b10
            refine lv_iconst (v := nI 1) hx hb d_NInterval_product_47 (by decide) ?_
            refine lv_goto (tgt := 52) hx hb d_NInterval_product_48 (by decide) ?_
            refine lv_icmp_ne (tgt := 61) hx hb d_NInterval_product_52 (by decide) (fun b12 => ?_) (fun b12 => ?_)
            · skip
              replace b12 := mt (nI_eq (a := 1) (b := 1) (by omega) (by omega)).mpr b12
              exfalso; omega
            · skip
              replace b12 := (nI_eq (a := 1) (b := 1) (by omega) (by omega)).mp b12
              refine lv_ldc2 (v := 1152921504606846977) hx hb hown (wd_629 hB _) d_NInterval_product_55 ?_
              refine lv_topl (fun z_ hz_ => ?_)
              obtain rfl : z_ = nL 1152921504606846977 := hz_
              refine lv_goto (tgt := 64) hx hb d_NInterval_product_58 (by decide) ?_
              exact pe_lret hx hb hr hlocks hK hP hD hS d_NInterval_product_64 rfl
    · skip
      replace b2 := pl_eq.mp b2
      refine lv_lconst (v := nL 0) hx hb d_NInterval_product_12 (by decide) ?_
      exact pe_lret hx hb hr hlocks hK hP hD hS d_NInterval_product_13 rfl
set_option maxHeartbeats 4000000 in
set_option maxRecDepth 100000 in
theorem c_iNeg (l : Launch) (g : Lay) (sz : Nat) (f : Nat → va_E) (x : Nat) (y : Nat) (hL : LO g) (t_x : g.tg x = 3) (t_y : g.tg y = 3) (hI : IV g f) : Met l ⟨"BigRunner$Interval", "setNegation", "(LBigRunner$Interval;)V"⟩ [Cond.code ⟨"BigRunner$Interval", "setNegation", "(LBigRunner$Interval;)V"⟩ prog_3_method_6_code 2 none] ({ frames := 2, cells := 0, slots := 0, locals := 45 }) (va_Pc [.ref x, .ref y] (pc_in g sz f)) (va_Qv (fun f1 => (IV g f1) ∧ (un [3] g f f1)) (pc_out g sz) (pc_A g sz)) 0 0 (pc_A g sz) := by
  refine pe_ofW (cc := prog_3_method_6_code) (maxL := 2) (ret := none) (lv := [(0, .ref x), (1, .ref y)]) (by decide) (Nat.le_of_ble_eq_true rfl) rfl ?_
  intro p e s m args below meth c ls hx hb hr hml hlocks hown hB hP hK hD hsz hS hl
  subst hsz
  have hu : un [3] g f f := un.rf
  refine lv_aload_n hx hb d_NInterval_setNegation_0 rfl (lv_at hl 0 rfl) ?_
  refine lv_aload_n hx hb d_NInterval_setNegation_1 rfl (lv_at hl 1 rfl) ?_
  obtain ⟨lo_2, hi_3, e1⟩ := oc_3.of t_y (hI.1 y)
  refine pf_get (v := .long hi_3) (C := "BigRunner$Interval") (T := FT2) (N := 2) hx hb (hw2 hB _) (fun _ h9 => h9) hown hK hP (lo_in hL t_y (by decide)) e1 rfl 1 (by decide) (wd_129 hB _) rfl d_NInterval_setNegation_2 ?_
  refine lv_lneg hx hb d_NInterval_setNegation_5 ?_
  refine lv_aload_n hx hb d_NInterval_setNegation_6 rfl (lv_at hl 1 rfl) ?_
  refine pf_get (v := .long lo_2) (C := "BigRunner$Interval") (T := FT2) (N := 2) hx hb (hw2 hB _) (fun _ h9 => h9) hown hK hP (lo_in hL t_y (by decide)) e1 rfl 0 (by decide) (wd_126 hB _) rfl d_NInterval_setNegation_7 ?_
  refine lv_lneg hx hb d_NInterval_setNegation_10 ?_
  obtain ⟨lo_5, hi_6, e4⟩ := oc_3.of t_x (hI.1 x)
  refine pcc_v (va_runV (C := "BigRunner$Interval") (As := [.long (-hi_3), .long (-lo_2)]) (rest := []) ⟨hx, hb, hml, hown, tb_nil⟩ (c_iset l g s.heap.size f x ((-hi_3)) ((-lo_2)) hL t_x hI) ⟨(callB_of 2 (tb_one (wd_598 hB _)) tb_good1 rfl rfl rfl (wd_75 hB _) (wd_621 hB _) (by decide +kernel) ⟨Nat.le_of_ble_eq_true rfl, Nat.le_of_ble_eq_true rfl⟩), (wd_596 hB _), (wd_597 hB _)⟩ ⟨pe_bl, pg_recv (ci := 2) hK hP (lo_in hL t_x (by decide)) e4 rfl, pe_pre hB hK hP hD⟩ rfl rfl hl.1 rfl (lv_room (Nat.le_of_ble_eq_true rfl)) d_NInterval_setNegation_11 ⟨Nat.le_of_ble_eq_true rfl, Nat.le_of_ble_eq_true rfl⟩) hS (fun f8 H locs hq9 hP hD hS => ?_)
  obtain ⟨hI1_10, hu1_11⟩ := hq9
  have hu := hu.tr hu1_11 (by decide)
  exact pe_vret hx hb hr hlocks hK hP hD hS d_NInterval_setNegation_14 ⟨hI1_10, hu⟩
set_option maxHeartbeats 4000000 in
set_option maxRecDepth 100000 in
theorem c_iSum (l : Launch) (g : Lay) (sz : Nat) (f : Nat → va_E) (x : Nat) (y : Nat) (z : Nat) (hL : LO g) (t_x : g.tg x = 3) (t_y : g.tg y = 3) (t_z : g.tg z = 3) (hI : IV g f) : Met l ⟨"BigRunner$Interval", "setSum", "(LBigRunner$Interval;LBigRunner$Interval;)V"⟩ [Cond.code ⟨"BigRunner$Interval", "setSum", "(LBigRunner$Interval;LBigRunner$Interval;)V"⟩ prog_3_method_7_code 3 none] ({ frames := 2, cells := 0, slots := 0, locals := 45 }) (va_Pc [.ref x, .ref y, .ref z] (pc_in g sz f)) (va_Qv (fun f1 => (IV g f1) ∧ (un [3] g f f1)) (pc_out g sz) (pc_A g sz)) 0 0 (pc_A g sz) := by
  refine pe_ofW (cc := prog_3_method_7_code) (maxL := 3) (ret := none) (lv := [(0, .ref x), (1, .ref y), (2, .ref z)]) (by decide) (Nat.le_of_ble_eq_true rfl) rfl ?_
  intro p e s m args below meth c ls hx hb hr hml hlocks hown hB hP hK hD hsz hS hl
  subst hsz
  have hu : un [3] g f f := un.rf
  refine lv_aload_n hx hb d_NInterval_setSum_0 rfl (lv_at hl 0 rfl) ?_
  refine lv_aload_n hx hb d_NInterval_setSum_1 rfl (lv_at hl 1 rfl) ?_
  obtain ⟨lo_2, hi_3, e1⟩ := oc_3.of t_y (hI.1 y)
  refine pf_get (v := .long lo_2) (C := "BigRunner$Interval") (T := FT2) (N := 2) hx hb (hw2 hB _) (fun _ h9 => h9) hown hK hP (lo_in hL t_y (by decide)) e1 rfl 0 (by decide) (wd_126 hB _) rfl d_NInterval_setSum_2 ?_
  refine lv_aload_n hx hb d_NInterval_setSum_5 rfl (lv_at hl 2 rfl) ?_
  obtain ⟨lo_5, hi_6, e4⟩ := oc_3.of t_z (hI.1 z)
  refine pf_get (v := .long lo_5) (C := "BigRunner$Interval") (T := FT2) (N := 2) hx hb (hw2 hB _) (fun _ h9 => h9) hown hK hP (lo_in hL t_z (by decide)) e4 rfl 0 (by decide) (wd_126 hB _) rfl d_NInterval_setSum_6 ?_
  refine pcc_l (va_runS (As := [.long lo_2, .long lo_5]) (rest := [.ref x]) ⟨hx, hb, hml, hown, tb_nil⟩ (c_isum l g s.heap.size f lo_2 lo_5 hL hI.1) ⟨(callB_of 2 (tb_one (wd_628 hB _)) tb_good1 rfl rfl rfl (wd_75 hB _) (wd_626 hB _) (by decide +kernel) ⟨Nat.le_of_ble_eq_true rfl, Nat.le_of_ble_eq_true rfl⟩), (wd_627 hB _)⟩ ⟨pe_bl, pe_pre hB hK hP hD⟩ rfl rfl hl.1 rfl (lv_room (Nat.le_of_ble_eq_true rfl)) d_NInterval_setSum_9 ⟨Nat.le_of_ble_eq_true rfl, Nat.le_of_ble_eq_true rfl⟩) hS (fun r7 f8 H locs hq9 hP hD hS => ?_)
  subst hq9
  refine lv_aload_n hx hb d_NInterval_setSum_12 rfl (lv_at hl 1 rfl) ?_
  refine pf_get (v := .long hi_3) (C := "BigRunner$Interval") (T := FT2) (N := 2) hx hb (hw2 hB _) (fun _ h9 => h9) hown hK hP (lo_in hL t_y (by decide)) e1 rfl 1 (by decide) (wd_129 hB _) rfl d_NInterval_setSum_13 ?_
  refine lv_aload_n hx hb d_NInterval_setSum_16 rfl (lv_at hl 2 rfl) ?_
  refine pf_get (v := .long hi_6) (C := "BigRunner$Interval") (T := FT2) (N := 2) hx hb (hw2 hB _) (fun _ h9 => h9) hown hK hP (lo_in hL t_z (by decide)) e4 rfl 1 (by decide) (wd_129 hB _) rfl d_NInterval_setSum_17 ?_
  refine pcc_l (va_runS (As := [.long hi_3, .long hi_6]) (rest := [.long r7, .ref x]) ⟨hx, hb, hml, hown, tb_nil⟩ (c_isum l g H.size f hi_3 hi_6 hL hI.1) ⟨(callB_of 2 (tb_one (wd_628 hB _)) tb_good1 rfl rfl rfl (wd_75 hB _) (wd_626 hB _) (by decide +kernel) ⟨Nat.le_of_ble_eq_true rfl, Nat.le_of_ble_eq_true rfl⟩), (wd_627 hB _)⟩ ⟨pe_bl, pe_pre hB hK hP hD⟩ rfl rfl hl.1 rfl (lv_room (Nat.le_of_ble_eq_true rfl)) d_NInterval_setSum_20 ⟨Nat.le_of_ble_eq_true rfl, Nat.le_of_ble_eq_true rfl⟩) hS (fun r10 f11 H locs hq12 hP hD hS => ?_)
  subst hq12
  obtain ⟨lo_14, hi_15, e13⟩ := oc_3.of t_x (hI.1 x)
  refine pcc_v (va_runV (C := "BigRunner$Interval") (As := [.long r7, .long r10]) (rest := []) ⟨hx, hb, hml, hown, tb_nil⟩ (c_iset l g H.size f x r7 r10 hL t_x hI) ⟨(callB_of 2 (tb_one (wd_598 hB _)) tb_good1 rfl rfl rfl (wd_75 hB _) (wd_621 hB _) (by decide +kernel) ⟨Nat.le_of_ble_eq_true rfl, Nat.le_of_ble_eq_true rfl⟩), (wd_596 hB _), (wd_597 hB _)⟩ ⟨pe_bl, pg_recv (ci := 2) hK hP (lo_in hL t_x (by decide)) e13 rfl, pe_pre hB hK hP hD⟩ rfl rfl hl.1 rfl (lv_room (Nat.le_of_ble_eq_true rfl)) d_NInterval_setSum_23 ⟨Nat.le_of_ble_eq_true rfl, Nat.le_of_ble_eq_true rfl⟩) hS (fun f17 H locs hq18 hP hD hS => ?_)
  obtain ⟨hI1_19, hu1_20⟩ := hq18
  have hu := hu.tr hu1_20 (by decide)
  exact pe_vret hx hb hr hlocks hK hP hD hS d_NInterval_setSum_26 ⟨hI1_19, hu⟩
set_option maxHeartbeats 4000000 in
set_option maxRecDepth 100000 in
theorem c_iDif (l : Launch) (g : Lay) (sz : Nat) (f : Nat → va_E) (x : Nat) (y : Nat) (z : Nat) (hL : LO g) (t_x : g.tg x = 3) (t_y : g.tg y = 3) (t_z : g.tg z = 3) (hI : IV g f) : Met l ⟨"BigRunner$Interval", "setDifference", "(LBigRunner$Interval;LBigRunner$Interval;)V"⟩ [Cond.code ⟨"BigRunner$Interval", "setDifference", "(LBigRunner$Interval;LBigRunner$Interval;)V"⟩ prog_3_method_8_code 3 none] ({ frames := 2, cells := 0, slots := 0, locals := 45 }) (va_Pc [.ref x, .ref y, .ref z] (pc_in g sz f)) (va_Qv (fun f1 => (IV g f1) ∧ (un [3] g f f1)) (pc_out g sz) (pc_A g sz)) 0 0 (pc_A g sz) := by
  refine pe_ofW (cc := prog_3_method_8_code) (maxL := 3) (ret := none) (lv := [(0, .ref x), (1, .ref y), (2, .ref z)]) (by decide) (Nat.le_of_ble_eq_true rfl) rfl ?_
  intro p e s m args below meth c ls hx hb hr hml hlocks hown hB hP hK hD hsz hS hl
  subst hsz
  have hu : un [3] g f f := un.rf
  refine lv_aload_n hx hb d_NInterval_setDifference_0 rfl (lv_at hl 0 rfl) ?_
  refine lv_aload_n hx hb d_NInterval_setDifference_1 rfl (lv_at hl 1 rfl) ?_
  obtain ⟨lo_2, hi_3, e1⟩ := oc_3.of t_y (hI.1 y)
  refine pf_get (v := .long lo_2) (C := "BigRunner$Interval") (T := FT2) (N := 2) hx hb (hw2 hB _) (fun _ h9 => h9) hown hK hP (lo_in hL t_y (by decide)) e1 rfl 0 (by decide) (wd_126 hB _) rfl d_NInterval_setDifference_2 ?_
  refine lv_aload_n hx hb d_NInterval_setDifference_5 rfl (lv_at hl 2 rfl) ?_
  obtain ⟨lo_5, hi_6, e4⟩ := oc_3.of t_z (hI.1 z)
  refine pf_get (v := .long hi_6) (C := "BigRunner$Interval") (T := FT2) (N := 2) hx hb (hw2 hB _) (fun _ h9 => h9) hown hK hP (lo_in hL t_z (by decide)) e4 rfl 1 (by decide) (wd_129 hB _) rfl d_NInterval_setDifference_6 ?_
  refine lv_lneg hx hb d_NInterval_setDifference_9 ?_
  refine pcc_l (va_runS (As := [.long lo_2, .long (-hi_6)]) (rest := [.ref x]) ⟨hx, hb, hml, hown, tb_nil⟩ (c_isum l g s.heap.size f lo_2 ((-hi_6)) hL hI.1) ⟨(callB_of 2 (tb_one (wd_628 hB _)) tb_good1 rfl rfl rfl (wd_75 hB _) (wd_626 hB _) (by decide +kernel) ⟨Nat.le_of_ble_eq_true rfl, Nat.le_of_ble_eq_true rfl⟩), (wd_627 hB _)⟩ ⟨pe_bl, pe_pre hB hK hP hD⟩ rfl rfl hl.1 rfl (lv_room (Nat.le_of_ble_eq_true rfl)) d_NInterval_setDifference_10 ⟨Nat.le_of_ble_eq_true rfl, Nat.le_of_ble_eq_true rfl⟩) hS (fun r7 f8 H locs hq9 hP hD hS => ?_)
  subst hq9
  refine lv_aload_n hx hb d_NInterval_setDifference_13 rfl (lv_at hl 1 rfl) ?_
  refine pf_get (v := .long hi_3) (C := "BigRunner$Interval") (T := FT2) (N := 2) hx hb (hw2 hB _) (fun _ h9 => h9) hown hK hP (lo_in hL t_y (by decide)) e1 rfl 1 (by decide) (wd_129 hB _) rfl d_NInterval_setDifference_14 ?_
  refine lv_aload_n hx hb d_NInterval_setDifference_17 rfl (lv_at hl 2 rfl) ?_
  refine pf_get (v := .long lo_5) (C := "BigRunner$Interval") (T := FT2) (N := 2) hx hb (hw2 hB _) (fun _ h9 => h9) hown hK hP (lo_in hL t_z (by decide)) e4 rfl 0 (by decide) (wd_126 hB _) rfl d_NInterval_setDifference_18 ?_
  refine lv_lneg hx hb d_NInterval_setDifference_21 ?_
  refine pcc_l (va_runS (As := [.long hi_3, .long (-lo_5)]) (rest := [.long r7, .ref x]) ⟨hx, hb, hml, hown, tb_nil⟩ (c_isum l g H.size f hi_3 ((-lo_5)) hL hI.1) ⟨(callB_of 2 (tb_one (wd_628 hB _)) tb_good1 rfl rfl rfl (wd_75 hB _) (wd_626 hB _) (by decide +kernel) ⟨Nat.le_of_ble_eq_true rfl, Nat.le_of_ble_eq_true rfl⟩), (wd_627 hB _)⟩ ⟨pe_bl, pe_pre hB hK hP hD⟩ rfl rfl hl.1 rfl (lv_room (Nat.le_of_ble_eq_true rfl)) d_NInterval_setDifference_22 ⟨Nat.le_of_ble_eq_true rfl, Nat.le_of_ble_eq_true rfl⟩) hS (fun r10 f11 H locs hq12 hP hD hS => ?_)
  subst hq12
  obtain ⟨lo_14, hi_15, e13⟩ := oc_3.of t_x (hI.1 x)
  refine pcc_v (va_runV (C := "BigRunner$Interval") (As := [.long r7, .long r10]) (rest := []) ⟨hx, hb, hml, hown, tb_nil⟩ (c_iset l g H.size f x r7 r10 hL t_x hI) ⟨(callB_of 2 (tb_one (wd_598 hB _)) tb_good1 rfl rfl rfl (wd_75 hB _) (wd_621 hB _) (by decide +kernel) ⟨Nat.le_of_ble_eq_true rfl, Nat.le_of_ble_eq_true rfl⟩), (wd_596 hB _), (wd_597 hB _)⟩ ⟨pe_bl, pg_recv (ci := 2) hK hP (lo_in hL t_x (by decide)) e13 rfl, pe_pre hB hK hP hD⟩ rfl rfl hl.1 rfl (lv_room (Nat.le_of_ble_eq_true rfl)) d_NInterval_setDifference_25 ⟨Nat.le_of_ble_eq_true rfl, Nat.le_of_ble_eq_true rfl⟩) hS (fun f17 H locs hq18 hP hD hS => ?_)
  obtain ⟨hI1_19, hu1_20⟩ := hq18
  have hu := hu.tr hu1_20 (by decide)
  exact pe_vret hx hb hr hlocks hK hP hD hS d_NInterval_setDifference_28 ⟨hI1_19, hu⟩
set_option maxHeartbeats 4000000 in
set_option maxRecDepth 100000 in
theorem c_iPro (l : Launch) (g : Lay) (sz : Nat) (f : Nat → va_E) (x : Nat) (y : Nat) (z : Nat) (hL : LO g) (t_x : g.tg x = 3) (t_y : g.tg y = 3) (t_z : g.tg z = 3) (hI : IV g f) : Met l ⟨"BigRunner$Interval", "setProduct", "(LBigRunner$Interval;LBigRunner$Interval;)V"⟩ [Cond.code ⟨"BigRunner$Interval", "setProduct", "(LBigRunner$Interval;LBigRunner$Interval;)V"⟩ prog_3_method_9_code 11 none] ({ frames := 2, cells := 0, slots := 0, locals := 63 }) (va_Pc [.ref x, .ref y, .ref z] (pc_in g sz f)) (va_Qv (fun f1 => (IV g f1) ∧ (un [3] g f f1)) (pc_out g sz) (pc_A g sz)) 0 0 (pc_A g sz) := by
  refine pe_ofW (cc := prog_3_method_9_code) (maxL := 11) (ret := none) (lv := [(0, .ref x), (1, .ref y), (2, .ref z)]) (by decide) (Nat.le_of_ble_eq_true rfl) rfl ?_
  intro p e s m args below meth c ls hx hb hr hml hlocks hown hB hP hK hD hsz hS hl
  subst hsz
  have hu : un [3] g f f := un.rf
  refine lv_aload_n hx hb d_NInterval_setProduct_0 rfl (lv_at hl 1 rfl) ?_
  obtain ⟨lo_2, hi_3, e1⟩ := oc_3.of t_y (hI.1 y)
  refine pcc_i (va_runV (C := "BigRunner$Interval") (As := []) (rest := []) ⟨hx, hb, hml, hown, tb_nil⟩ (c_isZero l g s.heap.size f y hL t_y hI.1) ⟨(callB_of 0 (tb_one (wd_641 hB _)) tb_good1 rfl rfl rfl (wd_75 hB _) (wd_638 hB _) (by decide +kernel) ⟨Nat.le_of_ble_eq_true rfl, Nat.le_of_ble_eq_true rfl⟩), (wd_640 hB _), (wd_21 hB _)⟩ ⟨pe_bl, pg_recv (ci := 2) hK hP (lo_in hL t_y (by decide)) e1 rfl, pe_pre hB hK hP hD⟩ rfl rfl hl.1 rfl (lv_room (Nat.le_of_ble_eq_true rfl)) d_NInterval_setProduct_1 ⟨Nat.le_of_ble_eq_true rfl, Nat.le_of_ble_eq_true rfl⟩) hS (fun r4 f5 H locs hq6 hP hD hS => ?_)
  obtain ⟨bo_7, rfl⟩ := hq6
  refine lv_if_ne (tgt := 14) hx hb d_NInterval_setProduct_4 (by decide) (fun b8 => ?_) (fun b8 => ?_)
  · skip
    have hr9 : r4 = nI 1 := (bl_1 bo_7 b8)
    refine lv_aload_n hx hb d_NInterval_setProduct_14 rfl (lv_at hl 0 rfl) ?_
    refine lv_lconst (v := nL 0) hx hb d_NInterval_setProduct_15 (by decide) ?_
    refine lv_lconst (v := nL 0) hx hb d_NInterval_setProduct_16 (by decide) ?_
    obtain ⟨lo_11, hi_12, e10⟩ := oc_3.of t_x (hI.1 x)
    refine pcc_v (va_runV (C := "BigRunner$Interval") (As := [.long (nL 0), .long (nL 0)]) (rest := []) ⟨hx, hb, hml, hown, tb_nil⟩ (c_iset l g H.size f x ((nL 0)) ((nL 0)) hL t_x hI) ⟨(callB_of 2 (tb_one (wd_598 hB _)) tb_good1 rfl rfl rfl (wd_75 hB _) (wd_621 hB _) (by decide +kernel) ⟨Nat.le_of_ble_eq_true rfl, Nat.le_of_ble_eq_true rfl⟩), (wd_596 hB _), (wd_597 hB _)⟩ ⟨pe_bl, pg_recv (ci := 2) hK hP (lo_in hL t_x (by decide)) e10 rfl, pe_pre hB hK hP hD⟩ rfl rfl hl.1 rfl (lv_room (Nat.le_of_ble_eq_true rfl)) d_NInterval_setProduct_17 ⟨Nat.le_of_ble_eq_true rfl, Nat.le_of_ble_eq_true rfl⟩) hS (fun f14 H locs hq15 hP hD hS => ?_)
    obtain ⟨hI1_16, hu1_17⟩ := hq15
    have hu := hu.tr hu1_17 (by decide)
    exact pe_vret hx hb hr hlocks hK hP hD hS d_NInterval_setProduct_20 ⟨hI1_16, hu⟩
  · skip
    have hr18 : r4 = nI 0 := b8
    refine lv_aload_n hx hb d_NInterval_setProduct_7 rfl (lv_at hl 2 rfl) ?_
    obtain ⟨lo_20, hi_21, e19⟩ := oc_3.of t_z (hI.1 z)
    refine pcc_i (va_runV (C := "BigRunner$Interval") (As := []) (rest := []) ⟨hx, hb, hml, hown, tb_nil⟩ (c_isZero l g H.size f z hL t_z hI.1) ⟨(callB_of 0 (tb_one (wd_641 hB _)) tb_good1 rfl rfl rfl (wd_75 hB _) (wd_638 hB _) (by decide +kernel) ⟨Nat.le_of_ble_eq_true rfl, Nat.le_of_ble_eq_true rfl⟩), (wd_640 hB _), (wd_21 hB _)⟩ ⟨pe_bl, pg_recv (ci := 2) hK hP (lo_in hL t_z (by decide)) e19 rfl, pe_pre hB hK hP hD⟩ rfl rfl hl.1 rfl (lv_room (Nat.le_of_ble_eq_true rfl)) d_NInterval_setProduct_8 ⟨Nat.le_of_ble_eq_true rfl, Nat.le_of_ble_eq_true rfl⟩) hS (fun r22 f23 H locs hq24 hP hD hS => ?_)
    obtain ⟨bo_25, rfl⟩ := hq24
    refine lv_if_eq (tgt := 21) hx hb d_NInterval_setProduct_11 (by decide) (fun b26 => ?_) (fun b26 => ?_)
    · skip
      have hr27 : r22 = nI 0 := b26
      refine lv_aload_n hx hb d_NInterval_setProduct_21 rfl (lv_at hl 1 rfl) ?_
      refine pcc_i (va_runV (C := "BigRunner$Interval") (As := []) (rest := []) ⟨hx, hb, hml, hown, tb_nil⟩ (c_isBounded l g H.size f y hL t_y hI.1) ⟨(callB_of 0 (tb_one (wd_440 hB _)) tb_good1 rfl rfl rfl (wd_75 hB _) (wd_642 hB _) (by decide +kernel) ⟨Nat.le_of_ble_eq_true rfl, Nat.le_of_ble_eq_true rfl⟩), (wd_438 hB _), (wd_439 hB _)⟩ ⟨pe_bl, pg_recv (ci := 2) hK hP (lo_in hL t_y (by decide)) e1 rfl, pe_pre hB hK hP hD⟩ rfl rfl hl.1 rfl (lv_room (Nat.le_of_ble_eq_true rfl)) d_NInterval_setProduct_22 ⟨Nat.le_of_ble_eq_true rfl, Nat.le_of_ble_eq_true rfl⟩) hS (fun r28 f29 H locs hq30 hP hD hS => ?_)
      obtain ⟨bo_31, rfl⟩ := hq30
      refine lv_if_eq (tgt := 35) hx hb d_NInterval_setProduct_25 (by decide) (fun b32 => ?_) (fun b32 => ?_)
      · skip
        have hr33 : r28 = nI 0 := b32
        refine lv_aload_n hx hb d_NInterval_setProduct_35 rfl (lv_at hl 0 rfl) ?_
        refine lv_ldc2 (v := (-9223372036854775808)) hx hb hown (wd_599 hB _) d_NInterval_setProduct_36 ?_
        refine lv_ldc2 (v := 9223372036854775807) hx hb hown (wd_600 hB _) d_NInterval_setProduct_39 ?_
        refine lv_topl (fun z_ hz_ => ?_)
        obtain rfl : z_ = nL 9223372036854775807 := hz_
        obtain ⟨lo_35, hi_36, e34⟩ := oc_3.of t_x (hI.1 x)
        refine pcc_v (va_runV (C := "BigRunner$Interval") (As := [.long (-9223372036854775808), .long (nL 9223372036854775807)]) (rest := []) ⟨hx, hb, hml, hown, tb_nil⟩ (c_iset l g H.size f x ((-9223372036854775808)) ((nL 9223372036854775807)) hL t_x hI) ⟨(callB_of 2 (tb_one (wd_598 hB _)) tb_good1 rfl rfl rfl (wd_75 hB _) (wd_621 hB _) (by decide +kernel) ⟨Nat.le_of_ble_eq_true rfl, Nat.le_of_ble_eq_true rfl⟩), (wd_596 hB _), (wd_597 hB _)⟩ ⟨pe_bl, pg_recv (ci := 2) hK hP (lo_in hL t_x (by decide)) e34 rfl, pe_pre hB hK hP hD⟩ rfl rfl hl.1 rfl (lv_room (Nat.le_of_ble_eq_true rfl)) d_NInterval_setProduct_42 ⟨Nat.le_of_ble_eq_true rfl, Nat.le_of_ble_eq_true rfl⟩) hS (fun f38 H locs hq39 hP hD hS => ?_)
        obtain ⟨hI1_40, hu1_41⟩ := hq39
        have hu := hu.tr hu1_41 (by decide)
        exact pe_vret hx hb hr hlocks hK hP hD hS d_NInterval_setProduct_45 ⟨hI1_40, hu⟩
      · skip
        have hr42 : r28 = nI 1 := (bl_1 bo_31 b32)
        refine lv_aload_n hx hb d_NInterval_setProduct_28 rfl (lv_at hl 2 rfl) ?_
        refine pcc_i (va_runV (C := "BigRunner$Interval") (As := []) (rest := []) ⟨hx, hb, hml, hown, tb_nil⟩ (c_isBounded l g H.size f z hL t_z hI.1) ⟨(callB_of 0 (tb_one (wd_440 hB _)) tb_good1 rfl rfl rfl (wd_75 hB _) (wd_642 hB _) (by decide +kernel) ⟨Nat.le_of_ble_eq_true rfl, Nat.le_of_ble_eq_true rfl⟩), (wd_438 hB _), (wd_439 hB _)⟩ ⟨pe_bl, pg_recv (ci := 2) hK hP (lo_in hL t_z (by decide)) e19 rfl, pe_pre hB hK hP hD⟩ rfl rfl hl.1 rfl (lv_room (Nat.le_of_ble_eq_true rfl)) d_NInterval_setProduct_29 ⟨Nat.le_of_ble_eq_true rfl, Nat.le_of_ble_eq_true rfl⟩) hS (fun r43 f44 H locs hq45 hP hD hS => ?_)
        obtain ⟨bo_46, rfl⟩ := hq45
        refine lv_if_ne (tgt := 46) hx hb d_NInterval_setProduct_32 (by decide) (fun b47 => ?_) (fun b47 => ?_)
        · skip
          have hr48 : r43 = nI 1 := (bl_1 bo_46 b47)
          refine lv_aload_n hx hb d_NInterval_setProduct_46 rfl (lv_at hl 1 rfl) ?_
          refine pf_get (v := .long lo_2) (C := "BigRunner$Interval") (T := FT2) (N := 2) hx hb (hw2 hB _) (fun _ h9 => h9) hown hK hP (lo_in hL t_y (by decide)) e1 rfl 0 (by decide) (wd_126 hB _) rfl d_NInterval_setProduct_47 ?_
          refine lv_aload_n hx hb d_NInterval_setProduct_50 rfl (lv_at hl 2 rfl) ?_
          refine pf_get (v := .long lo_20) (C := "BigRunner$Interval") (T := FT2) (N := 2) hx hb (hw2 hB _) (fun _ h9 => h9) hown hK hP (lo_in hL t_z (by decide)) e19 rfl 0 (by decide) (wd_126 hB _) rfl d_NInterval_setProduct_51 ?_
          refine pcc_l (va_runS (As := [.long lo_2, .long lo_20]) (rest := []) ⟨hx, hb, hml, hown, tb_nil⟩ (c_iproduct l g H.size f lo_2 lo_20 hL hI.1) ⟨(callB_of 2 (tb_one (wd_645 hB _)) tb_good1 rfl rfl rfl (wd_75 hB _) (wd_643 hB _) (by decide +kernel) ⟨Nat.le_of_ble_eq_true rfl, Nat.le_of_ble_eq_true rfl⟩), (wd_644 hB _)⟩ ⟨pe_bl, pe_pre hB hK hP hD⟩ rfl rfl hl.1 rfl (lv_room (Nat.le_of_ble_eq_true rfl)) d_NInterval_setProduct_54 ⟨Nat.le_of_ble_eq_true rfl, Nat.le_of_ble_eq_true rfl⟩) hS (fun r49 f50 H locs hq51 hP hD hS => ?_)
          subst hq51
          refine lv_lstore_n (lv' := [(3, .long r49), (0, .ref x), (1, .ref y), (2, .ref z)]) hx hb d_NInterval_setProduct_57 rfl hl (by decide) rfl (fun ls hl => ?_)
          refine lv_aload_n hx hb d_NInterval_setProduct_58 rfl (lv_at hl 2 rfl) ?_
          refine pf_get (v := .long lo_2) (C := "BigRunner$Interval") (T := FT2) (N := 2) hx hb (hw2 hB _) (fun _ h9 => h9) hown hK hP (lo_in hL t_y (by decide)) e1 rfl 0 (by decide) (wd_126 hB _) rfl d_NInterval_setProduct_59 ?_
          refine lv_aload_n hx hb d_NInterval_setProduct_62 rfl (lv_at hl 3 rfl) ?_
          refine pf_get (v := .long hi_21) (C := "BigRunner$Interval") (T := FT2) (N := 2) hx hb (hw2 hB _) (fun _ h9 => h9) hown hK hP (lo_in hL t_z (by decide)) e19 rfl 1 (by decide) (wd_129 hB _) rfl d_NInterval_setProduct_63 ?_
          refine pcc_l (va_runS (As := [.long lo_2, .long hi_21]) (rest := []) ⟨hx, hb, hml, hown, tb_nil⟩ (c_iproduct l g H.size f lo_2 hi_21 hL hI.1) ⟨(callB_of 2 (tb_one (wd_645 hB _)) tb_good1 rfl rfl rfl (wd_75 hB _) (wd_643 hB _) (by decide +kernel) ⟨Nat.le_of_ble_eq_true rfl, Nat.le_of_ble_eq_true rfl⟩), (wd_644 hB _)⟩ ⟨pe_bl, pe_pre hB hK hP hD⟩ rfl rfl hl.1 rfl (lv_room (Nat.le_of_ble_eq_true rfl)) d_NInterval_setProduct_66 ⟨Nat.le_of_ble_eq_true rfl, Nat.le_of_ble_eq_true rfl⟩) hS (fun r52 f53 H locs hq54 hP hD hS => ?_)
          subst hq54
          refine lv_lstore (lv' := [(5, .long r52), (3, .long r49), (0, .ref x), (1, .ref y), (2, .ref z)]) hx hb d_NInterval_setProduct_69 hl (by decide) rfl (fun ls hl => ?_)
          refine lv_aload_n hx hb d_NInterval_setProduct_71 rfl (lv_at hl 3 rfl) ?_
          refine pf_get (v := .long hi_3) (C := "BigRunner$Interval") (T := FT2) (N := 2) hx hb (hw2 hB _) (fun _ h9 => h9) hown hK hP (lo_in hL t_y (by decide)) e1 rfl 1 (by decide) (wd_129 hB _) rfl d_NInterval_setProduct_72 ?_
          refine lv_aload_n hx hb d_NInterval_setProduct_75 rfl (lv_at hl 4 rfl) ?_
          refine pf_get (v := .long lo_20) (C := "BigRunner$Interval") (T := FT2) (N := 2) hx hb (hw2 hB _) (fun _ h9 => h9) hown hK hP (lo_in hL t_z (by decide)) e19 rfl 0 (by decide) (wd_126 hB _) rfl d_NInterval_setProduct_76 ?_
          refine pcc_l (va_runS (As := [.long hi_3, .long lo_20]) (rest := []) ⟨hx, hb, hml, hown, tb_nil⟩ (c_iproduct l g H.size f hi_3 lo_20 hL hI.1) ⟨(callB_of 2 (tb_one (wd_645 hB _)) tb_good1 rfl rfl rfl (wd_75 hB _) (wd_643 hB _) (by decide +kernel) ⟨Nat.le_of_ble_eq_true rfl, Nat.le_of_ble_eq_true rfl⟩), (wd_644 hB _)⟩ ⟨pe_bl, pe_pre hB hK hP hD⟩ rfl rfl hl.1 rfl (lv_room (Nat.le_of_ble_eq_true rfl)) d_NInterval_setProduct_79 ⟨Nat.le_of_ble_eq_true rfl, Nat.le_of_ble_eq_true rfl⟩) hS (fun r55 f56 H locs hq57 hP hD hS => ?_)
          subst hq57
          refine lv_lstore (lv' := [(7, .long r55), (5, .long r52), (3, .long r49), (0, .ref x), (1, .ref y), (2, .ref z)]) hx hb d_NInterval_setProduct_82 hl (by decide) rfl (fun ls hl => ?_)
          refine lv_aload_n hx hb d_NInterval_setProduct_84 rfl (lv_at hl 4 rfl) ?_
          refine pf_get (v := .long hi_3) (C := "BigRunner$Interval") (T := FT2) (N := 2) hx hb (hw2 hB _) (fun _ h9 => h9) hown hK hP (lo_in hL t_y (by decide)) e1 rfl 1 (by decide) (wd_129 hB _) rfl d_NInterval_setProduct_85 ?_
          refine lv_aload_n hx hb d_NInterval_setProduct_88 rfl (lv_at hl 5 rfl) ?_
          refine pf_get (v := .long hi_21) (C := "BigRunner$Interval") (T := FT2) (N := 2) hx hb (hw2 hB _) (fun _ h9 => h9) hown hK hP (lo_in hL t_z (by decide)) e19 rfl 1 (by decide) (wd_129 hB _) rfl d_NInterval_setProduct_89 ?_
          refine pcc_l (va_runS (As := [.long hi_3, .long hi_21]) (rest := []) ⟨hx, hb, hml, hown, tb_nil⟩ (c_iproduct l g H.size f hi_3 hi_21 hL hI.1) ⟨(callB_of 2 (tb_one (wd_645 hB _)) tb_good1 rfl rfl rfl (wd_75 hB _) (wd_643 hB _) (by decide +kernel) ⟨Nat.le_of_ble_eq_true rfl, Nat.le_of_ble_eq_true rfl⟩), (wd_644 hB _)⟩ ⟨pe_bl, pe_pre hB hK hP hD⟩ rfl rfl hl.1 rfl (lv_room (Nat.le_of_ble_eq_true rfl)) d_NInterval_setProduct_92 ⟨Nat.le_of_ble_eq_true rfl, Nat.le_of_ble_eq_true rfl⟩) hS (fun r58 f59 H locs hq60 hP hD hS => ?_)
          subst hq60
          refine lv_lstore (lv' := [(9, .long r58), (7, .long r55), (5, .long r52), (3, .long r49), (0, .ref x), (1, .ref y), (2, .ref z)]) hx hb d_NInterval_setProduct_95 hl (by decide) rfl (fun ls hl => ?_)
          refine lv_aload_n hx hb d_NInterval_setProduct_97 rfl (lv_at hl 4 rfl) ?_
          refine lv_lload_n hx hb d_NInterval_setProduct_98 rfl (lv_at hl 3 rfl) ?_
          refine lv_lload hx hb d_NInterval_setProduct_99 (lv_at hl 2 rfl) ?_
          refine va_mmin_long hx hb (hml.trans hl.1.symm) hown (wd_650 hB _) (wd_651 hB _) (wd_83 hB _) (wd_652 hB _) (Nat.le_of_ble_eq_true rfl) (Nat.le_of_ble_eq_true rfl) (Nat.le_of_ble_eq_true rfl) (Nat.le_of_ble_eq_true rfl) d_NInterval_setProduct_101 ?_
          refine lv_topl (fun lv61 hlv61 => ?_)
          refine lv_lload hx hb d_NInterval_setProduct_104 (lv_at hl 1 rfl) ?_
          refine lv_lload hx hb d_NInterval_setProduct_106 (lv_at hl 0 rfl) ?_
          refine va_mmin_long hx hb (hml.trans hl.1.symm) hown (wd_650 hB _) (wd_651 hB _) (wd_83 hB _) (wd_652 hB _) (Nat.le_of_ble_eq_true rfl) (Nat.le_of_ble_eq_true rfl) (Nat.le_of_ble_eq_true rfl) (Nat.le_of_ble_eq_true rfl) d_NInterval_setProduct_108 ?_
          refine lv_topl (fun lv62 hlv62 => ?_)
          refine va_mmin_long hx hb (hml.trans hl.1.symm) hown (wd_650 hB _) (wd_651 hB _) (wd_83 hB _) (wd_652 hB _) (Nat.le_of_ble_eq_true rfl) (Nat.le_of_ble_eq_true rfl) (Nat.le_of_ble_eq_true rfl) (Nat.le_of_ble_eq_true rfl) d_NInterval_setProduct_111 ?_
          refine lv_topl (fun lv63 hlv63 => ?_)
          refine lv_lload_n hx hb d_NInterval_setProduct_114 rfl (lv_at hl 3 rfl) ?_
          refine lv_lload hx hb d_NInterval_setProduct_115 (lv_at hl 2 rfl) ?_
          refine va_mmax_long hx hb (hml.trans hl.1.symm) hown (wd_653 hB _) (wd_654 hB _) (wd_83 hB _) (wd_655 hB _) (Nat.le_of_ble_eq_true rfl) (Nat.le_of_ble_eq_true rfl) (Nat.le_of_ble_eq_true rfl) (Nat.le_of_ble_eq_true rfl) d_NInterval_setProduct_117 ?_
          refine lv_topl (fun lv64 hlv64 => ?_)
          refine lv_lload hx hb d_NInterval_setProduct_120 (lv_at hl 1 rfl) ?_
          refine lv_lload hx hb d_NInterval_setProduct_122 (lv_at hl 0 rfl) ?_
          refine va_mmax_long hx hb (hml.trans hl.1.symm) hown (wd_653 hB _) (wd_654 hB _) (wd_83 hB _) (wd_655 hB _) (Nat.le_of_ble_eq_true rfl) (Nat.le_of_ble_eq_true rfl) (Nat.le_of_ble_eq_true rfl) (Nat.le_of_ble_eq_true rfl) d_NInterval_setProduct_124 ?_
          refine lv_topl (fun lv65 hlv65 => ?_)
          refine va_mmax_long hx hb (hml.trans hl.1.symm) hown (wd_653 hB _) (wd_654 hB _) (wd_83 hB _) (wd_655 hB _) (Nat.le_of_ble_eq_true rfl) (Nat.le_of_ble_eq_true rfl) (Nat.le_of_ble_eq_true rfl) (Nat.le_of_ble_eq_true rfl) d_NInterval_setProduct_127 ?_
          refine lv_topl (fun lv66 hlv66 => ?_)
          obtain ⟨lo_68, hi_69, e67⟩ := oc_3.of t_x (hI.1 x)
          refine pcc_v (va_runV (C := "BigRunner$Interval") (As := [.long lv63, .long lv66]) (rest := []) ⟨hx, hb, hml, hown, tb_nil⟩ (c_iset l g H.size f x lv63 lv66 hL t_x hI) ⟨(callB_of 2 (tb_one (wd_598 hB _)) tb_good1 rfl rfl rfl (wd_75 hB _) (wd_621 hB _) (by decide +kernel) ⟨Nat.le_of_ble_eq_true rfl, Nat.le_of_ble_eq_true rfl⟩), (wd_596 hB _), (wd_597 hB _)⟩ ⟨pe_bl, pg_recv (ci := 2) hK hP (lo_in hL t_x (by decide)) e67 rfl, pe_pre hB hK hP hD⟩ rfl rfl hl.1 rfl (lv_room (Nat.le_of_ble_eq_true rfl)) d_NInterval_setProduct_130 ⟨Nat.le_of_ble_eq_true rfl, Nat.le_of_ble_eq_true rfl⟩) hS (fun f71 H locs hq72 hP hD hS => ?_)
          obtain ⟨hI1_73, hu1_74⟩ := hq72
          have hu := hu.tr hu1_74 (by decide)
          exact pe_vret hx hb hr hlocks hK hP hD hS d_NInterval_setProduct_133 ⟨hI1_73, hu⟩
        · skip
          have hr75 : r43 = nI 0 := b47
          refine lv_aload_n hx hb d_NInterval_setProduct_35 rfl (lv_at hl 0 rfl) ?_
          refine lv_ldc2 (v := (-9223372036854775808)) hx hb hown (wd_599 hB _) d_NInterval_setProduct_36 ?_
          refine lv_ldc2 (v := 9223372036854775807) hx hb hown (wd_600 hB _) d_NInterval_setProduct_39 ?_
          refine lv_topl (fun z_ hz_ => ?_)
          obtain rfl : z_ = nL 9223372036854775807 := hz_
          obtain ⟨lo_77, hi_78, e76⟩ := oc_3.of t_x (hI.1 x)
          refine pcc_v (va_runV (C := "BigRunner$Interval") (As := [.long (-9223372036854775808), .long (nL 9223372036854775807)]) (rest := []) ⟨hx, hb, hml, hown, tb_nil⟩ (c_iset l g H.size f x ((-9223372036854775808)) ((nL 9223372036854775807)) hL t_x hI) ⟨(callB_of 2 (tb_one (wd_598 hB _)) tb_good1 rfl rfl rfl (wd_75 hB _) (wd_621 hB _) (by decide +kernel) ⟨Nat.le_of_ble_eq_true rfl, Nat.le_of_ble_eq_true rfl⟩), (wd_596 hB _), (wd_597 hB _)⟩ ⟨pe_bl, pg_recv (ci := 2) hK hP (lo_in hL t_x (by decide)) e76 rfl, pe_pre hB hK hP hD⟩ rfl rfl hl.1 rfl (lv_room (Nat.le_of_ble_eq_true rfl)) d_NInterval_setProduct_42 ⟨Nat.le_of_ble_eq_true rfl, Nat.le_of_ble_eq_true rfl⟩) hS (fun f80 H locs hq81 hP hD hS => ?_)
          obtain ⟨hI1_82, hu1_83⟩ := hq81
          have hu := hu.tr hu1_83 (by decide)
          exact pe_vret hx hb hr hlocks hK hP hD hS d_NInterval_setProduct_45 ⟨hI1_82, hu⟩
    · skip
      have hr84 : r22 = nI 1 := (bl_1 bo_25 b26)
      refine lv_aload_n hx hb d_NInterval_setProduct_14 rfl (lv_at hl 0 rfl) ?_
      refine lv_lconst (v := nL 0) hx hb d_NInterval_setProduct_15 (by decide) ?_
      refine lv_lconst (v := nL 0) hx hb d_NInterval_setProduct_16 (by decide) ?_
      obtain ⟨lo_86, hi_87, e85⟩ := oc_3.of t_x (hI.1 x)
      refine pcc_v (va_runV (C := "BigRunner$Interval") (As := [.long (nL 0), .long (nL 0)]) (rest := []) ⟨hx, hb, hml, hown, tb_nil⟩ (c_iset l g H.size f x ((nL 0)) ((nL 0)) hL t_x hI) ⟨(callB_of 2 (tb_one (wd_598 hB _)) tb_good1 rfl rfl rfl (wd_75 hB _) (wd_621 hB _) (by decide +kernel) ⟨Nat.le_of_ble_eq_true rfl, Nat.le_of_ble_eq_true rfl⟩), (wd_596 hB _), (wd_597 hB _)⟩ ⟨pe_bl, pg_recv (ci := 2) hK hP (lo_in hL t_x (by decide)) e85 rfl, pe_pre hB hK hP hD⟩ rfl rfl hl.1 rfl (lv_room (Nat.le_of_ble_eq_true rfl)) d_NInterval_setProduct_17 ⟨Nat.le_of_ble_eq_true rfl, Nat.le_of_ble_eq_true rfl⟩) hS (fun f89 H locs hq90 hP hD hS => ?_)
      obtain ⟨hI1_91, hu1_92⟩ := hq90
      have hu := hu.tr hu1_92 (by decide)
      exact pe_vret hx hb hr hlocks hK hP hD hS d_NInterval_setProduct_20 ⟨hI1_91, hu⟩
set_option maxHeartbeats 4000000 in
set_option maxRecDepth 100000 in
theorem c_iQuo (l : Launch) (g : Lay) (sz : Nat) (f : Nat → va_E) (x : Nat) (y : Nat) (hL : LO g) (t_x : g.tg x = 3) (t_y : g.tg y = 3) (hI : IV g f) : Met l ⟨"BigRunner$Interval", "setQuotient", "(LBigRunner$Interval;)V"⟩ [Cond.code ⟨"BigRunner$Interval", "setQuotient", "(LBigRunner$Interval;)V"⟩ prog_3_method_10_code 4 none] ({ frames := 3, cells := 0, slots := 0, locals := 61 }) (va_Pc [.ref x, .ref y] (pc_in g sz f)) (va_Qv (fun f1 => (IV g f1) ∧ (un [3] g f f1)) (pc_out g sz) (pc_A g sz)) 0 0 (pc_A g sz) := by
  refine pe_ofW (cc := prog_3_method_10_code) (maxL := 4) (ret := none) (lv := [(0, .ref x), (1, .ref y)]) (by decide) (Nat.le_of_ble_eq_true rfl) rfl ?_
  intro p e s m args below meth c ls hx hb hr hml hlocks hown hB hP hK hD hsz hS hl
  subst hsz
  have hu : un [3] g f f := un.rf
  refine lv_aload_n hx hb d_NInterval_setQuotient_0 rfl (lv_at hl 1 rfl) ?_
  obtain ⟨lo_2, hi_3, e1⟩ := oc_3.of t_y (hI.1 y)
  refine pcc_l (va_runV (C := "BigRunner$Interval") (As := []) (rest := []) ⟨hx, hb, hml, hown, tb_nil⟩ (c_farthest l g s.heap.size f y hL t_y hI.1) ⟨(callB_of 0 (tb_one (wd_663 hB _)) tb_good1 rfl rfl rfl (wd_75 hB _) (wd_660 hB _) (by decide +kernel) ⟨Nat.le_of_ble_eq_true rfl, Nat.le_of_ble_eq_true rfl⟩), (wd_662 hB _), (wd_22 hB _)⟩ ⟨pe_bl, pg_recv (ci := 2) hK hP (lo_in hL t_y (by decide)) e1 rfl, pe_pre hB hK hP hD⟩ rfl rfl hl.1 rfl (lv_room (Nat.le_of_ble_eq_true rfl)) d_NInterval_setQuotient_1 ⟨Nat.le_of_ble_eq_true rfl, Nat.le_of_ble_eq_true rfl⟩) hS (fun r4 f5 H locs hq6 hP hD hS => ?_)
  subst hq6
  refine lv_lstore_n (lv' := [(2, .long r4), (0, .ref x), (1, .ref y)]) hx hb d_NInterval_setQuotient_4 rfl hl (by decide) rfl (fun ls hl => ?_)
  refine lv_aload_n hx hb d_NInterval_setQuotient_5 rfl (lv_at hl 1 rfl) ?_
  refine lv_lload_n hx hb d_NInterval_setQuotient_6 rfl (lv_at hl 0 rfl) ?_
  refine lv_lneg hx hb d_NInterval_setQuotient_7 ?_
  refine lv_lload_n hx hb d_NInterval_setQuotient_8 rfl (lv_at hl 0 rfl) ?_
  obtain ⟨lo_8, hi_9, e7⟩ := oc_3.of t_x (hI.1 x)
  refine pcc_v (va_runV (C := "BigRunner$Interval") (As := [.long (-r4), .long r4]) (rest := []) ⟨hx, hb, hml, hown, tb_nil⟩ (c_iset l g H.size f x ((-r4)) r4 hL t_x hI) ⟨(callB_of 2 (tb_one (wd_598 hB _)) tb_good1 rfl rfl rfl (wd_75 hB _) (wd_621 hB _) (by decide +kernel) ⟨Nat.le_of_ble_eq_true rfl, Nat.le_of_ble_eq_true rfl⟩), (wd_596 hB _), (wd_597 hB _)⟩ ⟨pe_bl, pg_recv (ci := 2) hK hP (lo_in hL t_x (by decide)) e7 rfl, pe_pre hB hK hP hD⟩ rfl rfl hl.1 rfl (lv_room (Nat.le_of_ble_eq_true rfl)) d_NInterval_setQuotient_9 ⟨Nat.le_of_ble_eq_true rfl, Nat.le_of_ble_eq_true rfl⟩) hS (fun f11 H locs hq12 hP hD hS => ?_)
  obtain ⟨hI1_13, hu1_14⟩ := hq12
  have hu := hu.tr hu1_14 (by decide)
  exact pe_vret hx hb hr hlocks hK hP hD hS d_NInterval_setQuotient_12 ⟨hI1_13, hu⟩
set_option maxHeartbeats 4000000 in
set_option maxRecDepth 100000 in
theorem c_iRes (l : Launch) (g : Lay) (sz : Nat) (f : Nat → va_E) (x : Nat) (y : Nat) (z : Nat) (hL : LO g) (t_x : g.tg x = 3) (t_y : g.tg y = 3) (t_z : g.tg z = 3) (hI : IV g f) : Met l ⟨"BigRunner$Interval", "setRest", "(LBigRunner$Interval;LBigRunner$Interval;)V"⟩ [Cond.code ⟨"BigRunner$Interval", "setRest", "(LBigRunner$Interval;LBigRunner$Interval;)V"⟩ prog_3_method_11_code 5 none] ({ frames := 3, cells := 0, slots := 0, locals := 61 }) (va_Pc [.ref x, .ref y, .ref z] (pc_in g sz f)) (va_Qv (fun f1 => (IV g f1) ∧ (un [3] g f f1)) (pc_out g sz) (pc_A g sz)) 0 0 (pc_A g sz) := by
  refine pe_ofW (cc := prog_3_method_11_code) (maxL := 5) (ret := none) (lv := [(0, .ref x), (1, .ref y), (2, .ref z)]) (by decide) (Nat.le_of_ble_eq_true rfl) rfl ?_
  intro p e s m args below meth c ls hx hb hr hml hlocks hown hB hP hK hD hsz hS hl
  subst hsz
  have hu : un [3] g f f := un.rf
  refine lv_aload_n hx hb d_NInterval_setRest_0 rfl (lv_at hl 1 rfl) ?_
  obtain ⟨lo_2, hi_3, e1⟩ := oc_3.of t_y (hI.1 y)
  refine pcc_l (va_runV (C := "BigRunner$Interval") (As := []) (rest := []) ⟨hx, hb, hml, hown, tb_nil⟩ (c_farthest l g s.heap.size f y hL t_y hI.1) ⟨(callB_of 0 (tb_one (wd_663 hB _)) tb_good1 rfl rfl rfl (wd_75 hB _) (wd_660 hB _) (by decide +kernel) ⟨Nat.le_of_ble_eq_true rfl, Nat.le_of_ble_eq_true rfl⟩), (wd_662 hB _), (wd_22 hB _)⟩ ⟨pe_bl, pg_recv (ci := 2) hK hP (lo_in hL t_y (by decide)) e1 rfl, pe_pre hB hK hP hD⟩ rfl rfl hl.1 rfl (lv_room (Nat.le_of_ble_eq_true rfl)) d_NInterval_setRest_1 ⟨Nat.le_of_ble_eq_true rfl, Nat.le_of_ble_eq_true rfl⟩) hS (fun r4 f5 H locs hq6 hP hD hS => ?_)
  subst hq6
  refine lv_lstore_n (lv' := [(3, .long r4), (0, .ref x), (1, .ref y), (2, .ref z)]) hx hb d_NInterval_setRest_4 rfl hl (by decide) rfl (fun ls hl => ?_)
  refine lv_aload_n hx hb d_NInterval_setRest_5 rfl (lv_at hl 3 rfl) ?_
  obtain ⟨lo_8, hi_9, e7⟩ := oc_3.of t_z (hI.1 z)
  refine pcc_i (va_runV (C := "BigRunner$Interval") (As := []) (rest := []) ⟨hx, hb, hml, hown, tb_nil⟩ (c_isBounded l g H.size f z hL t_z hI.1) ⟨(callB_of 0 (tb_one (wd_440 hB _)) tb_good1 rfl rfl rfl (wd_75 hB _) (wd_642 hB _) (by decide +kernel) ⟨Nat.le_of_ble_eq_true rfl, Nat.le_of_ble_eq_true rfl⟩), (wd_438 hB _), (wd_439 hB _)⟩ ⟨pe_bl, pg_recv (ci := 2) hK hP (lo_in hL t_z (by decide)) e7 rfl, pe_pre hB hK hP hD⟩ rfl rfl hl.1 rfl (lv_room (Nat.le_of_ble_eq_true rfl)) d_NInterval_setRest_6 ⟨Nat.le_of_ble_eq_true rfl, Nat.le_of_ble_eq_true rfl⟩) hS (fun r10 f11 H locs hq12 hP hD hS => ?_)
  obtain ⟨bo_13, rfl⟩ := hq12
  refine lv_if_eq (tgt := 27) hx hb d_NInterval_setRest_9 (by decide) (fun b14 => ?_) (fun b14 => ?_)
  · skip
    have hr15 : r10 = nI 0 := b14
    refine lv_aload_n hx hb d_NInterval_setRest_27 rfl (lv_at hl 1 rfl) ?_
    refine lv_aload_n hx hb d_NInterval_setRest_28 rfl (lv_at hl 2 rfl) ?_
    refine pf_get (v := .long lo_2) (C := "BigRunner$Interval") (T := FT2) (N := 2) hx hb (hw2 hB _) (fun _ h9 => h9) hown hK hP (lo_in hL t_y (by decide)) e1 rfl 0 (by decide) (wd_126 hB _) rfl d_NInterval_setRest_29 ?_
    refine lv_lconst (v := nL 0) hx hb d_NInterval_setRest_32 (by decide) ?_
    refine W.lcmp hx hb d_NInterval_setRest_33 ?_
    refine lv_if_lt (tgt := 41) hx hb d_NInterval_setRest_34 (by decide) (fun b16 => ?_) (fun b16 => ?_)
    · skip
      replace b16 := pl_lt.mp b16
      refine lv_lload_n hx hb d_NInterval_setRest_41 rfl (lv_at hl 0 rfl) ?_
      refine lv_lneg hx hb d_NInterval_setRest_42 ?_
      refine lv_lload_n hx hb d_NInterval_setRest_43 rfl (lv_at hl 0 rfl) ?_
      obtain ⟨lo_18, hi_19, e17⟩ := oc_3.of t_x (hI.1 x)
      refine pcc_v (va_runV (C := "BigRunner$Interval") (As := [.long (-r4), .long r4]) (rest := []) ⟨hx, hb, hml, hown, tb_nil⟩ (c_iset l g H.size f x ((-r4)) r4 hL t_x hI) ⟨(callB_of 2 (tb_one (wd_598 hB _)) tb_good1 rfl rfl rfl (wd_75 hB _) (wd_621 hB _) (by decide +kernel) ⟨Nat.le_of_ble_eq_true rfl, Nat.le_of_ble_eq_true rfl⟩), (wd_596 hB _), (wd_597 hB _)⟩ ⟨pe_bl, pg_recv (ci := 2) hK hP (lo_in hL t_x (by decide)) e17 rfl, pe_pre hB hK hP hD⟩ rfl rfl hl.1 rfl (lv_room (Nat.le_of_ble_eq_true rfl)) d_NInterval_setRest_44 ⟨Nat.le_of_ble_eq_true rfl, Nat.le_of_ble_eq_true rfl⟩) hS (fun f21 H locs hq22 hP hD hS => ?_)
      obtain ⟨hI1_23, hu1_24⟩ := hq22
      have hu := hu.tr hu1_24 (by decide)
      exact pe_vret hx hb hr hlocks hK hP hD hS d_NInterval_setRest_47 ⟨hI1_23, hu⟩
    · skip
      replace b16 := mt pl_lt.mpr b16
      refine lv_lconst (v := nL 0) hx hb d_NInterval_setRest_37 (by decide) ?_
      refine lv_goto (tgt := 43) hx hb d_NInterval_setRest_38 (by decide) ?_
      refine lv_lload_n hx hb d_NInterval_setRest_43 rfl (lv_at hl 0 rfl) ?_
      obtain ⟨lo_26, hi_27, e25⟩ := oc_3.of t_x (hI.1 x)
      refine pcc_v (va_runV (C := "BigRunner$Interval") (As := [.long (nL 0), .long r4]) (rest := []) ⟨hx, hb, hml, hown, tb_nil⟩ (c_iset l g H.size f x ((nL 0)) r4 hL t_x hI) ⟨(callB_of 2 (tb_one (wd_598 hB _)) tb_good1 rfl rfl rfl (wd_75 hB _) (wd_621 hB _) (by decide +kernel) ⟨Nat.le_of_ble_eq_true rfl, Nat.le_of_ble_eq_true rfl⟩), (wd_596 hB _), (wd_597 hB _)⟩ ⟨pe_bl, pg_recv (ci := 2) hK hP (lo_in hL t_x (by decide)) e25 rfl, pe_pre hB hK hP hD⟩ rfl rfl hl.1 rfl (lv_room (Nat.le_of_ble_eq_true rfl)) d_NInterval_setRest_44 ⟨Nat.le_of_ble_eq_true rfl, Nat.le_of_ble_eq_true rfl⟩) hS (fun f29 H locs hq30 hP hD hS => ?_)
      obtain ⟨hI1_31, hu1_32⟩ := hq30
      have hu := hu.tr hu1_32 (by decide)
      exact pe_vret hx hb hr hlocks hK hP hD hS d_NInterval_setRest_47 ⟨hI1_31, hu⟩
  · skip
    have hr33 : r10 = nI 1 := (bl_1 bo_13 b14)
    refine lv_lload_n hx hb d_NInterval_setRest_12 rfl (lv_at hl 0 rfl) ?_
    refine lv_lconst (v := nL 0) hx hb d_NInterval_setRest_13 (by decide) ?_
    refine lv_aload_n hx hb d_NInterval_setRest_14 rfl (lv_at hl 3 rfl) ?_
    refine pcc_l (va_runV (C := "BigRunner$Interval") (As := []) (rest := [.long (nL 0), .long r4]) ⟨hx, hb, hml, hown, tb_nil⟩ (c_farthest l g H.size f z hL t_z hI.1) ⟨(callB_of 0 (tb_one (wd_663 hB _)) tb_good1 rfl rfl rfl (wd_75 hB _) (wd_660 hB _) (by decide +kernel) ⟨Nat.le_of_ble_eq_true rfl, Nat.le_of_ble_eq_true rfl⟩), (wd_662 hB _), (wd_22 hB _)⟩ ⟨pe_bl, pg_recv (ci := 2) hK hP (lo_in hL t_z (by decide)) e7 rfl, pe_pre hB hK hP hD⟩ rfl rfl hl.1 rfl (lv_room (Nat.le_of_ble_eq_true rfl)) d_NInterval_setRest_15 ⟨Nat.le_of_ble_eq_true rfl, Nat.le_of_ble_eq_true rfl⟩) hS (fun r34 f35 H locs hq36 hP hD hS => ?_)
    subst hq36
    refine lv_lconst (v := nL 1) hx hb d_NInterval_setRest_18 (by decide) ?_
    refine lv_lsub hx hb d_NInterval_setRest_19 ?_
    refine va_mmax_long hx hb (hml.trans hl.1.symm) hown (wd_653 hB _) (wd_654 hB _) (wd_83 hB _) (wd_655 hB _) (Nat.le_of_ble_eq_true rfl) (Nat.le_of_ble_eq_true rfl) (Nat.le_of_ble_eq_true rfl) (Nat.le_of_ble_eq_true rfl) d_NInterval_setRest_20 ?_
    refine lv_topl (fun lv37 hlv37 => ?_)
    refine va_mmin_long hx hb (hml.trans hl.1.symm) hown (wd_650 hB _) (wd_651 hB _) (wd_83 hB _) (wd_652 hB _) (Nat.le_of_ble_eq_true rfl) (Nat.le_of_ble_eq_true rfl) (Nat.le_of_ble_eq_true rfl) (Nat.le_of_ble_eq_true rfl) d_NInterval_setRest_23 ?_
    refine lv_topl (fun lv38 hlv38 => ?_)
    refine lv_lstore_n (lv' := [(3, .long lv38), (0, .ref x), (1, .ref y), (2, .ref z)]) hx hb d_NInterval_setRest_26 rfl hl (by decide) rfl (fun ls hl => ?_)
    refine lv_aload_n hx hb d_NInterval_setRest_27 rfl (lv_at hl 1 rfl) ?_
    refine lv_aload_n hx hb d_NInterval_setRest_28 rfl (lv_at hl 2 rfl) ?_
    refine pf_get (v := .long lo_2) (C := "BigRunner$Interval") (T := FT2) (N := 2) hx hb (hw2 hB _) (fun _ h9 => h9) hown hK hP (lo_in hL t_y (by decide)) e1 rfl 0 (by decide) (wd_126 hB _) rfl d_NInterval_setRest_29 ?_
    refine lv_lconst (v := nL 0) hx hb d_NInterval_setRest_32 (by decide) ?_
    refine W.lcmp hx hb d_NInterval_setRest_33 ?_
    refine lv_if_lt (tgt := 41) hx hb d_NInterval_setRest_34 (by decide) (fun b39 => ?_) (fun b39 => ?_)
    · skip
      replace b39 := pl_lt.mp b39
      refine lv_lload_n hx hb d_NInterval_setRest_41 rfl (lv_at hl 0 rfl) ?_
      refine lv_lneg hx hb d_NInterval_setRest_42 ?_
      refine lv_lload_n hx hb d_NInterval_setRest_43 rfl (lv_at hl 0 rfl) ?_
      obtain ⟨lo_41, hi_42, e40⟩ := oc_3.of t_x (hI.1 x)
      refine pcc_v (va_runV (C := "BigRunner$Interval") (As := [.long (-lv38), .long lv38]) (rest := []) ⟨hx, hb, hml, hown, tb_nil⟩ (c_iset l g H.size f x ((-lv38)) lv38 hL t_x hI) ⟨(callB_of 2 (tb_one (wd_598 hB _)) tb_good1 rfl rfl rfl (wd_75 hB _) (wd_621 hB _) (by decide +kernel) ⟨Nat.le_of_ble_eq_true rfl, Nat.le_of_ble_eq_true rfl⟩), (wd_596 hB _), (wd_597 hB _)⟩ ⟨pe_bl, pg_recv (ci := 2) hK hP (lo_in hL t_x (by decide)) e40 rfl, pe_pre hB hK hP hD⟩ rfl rfl hl.1 rfl (lv_room (Nat.le_of_ble_eq_true rfl)) d_NInterval_setRest_44 ⟨Nat.le_of_ble_eq_true rfl, Nat.le_of_ble_eq_true rfl⟩) hS (fun f44 H locs hq45 hP hD hS => ?_)
      obtain ⟨hI1_46, hu1_47⟩ := hq45
      have hu := hu.tr hu1_47 (by decide)
      exact pe_vret hx hb hr hlocks hK hP hD hS d_NInterval_setRest_47 ⟨hI1_46, hu⟩
    · skip
      replace b39 := mt pl_lt.mpr b39
      refine lv_lconst (v := nL 0) hx hb d_NInterval_setRest_37 (by decide) ?_
      refine lv_goto (tgt := 43) hx hb d_NInterval_setRest_38 (by decide) ?_
      refine lv_lload_n hx hb d_NInterval_setRest_43 rfl (lv_at hl 0 rfl) ?_
      obtain ⟨lo_49, hi_50, e48⟩ := oc_3.of t_x (hI.1 x)
      refine pcc_v (va_runV (C := "BigRunner$Interval") (As := [.long (nL 0), .long lv38]) (rest := []) ⟨hx, hb, hml, hown, tb_nil⟩ (c_iset l g H.size f x ((nL 0)) lv38 hL t_x hI) ⟨(callB_of 2 (tb_one (wd_598 hB _)) tb_good1 rfl rfl rfl (wd_75 hB _) (wd_621 hB _) (by decide +kernel) ⟨Nat.le_of_ble_eq_true rfl, Nat.le_of_ble_eq_true rfl⟩), (wd_596 hB _), (wd_597 hB _)⟩ ⟨pe_bl, pg_recv (ci := 2) hK hP (lo_in hL t_x (by decide)) e48 rfl, pe_pre hB hK hP hD⟩ rfl rfl hl.1 rfl (lv_room (Nat.le_of_ble_eq_true rfl)) d_NInterval_setRest_44 ⟨Nat.le_of_ble_eq_true rfl, Nat.le_of_ble_eq_true rfl⟩) hS (fun f52 H locs hq53 hP hD hS => ?_)
      obtain ⟨hI1_54, hu1_55⟩ := hq53
      have hu := hu.tr hu1_55 (by decide)
      exact pe_vret hx hb hr hlocks hK hP hD hS d_NInterval_setRest_47 ⟨hI1_54, hu⟩
