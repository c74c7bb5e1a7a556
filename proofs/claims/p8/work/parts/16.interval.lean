set_option maxHeartbeats 4000000 in
set_option maxRecDepth 100000 in
theorem c_append (l : Launch) (g : Lay) (sz : Nat) (f : Nat → va_E) (x : Nat) (v : Int32) (hL : LO g) (t_x : g.tg x = 2) (hI : IV g f) : Met l ⟨"BigRunner$Inputs", "append", "(I)Z"⟩ [Cond.code ⟨"BigRunner$Inputs", "append", "(I)Z"⟩ prog_2_method_2_code 2 (some .boolean)] ({ frames := 0, cells := 0, slots := 0, locals := 0 }) (va_Pc [.ref x, .int v] (pc_in g sz f)) (va_Qi (fun r f1 => (r = nI 0 ∨ r = nI 1) ∧ (IV g f1) ∧ (un [2, 21] g f f1)) (pc_out g sz) (pc_A g sz)) 0 0 (pc_A g sz) := by
  refine pe_ofW (cc := prog_2_method_2_code) (maxL := 2) (ret := (some .boolean)) (lv := [(0, .ref x), (1, .int v)]) (by decide) (Nat.le_of_ble_eq_true rfl) rfl ?_
  intro p e s m args below meth c ls hx hb hr hml hlocks hown hB hP hK hD hsz hS hl
  subst hsz
  have hu : un [2, 21] g f f := un.rf
  refine lv_iload_n hx hb d_NInputs_append_0 rfl (lv_at hl 1 rfl) ?_
  refine lv_ldc (v := (-1000000000)) hx hb hown (wd_410 hB _) d_NInputs_append_1 ?_
  refine lv_icmp_lt (tgt := 21) hx hb d_NInputs_append_3 (by decide) (fun b1 => ?_) (fun b1 => ?_)
  · skip
    refine lv_iconst (v := nI 0) hx hb d_NInputs_append_21 (by decide) ?_
    exact pe_zret hx hb hr hlocks hK hP hD hS d_NInputs_append_22 rfl ⟨(Or.inl rfl), hI, hu⟩
  · skip
    refine lv_iload_n hx hb d_NInputs_append_6 rfl (lv_at hl 1 rfl) ?_
    refine lv_ldc (v := 1000000000) hx hb hown (wd_411 hB _) d_NInputs_append_7 ?_
    refine lv_topi (fun z_ hz_ => ?_)
    obtain rfl : z_ = nI 1000000000 := hz_
    refine lv_icmp_gt (tgt := 21) hx hb d_NInputs_append_9 (by decide) (fun b2 => ?_) (fun b2 => ?_)
    · skip
      refine lv_iconst (v := nI 0) hx hb d_NInputs_append_21 (by decide) ?_
      exact pe_zret hx hb hr hlocks hK hP hD hS d_NInputs_append_22 rfl ⟨(Or.inl rfl), hI, hu⟩
    · skip
      refine lv_aload_n hx hb d_NInputs_append_12 rfl (lv_at hl 0 rfl) ?_
      obtain ⟨fi_4, wa_5, e3, c6, c7⟩ := oc_2.of t_x (hI.1 x)
      refine pf_get (v := .int (nI wa_5)) (C := "BigRunner$Inputs") (T := FT1) (N := 3) hx hb (hw1 hB _) (fun _ h9 => h9) hown hK hP (lo_in hL t_x (by decide)) e3 rfl 2 (by decide) (wd_300 hB _) rfl d_NInputs_append_13 ?_
      refine lv_bipush (v := nI 20) hx hb d_NInputs_append_16 (by decide) ?_
      refine lv_icmp_lt (tgt := 23) hx hb d_NInputs_append_18 (by decide) (fun b8 => ?_) (fun b8 => ?_)
      · skip
        replace b8 := (nI_ltI (a := wa_5) (b := 20) (by omega) (by omega)).mp b8
        refine lv_aload_n hx hb d_NInputs_append_23 rfl (lv_at hl 0 rfl) ?_
        refine pf_get (v := .ref (g.lk x 0)) (C := "BigRunner$Inputs") (T := FT1) (N := 3) hx hb (hw1 hB _) (fun _ h9 => h9) hown hK hP (lo_in hL t_x (by decide)) e3 rfl 0 (by decide) (wd_298 hB _) rfl d_NInputs_append_24 ?_
        refine lv_aload_n hx hb d_NInputs_append_27 rfl (lv_at hl 0 rfl) ?_
        refine pf_get (v := .int (nI fi_4)) (C := "BigRunner$Inputs") (T := FT1) (N := 3) hx hb (hw1 hB _) (fun _ h9 => h9) hown hK hP (lo_in hL t_x (by decide)) e3 rfl 1 (by decide) (wd_299 hB _) rfl d_NInputs_append_28 ?_
        refine lv_aload_n hx hb d_NInputs_append_31 rfl (lv_at hl 0 rfl) ?_
        refine pf_get (v := .int (nI wa_5)) (C := "BigRunner$Inputs") (T := FT1) (N := 3) hx hb (hw1 hB _) (fun _ h9 => h9) hown hK hP (lo_in hL t_x (by decide)) e3 rfl 2 (by decide) (wd_300 hB _) rfl d_NInputs_append_32 ?_
        refine pf_iaddN (x := fi_4) (y := wa_5) hx hb d_NInputs_append_35 ?_
        refine lv_bipush (v := nI 20) hx hb d_NInputs_append_36 (by decide) ?_
        refine pf_iremN (x := fi_4 + wa_5) (y := 20) hx hb (by omega) (by omega) (by omega) d_NInputs_append_38 ?_
        refine lv_iload_n hx hb d_NInputs_append_39 rfl (lv_at hl 1 rfl) ?_
        obtain ⟨h_10, e9⟩ := oc_21.of (lo_k2_0 hL _ t_x) (hI.1 (g.lk x 0))
        refine pf_iast (i := (fi_4 + wa_5) % 20) hx hb hK hP hD hS (lo_in hL (lo_k2_0 hL _ t_x) (by decide)) e9 (lo_t21 hL _ (lo_k2_0 hL _ t_x)) (by omega) (by decide) d_NInputs_append_40 (fun f12 H locs e13 k14 hP hD hS => ?_)
        have e3 := (k14 x (tg_ne t_x (lo_k2_0 hL _ t_x) (by decide))).trans e3
        have hu := hu.st k14 (lo_k2_0 hL _ t_x) (by decide)
        have hk15 : ∀ b, b ≠ (g.lk x 0) → f12 b = f b := k14
        refine lv_aload_n hx hb d_NInputs_append_41 rfl (lv_at hl 0 rfl) ?_
        refine lv_dup hx hb d_NInputs_append_42 rfl ?_
        refine pf_get (v := .int (nI wa_5)) (C := "BigRunner$Inputs") (T := FT1) (N := 3) hx hb (hw1 hB _) (fun _ h9 => h9) hown hK hP (lo_in hL t_x (by decide)) e3 rfl 2 (by decide) (wd_300 hB _) rfl d_NInputs_append_43 ?_
        refine lv_iconst (v := nI 1) hx hb d_NInputs_append_46 (by decide) ?_
        refine pf_iaddN (x := wa_5) (y := 1) hx hb d_NInputs_append_47 ?_
        have hI16 := iv_1 hI hL (lo_k2_0 hL _ t_x) (by decide) hk15 (oc_21.mk (lo_k2_0 hL _ t_x) (⟨_, e13⟩))
        refine pf_put (v := .int (nI (wa_5 + 1))) (ty := .int) (fs' := [.ref (g.lk x 0), .int (nI fi_4), .int (nI (wa_5 + 1))]) (C := "BigRunner$Inputs") (T := FT1) (N := 3) hx hb (hw1 hB _) (fun _ h9 => h9) TY1 ok1 nm1 hown hK hP hD hS (lo_in hL t_x (by decide)) e3 rfl 2 (by decide) (wd_300 hB _) rfl (by decide +kernel) rfl rfl (Nat.le_of_ble_eq_true rfl) rfl d_NInputs_append_48 (fun f17 H locs e18 k19 hP hD hS => ?_)
        have e13 := (k19 (g.lk x 0) (tg_ne (lo_k2_0 hL _ t_x) t_x (by decide))).trans e13
        have hu := hu.st k19 t_x (by decide)
        have hk20 : ∀ b, b ≠ x → f17 b = f12 b := k19
        refine lv_iconst (v := nI 1) hx hb d_NInputs_append_51 (by decide) ?_
        have hI21 := iv_1 hI16 hL t_x (by decide) hk20 (oc_2.mk t_x (⟨fi_4, (wa_5 + 1), e18, (by omega), (by omega)⟩))
        exact pe_zret hx hb hr hlocks hK hP hD hS d_NInputs_append_52 rfl ⟨(Or.inr rfl), hI21, hu⟩
      · skip
        replace b8 := mt (nI_ltI (a := wa_5) (b := 20) (by omega) (by omega)).mpr b8
        refine lv_iconst (v := nI 0) hx hb d_NInputs_append_21 (by decide) ?_
        exact pe_zret hx hb hr hlocks hK hP hD hS d_NInputs_append_22 rfl ⟨(Or.inl rfl), hI, hu⟩
set_option maxHeartbeats 4000000 in
set_option maxRecDepth 100000 in
theorem c_take (l : Launch) (g : Lay) (sz : Nat) (f : Nat → va_E) (x : Nat) (hL : LO g) (t_x : g.tg x = 2) (hI : IV g f) : Met l ⟨"BigRunner$Inputs", "take", "()I"⟩ [Cond.code ⟨"BigRunner$Inputs", "take", "()I"⟩ prog_2_method_3_code 2 (some .int)] ({ frames := 0, cells := 0, slots := 0, locals := 0 }) (va_Pc [.ref x] (pc_in g sz f)) (va_Qi (fun r f1 => (IV g f1) ∧ (un [2] g f f1)) (pc_out g sz) (pc_A g sz)) 0 0 (pc_A g sz) := by
  refine pe_ofW (cc := prog_2_method_3_code) (maxL := 2) (ret := (some .int)) (lv := [(0, .ref x)]) (by decide) (Nat.le_of_ble_eq_true rfl) rfl ?_
  intro p e s m args below meth c ls hx hb hr hml hlocks hown hB hP hK hD hsz hS hl
  subst hsz
  have hu : un [2] g f f := un.rf
  refine lv_aload_n hx hb d_NInputs_take_0 rfl (lv_at hl 0 rfl) ?_
  obtain ⟨fi_2, wa_3, e1, c4, c5⟩ := oc_2.of t_x (hI.1 x)
  refine pf_get (v := .int (nI wa_3)) (C := "BigRunner$Inputs") (T := FT1) (N := 3) hx hb (hw1 hB _) (fun _ h9 => h9) hown hK hP (lo_in hL t_x (by decide)) e1 rfl 2 (by decide) (wd_300 hB _) rfl d_NInputs_take_1 ?_
  refine lv_if_ne (tgt := 9) hx hb d_NInputs_take_4 (by decide) (fun b6 => ?_) (fun b6 => ?_)
  · skip
    replace b6 := mt (nI_eq (a := wa_3) (b := 0) (by omega) (by omega)).mpr b6
    refine lv_aload_n hx hb d_NInputs_take_9 rfl (lv_at hl 0 rfl) ?_
    refine pf_get (v := .ref (g.lk x 0)) (C := "BigRunner$Inputs") (T := FT1) (N := 3) hx hb (hw1 hB _) (fun _ h9 => h9) hown hK hP (lo_in hL t_x (by decide)) e1 rfl 0 (by decide) (wd_298 hB _) rfl d_NInputs_take_10 ?_
    refine lv_aload_n hx hb d_NInputs_take_13 rfl (lv_at hl 0 rfl) ?_
    refine pf_get (v := .int (nI fi_2)) (C := "BigRunner$Inputs") (T := FT1) (N := 3) hx hb (hw1 hB _) (fun _ h9 => h9) hown hK hP (lo_in hL t_x (by decide)) e1 rfl 1 (by decide) (wd_299 hB _) rfl d_NInputs_take_14 ?_
    obtain ⟨h_8, e7⟩ := oc_21.of (lo_k2_0 hL _ t_x) (hI.1 (g.lk x 0))
    refine pf_iald (i := fi_2) hx hb hK hP (lo_in hL (lo_k2_0 hL _ t_x) (by decide)) e7 (lo_t21 hL _ (lo_k2_0 hL _ t_x)) (by omega) (by decide) d_NInputs_take_17 ?_
    refine lv_istore_n (lv' := [(1, .int (h_8 fi_2)), (0, .ref x)]) hx hb d_NInputs_take_18 rfl hl (by decide) rfl (fun ls hl => ?_)
    refine lv_aload_n hx hb d_NInputs_take_19 rfl (lv_at hl 1 rfl) ?_
    refine lv_aload_n hx hb d_NInputs_take_20 rfl (lv_at hl 1 rfl) ?_
    refine pf_get (v := .int (nI fi_2)) (C := "BigRunner$Inputs") (T := FT1) (N := 3) hx hb (hw1 hB _) (fun _ h9 => h9) hown hK hP (lo_in hL t_x (by decide)) e1 rfl 1 (by decide) (wd_299 hB _) rfl d_NInputs_take_21 ?_
    refine lv_iconst (v := nI 1) hx hb d_NInputs_take_24 (by decide) ?_
    refine pf_iaddN (x := fi_2) (y := 1) hx hb d_NInputs_take_25 ?_
    refine lv_bipush (v := nI 20) hx hb d_NInputs_take_26 (by decide) ?_
    refine pf_iremN (x := fi_2 + 1) (y := 20) hx hb (by omega) (by omega) (by omega) d_NInputs_take_28 ?_
    refine pf_put (v := .int (nI ((fi_2 + 1) % 20))) (ty := .int) (fs' := [.ref (g.lk x 0), .int (nI ((fi_2 + 1) % 20)), .int (nI wa_3)]) (C := "BigRunner$Inputs") (T := FT1) (N := 3) hx hb (hw1 hB _) (fun _ h9 => h9) TY1 ok1 nm1 hown hK hP hD hS (lo_in hL t_x (by decide)) e1 rfl 1 (by decide) (wd_299 hB _) rfl (by decide +kernel) rfl rfl (Nat.le_of_ble_eq_true rfl) rfl d_NInputs_take_29 (fun f10 H locs e11 k12 hP hD hS => ?_)
    have e7 := (k12 (g.lk x 0) (tg_ne (lo_k2_0 hL _ t_x) t_x (by decide))).trans e7
    have hu := hu.st k12 t_x (by decide)
    have hk13 : ∀ b, b ≠ x → f10 b = f b := k12
    refine lv_aload_n hx hb d_NInputs_take_32 rfl (lv_at hl 1 rfl) ?_
    refine lv_dup hx hb d_NInputs_take_33 rfl ?_
    refine pf_get (v := .int (nI wa_3)) (C := "BigRunner$Inputs") (T := FT1) (N := 3) hx hb (hw1 hB _) (fun _ h9 => h9) hown hK hP (lo_in hL t_x (by decide)) e11 rfl 2 (by decide) (wd_300 hB _) rfl d_NInputs_take_34 ?_
    refine lv_iconst (v := nI 1) hx hb d_NInputs_take_37 (by decide) ?_
    refine pf_isubN (x := wa_3) (y := 1) hx hb (by omega) d_NInputs_take_38 ?_
    refine pf_put (v := .int (nI (wa_3 - 1))) (ty := .int) (fs' := [.ref (g.lk x 0), .int (nI ((fi_2 + 1) % 20)), .int (nI (wa_3 - 1))]) (C := "BigRunner$Inputs") (T := FT1) (N := 3) hx hb (hw1 hB _) (fun _ h9 => h9) TY1 ok1 nm1 hown hK hP hD hS (lo_in hL t_x (by decide)) e11 rfl 2 (by decide) (wd_300 hB _) rfl (by decide +kernel) rfl rfl (Nat.le_of_ble_eq_true rfl) rfl d_NInputs_take_39 (fun f14 H locs e15 k16 hP hD hS => ?_)
    have e7 := (k16 (g.lk x 0) (tg_ne (lo_k2_0 hL _ t_x) t_x (by decide))).trans e7
    have hu := hu.st k16 t_x (by decide)
    have hk17 : ∀ b, b ≠ x → f14 b = f b := fun b q0 => (k16 b q0).trans (hk13 b q0)
    refine lv_iload_n hx hb d_NInputs_take_42 rfl (lv_at hl 0 rfl) ?_
    have hI18 := iv_1 hI hL t_x (by decide) hk17 (oc_2.mk t_x (⟨((fi_2 + 1) % 20), (wa_3 - 1), e15, (by omega), (by omega)⟩))
    exact pe_iret hx hb hr hlocks hK hP hD hS d_NInputs_take_43 ⟨hI18, hu⟩
  · skip
    replace b6 := (nI_eq (a := wa_3) (b := 0) (by omega) (by omega)).mp b6
    refine lv_iconst (v := nI 0) hx hb d_NInputs_take_7 (by decide) ?_
    exact pe_iret hx hb hr hlocks hK hP hD hS d_NInputs_take_8 ⟨hI, hu⟩
set_option maxHeartbeats 4000000 in
set_option maxRecDepth 100000 in
theorem c_isUnb (l : Launch) (g : Lay) (sz : Nat) (f : Nat → va_E) (v : Int64) (hL : LO g) (hI : OC g f) : Met l ⟨"BigRunner$Interval", "isUnbounded", "(J)Z"⟩ [Cond.code ⟨"BigRunner$Interval", "isUnbounded", "(J)Z"⟩ prog_3_method_2_code 2 (some .boolean)] ({ frames := 0, cells := 0, slots := 0, locals := 0 }) (va_Pc [.long v] (pc_in g sz f)) (va_Qi (fun r f1 => (r = nI 0 ∨ r = nI 1) ∧ (f = f1)) (pc_out g sz) (pc_A g sz)) 0 0 (pc_A g sz) := by
  refine pe_ofW (cc := prog_3_method_2_code) (maxL := 2) (ret := (some .boolean)) (lv := [(0, .long v)]) (by decide) (Nat.le_of_ble_eq_true rfl) rfl ?_
  intro p e s m args below meth c ls hx hb hr hml hlocks hown hB hP hK hD hsz hS hl
  subst hsz
  refine lv_lload_n hx hb d_NInterval_isUnbounded_0 rfl (lv_at hl 0 rfl) ?_
  refine lv_ldc2 (v := (-1152921504606846976)) hx hb hown (wd_444 hB _) d_NInterval_isUnbounded_1 ?_
  refine W.lcmp hx hb d_NInterval_isUnbounded_4 ?_
  refine lv_if_lt (tgt := 16) hx hb d_NInterval_isUnbounded_5 (by decide) (fun b1 => ?_) (fun b1 => ?_)
  · skip
    replace b1 := pl_lt.mp b1
    refine lv_iconst (v := nI 1) hx hb d_NInterval_isUnbounded_16 (by decide) ?_
    refine lv_goto (tgt := 21) hx hb d_NInterval_isUnbounded_17 (by decide) ?_
    exact pe_zret hx hb hr hlocks hK hP hD hS d_NInterval_isUnbounded_21 rfl ⟨(Or.inr rfl), rfl⟩
  · skip
    replace b1 := mt pl_lt.mpr b1
    refine lv_lload_n hx hb d_NInterval_isUnbounded_8 rfl (lv_at hl 0 rfl) ?_
    refine lv_ldc2 (v := 1152921504606846976) hx hb hown (wd_445 hB _) d_NInterval_isUnbounded_9 ?_
    refine lv_topl (fun z_ hz_ => ?_)
    obtain rfl : z_ = nL 1152921504606846976 := hz_
    refine W.lcmp hx hb d_NInterval_isUnbounded_12 ?_
    refine lv_if_le (tgt := 20) hx hb d_NInterval_isUnbounded_13 (by decide) (fun b2 => ?_) (fun b2 => ?_)
    · skip
      replace b2 := pl_le.mp b2
      refine lv_iconst (v := nI 0) hx hb d_NInterval_isUnbounded_20 (by decide) ?_
      exact pe_zret hx hb hr hlocks hK hP hD hS d_NInterval_isUnbounded_21 rfl ⟨(Or.inl rfl), rfl⟩
    · skip
      replace b2 := mt pl_le.mpr b2
      refine lv_iconst (v := nI 1) hx hb d_NInterval_isUnbounded_16 (by decide) ?_
      refine lv_goto (tgt := 21) hx hb d_NInterval_isUnbounded_17 (by decide) ?_
      exact pe_zret hx hb hr hlocks hK hP hD hS d_NInterval_isUnbounded_21 rfl ⟨(Or.inr rfl), rfl⟩
set_option maxHeartbeats 4000000 in
set_option maxRecDepth 100000 in
theorem c_isBounded (l : Launch) (g : Lay) (sz : Nat) (f : Nat → va_E) (x : Nat) (hL : LO g) (t_x : g.tg x = 3) (hI : OC g f) : Met l ⟨"BigRunner$Interval", "isBounded", "()Z"⟩ [Cond.code ⟨"BigRunner$Interval", "isBounded", "()Z"⟩ prog_3_method_3_code 1 (some .boolean)] ({ frames := 1, cells := 0, slots := 0, locals := 21 }) (va_Pc [.ref x] (pc_in g sz f)) (va_Qi (fun r f1 => (r = nI 0 ∨ r = nI 1) ∧ (f = f1)) (pc_out g sz) (pc_A g sz)) 0 0 (pc_A g sz) := by
  refine pe_ofW (cc := prog_3_method_3_code) (maxL := 1) (ret := (some .boolean)) (lv := [(0, .ref x)]) (by decide) (Nat.le_of_ble_eq_true rfl) rfl ?_
  intro p e s m args below meth c ls hx hb hr hml hlocks hown hB hP hK hD hsz hS hl
  subst hsz
  refine lv_aload_n hx hb d_NInterval_isBounded_0 rfl (lv_at hl 0 rfl) ?_
  obtain ⟨lo_2, hi_3, e1⟩ := oc_3.of t_x (hI x)
  refine pf_get (v := .long lo_2) (C := "BigRunner$Interval") (T := FT2) (N := 2) hx hb (hw2 hB _) (fun _ h9 => h9) hown hK hP (lo_in hL t_x (by decide)) e1 rfl 0 (by decide) (wd_126 hB _) rfl d_NInterval_isBounded_1 ?_
  refine pcc_i (va_runS (As := [.long lo_2]) (rest := []) ⟨hx, hb, hml, hown, tb_nil⟩ (c_isUnb l g s.heap.size f lo_2 hL hI) ⟨(callB_of 1 (tb_one (wd_443 hB _)) tb_good1 rfl rfl rfl (wd_75 hB _) (wd_441 hB _) (by decide +kernel) ⟨Nat.le_of_ble_eq_true rfl, Nat.le_of_ble_eq_true rfl⟩), (wd_442 hB _)⟩ ⟨pe_bl, pe_pre hB hK hP hD⟩ rfl rfl hl.1 rfl (lv_room (Nat.le_of_ble_eq_true rfl)) d_NInterval_isBounded_4 ⟨Nat.le_of_ble_eq_true rfl, Nat.le_of_ble_eq_true rfl⟩) hS (fun r4 f5 H locs hq6 hP hD hS => ?_)
  obtain ⟨bo_7, rfl⟩ := hq6
  refine lv_if_ne (tgt := 24) hx hb d_NInterval_isBounded_7 (by decide) (fun b8 => ?_) (fun b8 => ?_)
  · skip
    have hr9 : r4 = nI 1 := (bl_1 bo_7 b8)
    refine lv_iconst (v := nI 0) hx hb d_NInterval_isBounded_24 (by decide) ?_
    exact pe_zret hx hb hr hlocks hK hP hD hS d_NInterval_isBounded_25 rfl ⟨(Or.inl rfl), rfl⟩
  · skip
    have hr10 : r4 = nI 0 := b8
    refine lv_aload_n hx hb d_NInterval_isBounded_10 rfl (lv_at hl 0 rfl) ?_
    refine pf_get (v := .long hi_3) (C := "BigRunner$Interval") (T := FT2) (N := 2) hx hb (hw2 hB _) (fun _ h9 => h9) hown hK hP (lo_in hL t_x (by decide)) e1 rfl 1 (by decide) (wd_129 hB _) rfl d_NInterval_isBounded_11 ?_
    refine pcc_i (va_runS (As := [.long hi_3]) (rest := []) ⟨hx, hb, hml, hown, tb_nil⟩ (c_isUnb l g H.size f hi_3 hL hI) ⟨(callB_of 1 (tb_one (wd_443 hB _)) tb_good1 rfl rfl rfl (wd_75 hB _) (wd_441 hB _) (by decide +kernel) ⟨Nat.le_of_ble_eq_true rfl, Nat.le_of_ble_eq_true rfl⟩), (wd_442 hB _)⟩ ⟨pe_bl, pe_pre hB hK hP hD⟩ rfl rfl hl.1 rfl (lv_room (Nat.le_of_ble_eq_true rfl)) d_NInterval_isBounded_14 ⟨Nat.le_of_ble_eq_true rfl, Nat.le_of_ble_eq_true rfl⟩) hS (fun r11 f12 H locs hq13 hP hD hS => ?_)
    obtain ⟨bo_14, rfl⟩ := hq13
    refine lv_if_ne (tgt := 24) hx hb d_NInterval_isBounded_17 (by decide) (fun b15 => ?_) (fun b15 => ?_)
    · skip
      have hr16 : r11 = nI 1 := (bl_1 bo_14 b15)
      refine lv_iconst (v := nI 0) hx hb d_NInterval_isBounded_24 (by decide) ?_
      exact pe_zret hx hb hr hlocks hK hP hD hS d_NInterval_isBounded_25 rfl ⟨(Or.inl rfl), rfl⟩
    · skip
      have hr17 : r11 = nI 0 := b15
      refine lv_iconst (v := nI 1) hx hb d_NInterval_isBounded_20 (by decide) ?_
      refine lv_goto (tgt := 25) hx hb d_NInterval_isBounded_21 (by decide) ?_
      exact pe_zret hx hb hr hlocks hK hP hD hS d_NInterval_isBounded_25 rfl ⟨(Or.inr rfl), rfl⟩
