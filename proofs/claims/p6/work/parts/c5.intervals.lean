set_option maxHeartbeats 4000000 in
set_option maxRecDepth 100000 in
theorem c2_isUnb (l : Launch) (g : Lay) (sz : Nat) (f : Nat → va_E) (v : Int64) (hL : LO g) (hI : OC g f) : Met l ⟨"BigRunner$Interval", "isUnbounded", "(J)Z"⟩ [Cond.code ⟨"BigRunner$Interval", "isUnbounded", "(J)Z"⟩ prog_3_method_2_code 2 (some .boolean)] ({ frames := 0, cells := 0, slots := 0, locals := 0 }) (va_Pc [.long v] (pc_in g sz f)) (va_Qi (fun r f1 => (r = nI 0 ∨ r = nI 1) ∧ (r = nI 0 → KU v = false) ∧ (r = nI 1 → KU v = true) ∧ (f = f1)) (pc_out g sz) (pc_A g sz)) 0 0 (pc_A g sz) := by
  refine pe_ofW (cc := prog_3_method_2_code) (maxL := 2) (ret := (some .boolean)) (lv := [(0, .long v)]) (by decide) (Nat.le_of_ble_eq_true rfl) rfl ?_
  intro p e s m args below meth c ls hx hb hr hml hlocks hown hB hP hK hD hsz hS hl
  subst hsz
  refine lv_lload_n hx hb d_NInterval_isUnbounded_0 rfl (lv_at hl 0 rfl) ?_
  refine lv_ldc2 (v := (-1152921504606846976)) hx hb hown (wd_444 hB _) d_NInterval_isUnbounded_1 ?_
  refine W.lcmp hx hb d_NInterval_isUnbounded_4 ?_
  refine lv_if_lt (tgt := 16) hx hb d_NInterval_isUnbounded_5 (by decide) (fun b1 => ?_) (fun b1 => ?_)
  · skip
    replace b1 := pl_lt.mp b1
    refine lv_iconst (v := nI 1) hx hb d_NInterval_isUnbounded_16 (by decide) ?_
    refine lv_goto (tgt := 21) hx hb d_NInterval_isUnbounded_17 (by decide) ?_
    exact pe_zret hx hb hr hlocks hK hP hD hS d_NInterval_isUnbounded_21 rfl ⟨(Or.inr rfl), (fun z9 => absurd z9 (by decide)), (fun _ => by first | (simp [KU, b1]; done) | contradiction), rfl⟩
  · skip
    replace b1 := mt pl_lt.mpr b1
    refine lv_lload_n hx hb d_NInterval_isUnbounded_8 rfl (lv_at hl 0 rfl) ?_
    refine lv_ldc2 (v := 1152921504606846976) hx hb hown (wd_445 hB _) d_NInterval_isUnbounded_9 ?_
    refine lv_topl (fun z_ hz_ => ?_)
    obtain rfl : z_ = nL 1152921504606846976 := hz_
    refine W.lcmp hx hb d_NInterval_isUnbounded_12 ?_
    refine lv_if_le (tgt := 20) hx hb d_NInterval_isUnbounded_13 (by decide) (fun b2 => ?_) (fun b2 => ?_)
    · skip
      replace b2 := pl_le.mp b2
      replace b2 := Int64.not_lt.mpr b2
      refine lv_iconst (v := nI 0) hx hb d_NInterval_isUnbounded_20 (by decide) ?_
      exact pe_zret hx hb hr hlocks hK hP hD hS d_NInterval_isUnbounded_21 rfl ⟨(Or.inl rfl), (fun _ => by first | (simp [KU, b1, b2]; done) | contradiction), (fun z9 => absurd z9 (by decide)), rfl⟩
    · skip
      replace b2 := mt pl_le.mpr b2
      replace b2 := Int64.not_le.mp b2
      refine lv_iconst (v := nI 1) hx hb d_NInterval_isUnbounded_16 (by decide) ?_
      refine lv_goto (tgt := 21) hx hb d_NInterval_isUnbounded_17 (by decide) ?_
      exact pe_zret hx hb hr hlocks hK hP hD hS d_NInterval_isUnbounded_21 rfl ⟨(Or.inr rfl), (fun z9 => absurd z9 (by decide)), (fun _ => by first | (simp [KU, b1, b2]; done) | contradiction), rfl⟩
set_option maxHeartbeats 4000000 in
set_option maxRecDepth 100000 in
theorem c2_isBounded (l : Launch) (g : Lay) (sz : Nat) (f : Nat → va_E) (x : Nat) (lo : Int64) (hi : Int64) (hL : LO g) (t_x : g.tg x = 3) (hI : OC g f) (ex : f x = .inr (2, [.long lo, .long hi])) : Met l ⟨"BigRunner$Interval", "isBounded", "()Z"⟩ [Cond.code ⟨"BigRunner$Interval", "isBounded", "()Z"⟩ prog_3_method_3_code 1 (some .boolean)] ({ frames := 1, cells := 0, slots := 0, locals := 21 }) (va_Pc [.ref x] (pc_in g sz f)) (va_Qi (fun r f1 => (r = nI 0 ∨ r = nI 1) ∧ (r = nI 0 → kB lo hi = false) ∧ (r = nI 1 → kB lo hi = true) ∧ (f = f1)) (pc_out g sz) (pc_A g sz)) 0 0 (pc_A g sz) := by
  refine pe_ofW (cc := prog_3_method_3_code) (maxL := 1) (ret := (some .boolean)) (lv := [(0, .ref x)]) (by decide) (Nat.le_of_ble_eq_true rfl) rfl ?_
  intro p e s m args below meth c ls hx hb hr hml hlocks hown hB hP hK hD hsz hS hl
  subst hsz
  refine lv_aload_n hx hb d_NInterval_isBounded_0 rfl (lv_at hl 0 rfl) ?_
  refine pf_get (v := .long lo) (C := "BigRunner$Interval") (T := FT2) (N := 2) hx hb (hw2 hB _) (fun _ h9 => h9) hown hK hP (lo_in hL t_x (by decide)) ex rfl 0 (by decide) (wd_126 hB _) rfl d_NInterval_isBounded_1 ?_
  refine pcc_i (va_runS (As := [.long lo]) (rest := []) ⟨hx, hb, hml, hown, tb_nil⟩ (c2_isUnb l g s.heap.size f lo hL hI) ⟨(callB_of 1 (tb_one (wd_443 hB _)) tb_good1 rfl rfl rfl (wd_75 hB _) (wd_441 hB _) (by decide +kernel) ⟨Nat.le_of_ble_eq_true rfl, Nat.le_of_ble_eq_true rfl⟩), (wd_442 hB _)⟩ ⟨pe_bl, pe_pre hB hK hP hD⟩ rfl rfl hl.1 rfl (lv_room (Nat.le_of_ble_eq_true rfl)) d_NInterval_isBounded_4 ⟨Nat.le_of_ble_eq_true rfl, Nat.le_of_ble_eq_true rfl⟩) hS (fun r1 f2 H locs hq3 hP hD hS => ?_)
  obtain ⟨bo_4, i0_5, i1_6, rfl⟩ := hq3
  refine lv_if_ne (tgt := 24) hx hb d_NInterval_isBounded_7 (by decide) (fun b7 => ?_) (fun b7 => ?_)
  · skip
    have hr8 : r1 = nI 1 := (bl_1 bo_4 b7)
    have hi9 := i1_6 hr8
    refine lv_iconst (v := nI 0) hx hb d_NInterval_isBounded_24 (by decide) ?_
    exact pe_zret hx hb hr hlocks hK hP hD hS d_NInterval_isBounded_25 rfl ⟨(Or.inl rfl), (fun _ => by first | (simp [kB, b7, hi9]; done) | contradiction), (fun z9 => absurd z9 (by decide)), rfl⟩
  · skip
    have hr10 : r1 = nI 0 := b7
    have hi11 := i0_5 hr10
    refine lv_aload_n hx hb d_NInterval_isBounded_10 rfl (lv_at hl 0 rfl) ?_
    refine pf_get (v := .long hi) (C := "BigRunner$Interval") (T := FT2) (N := 2) hx hb (hw2 hB _) (fun _ h9 => h9) hown hK hP (lo_in hL t_x (by decide)) ex rfl 1 (by decide) (wd_129 hB _) rfl d_NInterval_isBounded_11 ?_
    refine pcc_i (va_runS (As := [.long hi]) (rest := []) ⟨hx, hb, hml, hown, tb_nil⟩ (c2_isUnb l g H.size f hi hL hI) ⟨(callB_of 1 (tb_one (wd_443 hB _)) tb_good1 rfl rfl rfl (wd_75 hB _) (wd_441 hB _) (by decide +kernel) ⟨Nat.le_of_ble_eq_true rfl, Nat.le_of_ble_eq_true rfl⟩), (wd_442 hB _)⟩ ⟨pe_bl, pe_pre hB hK hP hD⟩ rfl rfl hl.1 rfl (lv_room (Nat.le_of_ble_eq_true rfl)) d_NInterval_isBounded_14 ⟨Nat.le_of_ble_eq_true rfl, Nat.le_of_ble_eq_true rfl⟩) hS (fun r12 f13 H locs hq14 hP hD hS => ?_)
    obtain ⟨bo_15, i0_16, i1_17, rfl⟩ := hq14
    refine lv_if_ne (tgt := 24) hx hb d_NInterval_isBounded_17 (by decide) (fun b18 => ?_) (fun b18 => ?_)
    · skip
      have hr19 : r12 = nI 1 := (bl_1 bo_15 b18)
      have hi20 := i1_17 hr19
      refine lv_iconst (v := nI 0) hx hb d_NInterval_isBounded_24 (by decide) ?_
      exact pe_zret hx hb hr hlocks hK hP hD hS d_NInterval_isBounded_25 rfl ⟨(Or.inl rfl), (fun _ => by first | (simp [kB, b7, hi11, b18, hi20]; done) | contradiction), (fun z9 => absurd z9 (by decide)), rfl⟩
    · skip
      have hr21 : r12 = nI 0 := b18
      have hi22 := i0_16 hr21
      refine lv_iconst (v := nI 1) hx hb d_NInterval_isBounded_20 (by decide) ?_
      refine lv_goto (tgt := 25) hx hb d_NInterval_isBounded_21 (by decide) ?_
      exact pe_zret hx hb hr hlocks hK hP hD hS d_NInterval_isBounded_25 rfl ⟨(Or.inr rfl), (fun z9 => absurd z9 (by decide)), (fun _ => by first | (simp [kB, b7, hi11, b18, hi22]; done) | contradiction), rfl⟩
set_option maxHeartbeats 4000000 in
set_option maxRecDepth 100000 in
theorem c2_iset (l : Launch) (g : Lay) (sz : Nat) (f : Nat → va_E) (x : Nat) (u : Int64) (v : Int64) (hL : LO g) (t_x : g.tg x = 3) (hI : IV g f) : Met l ⟨"BigRunner$Interval", "set", "(JJ)V"⟩ [Cond.code ⟨"BigRunner$Interval", "set", "(JJ)V"⟩ prog_3_method_4_code 5 none] ({ frames := 1, cells := 0, slots := 0, locals := 21 }) (va_Pc [.ref x, .long u, .long v] (pc_in g sz f)) (va_Qv (fun f1 => (f1 x = .inr (2, [.long (kL u), .long (kH v)])) ∧ (IV g f1) ∧ (∀ b, b ≠ x → f1 b = f b)) (pc_out g sz) (pc_A g sz)) 0 0 (pc_A g sz) := by
  refine pe_ofW (cc := prog_3_method_4_code) (maxL := 5) (ret := none) (lv := [(0, .ref x), (1, .long u), (3, .long v)]) (by decide) (Nat.le_of_ble_eq_true rfl) rfl ?_
  intro p e s m args below meth c ls hx hb hr hml hlocks hown hB hP hK hD hsz hS hl
  subst hsz
  have hu : ∀ b, b ≠ x → f b = f b := fun _ _ => rfl
  refine lv_aload_n hx hb d_NInterval_set_0 rfl (lv_at hl 0 rfl) ?_
  refine lv_lload_n hx hb d_NInterval_set_1 rfl (lv_at hl 1 rfl) ?_
  refine pcc_i (va_runS (As := [.long u]) (rest := [.ref x]) ⟨hx, hb, hml, hown, tb_nil⟩ (c2_isUnb l g s.heap.size f u hL hI.1) ⟨(callB_of 1 (tb_one (wd_443 hB _)) tb_good1 rfl rfl rfl (wd_75 hB _) (wd_441 hB _) (by decide +kernel) ⟨Nat.le_of_ble_eq_true rfl, Nat.le_of_ble_eq_true rfl⟩), (wd_442 hB _)⟩ ⟨pe_bl, pe_pre hB hK hP hD⟩ rfl rfl hl.1 rfl (lv_room (Nat.le_of_ble_eq_true rfl)) d_NInterval_set_2 ⟨Nat.le_of_ble_eq_true rfl, Nat.le_of_ble_eq_true rfl⟩) hS (fun r1 f2 H locs hq3 hP hD hS => ?_)
  obtain ⟨bo_4, i0_5, i1_6, rfl⟩ := hq3
  refine lv_if_eq (tgt := 14) hx hb d_NInterval_set_5 (by decide) (fun b7 => ?_) (fun b7 => ?_)
  · skip
    have hr8 : r1 = nI 0 := b7
    have hi9 := i0_5 hr8
    refine lv_lload_n hx hb d_NInterval_set_14 rfl (lv_at hl 1 rfl) ?_
    obtain ⟨lo_11, hi_12, e10⟩ := oc_3.of t_x (hI.1 x)
    refine pf_put (v := .long u) (ty := .long) (fs' := [.long u, .long hi_12]) (C := "BigRunner$Interval") (T := FT2) (N := 2) hx hb (hw2 hB _) (fun _ h9 => h9) TY2 ok2 nm2 hown hK hP hD hS (lo_in hL t_x (by decide)) e10 rfl 0 (by decide) (wd_126 hB _) rfl (by decide +kernel) rfl rfl (Nat.le_of_ble_eq_true rfl) rfl d_NInterval_set_15 (fun f13 H locs e14 k15 hP hD hS => ?_)
    have hu : ∀ b, b ≠ x → f13 b = f b := fun b q0 => (k15 b q0).trans (hu b q0)
    have hk16 : ∀ b, b ≠ x → f13 b = f b := k15
    refine lv_aload_n hx hb d_NInterval_set_18 rfl (lv_at hl 0 rfl) ?_
    refine lv_lload_n hx hb d_NInterval_set_19 rfl (lv_at hl 2 rfl) ?_
    have hI17 := iv_1 hI hL t_x (by decide) hk16 (oc_3.mk t_x (⟨u, hi_12, e14⟩))
    refine pcc_i (va_runS (As := [.long v]) (rest := [.ref x]) ⟨hx, hb, hml, hown, tb_nil⟩ (c2_isUnb l g H.size f13 v hL hI17.1) ⟨(callB_of 1 (tb_one (wd_443 hB _)) tb_good1 rfl rfl rfl (wd_75 hB _) (wd_441 hB _) (by decide +kernel) ⟨Nat.le_of_ble_eq_true rfl, Nat.le_of_ble_eq_true rfl⟩), (wd_442 hB _)⟩ ⟨pe_bl, pe_pre hB hK hP hD⟩ rfl rfl hl.1 rfl (lv_room (Nat.le_of_ble_eq_true rfl)) d_NInterval_set_20 ⟨Nat.le_of_ble_eq_true rfl, Nat.le_of_ble_eq_true rfl⟩) hS (fun r18 f19 H locs hq20 hP hD hS => ?_)
    obtain ⟨bo_21, i0_22, i1_23, rfl⟩ := hq20
    refine lv_if_eq (tgt := 32) hx hb d_NInterval_set_23 (by decide) (fun b24 => ?_) (fun b24 => ?_)
    · skip
      have hr25 : r18 = nI 0 := b24
      have hi26 := i0_22 hr25
      refine lv_lload_n hx hb d_NInterval_set_32 rfl (lv_at hl 2 rfl) ?_
      refine pf_put (v := .long v) (ty := .long) (fs' := [.long u, .long v]) (C := "BigRunner$Interval") (T := FT2) (N := 2) hx hb (hw2 hB _) (fun _ h9 => h9) TY2 ok2 nm2 hown hK hP hD hS (lo_in hL t_x (by decide)) e14 rfl 1 (by decide) (wd_129 hB _) rfl (by decide +kernel) rfl rfl (Nat.le_of_ble_eq_true rfl) rfl d_NInterval_set_33 (fun f27 H locs e28 k29 hP hD hS => ?_)
      have hu : ∀ b, b ≠ x → f27 b = f b := fun b q0 => (k29 b q0).trans (hu b q0)
      have hk30 : ∀ b, b ≠ x → f27 b = f13 b := k29
      have hI31 := iv_1 hI17 hL t_x (by decide) hk30 (oc_3.mk t_x (⟨u, v, e28⟩))
      exact pe_vret hx hb hr hlocks hK hP hD hS d_NInterval_set_36 ⟨(e28.trans (by first | (simp [kL, kH, b7, hi9, b24, hi26]; done) | contradiction)), hI31, hu⟩
    · skip
      have hr32 : r18 = nI 1 := (bl_1 bo_21 b24)
      have hi33 := i1_23 hr32
      refine lv_ldc2 (v := 9223372036854775807) hx hb hown (wd_600 hB _) d_NInterval_set_26 ?_
      refine lv_topl (fun z_ hz_ => ?_)
      obtain rfl : z_ = nL 9223372036854775807 := hz_
      refine lv_goto (tgt := 33) hx hb d_NInterval_set_29 (by decide) ?_
      refine pf_put (v := .long (nL 9223372036854775807)) (ty := .long) (fs' := [.long u, .long (nL 9223372036854775807)]) (C := "BigRunner$Interval") (T := FT2) (N := 2) hx hb (hw2 hB _) (fun _ h9 => h9) TY2 ok2 nm2 hown hK hP hD hS (lo_in hL t_x (by decide)) e14 rfl 1 (by decide) (wd_129 hB _) rfl (by decide +kernel) rfl rfl (Nat.le_of_ble_eq_true rfl) rfl d_NInterval_set_33 (fun f34 H locs e35 k36 hP hD hS => ?_)
      have hu : ∀ b, b ≠ x → f34 b = f b := fun b q0 => (k36 b q0).trans (hu b q0)
      have hk37 : ∀ b, b ≠ x → f34 b = f13 b := k36
      have hI38 := iv_1 hI17 hL t_x (by decide) hk37 (oc_3.mk t_x (⟨u, ((nL 9223372036854775807)), e35⟩))
      exact pe_vret hx hb hr hlocks hK hP hD hS d_NInterval_set_36 ⟨(e35.trans (by first | (simp [kL, kH, b7, hi9, b24, hi33]; done) | contradiction)), hI38, hu⟩
  · skip
    have hr39 : r1 = nI 1 := (bl_1 bo_4 b7)
    have hi40 := i1_6 hr39
    refine lv_ldc2 (v := (-9223372036854775808)) hx hb hown (wd_599 hB _) d_NInterval_set_8 ?_
    refine lv_goto (tgt := 15) hx hb d_NInterval_set_11 (by decide) ?_
    obtain ⟨lo_42, hi_43, e41⟩ := oc_3.of t_x (hI.1 x)
    refine pf_put (v := .long (-9223372036854775808)) (ty := .long) (fs' := [.long (-9223372036854775808), .long hi_43]) (C := "BigRunner$Interval") (T := FT2) (N := 2) hx hb (hw2 hB _) (fun _ h9 => h9) TY2 ok2 nm2 hown hK hP hD hS (lo_in hL t_x (by decide)) e41 rfl 0 (by decide) (wd_126 hB _) rfl (by decide +kernel) rfl rfl (Nat.le_of_ble_eq_true rfl) rfl d_NInterval_set_15 (fun f44 H locs e45 k46 hP hD hS => ?_)
    have hu : ∀ b, b ≠ x → f44 b = f b := fun b q0 => (k46 b q0).trans (hu b q0)
    have hk47 : ∀ b, b ≠ x → f44 b = f b := k46
    refine lv_aload_n hx hb d_NInterval_set_18 rfl (lv_at hl 0 rfl) ?_
    refine lv_lload_n hx hb d_NInterval_set_19 rfl (lv_at hl 2 rfl) ?_
    have hI48 := iv_1 hI hL t_x (by decide) hk47 (oc_3.mk t_x (⟨((-9223372036854775808)), hi_43, e45⟩))
    refine pcc_i (va_runS (As := [.long v]) (rest := [.ref x]) ⟨hx, hb, hml, hown, tb_nil⟩ (c2_isUnb l g H.size f44 v hL hI48.1) ⟨(callB_of 1 (tb_one (wd_443 hB _)) tb_good1 rfl rfl rfl (wd_75 hB _) (wd_441 hB _) (by decide +kernel) ⟨Nat.le_of_ble_eq_true rfl, Nat.le_of_ble_eq_true rfl⟩), (wd_442 hB _)⟩ ⟨pe_bl, pe_pre hB hK hP hD⟩ rfl rfl hl.1 rfl (lv_room (Nat.le_of_ble_eq_true rfl)) d_NInterval_set_20 ⟨Nat.le_of_ble_eq_true rfl, Nat.le_of_ble_eq_true rfl⟩) hS (fun r49 f50 H locs hq51 hP hD hS => ?_)
    obtain ⟨bo_52, i0_53, i1_54, rfl⟩ := hq51
    refine lv_if_eq (tgt := 32) hx hb d_NInterval_set_23 (by decide) (fun b55 => ?_) (fun b55 => ?_)
    · skip
      have hr56 : r49 = nI 0 := b55
      have hi57 := i0_53 hr56
      refine lv_lload_n hx hb d_NInterval_set_32 rfl (lv_at hl 2 rfl) ?_
      refine pf_put (v := .long v) (ty := .long) (fs' := [.long (-9223372036854775808), .long v]) (C := "BigRunner$Interval") (T := FT2) (N := 2) hx hb (hw2 hB _) (fun _ h9 => h9) TY2 ok2 nm2 hown hK hP hD hS (lo_in hL t_x (by decide)) e45 rfl 1 (by decide) (wd_129 hB _) rfl (by decide +kernel) rfl rfl (Nat.le_of_ble_eq_true rfl) rfl d_NInterval_set_33 (fun f58 H locs e59 k60 hP hD hS => ?_)
      have hu : ∀ b, b ≠ x → f58 b = f b := fun b q0 => (k60 b q0).trans (hu b q0)
      have hk61 : ∀ b, b ≠ x → f58 b = f44 b := k60
      have hI62 := iv_1 hI48 hL t_x (by decide) hk61 (oc_3.mk t_x (⟨((-9223372036854775808)), v, e59⟩))
      exact pe_vret hx hb hr hlocks hK hP hD hS d_NInterval_set_36 ⟨(e59.trans (by first | (simp [kL, kH, b7, hi40, b55, hi57]; done) | contradiction)), hI62, hu⟩
    · skip
      have hr63 : r49 = nI 1 := (bl_1 bo_52 b55)
      have hi64 := i1_54 hr63
      refine lv_ldc2 (v := 9223372036854775807) hx hb hown (wd_600 hB _) d_NInterval_set_26 ?_
      refine lv_topl (fun z_ hz_ => ?_)
      obtain rfl : z_ = nL 9223372036854775807 := hz_
      refine lv_goto (tgt := 33) hx hb d_NInterval_set_29 (by decide) ?_
      refine pf_put (v := .long (nL 9223372036854775807)) (ty := .long) (fs' := [.long (-9223372036854775808), .long (nL 9223372036854775807)]) (C := "BigRunner$Interval") (T := FT2) (N := 2) hx hb (hw2 hB _) (fun _ h9 => h9) TY2 ok2 nm2 hown hK hP hD hS (lo_in hL t_x (by decide)) e45 rfl 1 (by decide) (wd_129 hB _) rfl (by decide +kernel) rfl rfl (Nat.le_of_ble_eq_true rfl) rfl d_NInterval_set_33 (fun f65 H locs e66 k67 hP hD hS => ?_)
      have hu : ∀ b, b ≠ x → f65 b = f b := fun b q0 => (k67 b q0).trans (hu b q0)
      have hk68 : ∀ b, b ≠ x → f65 b = f44 b := k67
      have hI69 := iv_1 hI48 hL t_x (by decide) hk68 (oc_3.mk t_x (⟨((-9223372036854775808)), ((nL 9223372036854775807)), e66⟩))
      exact pe_vret hx hb hr hlocks hK hP hD hS d_NInterval_set_36 ⟨(e66.trans (by first | (simp [kL, kH, b7, hi40, b55, hi64]; done) | contradiction)), hI69, hu⟩
set_option maxHeartbeats 4000000 in
set_option maxRecDepth 100000 in
theorem c2_join (l : Launch) (g : Lay) (sz : Nat) (f : Nat → va_E) (x : Nat) (y : Nat) (wd : Int32) (lo : Int64) (hi : Int64) (ol : Int64) (oh : Int64) (hL : LO g) (t_x : g.tg x = 3) (t_y : g.tg y = 3) (hI : IV g f) (ex : f x = .inr (2, [.long lo, .long hi])) (ey : f y = .inr (2, [.long ol, .long oh])) (hne : y ≠ x) : Met l ⟨"BigRunner$Interval", "join", "(LBigRunner$Interval;Z)Z"⟩ [Cond.code ⟨"BigRunner$Interval", "join", "(LBigRunner$Interval;Z)Z"⟩ prog_3_method_5_code 4 (some .boolean)] ({ frames := 0, cells := 0, slots := 0, locals := 0 }) (va_Pc [.ref x, .ref y, .int wd] (pc_in g sz f)) (va_Qi (fun r f1 => (r = bI (decide (ol < lo) || decide (hi < oh))) ∧ (f1 x = .inr (2, [.long (kJL wd lo ol), .long (kJH wd hi oh)])) ∧ (IV g f1) ∧ (∀ b, b ≠ x → f1 b = f b)) (pc_out g sz) (pc_A g sz)) 0 0 (pc_A g sz) := by
  refine pe_ofW (cc := prog_3_method_5_code) (maxL := 4) (ret := (some .boolean)) (lv := [(0, .ref x), (1, .ref y), (2, .int wd)]) (by decide) (Nat.le_of_ble_eq_true rfl) rfl ?_
  intro p e s m args below meth c ls hx hb hr hml hlocks hown hB hP hK hD hsz hS hl
  subst hsz
  have hu : ∀ b, b ≠ x → f b = f b := fun _ _ => rfl
  refine lv_iconst (v := nI 0) hx hb d_NInterval_join_0 (by decide) ?_
  refine lv_istore_n (lv' := [(3, .int (nI 0)), (0, .ref x), (1, .ref y), (2, .int wd)]) hx hb d_NInterval_join_1 rfl hl (by decide) rfl (fun ls hl => ?_)
  refine lv_aload_n hx hb d_NInterval_join_2 rfl (lv_at hl 2 rfl) ?_
  refine pf_get (v := .long ol) (C := "BigRunner$Interval") (T := FT2) (N := 2) hx hb (hw2 hB _) (fun _ h9 => h9) hown hK hP (lo_in hL t_y (by decide)) ey rfl 0 (by decide) (wd_126 hB _) rfl d_NInterval_join_3 ?_
  refine lv_aload_n hx hb d_NInterval_join_6 rfl (lv_at hl 1 rfl) ?_
  refine pf_get (v := .long lo) (C := "BigRunner$Interval") (T := FT2) (N := 2) hx hb (hw2 hB _) (fun _ h9 => h9) hown hK hP (lo_in hL t_x (by decide)) ex rfl 0 (by decide) (wd_126 hB _) rfl d_NInterval_join_7 ?_
  refine W.lcmp hx hb d_NInterval_join_10 ?_
  refine lv_if_ge (tgt := 34) hx hb d_NInterval_join_11 (by decide) (fun b1 => ?_) (fun b1 => ?_)
  · skip
    replace b1 := pl_ge.mp b1
    replace b1 := Int64.not_lt.mpr b1
    refine lv_aload_n hx hb d_NInterval_join_34 rfl (lv_at hl 2 rfl) ?_
    refine pf_get (v := .long oh) (C := "BigRunner$Interval") (T := FT2) (N := 2) hx hb (hw2 hB _) (fun _ h9 => h9) hown hK hP (lo_in hL t_y (by decide)) ey rfl 1 (by decide) (wd_129 hB _) rfl d_NInterval_join_35 ?_
    refine lv_aload_n hx hb d_NInterval_join_38 rfl (lv_at hl 1 rfl) ?_
    refine pf_get (v := .long hi) (C := "BigRunner$Interval") (T := FT2) (N := 2) hx hb (hw2 hB _) (fun _ h9 => h9) hown hK hP (lo_in hL t_x (by decide)) ex rfl 1 (by decide) (wd_129 hB _) rfl d_NInterval_join_39 ?_
    refine W.lcmp hx hb d_NInterval_join_42 ?_
    refine lv_if_le (tgt := 66) hx hb d_NInterval_join_43 (by decide) (fun b2 => ?_) (fun b2 => ?_)
    · skip
      replace b2 := pl_le.mp b2
      replace b2 := Int64.not_lt.mpr b2
      refine lv_iload_n hx hb d_NInterval_join_66 rfl (lv_at hl 0 rfl) ?_
      exact pe_zret hx hb hr hlocks hK hP hD hS d_NInterval_join_67 rfl ⟨(by first | (simp [bI, b1, b2]; done) | contradiction), (ex.trans (by first | (simp [kJL, kJH, b1, b2]; done) | contradiction)), hI, hu⟩
    · skip
      replace b2 := mt pl_le.mpr b2
      replace b2 := Int64.not_le.mp b2
      refine lv_aload_n hx hb d_NInterval_join_46 rfl (lv_at hl 1 rfl) ?_
      refine lv_iload_n hx hb d_NInterval_join_47 rfl (lv_at hl 3 rfl) ?_
      refine lv_if_eq (tgt := 57) hx hb d_NInterval_join_48 (by decide) (fun b3 => ?_) (fun b3 => ?_)
      · skip
        replace b3 : wd = nI 0 := b3
        refine lv_aload_n hx hb d_NInterval_join_57 rfl (lv_at hl 2 rfl) ?_
        refine pf_get (v := .long oh) (C := "BigRunner$Interval") (T := FT2) (N := 2) hx hb (hw2 hB _) (fun _ h9 => h9) hown hK hP (lo_in hL t_y (by decide)) ey rfl 1 (by decide) (wd_129 hB _) rfl d_NInterval_join_58 ?_
        refine pf_put (v := .long oh) (ty := .long) (fs' := [.long lo, .long oh]) (C := "BigRunner$Interval") (T := FT2) (N := 2) hx hb (hw2 hB _) (fun _ h9 => h9) TY2 ok2 nm2 hown hK hP hD hS (lo_in hL t_x (by decide)) ex rfl 1 (by decide) (wd_129 hB _) rfl (by decide +kernel) rfl rfl (Nat.le_of_ble_eq_true rfl) rfl d_NInterval_join_61 (fun f4 H locs e5 k6 hP hD hS => ?_)
        have ey := (k6 y hne).trans ey
        have hu : ∀ b, b ≠ x → f4 b = f b := fun b q0 => (k6 b q0).trans (hu b q0)
        have hk7 : ∀ b, b ≠ x → f4 b = f b := k6
        refine lv_iconst (v := nI 1) hx hb d_NInterval_join_64 (by decide) ?_
        refine lv_istore_n (lv' := [(3, .int (nI 1)), (0, .ref x), (1, .ref y), (2, .int wd)]) hx hb d_NInterval_join_65 rfl hl (by decide) rfl (fun ls hl => ?_)
        refine lv_iload_n hx hb d_NInterval_join_66 rfl (lv_at hl 0 rfl) ?_
        have hI8 := iv_1 hI hL t_x (by decide) hk7 (oc_3.mk t_x (⟨lo, oh, e5⟩))
        exact pe_zret hx hb hr hlocks hK hP hD hS d_NInterval_join_67 rfl ⟨(by first | (simp [bI, b1, b2, b3]; done) | contradiction), (e5.trans (by first | (simp [kJL, kJH, b1, b2, b3]; done) | contradiction)), hI8, hu⟩
      · skip
        replace b3 : ¬ wd = nI 0 := b3
        refine lv_ldc2 (v := 9223372036854775807) hx hb hown (wd_600 hB _) d_NInterval_join_51 ?_
        refine lv_topl (fun z_ hz_ => ?_)
        obtain rfl : z_ = nL 9223372036854775807 := hz_
        refine lv_goto (tgt := 61) hx hb d_NInterval_join_54 (by decide) ?_
        refine pf_put (v := .long (nL 9223372036854775807)) (ty := .long) (fs' := [.long lo, .long (nL 9223372036854775807)]) (C := "BigRunner$Interval") (T := FT2) (N := 2) hx hb (hw2 hB _) (fun _ h9 => h9) TY2 ok2 nm2 hown hK hP hD hS (lo_in hL t_x (by decide)) ex rfl 1 (by decide) (wd_129 hB _) rfl (by decide +kernel) rfl rfl (Nat.le_of_ble_eq_true rfl) rfl d_NInterval_join_61 (fun f9 H locs e10 k11 hP hD hS => ?_)
        have ey := (k11 y hne).trans ey
        have hu : ∀ b, b ≠ x → f9 b = f b := fun b q0 => (k11 b q0).trans (hu b q0)
        have hk12 : ∀ b, b ≠ x → f9 b = f b := k11
        refine lv_iconst (v := nI 1) hx hb d_NInterval_join_64 (by decide) ?_
        refine lv_istore_n (lv' := [(3, .int (nI 1)), (0, .ref x), (1, .ref y), (2, .int wd)]) hx hb d_NInterval_join_65 rfl hl (by decide) rfl (fun ls hl => ?_)
        refine lv_iload_n hx hb d_NInterval_join_66 rfl (lv_at hl 0 rfl) ?_
        have hI13 := iv_1 hI hL t_x (by decide) hk12 (oc_3.mk t_x (⟨lo, ((nL 9223372036854775807)), e10⟩))
        exact pe_zret hx hb hr hlocks hK hP hD hS d_NInterval_join_67 rfl ⟨(by first | (simp [bI, b1, b2, b3]; done) | contradiction), (e10.trans (by first | (simp [kJL, kJH, b1, b2, b3]; done) | contradiction)), hI13, hu⟩
  · skip
    replace b1 := mt pl_ge.mpr b1
    replace b1 := Int64.not_le.mp b1
    refine lv_aload_n hx hb d_NInterval_join_14 rfl (lv_at hl 1 rfl) ?_
    refine lv_iload_n hx hb d_NInterval_join_15 rfl (lv_at hl 3 rfl) ?_
    refine lv_if_eq (tgt := 25) hx hb d_NInterval_join_16 (by decide) (fun b14 => ?_) (fun b14 => ?_)
    · skip
      replace b14 : wd = nI 0 := b14
      refine lv_aload_n hx hb d_NInterval_join_25 rfl (lv_at hl 2 rfl) ?_
      refine pf_get (v := .long ol) (C := "BigRunner$Interval") (T := FT2) (N := 2) hx hb (hw2 hB _) (fun _ h9 => h9) hown hK hP (lo_in hL t_y (by decide)) ey rfl 0 (by decide) (wd_126 hB _) rfl d_NInterval_join_26 ?_
      refine pf_put (v := .long ol) (ty := .long) (fs' := [.long ol, .long hi]) (C := "BigRunner$Interval") (T := FT2) (N := 2) hx hb (hw2 hB _) (fun _ h9 => h9) TY2 ok2 nm2 hown hK hP hD hS (lo_in hL t_x (by decide)) ex rfl 0 (by decide) (wd_126 hB _) rfl (by decide +kernel) rfl rfl (Nat.le_of_ble_eq_true rfl) rfl d_NInterval_join_29 (fun f15 H locs e16 k17 hP hD hS => ?_)
      have ey := (k17 y hne).trans ey
      have hu : ∀ b, b ≠ x → f15 b = f b := fun b q0 => (k17 b q0).trans (hu b q0)
      have hk18 : ∀ b, b ≠ x → f15 b = f b := k17
      refine lv_iconst (v := nI 1) hx hb d_NInterval_join_32 (by decide) ?_
      refine lv_istore_n (lv' := [(3, .int (nI 1)), (0, .ref x), (1, .ref y), (2, .int wd)]) hx hb d_NInterval_join_33 rfl hl (by decide) rfl (fun ls hl => ?_)
      refine lv_aload_n hx hb d_NInterval_join_34 rfl (lv_at hl 2 rfl) ?_
      refine pf_get (v := .long oh) (C := "BigRunner$Interval") (T := FT2) (N := 2) hx hb (hw2 hB _) (fun _ h9 => h9) hown hK hP (lo_in hL t_y (by decide)) ey rfl 1 (by decide) (wd_129 hB _) rfl d_NInterval_join_35 ?_
      refine lv_aload_n hx hb d_NInterval_join_38 rfl (lv_at hl 1 rfl) ?_
      refine pf_get (v := .long hi) (C := "BigRunner$Interval") (T := FT2) (N := 2) hx hb (hw2 hB _) (fun _ h9 => h9) hown hK hP (lo_in hL t_x (by decide)) e16 rfl 1 (by decide) (wd_129 hB _) rfl d_NInterval_join_39 ?_
      refine W.lcmp hx hb d_NInterval_join_42 ?_
      refine lv_if_le (tgt := 66) hx hb d_NInterval_join_43 (by decide) (fun b19 => ?_) (fun b19 => ?_)
      · skip
        replace b19 := pl_le.mp b19
        replace b19 := Int64.not_lt.mpr b19
        refine lv_iload_n hx hb d_NInterval_join_66 rfl (lv_at hl 0 rfl) ?_
        have hI20 := iv_1 hI hL t_x (by decide) hk18 (oc_3.mk t_x (⟨ol, hi, e16⟩))
        exact pe_zret hx hb hr hlocks hK hP hD hS d_NInterval_join_67 rfl ⟨(by first | (simp [bI, b1, b14, b19]; done) | contradiction), (e16.trans (by first | (simp [kJL, kJH, b1, b14, b19]; done) | contradiction)), hI20, hu⟩
      · skip
        replace b19 := mt pl_le.mpr b19
        replace b19 := Int64.not_le.mp b19
        refine lv_aload_n hx hb d_NInterval_join_46 rfl (lv_at hl 1 rfl) ?_
        refine lv_iload_n hx hb d_NInterval_join_47 rfl (lv_at hl 3 rfl) ?_
        refine lv_if_eq (tgt := 57) hx hb d_NInterval_join_48 (by decide) (fun b21 => ?_) (fun b21 => ?_)
        · skip
          replace b21 : wd = nI 0 := b21
          refine lv_aload_n hx hb d_NInterval_join_57 rfl (lv_at hl 2 rfl) ?_
          refine pf_get (v := .long oh) (C := "BigRunner$Interval") (T := FT2) (N := 2) hx hb (hw2 hB _) (fun _ h9 => h9) hown hK hP (lo_in hL t_y (by decide)) ey rfl 1 (by decide) (wd_129 hB _) rfl d_NInterval_join_58 ?_
          refine pf_put (v := .long oh) (ty := .long) (fs' := [.long ol, .long oh]) (C := "BigRunner$Interval") (T := FT2) (N := 2) hx hb (hw2 hB _) (fun _ h9 => h9) TY2 ok2 nm2 hown hK hP hD hS (lo_in hL t_x (by decide)) e16 rfl 1 (by decide) (wd_129 hB _) rfl (by decide +kernel) rfl rfl (Nat.le_of_ble_eq_true rfl) rfl d_NInterval_join_61 (fun f22 H locs e23 k24 hP hD hS => ?_)
          have ey := (k24 y hne).trans ey
          have hu : ∀ b, b ≠ x → f22 b = f b := fun b q0 => (k24 b q0).trans (hu b q0)
          have hk25 : ∀ b, b ≠ x → f22 b = f b := fun b q0 => (k24 b q0).trans (hk18 b q0)
          refine lv_iconst (v := nI 1) hx hb d_NInterval_join_64 (by decide) ?_
          refine lv_istore_n (lv' := [(3, .int (nI 1)), (0, .ref x), (1, .ref y), (2, .int wd)]) hx hb d_NInterval_join_65 rfl hl (by decide) rfl (fun ls hl => ?_)
          refine lv_iload_n hx hb d_NInterval_join_66 rfl (lv_at hl 0 rfl) ?_
          have hI26 := iv_1 hI hL t_x (by decide) hk25 (oc_3.mk t_x (⟨ol, oh, e23⟩))
          exact pe_zret hx hb hr hlocks hK hP hD hS d_NInterval_join_67 rfl ⟨(by first | (simp [bI, b1, b14, b19, b21]; done) | contradiction), (e23.trans (by first | (simp [kJL, kJH, b1, b14, b19, b21]; done) | contradiction)), hI26, hu⟩
        · skip
          replace b21 : ¬ wd = nI 0 := b21
          exact absurd b14 b21
    · skip
      replace b14 : ¬ wd = nI 0 := b14
      refine lv_ldc2 (v := (-9223372036854775808)) hx hb hown (wd_599 hB _) d_NInterval_join_19 ?_
      refine lv_goto (tgt := 29) hx hb d_NInterval_join_22 (by decide) ?_
      refine pf_put (v := .long (-9223372036854775808)) (ty := .long) (fs' := [.long (-9223372036854775808), .long hi]) (C := "BigRunner$Interval") (T := FT2) (N := 2) hx hb (hw2 hB _) (fun _ h9 => h9) TY2 ok2 nm2 hown hK hP hD hS (lo_in hL t_x (by decide)) ex rfl 0 (by decide) (wd_126 hB _) rfl (by decide +kernel) rfl rfl (Nat.le_of_ble_eq_true rfl) rfl d_NInterval_join_29 (fun f27 H locs e28 k29 hP hD hS => ?_)
      have ey := (k29 y hne).trans ey
      have hu : ∀ b, b ≠ x → f27 b = f b := fun b q0 => (k29 b q0).trans (hu b q0)
      have hk30 : ∀ b, b ≠ x → f27 b = f b := k29
      refine lv_iconst (v := nI 1) hx hb d_NInterval_join_32 (by decide) ?_
      refine lv_istore_n (lv' := [(3, .int (nI 1)), (0, .ref x), (1, .ref y), (2, .int wd)]) hx hb d_NInterval_join_33 rfl hl (by decide) rfl (fun ls hl => ?_)
      refine lv_aload_n hx hb d_NInterval_join_34 rfl (lv_at hl 2 rfl) ?_
      refine pf_get (v := .long oh) (C := "BigRunner$Interval") (T := FT2) (N := 2) hx hb (hw2 hB _) (fun _ h9 => h9) hown hK hP (lo_in hL t_y (by decide)) ey rfl 1 (by decide) (wd_129 hB _) rfl d_NInterval_join_35 ?_
      refine lv_aload_n hx hb d_NInterval_join_38 rfl (lv_at hl 1 rfl) ?_
      refine pf_get (v := .long hi) (C := "BigRunner$Interval") (T := FT2) (N := 2) hx hb (hw2 hB _) (fun _ h9 => h9) hown hK hP (lo_in hL t_x (by decide)) e28 rfl 1 (by decide) (wd_129 hB _) rfl d_NInterval_join_39 ?_
      refine W.lcmp hx hb d_NInterval_join_42 ?_
      refine lv_if_le (tgt := 66) hx hb d_NInterval_join_43 (by decide) (fun b31 => ?_) (fun b31 => ?_)
      · skip
        replace b31 := pl_le.mp b31
        replace b31 := Int64.not_lt.mpr b31
        refine lv_iload_n hx hb d_NInterval_join_66 rfl (lv_at hl 0 rfl) ?_
        have hI32 := iv_1 hI hL t_x (by decide) hk30 (oc_3.mk t_x (⟨((-9223372036854775808)), hi, e28⟩))
        exact pe_zret hx hb hr hlocks hK hP hD hS d_NInterval_join_67 rfl ⟨(by first | (simp [bI, b1, b14, b31]; done) | contradiction), (e28.trans (by first | (simp [kJL, kJH, b1, b14, b31]; done) | contradiction)), hI32, hu⟩
      · skip
        replace b31 := mt pl_le.mpr b31
        replace b31 := Int64.not_le.mp b31
        refine lv_aload_n hx hb d_NInterval_join_46 rfl (lv_at hl 1 rfl) ?_
        refine lv_iload_n hx hb d_NInterval_join_47 rfl (lv_at hl 3 rfl) ?_
        refine lv_if_eq (tgt := 57) hx hb d_NInterval_join_48 (by decide) (fun b33 => ?_) (fun b33 => ?_)
        · skip
          replace b33 : wd = nI 0 := b33
          exact absurd b33 b14
        · skip
          replace b33 : ¬ wd = nI 0 := b33
          refine lv_ldc2 (v := 9223372036854775807) hx hb hown (wd_600 hB _) d_NInterval_join_51 ?_
          refine lv_topl (fun z_ hz_ => ?_)
          obtain rfl : z_ = nL 9223372036854775807 := hz_
          refine lv_goto (tgt := 61) hx hb d_NInterval_join_54 (by decide) ?_
          refine pf_put (v := .long (nL 9223372036854775807)) (ty := .long) (fs' := [.long (-9223372036854775808), .long (nL 9223372036854775807)]) (C := "BigRunner$Interval") (T := FT2) (N := 2) hx hb (hw2 hB _) (fun _ h9 => h9) TY2 ok2 nm2 hown hK hP hD hS (lo_in hL t_x (by decide)) e28 rfl 1 (by decide) (wd_129 hB _) rfl (by decide +kernel) rfl rfl (Nat.le_of_ble_eq_true rfl) rfl d_NInterval_join_61 (fun f34 H locs e35 k36 hP hD hS => ?_)
          have ey := (k36 y hne).trans ey
          have hu : ∀ b, b ≠ x → f34 b = f b := fun b q0 => (k36 b q0).trans (hu b q0)
          have hk37 : ∀ b, b ≠ x → f34 b = f b := fun b q0 => (k36 b q0).trans (hk30 b q0)
          refine lv_iconst (v := nI 1) hx hb d_NInterval_join_64 (by decide) ?_
          refine lv_istore_n (lv' := [(3, .int (nI 1)), (0, .ref x), (1, .ref y), (2, .int wd)]) hx hb d_NInterval_join_65 rfl hl (by decide) rfl (fun ls hl => ?_)
          refine lv_iload_n hx hb d_NInterval_join_66 rfl (lv_at hl 0 rfl) ?_
          have hI38 := iv_1 hI hL t_x (by decide) hk37 (oc_3.mk t_x (⟨((-9223372036854775808)), ((nL 9223372036854775807)), e35⟩))
          exact pe_zret hx hb hr hlocks hK hP hD hS d_NInterval_join_67 rfl ⟨(by first | (simp [bI, b1, b14, b31, b33]; done) | contradiction), (e35.trans (by first | (simp [kJL, kJH, b1, b14, b31, b33]; done) | contradiction)), hI38, hu⟩
set_option maxHeartbeats 4000000 in
set_option maxRecDepth 100000 in
theorem c2_isZero (l : Launch) (g : Lay) (sz : Nat) (f : Nat → va_E) (x : Nat) (lo : Int64) (hi : Int64) (hL : LO g) (t_x : g.tg x = 3) (hI : OC g f) (ex : f x = .inr (2, [.long lo, .long hi])) : Met l ⟨"BigRunner$Interval", "isZero", "()Z"⟩ [Cond.code ⟨"BigRunner$Interval", "isZero", "()Z"⟩ prog_3_method_12_code 1 (some .boolean)] ({ frames := 0, cells := 0, slots := 0, locals := 0 }) (va_Pc [.ref x] (pc_in g sz f)) (va_Qi (fun r f1 => (r = nI 0 ∨ r = nI 1) ∧ (r = nI 0 → kZ lo hi = false) ∧ (r = nI 1 → kZ lo hi = true) ∧ (f = f1)) (pc_out g sz) (pc_A g sz)) 0 0 (pc_A g sz) := by
  refine pe_ofW (cc := prog_3_method_12_code) (maxL := 1) (ret := (some .boolean)) (lv := [(0, .ref x)]) (by decide) (Nat.le_of_ble_eq_true rfl) rfl ?_
  intro p e s m args below meth c ls hx hb hr hml hlocks hown hB hP hK hD hsz hS hl
  subst hsz
  refine lv_aload_n hx hb d_NInterval_isZero_0 rfl (lv_at hl 0 rfl) ?_
  refine pf_get (v := .long lo) (C := "BigRunner$Interval") (T := FT2) (N := 2) hx hb (hw2 hB _) (fun _ h9 => h9) hown hK hP (lo_in hL t_x (by decide)) ex rfl 0 (by decide) (wd_126 hB _) rfl d_NInterval_isZero_1 ?_
  refine lv_lconst (v := nL 0) hx hb d_NInterval_isZero_4 (by decide) ?_
  refine W.lcmp hx hb d_NInterval_isZero_5 ?_
  refine lv_if_ne (tgt := 22) hx hb d_NInterval_isZero_6 (by decide) (fun b1 => ?_) (fun b1 => ?_)
  · skip
    replace b1 := mt pl_eq.mpr b1
    refine lv_iconst (v := nI 0) hx hb d_NInterval_isZero_22 (by decide) ?_
    exact pe_zret hx hb hr hlocks hK hP hD hS d_NInterval_isZero_23 rfl ⟨(Or.inl rfl), (fun _ => by first | (simp [kZ, b1]; done) | contradiction), (fun z9 => absurd z9 (by decide)), rfl⟩
  · skip
    replace b1 := pl_eq.mp b1
    refine lv_aload_n hx hb d_NInterval_isZero_9 rfl (lv_at hl 0 rfl) ?_
    refine pf_get (v := .long hi) (C := "BigRunner$Interval") (T := FT2) (N := 2) hx hb (hw2 hB _) (fun _ h9 => h9) hown hK hP (lo_in hL t_x (by decide)) ex rfl 1 (by decide) (wd_129 hB _) rfl d_NInterval_isZero_10 ?_
    refine lv_lconst (v := nL 0) hx hb d_NInterval_isZero_13 (by decide) ?_
    refine W.lcmp hx hb d_NInterval_isZero_14 ?_
    refine lv_if_ne (tgt := 22) hx hb d_NInterval_isZero_15 (by decide) (fun b2 => ?_) (fun b2 => ?_)
    · skip
      replace b2 := mt pl_eq.mpr b2
      refine lv_iconst (v := nI 0) hx hb d_NInterval_isZero_22 (by decide) ?_
      exact pe_zret hx hb hr hlocks hK hP hD hS d_NInterval_isZero_23 rfl ⟨(Or.inl rfl), (fun _ => by first | (simp [kZ, b1, b2]; done) | contradiction), (fun z9 => absurd z9 (by decide)), rfl⟩
    · skip
      replace b2 := pl_eq.mp b2
      refine lv_iconst (v := nI 1) hx hb d_NInterval_isZero_18 (by decide) ?_
      refine lv_goto (tgt := 23) hx hb d_NInterval_isZero_19 (by decide) ?_
      exact pe_zret hx hb hr hlocks hK hP hD hS d_NInterval_isZero_23 rfl ⟨(Or.inr rfl), (fun z9 => absurd z9 (by decide)), (fun _ => by first | (simp [kZ, b1, b2]; done) | contradiction), rfl⟩
set_option maxHeartbeats 4000000 in
set_option maxRecDepth 100000 in
theorem c2_far (l : Launch) (g : Lay) (sz : Nat) (f : Nat → va_E) (x : Nat) (lo : Int64) (hi : Int64) (hL : LO g) (t_x : g.tg x = 3) (hI : OC g f) (ex : f x = .inr (2, [.long lo, .long hi])) : Met l ⟨"BigRunner$Interval", "farthest", "()J"⟩ [Cond.code ⟨"BigRunner$Interval", "farthest", "()J"⟩ prog_3_method_13_code 1 (some .long)] ({ frames := 2, cells := 0, slots := 0, locals := 41 }) (va_Pc [.ref x] (pc_in g sz f)) (va_Ql (fun r f1 => (r = kF lo hi) ∧ (f = f1)) (pc_out g sz) (pc_A g sz)) 0 0 (pc_A g sz) := by
  refine pe_ofW (cc := prog_3_method_13_code) (maxL := 1) (ret := (some .long)) (lv := [(0, .ref x)]) (by decide) (Nat.le_of_ble_eq_true rfl) rfl ?_
  intro p e s m args below meth c ls hx hb hr hml hlocks hown hB hP hK hD hsz hS hl
  subst hsz
  refine lv_aload_n hx hb d_NInterval_farthest_0 rfl (lv_at hl 0 rfl) ?_
  refine pcc_i (va_runV (C := "BigRunner$Interval") (As := []) (rest := []) ⟨hx, hb, hml, hown, tb_nil⟩ (c2_isBounded l g s.heap.size f x lo hi hL t_x hI ex) ⟨(callB_of 0 (tb_one (wd_440 hB _)) tb_good1 rfl rfl rfl (wd_75 hB _) (wd_642 hB _) (by decide +kernel) ⟨Nat.le_of_ble_eq_true rfl, Nat.le_of_ble_eq_true rfl⟩), (wd_438 hB _), (wd_439 hB _)⟩ ⟨pe_bl, pg_recv (ci := 2) hK hP (lo_in hL t_x (by decide)) ex rfl, pe_pre hB hK hP hD⟩ rfl rfl hl.1 rfl (lv_room (Nat.le_of_ble_eq_true rfl)) d_NInterval_farthest_1 ⟨Nat.le_of_ble_eq_true rfl, Nat.le_of_ble_eq_true rfl⟩) hS (fun r1 f2 H locs hq3 hP hD hS => ?_)
  obtain ⟨bo_4, i0_5, i1_6, rfl⟩ := hq3
  refine lv_if_eq (tgt := 27) hx hb d_NInterval_farthest_4 (by decide) (fun b7 => ?_) (fun b7 => ?_)
  · skip
    have hr8 : r1 = nI 0 := b7
    have hi9 := i0_5 hr8
    refine lv_ldc2 (v := 9223372036854775807) hx hb hown (wd_600 hB _) d_NInterval_farthest_27 ?_
    refine lv_topl (fun z_ hz_ => ?_)
    obtain rfl : z_ = nL 9223372036854775807 := hz_
    exact pe_lret hx hb hr hlocks hK hP hD hS d_NInterval_farthest_30 ⟨(by first | (simp [kF, b7, hi9]; done) | contradiction), rfl⟩
  · skip
    have hr10 : r1 = nI 1 := (bl_1 bo_4 b7)
    have hi11 := i1_6 hr10
    refine lv_aload_n hx hb d_NInterval_farthest_7 rfl (lv_at hl 0 rfl) ?_
    refine pf_get (v := .long lo) (C := "BigRunner$Interval") (T := FT2) (N := 2) hx hb (hw2 hB _) (fun _ h9 => h9) hown hK hP (lo_in hL t_x (by decide)) ex rfl 0 (by decide) (wd_126 hB _) rfl d_NInterval_farthest_8 ?_
    refine va_mabs_long hx hb (hml.trans hl.1.symm) hown (wd_646 hB _) (wd_647 hB _) (wd_83 hB _) (wd_648 hB _) (Nat.le_of_ble_eq_true rfl) (Nat.le_of_ble_eq_true rfl) (Nat.le_of_ble_eq_true rfl) (Nat.le_of_ble_eq_true rfl) d_NInterval_farthest_11 ?_
    refine lv_topl (fun lv12 hlv12 => ?_)
    obtain rfl : lv12 = kA lo := hlv12
    refine lv_aload_n hx hb d_NInterval_farthest_14 rfl (lv_at hl 0 rfl) ?_
    refine pf_get (v := .long hi) (C := "BigRunner$Interval") (T := FT2) (N := 2) hx hb (hw2 hB _) (fun _ h9 => h9) hown hK hP (lo_in hL t_x (by decide)) ex rfl 1 (by decide) (wd_129 hB _) rfl d_NInterval_farthest_15 ?_
    refine va_mabs_long hx hb (hml.trans hl.1.symm) hown (wd_646 hB _) (wd_647 hB _) (wd_83 hB _) (wd_648 hB _) (Nat.le_of_ble_eq_true rfl) (Nat.le_of_ble_eq_true rfl) (Nat.le_of_ble_eq_true rfl) (Nat.le_of_ble_eq_true rfl) d_NInterval_farthest_18 ?_
    refine lv_topl (fun lv13 hlv13 => ?_)
    obtain rfl : lv13 = kA hi := hlv13
    refine va_mmax_long hx hb (hml.trans hl.1.symm) hown (wd_653 hB _) (wd_654 hB _) (wd_83 hB _) (wd_655 hB _) (Nat.le_of_ble_eq_true rfl) (Nat.le_of_ble_eq_true rfl) (Nat.le_of_ble_eq_true rfl) (Nat.le_of_ble_eq_true rfl) d_NInterval_farthest_21 ?_
    refine lv_topl (fun lv14 hlv14 => ?_)
    obtain rfl : lv14 = kmax ((kA lo)) ((kA hi)) := hlv14
    refine lv_goto (tgt := 30) hx hb d_NInterval_farthest_24 (by decide) ?_
    exact pe_lret hx hb hr hlocks hK hP hD hS d_NInterval_farthest_30 ⟨(by first | (simp [kF, b7, hi11]; done) | contradiction), rfl⟩
set_option maxHeartbeats 4000000 in
set_option maxRecDepth 100000 in
theorem c2_isum (l : Launch) (g : Lay) (sz : Nat) (f : Nat → va_E) (u : Int64) (v : Int64) (hL : LO g) (hI : OC g f) : Met l ⟨"BigRunner$Interval", "sum", "(JJ)J"⟩ [Cond.code ⟨"BigRunner$Interval", "sum", "(JJ)J"⟩ prog_3_method_14_code 4 (some .long)] ({ frames := 1, cells := 0, slots := 0, locals := 21 }) (va_Pc [.long u, .long v] (pc_in g sz f)) (va_Ql (fun r f1 => (r = kS u v) ∧ (f = f1)) (pc_out g sz) (pc_A g sz)) 0 0 (pc_A g sz) := by
  refine pe_ofW (cc := prog_3_method_14_code) (maxL := 4) (ret := (some .long)) (lv := [(0, .long u), (2, .long v)]) (by decide) (Nat.le_of_ble_eq_true rfl) rfl ?_
  intro p e s m args below meth c ls hx hb hr hml hlocks hown hB hP hK hD hsz hS hl
  subst hsz
  refine lv_lload_n hx hb d_NInterval_sum_0 rfl (lv_at hl 0 rfl) ?_
  refine pcc_i (va_runS (As := [.long u]) (rest := []) ⟨hx, hb, hml, hown, tb_nil⟩ (c2_isUnb l g s.heap.size f u hL hI) ⟨(callB_of 1 (tb_one (wd_443 hB _)) tb_good1 rfl rfl rfl (wd_75 hB _) (wd_441 hB _) (by decide +kernel) ⟨Nat.le_of_ble_eq_true rfl, Nat.le_of_ble_eq_true rfl⟩), (wd_442 hB _)⟩ ⟨pe_bl, pe_pre hB hK hP hD⟩ rfl rfl hl.1 rfl (lv_room (Nat.le_of_ble_eq_true rfl)) d_NInterval_sum_1 ⟨Nat.le_of_ble_eq_true rfl, Nat.le_of_ble_eq_true rfl⟩) hS (fun r1 f2 H locs hq3 hP hD hS => ?_)
  obtain ⟨bo_4, i0_5, i1_6, rfl⟩ := hq3
  refine lv_if_ne (tgt := 14) hx hb d_NInterval_sum_4 (by decide) (fun b7 => ?_) (fun b7 => ?_)
  · skip
    have hr8 : r1 = nI 1 := (bl_1 bo_4 b7)
    have hi9 := i1_6 hr8
    refine lv_ldc2 (v := 1152921504606846977) hx hb hown (wd_629 hB _) d_NInterval_sum_14 ?_
    refine lv_topl (fun z_ hz_ => ?_)
    obtain rfl : z_ = nL 1152921504606846977 := hz_
    refine lv_goto (tgt := 23) hx hb d_NInterval_sum_17 (by decide) ?_
    exact pe_lret hx hb hr hlocks hK hP hD hS d_NInterval_sum_23 ⟨(by first | (simp [kS, b7, hi9]; done) | contradiction), rfl⟩
  · skip
    have hr10 : r1 = nI 0 := b7
    have hi11 := i0_5 hr10
    refine lv_lload_n hx hb d_NInterval_sum_7 rfl (lv_at hl 1 rfl) ?_
    refine pcc_i (va_runS (As := [.long v]) (rest := []) ⟨hx, hb, hml, hown, tb_nil⟩ (c2_isUnb l g H.size f v hL hI) ⟨(callB_of 1 (tb_one (wd_443 hB _)) tb_good1 rfl rfl rfl (wd_75 hB _) (wd_441 hB _) (by decide +kernel) ⟨Nat.le_of_ble_eq_true rfl, Nat.le_of_ble_eq_true rfl⟩), (wd_442 hB _)⟩ ⟨pe_bl, pe_pre hB hK hP hD⟩ rfl rfl hl.1 rfl (lv_room (Nat.le_of_ble_eq_true rfl)) d_NInterval_sum_8 ⟨Nat.le_of_ble_eq_true rfl, Nat.le_of_ble_eq_true rfl⟩) hS (fun r12 f13 H locs hq14 hP hD hS => ?_)
    obtain ⟨bo_15, i0_16, i1_17, rfl⟩ := hq14
    refine lv_if_eq (tgt := 20) hx hb d_NInterval_sum_11 (by decide) (fun b18 => ?_) (fun b18 => ?_)
    · skip
      have hr19 : r12 = nI 0 := b18
      have hi20 := i0_16 hr19
      refine lv_lload_n hx hb d_NInterval_sum_20 rfl (lv_at hl 0 rfl) ?_
      refine lv_lload_n hx hb d_NInterval_sum_21 rfl (lv_at hl 1 rfl) ?_
      refine lv_ladd hx hb d_NInterval_sum_22 ?_
      exact pe_lret hx hb hr hlocks hK hP hD hS d_NInterval_sum_23 ⟨(by first | (simp [kS, b7, hi11, b18, hi20]; done) | contradiction), rfl⟩
    · skip
      have hr21 : r12 = nI 1 := (bl_1 bo_15 b18)
      have hi22 := i1_17 hr21
      refine lv_ldc2 (v := 1152921504606846977) hx hb hown (wd_629 hB _) d_NInterval_sum_14 ?_
      refine lv_topl (fun z_ hz_ => ?_)
      obtain rfl : z_ = nL 1152921504606846977 := hz_
      refine lv_goto (tgt := 23) hx hb d_NInterval_sum_17 (by decide) ?_
      exact pe_lret hx hb hr hlocks hK hP hD hS d_NInterval_sum_23 ⟨(by first | (simp [kS, b7, hi11, b18, hi22]; done) | contradiction), rfl⟩
set_option maxHeartbeats 4000000 in
set_option maxRecDepth 100000 in
theorem c2_ipro (l : Launch) (g : Lay) (sz : Nat) (f : Nat → va_E) (u : Int64) (v : Int64) (hL : LO g) (hI : OC g f) : Met l ⟨"BigRunner$Interval", "product", "(JJ)J"⟩ [Cond.code ⟨"BigRunner$Interval", "product", "(JJ)J"⟩ prog_3_method_15_code 4 (some .long)] ({ frames := 1, cells := 0, slots := 0, locals := 40 }) (va_Pc [.long u, .long v] (pc_in g sz f)) (va_Ql (fun r f1 => (r = kP u v) ∧ (f = f1)) (pc_out g sz) (pc_A g sz)) 0 0 (pc_A g sz) := by
  refine pe_ofW (cc := prog_3_method_15_code) (maxL := 4) (ret := (some .long)) (lv := [(0, .long u), (2, .long v)]) (by decide) (Nat.le_of_ble_eq_true rfl) rfl ?_
  intro p e s m args below meth c ls hx hb hr hml hlocks hown hB hP hK hD hsz hS hl
  subst hsz
  refine lv_lload_n hx hb d_NInterval_product_0 rfl (lv_at hl 0 rfl) ?_
  refine lv_lconst (v := nL 0) hx hb d_NInterval_product_1 (by decide) ?_
  refine W.lcmp hx hb d_NInterval_product_2 ?_
  refine lv_if_eq (tgt := 12) hx hb d_NInterval_product_3 (by decide) (fun b1 => ?_) (fun b1 => ?_)
  · skip
    replace b1 := pl_eq.mp b1
    refine lv_lconst (v := nL 0) hx hb d_NInterval_product_12 (by decide) ?_
    exact pe_lret hx hb hr hlocks hK hP hD hS d_NInterval_product_13 ⟨(by first | (simp [kP, b1]; done) | contradiction), rfl⟩
  · skip
    replace b1 := mt pl_eq.mpr b1
    refine lv_lload_n hx hb d_NInterval_product_6 rfl (lv_at hl 1 rfl) ?_
    refine lv_lconst (v := nL 0) hx hb d_NInterval_product_7 (by decide) ?_
    refine W.lcmp hx hb d_NInterval_product_8 ?_
    refine lv_if_ne (tgt := 14) hx hb d_NInterval_product_9 (by decide) (fun b2 => ?_) (fun b2 => ?_)
    · skip
      replace b2 := mt pl_eq.mpr b2
      refine lv_lload_n hx hb d_NInterval_product_14 rfl (lv_at hl 0 rfl) ?_
      refine va_mabs_long hx hb (hml.trans hl.1.symm) hown (wd_646 hB _) (wd_647 hB _) (wd_83 hB _) (wd_648 hB _) (Nat.le_of_ble_eq_true rfl) (Nat.le_of_ble_eq_true rfl) (Nat.le_of_ble_eq_true rfl) (Nat.le_of_ble_eq_true rfl) d_NInterval_product_15 ?_
      refine lv_topl (fun lv3 hlv3 => ?_)
      obtain rfl : lv3 = kA u := hlv3
      refine lv_ldc2 (v := 1152921504606846976) hx hb hown (wd_445 hB _) d_NInterval_product_18 ?_
      refine lv_topl (fun z_ hz_ => ?_)
      obtain rfl : z_ = nL 1152921504606846976 := hz_
      refine lv_lload_n hx hb d_NInterval_product_21 rfl (lv_at hl 1 rfl) ?_
      refine va_mabs_long hx hb (hml.trans hl.1.symm) hown (wd_646 hB _) (wd_647 hB _) (wd_83 hB _) (wd_648 hB _) (Nat.le_of_ble_eq_true rfl) (Nat.le_of_ble_eq_true rfl) (Nat.le_of_ble_eq_true rfl) (Nat.le_of_ble_eq_true rfl) d_NInterval_product_22 ?_
      refine lv_topl (fun lv4 hlv4 => ?_)
      obtain rfl : lv4 = kA v := hlv4
      refine lv_ldiv hx hb d_NInterval_product_25 (ab_ne (by assumption) rfl) ?_
      refine W.lcmp hx hb d_NInterval_product_26 ?_
      refine lv_if_le (tgt := 65) hx hb d_NInterval_product_27 (by decide) (fun b5 => ?_) (fun b5 => ?_)
      · skip
        replace b5 := pl_le.mp b5
        replace b5 := Int64.not_lt.mpr b5
        refine lv_lload_n hx hb d_NInterval_product_65 rfl (lv_at hl 0 rfl) ?_
        refine lv_lload_n hx hb d_NInterval_product_66 rfl (lv_at hl 1 rfl) ?_
        refine lv_lmul hx hb d_NInterval_product_67 ?_
        exact pe_lret hx hb hr hlocks hK hP hD hS d_NInterval_product_68 ⟨(by first | (simp [kP, b1, b2, b5]; done) | contradiction), rfl⟩
      · skip
        replace b5 := mt pl_le.mpr b5
        replace b5 := Int64.not_le.mp b5
        refine lv_lload_n hx hb d_NInterval_product_30 rfl (lv_at hl 0 rfl) ?_
        refine lv_lconst (v := nL 0) hx hb d_NInterval_product_31 (by decide) ?_
        refine W.lcmp hx hb d_NInterval_product_32 ?_
        refine lv_if_ge (tgt := 40) hx hb d_NInterval_product_33 (by decide) (fun b6 => ?_) (fun b6 => ?_)
        · skip
          replace b6 := pl_ge.mp b6
          replace b6 := Int64.not_lt.mpr b6
          refine lv_iconst (v := nI 0) hx hb d_NInterval_product_40 (by decide) ?_
          refine lv_lload_n hx hb d_NInterval_product_41 rfl (lv_at hl 1 rfl) ?_
          refine lv_lconst (v := nL 0) hx hb d_NInterval_product_42 (by decide) ?_
          refine W.lcmp hx hb d_NInterval_product_43 ?_
          refine lv_if_ge (tgt := 51) hx hb d_NInterval_product_44 (by decide) (fun b7 => ?_) (fun b7 => ?_)
          · skip
            replace b7 := pl_ge.mp b7
            replace b7 := Int64.not_lt.mpr b7
            refine lv_iconst (v := nI 0) hx hb d_NInterval_product_51 (by decide) ?_
            refine lv_icmp_ne (tgt := 61) hx hb d_NInterval_product_52 (by decide) (fun b8 => ?_) (fun b8 => ?_)
            · skip
              replace b8 := mt (nI_eq (a := 0) (b := 0) (by omega) (by omega)).mpr b8
              exfalso; omega
            · skip
              replace b8 := (nI_eq (a := 0) (b := 0) (by omega) (by omega)).mp b8
              refine lv_ldc2 (v := 1152921504606846977) hx hb hown (wd_629 hB _) d_NInterval_product_55 ?_
              refine lv_topl (fun z_ hz_ => ?_)
              obtain rfl : z_ = nL 1152921504606846977 := hz_
              refine lv_goto (tgt := 64) hx hb d_NInterval_product_58 (by decide) ?_
              exact pe_lret hx hb hr hlocks hK hP hD hS d_NInterval_product_64 ⟨(by first | (simp [kP, b1, b2, b5, b6, b7, b8]; done) | contradiction), rfl⟩
          · skip
            replace b7 := mt pl_ge.mpr b7
            replace b7 := Int64.not_le.mp b7
            refine lv_iconst (v := nI 1) hx hb d_NInterval_product_47 (by decide) ?_
            refine lv_goto (tgt := 52) hx hb d_NInterval_product_48 (by decide) ?_
            refine lv_icmp_ne (tgt := 61) hx hb d_NInterval_product_52 (by decide) (fun b9 => ?_) (fun b9 => ?_)
            · skip
              replace b9 := mt (nI_eq (a := 0) (b := 1) (by omega) (by omega)).mpr b9
              refine lv_ldc2 (v := (-1152921504606846977)) hx hb hown (wd_649 hB _) d_NInterval_product_61 ?_
              exact pe_lret hx hb hr hlocks hK hP hD hS d_NInterval_product_64 ⟨(by first | (simp [kP, b1, b2, b5, b6, b7, b9]; done) | contradiction), rfl⟩
            · skip
              replace b9 := (nI_eq (a := 0) (b := 1) (by omega) (by omega)).mp b9
              exfalso; omega
        · skip
          replace b6 := mt pl_ge.mpr b6
          replace b6 := Int64.not_le.mp b6
          refine lv_iconst (v := nI 1) hx hb d_NInterval_product_36 (by decide) ?_
          refine lv_goto (tgt := 41) hx hb d_NInterval_product_37 (by decide) ?_
          refine lv_lload_n hx hb d_NInterval_product_41 rfl (lv_at hl 1 rfl) ?_
          refine lv_lconst (v := nL 0) hx hb d_NInterval_product_42 (by decide) ?_
          refine W.lcmp hx hb d_NInterval_product_43 ?_
          refine lv_if_ge (tgt := 51) hx hb d_NInterval_product_44 (by decide) (fun b10 => ?_) (fun b10 => ?_)
          · skip
            replace b10 := pl_ge.mp b10
            replace b10 := Int64.not_lt.mpr b10
            refine lv_iconst (v := nI 0) hx hb d_NInterval_product_51 (by decide) ?_
            refine lv_icmp_ne (tgt := 61) hx hb d_NInterval_product_52 (by decide) (fun b11 => ?_) (fun b11 => ?_)
            · skip
              replace b11 := mt (nI_eq (a := 1) (b := 0) (by omega) (by omega)).mpr b11
              refine lv_ldc2 (v := (-1152921504606846977)) hx hb hown (wd_649 hB _) d_NInterval_product_61 ?_
              exact pe_lret hx hb hr hlocks hK hP hD hS d_NInterval_product_64 ⟨(by first | (simp [kP, b1, b2, b5, b6, b10, b11]; done) | contradiction), rfl⟩
            · skip
              replace b11 := (nI_eq (a := 1) (b := 0) (by omega) (by omega)).mp b11
              exfalso; omega
          · skip
            replace b10 := mt pl_ge.mpr b10
            replace b10 := Int64.not_le.mp b10
            refine lv_iconst (v := nI 1) hx hb d_NInterval_product_47 (by decide) ?_
            refine lv_goto (tgt := 52) hx hb d_NInterval_product_48 (by decide) ?_
            refine lv_icmp_ne (tgt := 61) hx hb d_NInterval_product_52 (by decide) (fun b12 => ?_) (fun b12 => ?_)
            · skip
              replace b12 := mt (nI_eq (a := 1) (b := 1) (by omega) (by omega)).mpr b12
              exfalso; omega
            · skip
              replace b12 := (nI_eq (a := 1) (b := 1) (by omega) (by omega)).mp b12
              refine lv_ldc2 (v := 1152921504606846977) hx hb hown (wd_629 hB _) d_NInterval_product_55 ?_
              refine lv_topl (fun z_ hz_ => ?_)
              obtain rfl : z_ = nL 1152921504606846977 := hz_
              refine lv_goto (tgt := 64) hx hb d_NInterval_product_58 (by decide) ?_
              exact pe_lret hx hb hr hlocks hK hP hD hS d_NInterval_product_64 ⟨(by first | (simp [kP, b1, b2, b5, b6, b10, b12]; done) | contradiction), rfl⟩
    · skip
      replace b2 := pl_eq.mp b2
      refine lv_lconst (v := nL 0) hx hb d_NInterval_product_12 (by decide) ?_
      exact pe_lret hx hb hr hlocks hK hP hD hS d_NInterval_product_13 ⟨(by first | (simp [kP, b1, b2]; done) | contradiction), rfl⟩
set_option maxHeartbeats 4000000 in
set_option maxRecDepth 100000 in
theorem c2_iNeg (l : Launch) (g : Lay) (sz : Nat) (f : Nat → va_E) (x : Nat) (y : Nat) (y0 : Int64) (y1 : Int64) (hL : LO g) (t_x : g.tg x = 3) (t_y : g.tg y = 3) (hI : IV g f) (ey : f y = .inr (2, [.long y0, .long y1])) : Met l ⟨"BigRunner$Interval", "setNegation", "(LBigRunner$Interval;)V"⟩ [Cond.code ⟨"BigRunner$Interval", "setNegation", "(LBigRunner$Interval;)V"⟩ prog_3_method_6_code 2 none] ({ frames := 2, cells := 0, slots := 0, locals := 45 }) (va_Pc [.ref x, .ref y] (pc_in g sz f)) (va_Qv (fun f1 => (f1 x = .inr (2, [.long (kL (-y1)), .long (kH (-y0))])) ∧ (IV g f1) ∧ (∀ b, b ≠ x → f1 b = f b)) (pc_out g sz) (pc_A g sz)) 0 0 (pc_A g sz) := by
  refine pe_ofW (cc := prog_3_method_6_code) (maxL := 2) (ret := none) (lv := [(0, .ref x), (1, .ref y)]) (by decide) (Nat.le_of_ble_eq_true rfl) rfl ?_
  intro p e s m args below meth c ls hx hb hr hml hlocks hown hB hP hK hD hsz hS hl
  subst hsz
  have hu : ∀ b, b ≠ x → f b = f b := fun _ _ => rfl
  refine lv_aload_n hx hb d_NInterval_setNegation_0 rfl (lv_at hl 0 rfl) ?_
  refine lv_aload_n hx hb d_NInterval_setNegation_1 rfl (lv_at hl 1 rfl) ?_
  refine pf_get (v := .long y1) (C := "BigRunner$Interval") (T := FT2) (N := 2) hx hb (hw2 hB _) (fun _ h9 => h9) hown hK hP (lo_in hL t_y (by decide)) ey rfl 1 (by decide) (wd_129 hB _) rfl d_NInterval_setNegation_2 ?_
  refine lv_lneg hx hb d_NInterval_setNegation_5 ?_
  refine lv_aload_n hx hb d_NInterval_setNegation_6 rfl (lv_at hl 1 rfl) ?_
  refine pf_get (v := .long y0) (C := "BigRunner$Interval") (T := FT2) (N := 2) hx hb (hw2 hB _) (fun _ h9 => h9) hown hK hP (lo_in hL t_y (by decide)) ey rfl 0 (by decide) (wd_126 hB _) rfl d_NInterval_setNegation_7 ?_
  refine lv_lneg hx hb d_NInterval_setNegation_10 ?_
  obtain ⟨lo_2, hi_3, e1⟩ := oc_3.of t_x (hI.1 x)
  refine pcc_v (va_runV (C := "BigRunner$Interval") (As := [.long (-y1), .long (-y0)]) (rest := []) ⟨hx, hb, hml, hown, tb_nil⟩ (c2_iset l g s.heap.size f x ((-y1)) ((-y0)) hL t_x hI) ⟨(callB_of 2 (tb_one (wd_598 hB _)) tb_good1 rfl rfl rfl (wd_75 hB _) (wd_621 hB _) (by decide +kernel) ⟨Nat.le_of_ble_eq_true rfl, Nat.le_of_ble_eq_true rfl⟩), (wd_596 hB _), (wd_597 hB _)⟩ ⟨pe_bl, pg_recv (ci := 2) hK hP (lo_in hL t_x (by decide)) e1 rfl, pe_pre hB hK hP hD⟩ rfl rfl hl.1 rfl (lv_room (Nat.le_of_ble_eq_true rfl)) d_NInterval_setNegation_11 ⟨Nat.le_of_ble_eq_true rfl, Nat.le_of_ble_eq_true rfl⟩) hS (fun f5 H locs hq6 hP hD hS => ?_)
  obtain ⟨v_7, hI1_8, hk1_9⟩ := hq6
  have hu : ∀ b, b ≠ x → f5 b = f b := fun b q0 => (hk1_9 b q0).trans (hu b q0)
  exact pe_vret hx hb hr hlocks hK hP hD hS d_NInterval_setNegation_14 ⟨(v_7), hI1_8, hu⟩
set_option maxHeartbeats 4000000 in
set_option maxRecDepth 100000 in
theorem c2_iSum (l : Launch) (g : Lay) (sz : Nat) (f : Nat → va_E) (x : Nat) (y : Nat) (z : Nat) (y0 : Int64) (y1 : Int64) (z0 : Int64) (z1 : Int64) (hL : LO g) (t_x : g.tg x = 3) (t_y : g.tg y = 3) (t_z : g.tg z = 3) (hI : IV g f) (ey : f y = .inr (2, [.long y0, .long y1])) (ez : f z = .inr (2, [.long z0, .long z1])) : Met l ⟨"BigRunner$Interval", "setSum", "(LBigRunner$Interval;LBigRunner$Interval;)V"⟩ [Cond.code ⟨"BigRunner$Interval", "setSum", "(LBigRunner$Interval;LBigRunner$Interval;)V"⟩ prog_3_method_7_code 3 none] ({ frames := 2, cells := 0, slots := 0, locals := 45 }) (va_Pc [.ref x, .ref y, .ref z] (pc_in g sz f)) (va_Qv (fun f1 => (f1 x = .inr (2, [.long (kL (kS y0 z0)), .long (kH (kS y1 z1))])) ∧ (IV g f1) ∧ (∀ b, b ≠ x → f1 b = f b)) (pc_out g sz) (pc_A g sz)) 0 0 (pc_A g sz) := by
  refine pe_ofW (cc := prog_3_method_7_code) (maxL := 3) (ret := none) (lv := [(0, .ref x), (1, .ref y), (2, .ref z)]) (by decide) (Nat.le_of_ble_eq_true rfl) rfl ?_
  intro p e s m args below meth c ls hx hb hr hml hlocks hown hB hP hK hD hsz hS hl
  subst hsz
  have hu : ∀ b, b ≠ x → f b = f b := fun _ _ => rfl
  refine lv_aload_n hx hb d_NInterval_setSum_0 rfl (lv_at hl 0 rfl) ?_
  refine lv_aload_n hx hb d_NInterval_setSum_1 rfl (lv_at hl 1 rfl) ?_
  refine pf_get (v := .long y0) (C := "BigRunner$Interval") (T := FT2) (N := 2) hx hb (hw2 hB _) (fun _ h9 => h9) hown hK hP (lo_in hL t_y (by decide)) ey rfl 0 (by decide) (wd_126 hB _) rfl d_NInterval_setSum_2 ?_
  refine lv_aload_n hx hb d_NInterval_setSum_5 rfl (lv_at hl 2 rfl) ?_
  refine pf_get (v := .long z0) (C := "BigRunner$Interval") (T := FT2) (N := 2) hx hb (hw2 hB _) (fun _ h9 => h9) hown hK hP (lo_in hL t_z (by decide)) ez rfl 0 (by decide) (wd_126 hB _) rfl d_NInterval_setSum_6 ?_
  refine pcc_l (va_runS (As := [.long y0, .long z0]) (rest := [.ref x]) ⟨hx, hb, hml, hown, tb_nil⟩ (c2_isum l g s.heap.size f y0 z0 hL hI.1) ⟨(callB_of 2 (tb_one (wd_628 hB _)) tb_good1 rfl rfl rfl (wd_75 hB _) (wd_626 hB _) (by decide +kernel) ⟨Nat.le_of_ble_eq_true rfl, Nat.le_of_ble_eq_true rfl⟩), (wd_627 hB _)⟩ ⟨pe_bl, pe_pre hB hK hP hD⟩ rfl rfl hl.1 rfl (lv_room (Nat.le_of_ble_eq_true rfl)) d_NInterval_setSum_9 ⟨Nat.le_of_ble_eq_true rfl, Nat.le_of_ble_eq_true rfl⟩) hS (fun r1 f2 H locs hq3 hP hD hS => ?_)
  obtain ⟨qv_4, rfl⟩ := hq3
  subst qv_4
  refine lv_aload_n hx hb d_NInterval_setSum_12 rfl (lv_at hl 1 rfl) ?_
  refine pf_get (v := .long y1) (C := "BigRunner$Interval") (T := FT2) (N := 2) hx hb (hw2 hB _) (fun _ h9 => h9) hown hK hP (lo_in hL t_y (by decide)) ey rfl 1 (by decide) (wd_129 hB _) rfl d_NInterval_setSum_13 ?_
  refine lv_aload_n hx hb d_NInterval_setSum_16 rfl (lv_at hl 2 rfl) ?_
  refine pf_get (v := .long z1) (C := "BigRunner$Interval") (T := FT2) (N := 2) hx hb (hw2 hB _) (fun _ h9 => h9) hown hK hP (lo_in hL t_z (by decide)) ez rfl 1 (by decide) (wd_129 hB _) rfl d_NInterval_setSum_17 ?_
  refine pcc_l (va_runS (As := [.long y1, .long z1]) (rest := [.long (kS y0 z0), .ref x]) ⟨hx, hb, hml, hown, tb_nil⟩ (c2_isum l g H.size f y1 z1 hL hI.1) ⟨(callB_of 2 (tb_one (wd_628 hB _)) tb_good1 rfl rfl rfl (wd_75 hB _) (wd_626 hB _) (by decide +kernel) ⟨Nat.le_of_ble_eq_true rfl, Nat.le_of_ble_eq_true rfl⟩), (wd_627 hB _)⟩ ⟨pe_bl, pe_pre hB hK hP hD⟩ rfl rfl hl.1 rfl (lv_room (Nat.le_of_ble_eq_true rfl)) d_NInterval_setSum_20 ⟨Nat.le_of_ble_eq_true rfl, Nat.le_of_ble_eq_true rfl⟩) hS (fun r5 f6 H locs hq7 hP hD hS => ?_)
  obtain ⟨qv_8, rfl⟩ := hq7
  subst qv_8
  obtain ⟨lo_10, hi_11, e9⟩ := oc_3.of t_x (hI.1 x)
  refine pcc_v (va_runV (C := "BigRunner$Interval") (As := [.long (kS y0 z0), .long (kS y1 z1)]) (rest := []) ⟨hx, hb, hml, hown, tb_nil⟩ (c2_iset l g H.size f x ((kS y0 z0)) ((kS y1 z1)) hL t_x hI) ⟨(callB_of 2 (tb_one (wd_598 hB _)) tb_good1 rfl rfl rfl (wd_75 hB _) (wd_621 hB _) (by decide +kernel) ⟨Nat.le_of_ble_eq_true rfl, Nat.le_of_ble_eq_true rfl⟩), (wd_596 hB _), (wd_597 hB _)⟩ ⟨pe_bl, pg_recv (ci := 2) hK hP (lo_in hL t_x (by decide)) e9 rfl, pe_pre hB hK hP hD⟩ rfl rfl hl.1 rfl (lv_room (Nat.le_of_ble_eq_true rfl)) d_NInterval_setSum_23 ⟨Nat.le_of_ble_eq_true rfl, Nat.le_of_ble_eq_true rfl⟩) hS (fun f13 H locs hq14 hP hD hS => ?_)
  obtain ⟨v_15, hI1_16, hk1_17⟩ := hq14
  have hu : ∀ b, b ≠ x → f13 b = f b := fun b q0 => (hk1_17 b q0).trans (hu b q0)
  exact pe_vret hx hb hr hlocks hK hP hD hS d_NInterval_setSum_26 ⟨(v_15), hI1_16, hu⟩
set_option maxHeartbeats 4000000 in
set_option maxRecDepth 100000 in
theorem c2_iDif (l : Launch) (g : Lay) (sz : Nat) (f : Nat → va_E) (x : Nat) (y : Nat) (z : Nat) (y0 : Int64) (y1 : Int64) (z0 : Int64) (z1 : Int64) (hL : LO g) (t_x : g.tg x = 3) (t_y : g.tg y = 3) (t_z : g.tg z = 3) (hI : IV g f) (ey : f y = .inr (2, [.long y0, .long y1])) (ez : f z = .inr (2, [.long z0, .long z1])) : Met l ⟨"BigRunner$Interval", "setDifference", "(LBigRunner$Interval;LBigRunner$Interval;)V"⟩ [Cond.code ⟨"BigRunner$Interval", "setDifference", "(LBigRunner$Interval;LBigRunner$Interval;)V"⟩ prog_3_method_8_code 3 none] ({ frames := 2, cells := 0, slots := 0, locals := 45 }) (va_Pc [.ref x, .ref y, .ref z] (pc_in g sz f)) (va_Qv (fun f1 => (f1 x = .inr (2, [.long (kL (kS y0 (-z1))), .long (kH (kS y1 (-z0)))])) ∧ (IV g f1) ∧ (∀ b, b ≠ x → f1 b = f b)) (pc_out g sz) (pc_A g sz)) 0 0 (pc_A g sz) := by
  refine pe_ofW (cc := prog_3_method_8_code) (maxL := 3) (ret := none) (lv := [(0, .ref x), (1, .ref y), (2, .ref z)]) (by decide) (Nat.le_of_ble_eq_true rfl) rfl ?_
  intro p e s m args below meth c ls hx hb hr hml hlocks hown hB hP hK hD hsz hS hl
  subst hsz
  have hu : ∀ b, b ≠ x → f b = f b := fun _ _ => rfl
  refine lv_aload_n hx hb d_NInterval_setDifference_0 rfl (lv_at hl 0 rfl) ?_
  refine lv_aload_n hx hb d_NInterval_setDifference_1 rfl (lv_at hl 1 rfl) ?_
  refine pf_get (v := .long y0) (C := "BigRunner$Interval") (T := FT2) (N := 2) hx hb (hw2 hB _) (fun _ h9 => h9) hown hK hP (lo_in hL t_y (by decide)) ey rfl 0 (by decide) (wd_126 hB _) rfl d_NInterval_setDifference_2 ?_
  refine lv_aload_n hx hb d_NInterval_setDifference_5 rfl (lv_at hl 2 rfl) ?_
  refine pf_get (v := .long z1) (C := "BigRunner$Interval") (T := FT2) (N := 2) hx hb (hw2 hB _) (fun _ h9 => h9) hown hK hP (lo_in hL t_z (by decide)) ez rfl 1 (by decide) (wd_129 hB _) rfl d_NInterval_setDifference_6 ?_
  refine lv_lneg hx hb d_NInterval_setDifference_9 ?_
  refine pcc_l (va_runS (As := [.long y0, .long (-z1)]) (rest := [.ref x]) ⟨hx, hb, hml, hown, tb_nil⟩ (c2_isum l g s.heap.size f y0 ((-z1)) hL hI.1) ⟨(callB_of 2 (tb_one (wd_628 hB _)) tb_good1 rfl rfl rfl (wd_75 hB _) (wd_626 hB _) (by decide +kernel) ⟨Nat.le_of_ble_eq_true rfl, Nat.le_of_ble_eq_true rfl⟩), (wd_627 hB _)⟩ ⟨pe_bl, pe_pre hB hK hP hD⟩ rfl rfl hl.1 rfl (lv_room (Nat.le_of_ble_eq_true rfl)) d_NInterval_setDifference_10 ⟨Nat.le_of_ble_eq_true rfl, Nat.le_of_ble_eq_true rfl⟩) hS (fun r1 f2 H locs hq3 hP hD hS => ?_)
  obtain ⟨qv_4, rfl⟩ := hq3
  subst qv_4
  refine lv_aload_n hx hb d_NInterval_setDifference_13 rfl (lv_at hl 1 rfl) ?_
  refine pf_get (v := .long y1) (C := "BigRunner$Interval") (T := FT2) (N := 2) hx hb (hw2 hB _) (fun _ h9 => h9) hown hK hP (lo_in hL t_y (by decide)) ey rfl 1 (by decide) (wd_129 hB _) rfl d_NInterval_setDifference_14 ?_
  refine lv_aload_n hx hb d_NInterval_setDifference_17 rfl (lv_at hl 2 rfl) ?_
  refine pf_get (v := .long z0) (C := "BigRunner$Interval") (T := FT2) (N := 2) hx hb (hw2 hB _) (fun _ h9 => h9) hown hK hP (lo_in hL t_z (by decide)) ez rfl 0 (by decide) (wd_126 hB _) rfl d_NInterval_setDifference_18 ?_
  refine lv_lneg hx hb d_NInterval_setDifference_21 ?_
  refine pcc_l (va_runS (As := [.long y1, .long (-z0)]) (rest := [.long (kS y0 (-z1)), .ref x]) ⟨hx, hb, hml, hown, tb_nil⟩ (c2_isum l g H.size f y1 ((-z0)) hL hI.1) ⟨(callB_of 2 (tb_one (wd_628 hB _)) tb_good1 rfl rfl rfl (wd_75 hB _) (wd_626 hB _) (by decide +kernel) ⟨Nat.le_of_ble_eq_true rfl, Nat.le_of_ble_eq_true rfl⟩), (wd_627 hB _)⟩ ⟨pe_bl, pe_pre hB hK hP hD⟩ rfl rfl hl.1 rfl (lv_room (Nat.le_of_ble_eq_true rfl)) d_NInterval_setDifference_22 ⟨Nat.le_of_ble_eq_true rfl, Nat.le_of_ble_eq_true rfl⟩) hS (fun r5 f6 H locs hq7 hP hD hS => ?_)
  obtain ⟨qv_8, rfl⟩ := hq7
  subst qv_8
  obtain ⟨lo_10, hi_11, e9⟩ := oc_3.of t_x (hI.1 x)
  refine pcc_v (va_runV (C := "BigRunner$Interval") (As := [.long (kS y0 (-z1)), .long (kS y1 (-z0))]) (rest := []) ⟨hx, hb, hml, hown, tb_nil⟩ (c2_iset l g H.size f x ((kS y0 (-z1))) ((kS y1 (-z0))) hL t_x hI) ⟨(callB_of 2 (tb_one (wd_598 hB _)) tb_good1 rfl rfl rfl (wd_75 hB _) (wd_621 hB _) (by decide +kernel) ⟨Nat.le_of_ble_eq_true rfl, Nat.le_of_ble_eq_true rfl⟩), (wd_596 hB _), (wd_597 hB _)⟩ ⟨pe_bl, pg_recv (ci := 2) hK hP (lo_in hL t_x (by decide)) e9 rfl, pe_pre hB hK hP hD⟩ rfl rfl hl.1 rfl (lv_room (Nat.le_of_ble_eq_true rfl)) d_NInterval_setDifference_25 ⟨Nat.le_of_ble_eq_true rfl, Nat.le_of_ble_eq_true rfl⟩) hS (fun f13 H locs hq14 hP hD hS => ?_)
  obtain ⟨v_15, hI1_16, hk1_17⟩ := hq14
  have hu : ∀ b, b ≠ x → f13 b = f b := fun b q0 => (hk1_17 b q0).trans (hu b q0)
  exact pe_vret hx hb hr hlocks hK hP hD hS d_NInterval_setDifference_28 ⟨(v_15), hI1_16, hu⟩
set_option maxHeartbeats 4000000 in
set_option maxRecDepth 100000 in
theorem c2_iPro (l : Launch) (g : Lay) (sz : Nat) (f : Nat → va_E) (x : Nat) (y : Nat) (z : Nat) (y0 : Int64) (y1 : Int64) (z0 : Int64) (z1 : Int64) (hL : LO g) (t_x : g.tg x = 3) (t_y : g.tg y = 3) (t_z : g.tg z = 3) (hI : IV g f) (ey : f y = .inr (2, [.long y0, .long y1])) (ez : f z = .inr (2, [.long z0, .long z1])) : Met l ⟨"BigRunner$Interval", "setProduct", "(LBigRunner$Interval;LBigRunner$Interval;)V"⟩ [Cond.code ⟨"BigRunner$Interval", "setProduct", "(LBigRunner$Interval;LBigRunner$Interval;)V"⟩ prog_3_method_9_code 11 none] ({ frames := 2, cells := 0, slots := 0, locals := 63 }) (va_Pc [.ref x, .ref y, .ref z] (pc_in g sz f)) (va_Qv (fun f1 => (f1 x = .inr (2, [.long (kL (kML y0 y1 z0 z1)), .long (kH (kMH y0 y1 z0 z1))])) ∧ (IV g f1) ∧ (∀ b, b ≠ x → f1 b = f b)) (pc_out g sz) (pc_A g sz)) 0 0 (pc_A g sz) := by
  refine pe_ofW (cc := prog_3_method_9_code) (maxL := 11) (ret := none) (lv := [(0, .ref x), (1, .ref y), (2, .ref z)]) (by decide) (Nat.le_of_ble_eq_true rfl) rfl ?_
  intro p e s m args below meth c ls hx hb hr hml hlocks hown hB hP hK hD hsz hS hl
  subst hsz
  have hu : ∀ b, b ≠ x → f b = f b := fun _ _ => rfl
  refine lv_aload_n hx hb d_NInterval_setProduct_0 rfl (lv_at hl 1 rfl) ?_
  refine pcc_i (va_runV (C := "BigRunner$Interval") (As := []) (rest := []) ⟨hx, hb, hml, hown, tb_nil⟩ (c2_isZero l g s.heap.size f y y0 y1 hL t_y hI.1 ey) ⟨(callB_of 0 (tb_one (wd_641 hB _)) tb_good1 rfl rfl rfl (wd_75 hB _) (wd_638 hB _) (by decide +kernel) ⟨Nat.le_of_ble_eq_true rfl, Nat.le_of_ble_eq_true rfl⟩), (wd_640 hB _), (wd_21 hB _)⟩ ⟨pe_bl, pg_recv (ci := 2) hK hP (lo_in hL t_y (by decide)) ey rfl, pe_pre hB hK hP hD⟩ rfl rfl hl.1 rfl (lv_room (Nat.le_of_ble_eq_true rfl)) d_NInterval_setProduct_1 ⟨Nat.le_of_ble_eq_true rfl, Nat.le_of_ble_eq_true rfl⟩) hS (fun r1 f2 H locs hq3 hP hD hS => ?_)
  obtain ⟨bo_4, i0_5, i1_6, rfl⟩ := hq3
  refine lv_if_ne (tgt := 14) hx hb d_NInterval_setProduct_4 (by decide) (fun b7 => ?_) (fun b7 => ?_)
  · skip
    have hr8 : r1 = nI 1 := (bl_1 bo_4 b7)
    have hi9 := i1_6 hr8
    refine lv_aload_n hx hb d_NInterval_setProduct_14 rfl (lv_at hl 0 rfl) ?_
    refine lv_lconst (v := nL 0) hx hb d_NInterval_setProduct_15 (by decide) ?_
    refine lv_lconst (v := nL 0) hx hb d_NInterval_setProduct_16 (by decide) ?_
    obtain ⟨lo_11, hi_12, e10⟩ := oc_3.of t_x (hI.1 x)
    refine pcc_v (va_runV (C := "BigRunner$Interval") (As := [.long (nL 0), .long (nL 0)]) (rest := []) ⟨hx, hb, hml, hown, tb_nil⟩ (c2_iset l g H.size f x ((nL 0)) ((nL 0)) hL t_x hI) ⟨(callB_of 2 (tb_one (wd_598 hB _)) tb_good1 rfl rfl rfl (wd_75 hB _) (wd_621 hB _) (by decide +kernel) ⟨Nat.le_of_ble_eq_true rfl, Nat.le_of_ble_eq_true rfl⟩), (wd_596 hB _), (wd_597 hB _)⟩ ⟨pe_bl, pg_recv (ci := 2) hK hP (lo_in hL t_x (by decide)) e10 rfl, pe_pre hB hK hP hD⟩ rfl rfl hl.1 rfl (lv_room (Nat.le_of_ble_eq_true rfl)) d_NInterval_setProduct_17 ⟨Nat.le_of_ble_eq_true rfl, Nat.le_of_ble_eq_true rfl⟩) hS (fun f14 H locs hq15 hP hD hS => ?_)
    obtain ⟨v_16, hI1_17, hk1_18⟩ := hq15
    have hu : ∀ b, b ≠ x → f14 b = f b := fun b q0 => (hk1_18 b q0).trans (hu b q0)
    exact pe_vret hx hb hr hlocks hK hP hD hS d_NInterval_setProduct_20 ⟨(v_16.trans (by first | (simp [kML, kMH, b7, hi9]; done) | contradiction)), hI1_17, hu⟩
  · skip
    have hr19 : r1 = nI 0 := b7
    have hi20 := i0_5 hr19
    refine lv_aload_n hx hb d_NInterval_setProduct_7 rfl (lv_at hl 2 rfl) ?_
    refine pcc_i (va_runV (C := "BigRunner$Interval") (As := []) (rest := []) ⟨hx, hb, hml, hown, tb_nil⟩ (c2_isZero l g H.size f z z0 z1 hL t_z hI.1 ez) ⟨(callB_of 0 (tb_one (wd_641 hB _)) tb_good1 rfl rfl rfl (wd_75 hB _) (wd_638 hB _) (by decide +kernel) ⟨Nat.le_of_ble_eq_true rfl, Nat.le_of_ble_eq_true rfl⟩), (wd_640 hB _), (wd_21 hB _)⟩ ⟨pe_bl, pg_recv (ci := 2) hK hP (lo_in hL t_z (by decide)) ez rfl, pe_pre hB hK hP hD⟩ rfl rfl hl.1 rfl (lv_room (Nat.le_of_ble_eq_true rfl)) d_NInterval_setProduct_8 ⟨Nat.le_of_ble_eq_true rfl, Nat.le_of_ble_eq_true rfl⟩) hS (fun r21 f22 H locs hq23 hP hD hS => ?_)
    obtain ⟨bo_24, i0_25, i1_26, rfl⟩ := hq23
    refine lv_if_eq (tgt := 21) hx hb d_NInterval_setProduct_11 (by decide) (fun b27 => ?_) (fun b27 => ?_)
    · skip
      have hr28 : r21 = nI 0 := b27
      have hi29 := i0_25 hr28
      refine lv_aload_n hx hb d_NInterval_setProduct_21 rfl (lv_at hl 1 rfl) ?_
      refine pcc_i (va_runV (C := "BigRunner$Interval") (As := []) (rest := []) ⟨hx, hb, hml, hown, tb_nil⟩ (c2_isBounded l g H.size f y y0 y1 hL t_y hI.1 ey) ⟨(callB_of 0 (tb_one (wd_440 hB _)) tb_good1 rfl rfl rfl (wd_75 hB _) (wd_642 hB _) (by decide +kernel) ⟨Nat.le_of_ble_eq_true rfl, Nat.le_of_ble_eq_true rfl⟩), (wd_438 hB _), (wd_439 hB _)⟩ ⟨pe_bl, pg_recv (ci := 2) hK hP (lo_in hL t_y (by decide)) ey rfl, pe_pre hB hK hP hD⟩ rfl rfl hl.1 rfl (lv_room (Nat.le_of_ble_eq_true rfl)) d_NInterval_setProduct_22 ⟨Nat.le_of_ble_eq_true rfl, Nat.le_of_ble_eq_true rfl⟩) hS (fun r30 f31 H locs hq32 hP hD hS => ?_)
      obtain ⟨bo_33, i0_34, i1_35, rfl⟩ := hq32
      refine lv_if_eq (tgt := 35) hx hb d_NInterval_setProduct_25 (by decide) (fun b36 => ?_) (fun b36 => ?_)
      · skip
        have hr37 : r30 = nI 0 := b36
        have hi38 := i0_34 hr37
        refine lv_aload_n hx hb d_NInterval_setProduct_35 rfl (lv_at hl 0 rfl) ?_
        refine lv_ldc2 (v := (-9223372036854775808)) hx hb hown (wd_599 hB _) d_NInterval_setProduct_36 ?_
        refine lv_ldc2 (v := 9223372036854775807) hx hb hown (wd_600 hB _) d_NInterval_setProduct_39 ?_
        refine lv_topl (fun z_ hz_ => ?_)
        obtain rfl : z_ = nL 9223372036854775807 := hz_
        obtain ⟨lo_40, hi_41, e39⟩ := oc_3.of t_x (hI.1 x)
        refine pcc_v (va_runV (C := "BigRunner$Interval") (As := [.long (-9223372036854775808), .long (nL 9223372036854775807)]) (rest := []) ⟨hx, hb, hml, hown, tb_nil⟩ (c2_iset l g H.size f x ((-9223372036854775808)) ((nL 9223372036854775807)) hL t_x hI) ⟨(callB_of 2 (tb_one (wd_598 hB _)) tb_good1 rfl rfl rfl (wd_75 hB _) (wd_621 hB _) (by decide +kernel) ⟨Nat.le_of_ble_eq_true rfl, Nat.le_of_ble_eq_true rfl⟩), (wd_596 hB _), (wd_597 hB _)⟩ ⟨pe_bl, pg_recv (ci := 2) hK hP (lo_in hL t_x (by decide)) e39 rfl, pe_pre hB hK hP hD⟩ rfl rfl hl.1 rfl (lv_room (Nat.le_of_ble_eq_true rfl)) d_NInterval_setProduct_42 ⟨Nat.le_of_ble_eq_true rfl, Nat.le_of_ble_eq_true rfl⟩) hS (fun f43 H locs hq44 hP hD hS => ?_)
        obtain ⟨v_45, hI1_46, hk1_47⟩ := hq44
        have hu : ∀ b, b ≠ x → f43 b = f b := fun b q0 => (hk1_47 b q0).trans (hu b q0)
        exact pe_vret hx hb hr hlocks hK hP hD hS d_NInterval_setProduct_45 ⟨(v_45.trans (by first | (simp [kML, kMH, b7, hi20, b27, hi29, b36, hi38]; done) | contradiction)), hI1_46, hu⟩
      · skip
        have hr48 : r30 = nI 1 := (bl_1 bo_33 b36)
        have hi49 := i1_35 hr48
        refine lv_aload_n hx hb d_NInterval_setProduct_28 rfl (lv_at hl 2 rfl) ?_
        refine pcc_i (va_runV (C := "BigRunner$Interval") (As := []) (rest := []) ⟨hx, hb, hml, hown, tb_nil⟩ (c2_isBounded l g H.size f z z0 z1 hL t_z hI.1 ez) ⟨(callB_of 0 (tb_one (wd_440 hB _)) tb_good1 rfl rfl rfl (wd_75 hB _) (wd_642 hB _) (by decide +kernel) ⟨Nat.le_of_ble_eq_true rfl, Nat.le_of_ble_eq_true rfl⟩), (wd_438 hB _), (wd_439 hB _)⟩ ⟨pe_bl, pg_recv (ci := 2) hK hP (lo_in hL t_z (by decide)) ez rfl, pe_pre hB hK hP hD⟩ rfl rfl hl.1 rfl (lv_room (Nat.le_of_ble_eq_true rfl)) d_NInterval_setProduct_29 ⟨Nat.le_of_ble_eq_true rfl, Nat.le_of_ble_eq_true rfl⟩) hS (fun r50 f51 H locs hq52 hP hD hS => ?_)
        obtain ⟨bo_53, i0_54, i1_55, rfl⟩ := hq52
        refine lv_if_ne (tgt := 46) hx hb d_NInterval_setProduct_32 (by decide) (fun b56 => ?_) (fun b56 => ?_)
        · skip
          have hr57 : r50 = nI 1 := (bl_1 bo_53 b56)
          have hi58 := i1_55 hr57
          refine lv_aload_n hx hb d_NInterval_setProduct_46 rfl (lv_at hl 1 rfl) ?_
          refine pf_get (v := .long y0) (C := "BigRunner$Interval") (T := FT2) (N := 2) hx hb (hw2 hB _) (fun _ h9 => h9) hown hK hP (lo_in hL t_y (by decide)) ey rfl 0 (by decide) (wd_126 hB _) rfl d_NInterval_setProduct_47 ?_
          refine lv_aload_n hx hb d_NInterval_setProduct_50 rfl (lv_at hl 2 rfl) ?_
          refine pf_get (v := .long z0) (C := "BigRunner$Interval") (T := FT2) (N := 2) hx hb (hw2 hB _) (fun _ h9 => h9) hown hK hP (lo_in hL t_z (by decide)) ez rfl 0 (by decide) (wd_126 hB _) rfl d_NInterval_setProduct_51 ?_
          refine pcc_l (va_runS (As := [.long y0, .long z0]) (rest := []) ⟨hx, hb, hml, hown, tb_nil⟩ (c2_ipro l g H.size f y0 z0 hL hI.1) ⟨(callB_of 2 (tb_one (wd_645 hB _)) tb_good1 rfl rfl rfl (wd_75 hB _) (wd_643 hB _) (by decide +kernel) ⟨Nat.le_of_ble_eq_true rfl, Nat.le_of_ble_eq_true rfl⟩), (wd_644 hB _)⟩ ⟨pe_bl, pe_pre hB hK hP hD⟩ rfl rfl hl.1 rfl (lv_room (Nat.le_of_ble_eq_true rfl)) d_NInterval_setProduct_54 ⟨Nat.le_of_ble_eq_true rfl, Nat.le_of_ble_eq_true rfl⟩) hS (fun r59 f60 H locs hq61 hP hD hS => ?_)
          obtain ⟨qv_62, rfl⟩ := hq61
          subst qv_62
          refine lv_lstore_n (lv' := [(3, .long (kP y0 z0)), (0, .ref x), (1, .ref y), (2, .ref z)]) hx hb d_NInterval_setProduct_57 rfl hl (by decide) rfl (fun ls hl => ?_)
          refine lv_aload_n hx hb d_NInterval_setProduct_58 rfl (lv_at hl 2 rfl) ?_
          refine pf_get (v := .long y0) (C := "BigRunner$Interval") (T := FT2) (N := 2) hx hb (hw2 hB _) (fun _ h9 => h9) hown hK hP (lo_in hL t_y (by decide)) ey rfl 0 (by decide) (wd_126 hB _) rfl d_NInterval_setProduct_59 ?_
          refine lv_aload_n hx hb d_NInterval_setProduct_62 rfl (lv_at hl 3 rfl) ?_
          refine pf_get (v := .long z1) (C := "BigRunner$Interval") (T := FT2) (N := 2) hx hb (hw2 hB _) (fun _ h9 => h9) hown hK hP (lo_in hL t_z (by decide)) ez rfl 1 (by decide) (wd_129 hB _) rfl d_NInterval_setProduct_63 ?_
          refine pcc_l (va_runS (As := [.long y0, .long z1]) (rest := []) ⟨hx, hb, hml, hown, tb_nil⟩ (c2_ipro l g H.size f y0 z1 hL hI.1) ⟨(callB_of 2 (tb_one (wd_645 hB _)) tb_good1 rfl rfl rfl (wd_75 hB _) (wd_643 hB _) (by decide +kernel) ⟨Nat.le_of_ble_eq_true rfl, Nat.le_of_ble_eq_true rfl⟩), (wd_644 hB _)⟩ ⟨pe_bl, pe_pre hB hK hP hD⟩ rfl rfl hl.1 rfl (lv_room (Nat.le_of_ble_eq_true rfl)) d_NInterval_setProduct_66 ⟨Nat.le_of_ble_eq_true rfl, Nat.le_of_ble_eq_true rfl⟩) hS (fun r63 f64 H locs hq65 hP hD hS => ?_)
          obtain ⟨qv_66, rfl⟩ := hq65
          subst qv_66
          refine lv_lstore (lv' := [(5, .long (kP y0 z1)), (3, .long (kP y0 z0)), (0, .ref x), (1, .ref y), (2, .ref z)]) hx hb d_NInterval_setProduct_69 hl (by decide) rfl (fun ls hl => ?_)
          refine lv_aload_n hx hb d_NInterval_setProduct_71 rfl (lv_at hl 3 rfl) ?_
          refine pf_get (v := .long y1) (C := "BigRunner$Interval") (T := FT2) (N := 2) hx hb (hw2 hB _) (fun _ h9 => h9) hown hK hP (lo_in hL t_y (by decide)) ey rfl 1 (by decide) (wd_129 hB _) rfl d_NInterval_setProduct_72 ?_
          refine lv_aload_n hx hb d_NInterval_setProduct_75 rfl (lv_at hl 4 rfl) ?_
          refine pf_get (v := .long z0) (C := "BigRunner$Interval") (T := FT2) (N := 2) hx hb (hw2 hB _) (fun _ h9 => h9) hown hK hP (lo_in hL t_z (by decide)) ez rfl 0 (by decide) (wd_126 hB _) rfl d_NInterval_setProduct_76 ?_
          refine pcc_l (va_runS (As := [.long y1, .long z0]) (rest := []) ⟨hx, hb, hml, hown, tb_nil⟩ (c2_ipro l g H.size f y1 z0 hL hI.1) ⟨(callB_of 2 (tb_one (wd_645 hB _)) tb_good1 rfl rfl rfl (wd_75 hB _) (wd_643 hB _) (by decide +kernel) ⟨Nat.le_of_ble_eq_true rfl, Nat.le_of_ble_eq_true rfl⟩), (wd_644 hB _)⟩ ⟨pe_bl, pe_pre hB hK hP hD⟩ rfl rfl hl.1 rfl (lv_room (Nat.le_of_ble_eq_true rfl)) d_NInterval_setProduct_79 ⟨Nat.le_of_ble_eq_true rfl, Nat.le_of_ble_eq_true rfl⟩) hS (fun r67 f68 H locs hq69 hP hD hS => ?_)
          obtain ⟨qv_70, rfl⟩ := hq69
          subst qv_70
          refine lv_lstore (lv' := [(7, .long (kP y1 z0)), (5, .long (kP y0 z1)), (3, .long (kP y0 z0)), (0, .ref x), (1, .ref y), (2, .ref z)]) hx hb d_NInterval_setProduct_82 hl (by decide) rfl (fun ls hl => ?_)
          refine lv_aload_n hx hb d_NInterval_setProduct_84 rfl (lv_at hl 4 rfl) ?_
          refine pf_get (v := .long y1) (C := "BigRunner$Interval") (T := FT2) (N := 2) hx hb (hw2 hB _) (fun _ h9 => h9) hown hK hP (lo_in hL t_y (by decide)) ey rfl 1 (by decide) (wd_129 hB _) rfl d_NInterval_setProduct_85 ?_
          refine lv_aload_n hx hb d_NInterval_setProduct_88 rfl (lv_at hl 5 rfl) ?_
          refine pf_get (v := .long z1) (C := "BigRunner$Interval") (T := FT2) (N := 2) hx hb (hw2 hB _) (fun _ h9 => h9) hown hK hP (lo_in hL t_z (by decide)) ez rfl 1 (by decide) (wd_129 hB _) rfl d_NInterval_setProduct_89 ?_
          refine pcc_l (va_runS (As := [.long y1, .long z1]) (rest := []) ⟨hx, hb, hml, hown, tb_nil⟩ (c2_ipro l g H.size f y1 z1 hL hI.1) ⟨(callB_of 2 (tb_one (wd_645 hB _)) tb_good1 rfl rfl rfl (wd_75 hB _) (wd_643 hB _) (by decide +kernel) ⟨Nat.le_of_ble_eq_true rfl, Nat.le_of_ble_eq_true rfl⟩), (wd_644 hB _)⟩ ⟨pe_bl, pe_pre hB hK hP hD⟩ rfl rfl hl.1 rfl (lv_room (Nat.le_of_ble_eq_true rfl)) d_NInterval_setProduct_92 ⟨Nat.le_of_ble_eq_true rfl, Nat.le_of_ble_eq_true rfl⟩) hS (fun r71 f72 H locs hq73 hP hD hS => ?_)
          obtain ⟨qv_74, rfl⟩ := hq73
          subst qv_74
          refine lv_lstore (lv' := [(9, .long (kP y1 z1)), (7, .long (kP y1 z0)), (5, .long (kP y0 z1)), (3, .long (kP y0 z0)), (0, .ref x), (1, .ref y), (2, .ref z)]) hx hb d_NInterval_setProduct_95 hl (by decide) rfl (fun ls hl => ?_)
          refine lv_aload_n hx hb d_NInterval_setProduct_97 rfl (lv_at hl 4 rfl) ?_
          refine lv_lload_n hx hb d_NInterval_setProduct_98 rfl (lv_at hl 3 rfl) ?_
          refine lv_lload hx hb d_NInterval_setProduct_99 (lv_at hl 2 rfl) ?_
          refine va_mmin_long hx hb (hml.trans hl.1.symm) hown (wd_650 hB _) (wd_651 hB _) (wd_83 hB _) (wd_652 hB _) (Nat.le_of_ble_eq_true rfl) (Nat.le_of_ble_eq_true rfl) (Nat.le_of_ble_eq_true rfl) (Nat.le_of_ble_eq_true rfl) d_NInterval_setProduct_101 ?_
          refine lv_topl (fun lv75 hlv75 => ?_)
          obtain rfl : lv75 = kmin ((kP y0 z0)) ((kP y0 z1)) := hlv75
          refine lv_lload hx hb d_NInterval_setProduct_104 (lv_at hl 1 rfl) ?_
          refine lv_lload hx hb d_NInterval_setProduct_106 (lv_at hl 0 rfl) ?_
          refine va_mmin_long hx hb (hml.trans hl.1.symm) hown (wd_650 hB _) (wd_651 hB _) (wd_83 hB _) (wd_652 hB _) (Nat.le_of_ble_eq_true rfl) (Nat.le_of_ble_eq_true rfl) (Nat.le_of_ble_eq_true rfl) (Nat.le_of_ble_eq_true rfl) d_NInterval_setProduct_108 ?_
          refine lv_topl (fun lv76 hlv76 => ?_)
          obtain rfl : lv76 = kmin ((kP y1 z0)) ((kP y1 z1)) := hlv76
          refine va_mmin_long hx hb (hml.trans hl.1.symm) hown (wd_650 hB _) (wd_651 hB _) (wd_83 hB _) (wd_652 hB _) (Nat.le_of_ble_eq_true rfl) (Nat.le_of_ble_eq_true rfl) (Nat.le_of_ble_eq_true rfl) (Nat.le_of_ble_eq_true rfl) d_NInterval_setProduct_111 ?_
          refine lv_topl (fun lv77 hlv77 => ?_)
          obtain rfl : lv77 = kmin ((kmin ((kP y0 z0)) ((kP y0 z1)))) ((kmin ((kP y1 z0)) ((kP y1 z1)))) := hlv77
          refine lv_lload_n hx hb d_NInterval_setProduct_114 rfl (lv_at hl 3 rfl) ?_
          refine lv_lload hx hb d_NInterval_setProduct_115 (lv_at hl 2 rfl) ?_
          refine va_mmax_long hx hb (hml.trans hl.1.symm) hown (wd_653 hB _) (wd_654 hB _) (wd_83 hB _) (wd_655 hB _) (Nat.le_of_ble_eq_true rfl) (Nat.le_of_ble_eq_true rfl) (Nat.le_of_ble_eq_true rfl) (Nat.le_of_ble_eq_true rfl) d_NInterval_setProduct_117 ?_
          refine lv_topl (fun lv78 hlv78 => ?_)
          obtain rfl : lv78 = kmax ((kP y0 z0)) ((kP y0 z1)) := hlv78
          refine lv_lload hx hb d_NInterval_setProduct_120 (lv_at hl 1 rfl) ?_
          refine lv_lload hx hb d_NInterval_setProduct_122 (lv_at hl 0 rfl) ?_
          refine va_mmax_long hx hb (hml.trans hl.1.symm) hown (wd_653 hB _) (wd_654 hB _) (wd_83 hB _) (wd_655 hB _) (Nat.le_of_ble_eq_true rfl) (Nat.le_of_ble_eq_true rfl) (Nat.le_of_ble_eq_true rfl) (Nat.le_of_ble_eq_true rfl) d_NInterval_setProduct_124 ?_
          refine lv_topl (fun lv79 hlv79 => ?_)
          obtain rfl : lv79 = kmax ((kP y1 z0)) ((kP y1 z1)) := hlv79
          refine va_mmax_long hx hb (hml.trans hl.1.symm) hown (wd_653 hB _) (wd_654 hB _) (wd_83 hB _) (wd_655 hB _) (Nat.le_of_ble_eq_true rfl) (Nat.le_of_ble_eq_true rfl) (Nat.le_of_ble_eq_true rfl) (Nat.le_of_ble_eq_true rfl) d_NInterval_setProduct_127 ?_
          refine lv_topl (fun lv80 hlv80 => ?_)
          obtain rfl : lv80 = kmax ((kmax ((kP y0 z0)) ((kP y0 z1)))) ((kmax ((kP y1 z0)) ((kP y1 z1)))) := hlv80
          obtain ⟨lo_82, hi_83, e81⟩ := oc_3.of t_x (hI.1 x)
          refine pcc_v (va_runV (C := "BigRunner$Interval") (As := [.long (kmin ((kmin ((kP y0 z0)) ((kP y0 z1)))) ((kmin ((kP y1 z0)) ((kP y1 z1))))), .long (kmax ((kmax ((kP y0 z0)) ((kP y0 z1)))) ((kmax ((kP y1 z0)) ((kP y1 z1)))))]) (rest := []) ⟨hx, hb, hml, hown, tb_nil⟩ (c2_iset l g H.size f x ((kmin ((kmin ((kP y0 z0)) ((kP y0 z1)))) ((kmin ((kP y1 z0)) ((kP y1 z1)))))) ((kmax ((kmax ((kP y0 z0)) ((kP y0 z1)))) ((kmax ((kP y1 z0)) ((kP y1 z1)))))) hL t_x hI) ⟨(callB_of 2 (tb_one (wd_598 hB _)) tb_good1 rfl rfl rfl (wd_75 hB _) (wd_621 hB _) (by decide +kernel) ⟨Nat.le_of_ble_eq_true rfl, Nat.le_of_ble_eq_true rfl⟩), (wd_596 hB _), (wd_597 hB _)⟩ ⟨pe_bl, pg_recv (ci := 2) hK hP (lo_in hL t_x (by decide)) e81 rfl, pe_pre hB hK hP hD⟩ rfl rfl hl.1 rfl (lv_room (Nat.le_of_ble_eq_true rfl)) d_NInterval_setProduct_130 ⟨Nat.le_of_ble_eq_true rfl, Nat.le_of_ble_eq_true rfl⟩) hS (fun f85 H locs hq86 hP hD hS => ?_)
          obtain ⟨v_87, hI1_88, hk1_89⟩ := hq86
          have hu : ∀ b, b ≠ x → f85 b = f b := fun b q0 => (hk1_89 b q0).trans (hu b q0)
          exact pe_vret hx hb hr hlocks hK hP hD hS d_NInterval_setProduct_133 ⟨(v_87.trans (by first | (simp [kML, kMH, b7, hi20, b27, hi29, b36, hi49, b56, hi58]; done) | contradiction)), hI1_88, hu⟩
        · skip
          have hr90 : r50 = nI 0 := b56
          have hi91 := i0_54 hr90
          refine lv_aload_n hx hb d_NInterval_setProduct_35 rfl (lv_at hl 0 rfl) ?_
          refine lv_ldc2 (v := (-9223372036854775808)) hx hb hown (wd_599 hB _) d_NInterval_setProduct_36 ?_
          refine lv_ldc2 (v := 9223372036854775807) hx hb hown (wd_600 hB _) d_NInterval_setProduct_39 ?_
          refine lv_topl (fun z_ hz_ => ?_)
          obtain rfl : z_ = nL 9223372036854775807 := hz_
          obtain ⟨lo_93, hi_94, e92⟩ := oc_3.of t_x (hI.1 x)
          refine pcc_v (va_runV (C := "BigRunner$Interval") (As := [.long (-9223372036854775808), .long (nL 9223372036854775807)]) (rest := []) ⟨hx, hb, hml, hown, tb_nil⟩ (c2_iset l g H.size f x ((-9223372036854775808)) ((nL 9223372036854775807)) hL t_x hI) ⟨(callB_of 2 (tb_one (wd_598 hB _)) tb_good1 rfl rfl rfl (wd_75 hB _) (wd_621 hB _) (by decide +kernel) ⟨Nat.le_of_ble_eq_true rfl, Nat.le_of_ble_eq_true rfl⟩), (wd_596 hB _), (wd_597 hB _)⟩ ⟨pe_bl, pg_recv (ci := 2) hK hP (lo_in hL t_x (by decide)) e92 rfl, pe_pre hB hK hP hD⟩ rfl rfl hl.1 rfl (lv_room (Nat.le_of_ble_eq_true rfl)) d_NInterval_setProduct_42 ⟨Nat.le_of_ble_eq_true rfl, Nat.le_of_ble_eq_true rfl⟩) hS (fun f96 H locs hq97 hP hD hS => ?_)
          obtain ⟨v_98, hI1_99, hk1_100⟩ := hq97
          have hu : ∀ b, b ≠ x → f96 b = f b := fun b q0 => (hk1_100 b q0).trans (hu b q0)
          exact pe_vret hx hb hr hlocks hK hP hD hS d_NInterval_setProduct_45 ⟨(v_98.trans (by first | (simp [kML, kMH, b7, hi20, b27, hi29, b36, hi49, b56, hi91]; done) | contradiction)), hI1_99, hu⟩
    · skip
      have hr101 : r21 = nI 1 := (bl_1 bo_24 b27)
      have hi102 := i1_26 hr101
      refine lv_aload_n hx hb d_NInterval_setProduct_14 rfl (lv_at hl 0 rfl) ?_
      refine lv_lconst (v := nL 0) hx hb d_NInterval_setProduct_15 (by decide) ?_
      refine lv_lconst (v := nL 0) hx hb d_NInterval_setProduct_16 (by decide) ?_
      obtain ⟨lo_104, hi_105, e103⟩ := oc_3.of t_x (hI.1 x)
      refine pcc_v (va_runV (C := "BigRunner$Interval") (As := [.long (nL 0), .long (nL 0)]) (rest := []) ⟨hx, hb, hml, hown, tb_nil⟩ (c2_iset l g H.size f x ((nL 0)) ((nL 0)) hL t_x hI) ⟨(callB_of 2 (tb_one (wd_598 hB _)) tb_good1 rfl rfl rfl (wd_75 hB _) (wd_621 hB _) (by decide +kernel) ⟨Nat.le_of_ble_eq_true rfl, Nat.le_of_ble_eq_true rfl⟩), (wd_596 hB _), (wd_597 hB _)⟩ ⟨pe_bl, pg_recv (ci := 2) hK hP (lo_in hL t_x (by decide)) e103 rfl, pe_pre hB hK hP hD⟩ rfl rfl hl.1 rfl (lv_room (Nat.le_of_ble_eq_true rfl)) d_NInterval_setProduct_17 ⟨Nat.le_of_ble_eq_true rfl, Nat.le_of_ble_eq_true rfl⟩) hS (fun f107 H locs hq108 hP hD hS => ?_)
      obtain ⟨v_109, hI1_110, hk1_111⟩ := hq108
      have hu : ∀ b, b ≠ x → f107 b = f b := fun b q0 => (hk1_111 b q0).trans (hu b q0)
      exact pe_vret hx hb hr hlocks hK hP hD hS d_NInterval_setProduct_20 ⟨(v_109.trans (by first | (simp [kML, kMH, b7, hi20, b27, hi102]; done) | contradiction)), hI1_110, hu⟩
set_option maxHeartbeats 4000000 in
set_option maxRecDepth 100000 in
theorem c2_iQuo (l : Launch) (g : Lay) (sz : Nat) (f : Nat → va_E) (x : Nat) (y : Nat) (y0 : Int64) (y1 : Int64) (hL : LO g) (t_x : g.tg x = 3) (t_y : g.tg y = 3) (hI : IV g f) (ey : f y = .inr (2, [.long y0, .long y1])) : Met l ⟨"BigRunner$Interval", "setQuotient", "(LBigRunner$Interval;)V"⟩ [Cond.code ⟨"BigRunner$Interval", "setQuotient", "(LBigRunner$Interval;)V"⟩ prog_3_method_10_code 4 none] ({ frames := 3, cells := 0, slots := 0, locals := 61 }) (va_Pc [.ref x, .ref y] (pc_in g sz f)) (va_Qv (fun f1 => (f1 x = .inr (2, [.long (kL (-(kF y0 y1))), .long (kH (kF y0 y1))])) ∧ (IV g f1) ∧ (∀ b, b ≠ x → f1 b = f b)) (pc_out g sz) (pc_A g sz)) 0 0 (pc_A g sz) := by
  refine pe_ofW (cc := prog_3_method_10_code) (maxL := 4) (ret := none) (lv := [(0, .ref x), (1, .ref y)]) (by decide) (Nat.le_of_ble_eq_true rfl) rfl ?_
  intro p e s m args below meth c ls hx hb hr hml hlocks hown hB hP hK hD hsz hS hl
  subst hsz
  have hu : ∀ b, b ≠ x → f b = f b := fun _ _ => rfl
  refine lv_aload_n hx hb d_NInterval_setQuotient_0 rfl (lv_at hl 1 rfl) ?_
  refine pcc_l (va_runV (C := "BigRunner$Interval") (As := []) (rest := []) ⟨hx, hb, hml, hown, tb_nil⟩ (c2_far l g s.heap.size f y y0 y1 hL t_y hI.1 ey) ⟨(callB_of 0 (tb_one (wd_663 hB _)) tb_good1 rfl rfl rfl (wd_75 hB _) (wd_660 hB _) (by decide +kernel) ⟨Nat.le_of_ble_eq_true rfl, Nat.le_of_ble_eq_true rfl⟩), (wd_662 hB _), (wd_22 hB _)⟩ ⟨pe_bl, pg_recv (ci := 2) hK hP (lo_in hL t_y (by decide)) ey rfl, pe_pre hB hK hP hD⟩ rfl rfl hl.1 rfl (lv_room (Nat.le_of_ble_eq_true rfl)) d_NInterval_setQuotient_1 ⟨Nat.le_of_ble_eq_true rfl, Nat.le_of_ble_eq_true rfl⟩) hS (fun r1 f2 H locs hq3 hP hD hS => ?_)
  obtain ⟨qv_4, rfl⟩ := hq3
  subst qv_4
  refine lv_lstore_n (lv' := [(2, .long (kF y0 y1)), (0, .ref x), (1, .ref y)]) hx hb d_NInterval_setQuotient_4 rfl hl (by decide) rfl (fun ls hl => ?_)
  refine lv_aload_n hx hb d_NInterval_setQuotient_5 rfl (lv_at hl 1 rfl) ?_
  refine lv_lload_n hx hb d_NInterval_setQuotient_6 rfl (lv_at hl 0 rfl) ?_
  refine lv_lneg hx hb d_NInterval_setQuotient_7 ?_
  refine lv_lload_n hx hb d_NInterval_setQuotient_8 rfl (lv_at hl 0 rfl) ?_
  obtain ⟨lo_6, hi_7, e5⟩ := oc_3.of t_x (hI.1 x)
  refine pcc_v (va_runV (C := "BigRunner$Interval") (As := [.long (-((kF y0 y1))), .long (kF y0 y1)]) (rest := []) ⟨hx, hb, hml, hown, tb_nil⟩ (c2_iset l g H.size f x ((-((kF y0 y1)))) ((kF y0 y1)) hL t_x hI) ⟨(callB_of 2 (tb_one (wd_598 hB _)) tb_good1 rfl rfl rfl (wd_75 hB _) (wd_621 hB _) (by decide +kernel) ⟨Nat.le_of_ble_eq_true rfl, Nat.le_of_ble_eq_true rfl⟩), (wd_596 hB _), (wd_597 hB _)⟩ ⟨pe_bl, pg_recv (ci := 2) hK hP (lo_in hL t_x (by decide)) e5 rfl, pe_pre hB hK hP hD⟩ rfl rfl hl.1 rfl (lv_room (Nat.le_of_ble_eq_true rfl)) d_NInterval_setQuotient_9 ⟨Nat.le_of_ble_eq_true rfl, Nat.le_of_ble_eq_true rfl⟩) hS (fun f9 H locs hq10 hP hD hS => ?_)
  obtain ⟨v_11, hI1_12, hk1_13⟩ := hq10
  have hu : ∀ b, b ≠ x → f9 b = f b := fun b q0 => (hk1_13 b q0).trans (hu b q0)
  exact pe_vret hx hb hr hlocks hK hP hD hS d_NInterval_setQuotient_12 ⟨(v_11), hI1_12, hu⟩
set_option maxHeartbeats 4000000 in
set_option maxRecDepth 100000 in
theorem c2_iRes (l : Launch) (g : Lay) (sz : Nat) (f : Nat → va_E) (x : Nat) (y : Nat) (z : Nat) (y0 : Int64) (y1 : Int64) (z0 : Int64) (z1 : Int64) (hL : LO g) (t_x : g.tg x = 3) (t_y : g.tg y = 3) (t_z : g.tg z = 3) (hI : IV g f) (ey : f y = .inr (2, [.long y0, .long y1])) (ez : f z = .inr (2, [.long z0, .long z1])) : Met l ⟨"BigRunner$Interval", "setRest", "(LBigRunner$Interval;LBigRunner$Interval;)V"⟩ [Cond.code ⟨"BigRunner$Interval", "setRest", "(LBigRunner$Interval;LBigRunner$Interval;)V"⟩ prog_3_method_11_code 5 none] ({ frames := 3, cells := 0, slots := 0, locals := 61 }) (va_Pc [.ref x, .ref y, .ref z] (pc_in g sz f)) (va_Qv (fun f1 => (f1 x = .inr (2, [.long (kL (if y0 < nL 0 then -(kR y0 y1 z0 z1) else nL 0)), .long (kH (kR y0 y1 z0 z1))])) ∧ (IV g f1) ∧ (∀ b, b ≠ x → f1 b = f b)) (pc_out g sz) (pc_A g sz)) 0 0 (pc_A g sz) := by
  refine pe_ofW (cc := prog_3_method_11_code) (maxL := 5) (ret := none) (lv := [(0, .ref x), (1, .ref y), (2, .ref z)]) (by decide) (Nat.le_of_ble_eq_true rfl) rfl ?_
  intro p e s m args below meth c ls hx hb hr hml hlocks hown hB hP hK hD hsz hS hl
  subst hsz
  have hu : ∀ b, b ≠ x → f b = f b := fun _ _ => rfl
  refine lv_aload_n hx hb d_NInterval_setRest_0 rfl (lv_at hl 1 rfl) ?_
  refine pcc_l (va_runV (C := "BigRunner$Interval") (As := []) (rest := []) ⟨hx, hb, hml, hown, tb_nil⟩ (c2_far l g s.heap.size f y y0 y1 hL t_y hI.1 ey) ⟨(callB_of 0 (tb_one (wd_663 hB _)) tb_good1 rfl rfl rfl (wd_75 hB _) (wd_660 hB _) (by decide +kernel) ⟨Nat.le_of_ble_eq_true rfl, Nat.le_of_ble_eq_true rfl⟩), (wd_662 hB _), (wd_22 hB _)⟩ ⟨pe_bl, pg_recv (ci := 2) hK hP (lo_in hL t_y (by decide)) ey rfl, pe_pre hB hK hP hD⟩ rfl rfl hl.1 rfl (lv_room (Nat.le_of_ble_eq_true rfl)) d_NInterval_setRest_1 ⟨Nat.le_of_ble_eq_true rfl, Nat.le_of_ble_eq_true rfl⟩) hS (fun r1 f2 H locs hq3 hP hD hS => ?_)
  obtain ⟨qv_4, rfl⟩ := hq3
  subst qv_4
  refine lv_lstore_n (lv' := [(3, .long (kF y0 y1)), (0, .ref x), (1, .ref y), (2, .ref z)]) hx hb d_NInterval_setRest_4 rfl hl (by decide) rfl (fun ls hl => ?_)
  refine lv_aload_n hx hb d_NInterval_setRest_5 rfl (lv_at hl 3 rfl) ?_
  refine pcc_i (va_runV (C := "BigRunner$Interval") (As := []) (rest := []) ⟨hx, hb, hml, hown, tb_nil⟩ (c2_isBounded l g H.size f z z0 z1 hL t_z hI.1 ez) ⟨(callB_of 0 (tb_one (wd_440 hB _)) tb_good1 rfl rfl rfl (wd_75 hB _) (wd_642 hB _) (by decide +kernel) ⟨Nat.le_of_ble_eq_true rfl, Nat.le_of_ble_eq_true rfl⟩), (wd_438 hB _), (wd_439 hB _)⟩ ⟨pe_bl, pg_recv (ci := 2) hK hP (lo_in hL t_z (by decide)) ez rfl, pe_pre hB hK hP hD⟩ rfl rfl hl.1 rfl (lv_room (Nat.le_of_ble_eq_true rfl)) d_NInterval_setRest_6 ⟨Nat.le_of_ble_eq_true rfl, Nat.le_of_ble_eq_true rfl⟩) hS (fun r5 f6 H locs hq7 hP hD hS => ?_)
  obtain ⟨bo_8, i0_9, i1_10, rfl⟩ := hq7
  refine lv_if_eq (tgt := 27) hx hb d_NInterval_setRest_9 (by decide) (fun b11 => ?_) (fun b11 => ?_)
  · skip
    have hr12 : r5 = nI 0 := b11
    have hi13 := i0_9 hr12
    refine lv_aload_n hx hb d_NInterval_setRest_27 rfl (lv_at hl 1 rfl) ?_
    refine lv_aload_n hx hb d_NInterval_setRest_28 rfl (lv_at hl 2 rfl) ?_
    refine pf_get (v := .long y0) (C := "BigRunner$Interval") (T := FT2) (N := 2) hx hb (hw2 hB _) (fun _ h9 => h9) hown hK hP (lo_in hL t_y (by decide)) ey rfl 0 (by decide) (wd_126 hB _) rfl d_NInterval_setRest_29 ?_
    refine lv_lconst (v := nL 0) hx hb d_NInterval_setRest_32 (by decide) ?_
    refine W.lcmp hx hb d_NInterval_setRest_33 ?_
    refine lv_if_lt (tgt := 41) hx hb d_NInterval_setRest_34 (by decide) (fun b14 => ?_) (fun b14 => ?_)
    · skip
      replace b14 := pl_lt.mp b14
      refine lv_lload_n hx hb d_NInterval_setRest_41 rfl (lv_at hl 0 rfl) ?_
      refine lv_lneg hx hb d_NInterval_setRest_42 ?_
      refine lv_lload_n hx hb d_NInterval_setRest_43 rfl (lv_at hl 0 rfl) ?_
      obtain ⟨lo_16, hi_17, e15⟩ := oc_3.of t_x (hI.1 x)
      refine pcc_v (va_runV (C := "BigRunner$Interval") (As := [.long (-((kF y0 y1))), .long (kF y0 y1)]) (rest := []) ⟨hx, hb, hml, hown, tb_nil⟩ (c2_iset l g H.size f x ((-((kF y0 y1)))) ((kF y0 y1)) hL t_x hI) ⟨(callB_of 2 (tb_one (wd_598 hB _)) tb_good1 rfl rfl rfl (wd_75 hB _) (wd_621 hB _) (by decide +kernel) ⟨Nat.le_of_ble_eq_true rfl, Nat.le_of_ble_eq_true rfl⟩), (wd_596 hB _), (wd_597 hB _)⟩ ⟨pe_bl, pg_recv (ci := 2) hK hP (lo_in hL t_x (by decide)) e15 rfl, pe_pre hB hK hP hD⟩ rfl rfl hl.1 rfl (lv_room (Nat.le_of_ble_eq_true rfl)) d_NInterval_setRest_44 ⟨Nat.le_of_ble_eq_true rfl, Nat.le_of_ble_eq_true rfl⟩) hS (fun f19 H locs hq20 hP hD hS => ?_)
      obtain ⟨v_21, hI1_22, hk1_23⟩ := hq20
      have hu : ∀ b, b ≠ x → f19 b = f b := fun b q0 => (hk1_23 b q0).trans (hu b q0)
      exact pe_vret hx hb hr hlocks hK hP hD hS d_NInterval_setRest_47 ⟨(v_21.trans (by first | (simp [kR, b11, hi13, b14]; done) | contradiction)), hI1_22, hu⟩
    · skip
      replace b14 := mt pl_lt.mpr b14
      refine lv_lconst (v := nL 0) hx hb d_NInterval_setRest_37 (by decide) ?_
      refine lv_goto (tgt := 43) hx hb d_NInterval_setRest_38 (by decide) ?_
      refine lv_lload_n hx hb d_NInterval_setRest_43 rfl (lv_at hl 0 rfl) ?_
      obtain ⟨lo_25, hi_26, e24⟩ := oc_3.of t_x (hI.1 x)
      refine pcc_v (va_runV (C := "BigRunner$Interval") (As := [.long (nL 0), .long (kF y0 y1)]) (rest := []) ⟨hx, hb, hml, hown, tb_nil⟩ (c2_iset l g H.size f x ((nL 0)) ((kF y0 y1)) hL t_x hI) ⟨(callB_of 2 (tb_one (wd_598 hB _)) tb_good1 rfl rfl rfl (wd_75 hB _) (wd_621 hB _) (by decide +kernel) ⟨Nat.le_of_ble_eq_true rfl, Nat.le_of_ble_eq_true rfl⟩), (wd_596 hB _), (wd_597 hB _)⟩ ⟨pe_bl, pg_recv (ci := 2) hK hP (lo_in hL t_x (by decide)) e24 rfl, pe_pre hB hK hP hD⟩ rfl rfl hl.1 rfl (lv_room (Nat.le_of_ble_eq_true rfl)) d_NInterval_setRest_44 ⟨Nat.le_of_ble_eq_true rfl, Nat.le_of_ble_eq_true rfl⟩) hS (fun f28 H locs hq29 hP hD hS => ?_)
      obtain ⟨v_30, hI1_31, hk1_32⟩ := hq29
      have hu : ∀ b, b ≠ x → f28 b = f b := fun b q0 => (hk1_32 b q0).trans (hu b q0)
      exact pe_vret hx hb hr hlocks hK hP hD hS d_NInterval_setRest_47 ⟨(v_30.trans (by first | (simp [kR, b11, hi13, b14]; done) | contradiction)), hI1_31, hu⟩
  · skip
    have hr33 : r5 = nI 1 := (bl_1 bo_8 b11)
    have hi34 := i1_10 hr33
    refine lv_lload_n hx hb d_NInterval_setRest_12 rfl (lv_at hl 0 rfl) ?_
    refine lv_lconst (v := nL 0) hx hb d_NInterval_setRest_13 (by decide) ?_
    refine lv_aload_n hx hb d_NInterval_setRest_14 rfl (lv_at hl 3 rfl) ?_
    refine pcc_l (va_runV (C := "BigRunner$Interval") (As := []) (rest := [.long (nL 0), .long (kF y0 y1)]) ⟨hx, hb, hml, hown, tb_nil⟩ (c2_far l g H.size f z z0 z1 hL t_z hI.1 ez) ⟨(callB_of 0 (tb_one (wd_663 hB _)) tb_good1 rfl rfl rfl (wd_75 hB _) (wd_660 hB _) (by decide +kernel) ⟨Nat.le_of_ble_eq_true rfl, Nat.le_of_ble_eq_true rfl⟩), (wd_662 hB _), (wd_22 hB _)⟩ ⟨pe_bl, pg_recv (ci := 2) hK hP (lo_in hL t_z (by decide)) ez rfl, pe_pre hB hK hP hD⟩ rfl rfl hl.1 rfl (lv_room (Nat.le_of_ble_eq_true rfl)) d_NInterval_setRest_15 ⟨Nat.le_of_ble_eq_true rfl, Nat.le_of_ble_eq_true rfl⟩) hS (fun r35 f36 H locs hq37 hP hD hS => ?_)
    obtain ⟨qv_38, rfl⟩ := hq37
    subst qv_38
    refine lv_lconst (v := nL 1) hx hb d_NInterval_setRest_18 (by decide) ?_
    refine lv_lsub hx hb d_NInterval_setRest_19 ?_
    refine va_mmax_long hx hb (hml.trans hl.1.symm) hown (wd_653 hB _) (wd_654 hB _) (wd_83 hB _) (wd_655 hB _) (Nat.le_of_ble_eq_true rfl) (Nat.le_of_ble_eq_true rfl) (Nat.le_of_ble_eq_true rfl) (Nat.le_of_ble_eq_true rfl) d_NInterval_setRest_20 ?_
    refine lv_topl (fun lv39 hlv39 => ?_)
    obtain rfl : lv39 = kmax ((nL 0)) ((((kF z0 z1)) - ((nL 1)))) := hlv39
    refine va_mmin_long hx hb (hml.trans hl.1.symm) hown (wd_650 hB _) (wd_651 hB _) (wd_83 hB _) (wd_652 hB _) (Nat.le_of_ble_eq_true rfl) (Nat.le_of_ble_eq_true rfl) (Nat.le_of_ble_eq_true rfl) (Nat.le_of_ble_eq_true rfl) d_NInterval_setRest_23 ?_
    refine lv_topl (fun lv40 hlv40 => ?_)
    obtain rfl : lv40 = kmin ((kF y0 y1)) ((kmax ((nL 0)) ((((kF z0 z1)) - ((nL 1)))))) := hlv40
    refine lv_lstore_n (lv' := [(3, .long (kmin ((kF y0 y1)) ((kmax ((nL 0)) ((((kF z0 z1)) - ((nL 1)))))))), (0, .ref x), (1, .ref y), (2, .ref z)]) hx hb d_NInterval_setRest_26 rfl hl (by decide) rfl (fun ls hl => ?_)
    refine lv_aload_n hx hb d_NInterval_setRest_27 rfl (lv_at hl 1 rfl) ?_
    refine lv_aload_n hx hb d_NInterval_setRest_28 rfl (lv_at hl 2 rfl) ?_
    refine pf_get (v := .long y0) (C := "BigRunner$Interval") (T := FT2) (N := 2) hx hb (hw2 hB _) (fun _ h9 => h9) hown hK hP (lo_in hL t_y (by decide)) ey rfl 0 (by decide) (wd_126 hB _) rfl d_NInterval_setRest_29 ?_
    refine lv_lconst (v := nL 0) hx hb d_NInterval_setRest_32 (by decide) ?_
    refine W.lcmp hx hb d_NInterval_setRest_33 ?_
    refine lv_if_lt (tgt := 41) hx hb d_NInterval_setRest_34 (by decide) (fun b41 => ?_) (fun b41 => ?_)
    · skip
      replace b41 := pl_lt.mp b41
      refine lv_lload_n hx hb d_NInterval_setRest_41 rfl (lv_at hl 0 rfl) ?_
      refine lv_lneg hx hb d_NInterval_setRest_42 ?_
      refine lv_lload_n hx hb d_NInterval_setRest_43 rfl (lv_at hl 0 rfl) ?_
      obtain ⟨lo_43, hi_44, e42⟩ := oc_3.of t_x (hI.1 x)
      refine pcc_v (va_runV (C := "BigRunner$Interval") (As := [.long (-((kmin ((kF y0 y1)) ((kmax ((nL 0)) ((((kF z0 z1)) - ((nL 1))))))))), .long (kmin ((kF y0 y1)) ((kmax ((nL 0)) ((((kF z0 z1)) - ((nL 1)))))))]) (rest := []) ⟨hx, hb, hml, hown, tb_nil⟩ (c2_iset l g H.size f x ((-((kmin ((kF y0 y1)) ((kmax ((nL 0)) ((((kF z0 z1)) - ((nL 1)))))))))) ((kmin ((kF y0 y1)) ((kmax ((nL 0)) ((((kF z0 z1)) - ((nL 1)))))))) hL t_x hI) ⟨(callB_of 2 (tb_one (wd_598 hB _)) tb_good1 rfl rfl rfl (wd_75 hB _) (wd_621 hB _) (by decide +kernel) ⟨Nat.le_of_ble_eq_true rfl, Nat.le_of_ble_eq_true rfl⟩), (wd_596 hB _), (wd_597 hB _)⟩ ⟨pe_bl, pg_recv (ci := 2) hK hP (lo_in hL t_x (by decide)) e42 rfl, pe_pre hB hK hP hD⟩ rfl rfl hl.1 rfl (lv_room (Nat.le_of_ble_eq_true rfl)) d_NInterval_setRest_44 ⟨Nat.le_of_ble_eq_true rfl, Nat.le_of_ble_eq_true rfl⟩) hS (fun f46 H locs hq47 hP hD hS => ?_)
      obtain ⟨v_48, hI1_49, hk1_50⟩ := hq47
      have hu : ∀ b, b ≠ x → f46 b = f b := fun b q0 => (hk1_50 b q0).trans (hu b q0)
      exact pe_vret hx hb hr hlocks hK hP hD hS d_NInterval_setRest_47 ⟨(v_48.trans (by first | (simp [kR, b11, hi34, b41]; done) | contradiction)), hI1_49, hu⟩
    · skip
      replace b41 := mt pl_lt.mpr b41
      refine lv_lconst (v := nL 0) hx hb d_NInterval_setRest_37 (by decide) ?_
      refine lv_goto (tgt := 43) hx hb d_NInterval_setRest_38 (by decide) ?_
      refine lv_lload_n hx hb d_NInterval_setRest_43 rfl (lv_at hl 0 rfl) ?_
      obtain ⟨lo_52, hi_53, e51⟩ := oc_3.of t_x (hI.1 x)
      refine pcc_v (va_runV (C := "BigRunner$Interval") (As := [.long (nL 0), .long (kmin ((kF y0 y1)) ((kmax ((nL 0)) ((((kF z0 z1)) - ((nL 1)))))))]) (rest := []) ⟨hx, hb, hml, hown, tb_nil⟩ (c2_iset l g H.size f x ((nL 0)) ((kmin ((kF y0 y1)) ((kmax ((nL 0)) ((((kF z0 z1)) - ((nL 1)))))))) hL t_x hI) ⟨(callB_of 2 (tb_one (wd_598 hB _)) tb_good1 rfl rfl rfl (wd_75 hB _) (wd_621 hB _) (by decide +kernel) ⟨Nat.le_of_ble_eq_true rfl, Nat.le_of_ble_eq_true rfl⟩), (wd_596 hB _), (wd_597 hB _)⟩ ⟨pe_bl, pg_recv (ci := 2) hK hP (lo_in hL t_x (by decide)) e51 rfl, pe_pre hB hK hP hD⟩ rfl rfl hl.1 rfl (lv_room (Nat.le_of_ble_eq_true rfl)) d_NInterval_setRest_44 ⟨Nat.le_of_ble_eq_true rfl, Nat.le_of_ble_eq_true rfl⟩) hS (fun f55 H locs hq56 hP hD hS => ?_)
      obtain ⟨v_57, hI1_58, hk1_59⟩ := hq56
      have hu : ∀ b, b ≠ x → f55 b = f b := fun b q0 => (hk1_59 b q0).trans (hu b q0)
      exact pe_vret hx hb hr hlocks hK hP hD hS d_NInterval_setRest_47 ⟨(v_57.trans (by first | (simp [kR, b11, hi34, b41]; done) | contradiction)), hI1_58, hu⟩

