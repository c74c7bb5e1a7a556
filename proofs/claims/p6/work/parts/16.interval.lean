set_option maxHeartbeats 4000000 in
set_option maxRecDepth 100000 in
theorem c_isUnb (l : Launch) (g : Lay) (sz : Nat) (f : Nat → va_E) (v : Int64) (hL : LO g) (hI : OC g f) : Met l ⟨"BigRunner$Interval", "isUnbounded", "(J)Z"⟩ [Cond.code ⟨"BigRunner$Interval", "isUnbounded", "(J)Z"⟩ prog_3_method_2_code 2 (some .boolean)] ({ frames := 0, cells := 0, slots := 0, locals := 0 }) (va_Pc [.long v] (pc_in g sz f)) (va_Qi (fun r f1 => (r = nI 0 ∨ r = nI 1) ∧ (f = f1)) (pc_out g sz) (pc_A g sz)) 0 0 (pc_A g sz) := by
  refine pe_ofW (cc := prog_3_method_2_code) (maxL := 2) (ret := (some .boolean)) (lv := [(0, .long v)]) (by decide) (Nat.le_of_ble_eq_true rfl) rfl ?_
  intro p e s m args below meth c ls hx hb hr hml hlocks hown hB hP hK hD hsz hS hl
  subst hsz
  refine lv_lload_n hx hb d_NInterval_isUnbounded_0 rfl (lv_at hl 0 rfl) ?_
  refine lv_ldc2 (v := (-1152921504606846976)) hx hb hown (wd_444 hB _) d_NInterval_isUnbounded_1 ?_
  refine W.lcmp hx hb d_NInterval_isUnbounded_4 ?_
  refine lv_if_lt (tgt := 16) hx hb d_NInterval_isUnbounded_5 (by decide) (fun b1 => ?_) (fun b1 => ?_)
  · skip
    replace b1 := pl_lt.mp b1
    refine lv_iconst (v := nI 1) hx hb d_NInterval_isUnbounded_16 (by decide) ?_
    refine lv_goto (tgt := 21) hx hb d_NInterval_isUnbounded_17 (by decide) ?_
    exact pe_zret hx hb hr hlocks hK hP hD hS d_NInterval_isUnbounded_21 rfl ⟨(Or.inr rfl), rfl⟩
  · skip
    replace b1 := mt pl_lt.mpr b1
    refine lv_lload_n hx hb d_NInterval_isUnbounded_8 rfl (lv_at hl 0 rfl) ?_
    refine lv_ldc2 (v := 1152921504606846976) hx hb hown (wd_445 hB _) d_NInterval_isUnbounded_9 ?_
    refine lv_topl (fun z_ hz_ => ?_)
    obtain rfl : z_ = nL 1152921504606846976 := hz_
    refine W.lcmp hx hb d_NInterval_isUnbounded_12 ?_
    refine lv_if_le (tgt := 20) hx hb d_NInterval_isUnbounded_13 (by decide) (fun b2 => ?_) (fun b2 => ?_)
    · skip
      replace b2 := pl_le.mp b2
      refine lv_iconst (v := nI 0) hx hb d_NInterval_isUnbounded_20 (by decide) ?_
      exact pe_zret hx hb hr hlocks hK hP hD hS d_NInterval_isUnbounded_21 rfl ⟨(Or.inl rfl), rfl⟩
    · skip
      replace b2 := mt pl_le.mpr b2
      refine lv_iconst (v := nI 1) hx hb d_NInterval_isUnbounded_16 (by decide) ?_
      refine lv_goto (tgt := 21) hx hb d_NInterval_isUnbounded_17 (by decide) ?_
      exact pe_zret hx hb hr hlocks hK hP hD hS d_NInterval_isUnbounded_21 rfl ⟨(Or.inr rfl), rfl⟩
set_option maxHeartbeats 4000000 in
set_option maxRecDepth 100000 in
theorem c_isBounded (l : Launch) (g : Lay) (sz : Nat) (f : Nat → va_E) (x : Nat) (hL : LO g) (t_x : g.tg x = 3) (hI : OC g f) : Met l ⟨"BigRunner$Interval", "isBounded", "()Z"⟩ [Cond.code ⟨"BigRunner$Interval", "isBounded", "()Z"⟩ prog_3_method_3_code 1 (some .boolean)] ({ frames := 1, cells := 0, slots := 0, locals := 21 }) (va_Pc [.ref x] (pc_in g sz f)) (va_Qi (fun r f1 => (r = nI 0 ∨ r = nI 1) ∧ (f = f1)) (pc_out g sz) (pc_A g sz)) 0 0 (pc_A g sz) := by
  refine pe_ofW (cc := prog_3_method_3_code) (maxL := 1) (ret := (some .boolean)) (lv := [(0, .ref x)]) (by decide) (Nat.le_of_ble_eq_true rfl) rfl ?_
  intro p e s m args below meth c ls hx hb hr hml hlocks hown hB hP hK hD hsz hS hl
  subst hsz
  refine lv_aload_n hx hb d_NInterval_isBounded_0 rfl (lv_at hl 0 rfl) ?_
  obtain ⟨lo_2, hi_3, e1⟩ := oc_3.of t_x (hI x)
  refine pf_get (v := .long lo_2) (C := "BigRunner$Interval") (T := FT2) (N := 2) hx hb (hw2 hB _) (fun _ h9 => h9) hown hK hP (lo_in hL t_x (by decide)) e1 rfl 0 (by decide) (wd_126 hB _) rfl d_NInterval_isBounded_1 ?_
  refine pcc_i (va_runS (As := [.long lo_2]) (rest := []) ⟨hx, hb, hml, hown, tb_nil⟩ (c_isUnb l g s.heap.size f lo_2 hL hI) ⟨(callB_of 1 (tb_one (wd_443 hB _)) tb_good1 rfl rfl rfl (wd_75 hB _) (wd_441 hB _) (by decide +kernel) ⟨Nat.le_of_ble_eq_true rfl, Nat.le_of_ble_eq_true rfl⟩), (wd_442 hB _)⟩ ⟨pe_bl, pe_pre hB hK hP hD⟩ rfl rfl hl.1 rfl (lv_room (Nat.le_of_ble_eq_true rfl)) d_NInterval_isBounded_4 ⟨Nat.le_of_ble_eq_true rfl, Nat.le_of_ble_eq_true rfl⟩) hS (fun r4 f5 H locs hq6 hP hD hS => ?_)
  obtain ⟨bo_7, rfl⟩ := hq6
  refine lv_if_ne (tgt := 24) hx hb d_NInterval_isBounded_7 (by decide) (fun b8 => ?_) (fun b8 => ?_)
  · skip
    have hr9 : r4 = nI 1 := (bl_1 bo_7 b8)
    refine lv_iconst (v := nI 0) hx hb d_NInterval_isBounded_24 (by decide) ?_
    exact pe_zret hx hb hr hlocks hK hP hD hS d_NInterval_isBounded_25 rfl ⟨(Or.inl rfl), rfl⟩
  · skip
    have hr10 : r4 = nI 0 := b8
    refine lv_aload_n hx hb d_NInterval_isBounded_10 rfl (lv_at hl 0 rfl) ?_
    refine pf_get (v := .long hi_3) (C := "BigRunner$Interval") (T := FT2) (N := 2) hx hb (hw2 hB _) (fun _ h9 => h9) hown hK hP (lo_in hL t_x (by decide)) e1 rfl 1 (by decide) (wd_129 hB _) rfl d_NInterval_isBounded_11 ?_
    refine pcc_i (va_runS (As := [.long hi_3]) (rest := []) ⟨hx, hb, hml, hown, tb_nil⟩ (c_isUnb l g H.size f hi_3 hL hI) ⟨(callB_of 1 (tb_one (wd_443 hB _)) tb_good1 rfl rfl rfl (wd_75 hB _) (wd_441 hB _) (by decide +kernel) ⟨Nat.le_of_ble_eq_true rfl, Nat.le_of_ble_eq_true rfl⟩), (wd_442 hB _)⟩ ⟨pe_bl, pe_pre hB hK hP hD⟩ rfl rfl hl.1 rfl (lv_room (Nat.le_of_ble_eq_true rfl)) d_NInterval_isBounded_14 ⟨Nat.le_of_ble_eq_true rfl, Nat.le_of_ble_eq_true rfl⟩) hS (fun r11 f12 H locs hq13 hP hD hS => ?_)
    obtain ⟨bo_14, rfl⟩ := hq13
    refine lv_if_ne (tgt := 24) hx hb d_NInterval_isBounded_17 (by decide) (fun b15 => ?_) (fun b15 => ?_)
    · skip
      have hr16 : r11 = nI 1 := (bl_1 bo_14 b15)
      refine lv_iconst (v := nI 0) hx hb d_NInterval_isBounded_24 (by decide) ?_
      exact pe_zret hx hb hr hlocks hK hP hD hS d_NInterval_isBounded_25 rfl ⟨(Or.inl rfl), rfl⟩
    · skip
      have hr17 : r11 = nI 0 := b15
      refine lv_iconst (v := nI 1) hx hb d_NInterval_isBounded_20 (by decide) ?_
      refine lv_goto (tgt := 25) hx hb d_NInterval_isBounded_21 (by decide) ?_
      exact pe_zret hx hb hr hlocks hK hP hD hS d_NInterval_isBounded_25 rfl ⟨(Or.inr rfl), rfl⟩
