theorem sgI_le (v : Int) : sgI v ≤ nI 0 ↔ v ≤ 0 := by
  rcases sgI_3 v with ⟨h, e⟩ | ⟨h, e⟩ | ⟨h, e⟩
  · rw [e]; exact ⟨fun _ => by omega, fun _ => by decide⟩
  · rw [e]; exact ⟨fun _ => by omega, fun _ => by decide⟩
  · rw [e]; exact ⟨fun q => absurd q (by decide), fun q => by omega⟩
theorem LNV_le {sg : Int32} {n : Nat} {h : Nat → Int32} {v : Int} (q : LNV sg n h v) : sg ≤ nI 0 ↔ v ≤ 0 := by
  have e := LNV_sg q
  rw [Int32.le_iff_toInt_le, e, ti_0]
  rcases Int.lt_trichotomy v 0 with z | z | z
  · rw [Int.sign_eq_neg_one_of_neg z]; omega
  · rw [z]; decide
  · rw [Int.sign_eq_one_of_pos z]; omega
set_option maxHeartbeats 4000000 in
set_option maxRecDepth 100000 in
theorem v_widenedS (l : Launch) (g : Lay) (sz : Nat) (f : Nat → va_E) (x : Nat) (kd : Nat) (le : Nat) (ri : Nat) (mv : Int64) (hL : LO g) (t_x : g.tg x = 6) (hI : IV g f) (eN : f x = .inr (5, [.int (nI kd), .int (nI le), .int (nI ri), .ref (g.lk x 3), .int (nI 1), .long mv, .ref (g.lk x 6)])) (hm60 : mv.toInt.natAbs ≤ 1152921504606846976) : Met l ⟨"BigRunner$Node", "widened", "()LBigRunner$LongNumber;"⟩ [Cond.code ⟨"BigRunner$Node", "widened", "()LBigRunner$LongNumber;"⟩ prog_6_method_2_code 1 (some (.object "BigRunner$LongNumber"))] ({ frames := 2, cells := 0, slots := 0, locals := 65 }) (va_Pc [.ref x] (pc_in g sz f)) (va_Qr (fun _ => True) (pc_outr g sz (fun f1 ra => (ra = g.lk x 6) ∧ (∃ (sg1 : Int32) (n1 : Nat) (h1 : Nat → Int32), f1 (g.lk x 6) = .inr (4, [.int sg1, .int (nI n1), .ref (g.lk (g.lk x 6) 2)]) ∧ f1 (g.lk (g.lk x 6) 2) = .inl (g.ac (g.lk (g.lk x 6) 2), 15, .inl h1) ∧ LNV sg1 n1 h1 (mv.toInt)) ∧ (IV g f1) ∧ (∀ b, b ≠ (g.lk x 6) → b ≠ (g.lk (g.lk x 6) 2) → f1 b = f b))) (pc_A g sz)) 0 0 (pc_A g sz) := by
  refine pe_ofW (cc := prog_6_method_2_code) (maxL := 1) (ret := (some (.object "BigRunner$LongNumber"))) (lv := [(0, .ref x)]) (by decide) (Nat.le_of_ble_eq_true rfl) rfl ?_
  intro p e s m args below meth c ls hx hb hr hml hlocks hown hB hP hK hD hsz hS hl
  subst hsz
  have hu : ∀ b, b ≠ (g.lk x 6) → b ≠ (g.lk (g.lk x 6) 2) → f b = f b := fun _ _ _  => rfl
  refine lv_aload_n hx hb d_NNode_widened_0 rfl (lv_at hl 0 rfl) ?_
  refine pf_get (v := .int (nI 1)) (C := "BigRunner$Node") (T := FT5) (N := 7) hx hb (hw5 hB _) (fun _ h9 => h9) hown hK hP (lo_in hL t_x (by decide)) eN rfl 4 (by decide) (wd_216 hB _) rfl d_NNode_widened_1 ?_
  refine lv_if_eq (tgt := 18) hx hb d_NNode_widened_4 (by decide) (fun b1 => ?_) (fun b1 => ?_)
  · skip
    replace b1 := (nI_eq (a := 1) (b := 0) (by omega) (by omega)).mp b1
    exfalso; omega
  · skip
    replace b1 := mt (nI_eq (a := 1) (b := 0) (by omega) (by omega)).mpr b1
    refine lv_aload_n hx hb d_NNode_widened_7 rfl (lv_at hl 0 rfl) ?_
    refine pf_get (v := .ref (g.lk x 6)) (C := "BigRunner$Node") (T := FT5) (N := 7) hx hb (hw5 hB _) (fun _ h9 => h9) hown hK hP (lo_in hL t_x (by decide)) eN rfl 6 (by decide) (wd_223 hB _) rfl d_NNode_widened_8 ?_
    refine lv_aload_n hx hb d_NNode_widened_11 rfl (lv_at hl 0 rfl) ?_
    refine pf_get (v := .long mv) (C := "BigRunner$Node") (T := FT5) (N := 7) hx hb (hw5 hB _) (fun _ h9 => h9) hown hK hP (lo_in hL t_x (by decide)) eN rfl 5 (by decide) (wd_219 hB _) rfl d_NNode_widened_12 ?_
    obtain ⟨sg_3, n_4, e2, c5⟩ := oc_5.of (lo_k6_6 hL _ t_x) (hI.1 (g.lk x 6))
    refine pcc_v (va_runV (C := "BigRunner$LongNumber") (As := [.long mv]) (rest := []) ⟨hx, hb, hml, hown, tb_nil⟩ (v_setTo l g s.heap.size f ((g.lk x 6)) mv hL (lo_k6_6 hL _ t_x) hI (by omega)) ⟨(callB_of 1 (tb_one (wd_680 hB _)) tb_good1 rfl rfl rfl (wd_78 hB _) (wd_762 hB _) (by decide +kernel) ⟨Nat.le_of_ble_eq_true rfl, Nat.le_of_ble_eq_true rfl⟩), (wd_678 hB _), (wd_679 hB _)⟩ ⟨pe_bl, pg_recv (ci := 4) hK hP (lo_in hL (lo_k6_6 hL _ t_x) (by decide)) e2 rfl, pe_pre hB hK hP hD⟩ rfl rfl hl.1 rfl (lv_room (Nat.le_of_ble_eq_true rfl)) d_NNode_widened_15 ⟨Nat.le_of_ble_eq_true rfl, Nat.le_of_ble_eq_true rfl⟩) hS (fun f7 H locs hq8 hP hD hS => ?_)
    obtain ⟨lv_9, hI1_10, hk1_11⟩ := hq8
    have hu : ∀ b, b ≠ (g.lk x 6) → b ≠ (g.lk (g.lk x 6) 2) → f7 b = f b := fun b q0 q1 => (hk1_11 b q0 q1).trans (hu b q0 q1)
    have eN := (hk1_11 x (tg_ne t_x (lo_k6_6 hL _ t_x) (by decide)) (tg_ne t_x (lo_k5_2 hL _ (lo_k6_6 hL _ t_x)) (by decide))).trans eN
    obtain ⟨sg12, nn13, dd14, e15, e16, hN17⟩ := lv_9
    have c18 : ∀ i, i < 15 → ∃ k, k < 1000000000 ∧ dd14 i = nI k := hN17.2.1
    have hnn13 : nn13 ≤ 15 := hN17.1
    refine lv_aload_n hx hb d_NNode_widened_18 rfl (lv_at hl 0 rfl) ?_
    refine pf_get (v := .ref (g.lk x 6)) (C := "BigRunner$Node") (T := FT5) (N := 7) hx hb (hw5 hB _) (fun _ h9 => h9) hown hK hP (lo_in hL t_x (by decide)) eN rfl 6 (by decide) (wd_223 hB _) rfl d_NNode_widened_19 ?_
    exact pe_aret hx hb hr hlocks hK hP hD hS d_NNode_widened_22 ⟨rfl, ⟨_, _, _, e15, e16, hN17⟩, hI1_10, hu⟩
set_option maxHeartbeats 4000000 in
set_option maxRecDepth 100000 in
theorem v_widenedL (l : Launch) (g : Lay) (sz : Nat) (f : Nat → va_E) (x : Nat) (kd : Nat) (le : Nat) (ri : Nat) (mv : Int64) (hL : LO g) (t_x : g.tg x = 6) (hI : OC g f) (eN : f x = .inr (5, [.int (nI kd), .int (nI le), .int (nI ri), .ref (g.lk x 3), .int (nI 0), .long mv, .ref (g.lk x 6)])) : Met l ⟨"BigRunner$Node", "widened", "()LBigRunner$LongNumber;"⟩ [Cond.code ⟨"BigRunner$Node", "widened", "()LBigRunner$LongNumber;"⟩ prog_6_method_2_code 1 (some (.object "BigRunner$LongNumber"))] ({ frames := 0, cells := 0, slots := 0, locals := 0 }) (va_Pc [.ref x] (pc_in g sz f)) (va_Qr (fun _ => True) (pc_outr g sz (fun f1 ra => (ra = g.lk x 6) ∧ (f = f1))) (pc_A g sz)) 0 0 (pc_A g sz) := by
  refine pe_ofW (cc := prog_6_method_2_code) (maxL := 1) (ret := (some (.object "BigRunner$LongNumber"))) (lv := [(0, .ref x)]) (by decide) (Nat.le_of_ble_eq_true rfl) rfl ?_
  intro p e s m args below meth c ls hx hb hr hml hlocks hown hB hP hK hD hsz hS hl
  subst hsz
  refine lv_aload_n hx hb d_NNode_widened_0 rfl (lv_at hl 0 rfl) ?_
  refine pf_get (v := .int (nI 0)) (C := "BigRunner$Node") (T := FT5) (N := 7) hx hb (hw5 hB _) (fun _ h9 => h9) hown hK hP (lo_in hL t_x (by decide)) eN rfl 4 (by decide) (wd_216 hB _) rfl d_NNode_widened_1 ?_
  refine lv_if_eq (tgt := 18) hx hb d_NNode_widened_4 (by decide) (fun b1 => ?_) (fun b1 => ?_)
  · skip
    replace b1 := (nI_eq (a := 0) (b := 0) (by omega) (by omega)).mp b1
    refine lv_aload_n hx hb d_NNode_widened_18 rfl (lv_at hl 0 rfl) ?_
    refine pf_get (v := .ref (g.lk x 6)) (C := "BigRunner$Node") (T := FT5) (N := 7) hx hb (hw5 hB _) (fun _ h9 => h9) hown hK hP (lo_in hL t_x (by decide)) eN rfl 6 (by decide) (wd_223 hB _) rfl d_NNode_widened_19 ?_
    exact pe_aret hx hb hr hlocks hK hP hD hS d_NNode_widened_22 ⟨rfl, rfl⟩
  · skip
    replace b1 := mt (nI_eq (a := 0) (b := 0) (by omega) (by omega)).mpr b1
    exfalso; omega
set_option maxHeartbeats 4000000 in
set_option maxRecDepth 100000 in
theorem v_nsignS (l : Launch) (g : Lay) (sz : Nat) (f : Nat → va_E) (x : Nat) (kd : Nat) (le : Nat) (ri : Nat) (mv : Int64) (hL : LO g) (t_x : g.tg x = 6) (hI : OC g f) (eN : f x = .inr (5, [.int (nI kd), .int (nI le), .int (nI ri), .ref (g.lk x 3), .int (nI 1), .long mv, .ref (g.lk x 6)])) (hm60 : mv.toInt.natAbs ≤ 1152921504606846976) : Met l ⟨"BigRunner$Node", "sign", "()I"⟩ [Cond.code ⟨"BigRunner$Node", "sign", "()I"⟩ prog_6_method_3_code 1 (some .int)] ({ frames := 1, cells := 0, slots := 0, locals := 21 }) (va_Pc [.ref x] (pc_in g sz f)) (va_Qi (fun r f1 => (r ≤ nI 0 ↔ mv.toInt ≤ 0) ∧ (f = f1)) (pc_out g sz) (pc_A g sz)) 0 0 (pc_A g sz) := by
  refine pe_ofW (cc := prog_6_method_3_code) (maxL := 1) (ret := (some .int)) (lv := [(0, .ref x)]) (by decide) (Nat.le_of_ble_eq_true rfl) rfl ?_
  intro p e s m args below meth c ls hx hb hr hml hlocks hown hB hP hK hD hsz hS hl
  subst hsz
  refine lv_aload_n hx hb d_NNode_sign_0 rfl (lv_at hl 0 rfl) ?_
  refine pf_get (v := .int (nI 1)) (C := "BigRunner$Node") (T := FT5) (N := 7) hx hb (hw5 hB _) (fun _ h9 => h9) hown hK hP (lo_in hL t_x (by decide)) eN rfl 4 (by decide) (wd_216 hB _) rfl d_NNode_sign_1 ?_
  refine lv_if_eq (tgt := 17) hx hb d_NNode_sign_4 (by decide) (fun b1 => ?_) (fun b1 => ?_)
  · skip
    replace b1 := (nI_eq (a := 1) (b := 0) (by omega) (by omega)).mp b1
    exfalso; omega
  · skip
    replace b1 := mt (nI_eq (a := 1) (b := 0) (by omega) (by omega)).mpr b1
    refine lv_aload_n hx hb d_NNode_sign_7 rfl (lv_at hl 0 rfl) ?_
    refine pf_get (v := .long mv) (C := "BigRunner$Node") (T := FT5) (N := 7) hx hb (hw5 hB _) (fun _ h9 => h9) hown hK hP (lo_in hL t_x (by decide)) eN rfl 5 (by decide) (wd_219 hB _) rfl d_NNode_sign_8 ?_
    refine pcc_i (va_runS (As := [.long mv]) (rest := []) ⟨hx, hb, hml, hown, tb_nil⟩ (v_signum l g s.heap.size f mv hL hI (by omega)) ⟨(callB_of 1 (tb_one (wd_684 hB _)) tb_good1 rfl rfl rfl (wd_88 hB _) (wd_847 hB _) (by decide +kernel) ⟨Nat.le_of_ble_eq_true rfl, Nat.le_of_ble_eq_true rfl⟩), (wd_683 hB _)⟩ ⟨pe_bl, pe_pre hB hK hP hD⟩ rfl rfl hl.1 rfl (lv_room (Nat.le_of_ble_eq_true rfl)) d_NNode_sign_11 ⟨Nat.le_of_ble_eq_true rfl, Nat.le_of_ble_eq_true rfl⟩) hS (fun r2 f3 H locs hq4 hP hD hS => ?_)
    obtain ⟨qv_5, rfl⟩ := hq4
    subst qv_5
    refine lv_goto (tgt := 24) hx hb d_NNode_sign_14 (by decide) ?_
    exact pe_iret hx hb hr hlocks hK hP hD hS d_NNode_sign_24 ⟨(sgI_le _), rfl⟩
set_option maxHeartbeats 4000000 in
set_option maxRecDepth 100000 in
theorem v_nsignL (l : Launch) (g : Lay) (sz : Nat) (f : Nat → va_E) (x : Nat) (kd : Nat) (le : Nat) (ri : Nat) (mv : Int64) (sgw : Int32) (nw : Nat) (dw : Nat → Int32) (vw : Int) (hL : LO g) (t_x : g.tg x = 6) (hI : OC g f) (eN : f x = .inr (5, [.int (nI kd), .int (nI le), .int (nI ri), .ref (g.lk x 3), .int (nI 0), .long mv, .ref (g.lk x 6)])) (eaw : f (g.lk x 6) = .inr (4, [.int sgw, .int (nI nw), .ref (g.lk (g.lk x 6) 2)])) (ebw : f (g.lk (g.lk x 6) 2) = .inl (g.ac (g.lk (g.lk x 6) 2), 15, .inl dw)) (hNw : LNV sgw nw dw vw) : Met l ⟨"BigRunner$Node", "sign", "()I"⟩ [Cond.code ⟨"BigRunner$Node", "sign", "()I"⟩ prog_6_method_3_code 1 (some .int)] ({ frames := 0, cells := 0, slots := 0, locals := 0 }) (va_Pc [.ref x] (pc_in g sz f)) (va_Qi (fun r f1 => (r ≤ nI 0 ↔ vw ≤ 0) ∧ (f = f1)) (pc_out g sz) (pc_A g sz)) 0 0 (pc_A g sz) := by
  refine pe_ofW (cc := prog_6_method_3_code) (maxL := 1) (ret := (some .int)) (lv := [(0, .ref x)]) (by decide) (Nat.le_of_ble_eq_true rfl) rfl ?_
  intro p e s m args below meth c ls hx hb hr hml hlocks hown hB hP hK hD hsz hS hl
  subst hsz
  refine lv_aload_n hx hb d_NNode_sign_0 rfl (lv_at hl 0 rfl) ?_
  refine pf_get (v := .int (nI 0)) (C := "BigRunner$Node") (T := FT5) (N := 7) hx hb (hw5 hB _) (fun _ h9 => h9) hown hK hP (lo_in hL t_x (by decide)) eN rfl 4 (by decide) (wd_216 hB _) rfl d_NNode_sign_1 ?_
  refine lv_if_eq (tgt := 17) hx hb d_NNode_sign_4 (by decide) (fun b1 => ?_) (fun b1 => ?_)
  · skip
    replace b1 := (nI_eq (a := 0) (b := 0) (by omega) (by omega)).mp b1
    refine lv_aload_n hx hb d_NNode_sign_17 rfl (lv_at hl 0 rfl) ?_
    refine pf_get (v := .ref (g.lk x 6)) (C := "BigRunner$Node") (T := FT5) (N := 7) hx hb (hw5 hB _) (fun _ h9 => h9) hown hK hP (lo_in hL t_x (by decide)) eN rfl 6 (by decide) (wd_223 hB _) rfl d_NNode_sign_18 ?_
    refine pf_get (v := .int sgw) (C := "BigRunner$LongNumber") (T := FT4) (N := 3) hx hb (hw4 hB _) (fun _ h9 => h9) hown hK hP (lo_in hL (lo_k6_6 hL _ t_x) (by decide)) eaw rfl 0 (by decide) (wd_188 hB _) rfl d_NNode_sign_21 ?_
    exact pe_iret hx hb hr hlocks hK hP hD hS d_NNode_sign_24 ⟨(LNV_le hNw), rfl⟩
  · skip
    replace b1 := mt (nI_eq (a := 0) (b := 0) (by omega) (by omega)).mpr b1
    exfalso; omega

