set_option maxHeartbeats 4000000 in
set_option maxRecDepth 100000 in
theorem c_ended (l : Launch) (g : Lay) (sz : Nat) (f : Nat → va_E) (X : Nat) (pr : Nat) (ix : Nat) (os : Nat) (st : Nat) (mo : Int32) (lo : Int32) (tr : Nat) (sn : Nat) (nn : Nat) (hL : LO g) (t_X : g.tg X = 9) (t_pr : g.tg pr = 7) (hI : OC g f) (eX : f X = .inr (8, [.ref pr, .ref (g.lk X 1), .int (nI ix), .ref (g.lk X 3), .ref (g.lk X 4), .ref (g.lk X 5), .ref (g.lk X 6), .ref (g.lk X 7), .int (nI os), .int (nI st), .int mo, .int lo, .int (nI tr)])) (hix : ix ≤ 36) (hos : os ≤ st) (hst : st ≤ 3000) (htr : tr ≤ 3) (eP : f pr = .inr (6, [.ref (g.lk pr 0), .int (nI sn), .ref (g.lk pr 2), .int (nI nn), .ref (g.lk pr 4), .ref (g.lk pr 5)])) (hsn : sn ≤ 36) (hnn : nn ≤ 72) : Met l ⟨"BigRunner$Runner", "hasEnded", "()Z"⟩ [Cond.code ⟨"BigRunner$Runner", "hasEnded", "()Z"⟩ prog_9_method_3_code 1 (some .boolean)] ({ frames := 0, cells := 0, slots := 0, locals := 0 }) (va_Pc [.ref X] (pc_in g sz f)) (va_Qi (fun r f1 => (r = nI 0 ∨ r = nI 1) ∧ (r = nI 0 → ix < sn) ∧ (r = nI 1 → sn ≤ ix) ∧ (f = f1)) (pc_out g sz) (pc_A g sz)) 0 0 (pc_A g sz) := by
  refine pe_ofW (cc := prog_9_method_3_code) (maxL := 1) (ret := (some .boolean)) (lv := [(0, .ref X)]) (by decide) (Nat.le_of_ble_eq_true rfl) rfl ?_
  intro p e s m args below meth c ls hx hb hr hml hlocks hown hB hP hK hD hsz hS hl
  subst hsz
  refine lv_aload_n hx hb d_NRunner_hasEnded_0 rfl (lv_at hl 0 rfl) ?_
  refine pf_get (v := .int (nI ix)) (C := "BigRunner$Runner") (T := FT8) (N := 13) hx hb (hw8 hB _) (fun _ h9 => h9) hown hK hP (lo_in hL t_X (by decide)) eX rfl 2 (by decide) (wd_334 hB _) rfl d_NRunner_hasEnded_1 ?_
  refine lv_aload_n hx hb d_NRunner_hasEnded_4 rfl (lv_at hl 0 rfl) ?_
  refine pf_get (v := .ref pr) (C := "BigRunner$Runner") (T := FT8) (N := 13) hx hb (hw8 hB _) (fun _ h9 => h9) hown hK hP (lo_in hL t_X (by decide)) eX rfl 0 (by decide) (wd_330 hB _) rfl d_NRunner_hasEnded_5 ?_
  refine pf_get (v := .int (nI sn)) (C := "BigRunner$Program") (T := FT6) (N := 6) hx hb (hw6 hB _) (fun _ h9 => h9) hown hK hP (lo_in hL t_pr (by decide)) eP rfl 1 (by decide) (wd_247 hB _) rfl d_NRunner_hasEnded_8 ?_
  refine lv_icmp_lt (tgt := 18) hx hb d_NRunner_hasEnded_11 (by decide) (fun b1 => ?_) (fun b1 => ?_)
  · skip
    replace b1 := (nI_ltI (a := ix) (b := sn) (by omega) (by omega)).mp b1
    refine lv_iconst (v := nI 0) hx hb d_NRunner_hasEnded_18 (by decide) ?_
    exact pe_zret hx hb hr hlocks hK hP hD hS d_NRunner_hasEnded_19 rfl ⟨(Or.inl rfl), (fun _ => by first | omega | assumption), (fun z9 => absurd z9 (by decide)), rfl⟩
  · skip
    replace b1 := mt (nI_ltI (a := ix) (b := sn) (by omega) (by omega)).mpr b1
    refine lv_iconst (v := nI 1) hx hb d_NRunner_hasEnded_14 (by decide) ?_
    refine lv_goto (tgt := 19) hx hb d_NRunner_hasEnded_15 (by decide) ?_
    exact pe_zret hx hb hr hlocks hK hP hD hS d_NRunner_hasEnded_19 rfl ⟨(Or.inr rfl), (fun z9 => absurd z9 (by decide)), (fun _ => by first | omega | assumption), rfl⟩
set_option maxHeartbeats 4000000 in
set_option maxRecDepth 100000 in
theorem c_lacks (l : Launch) (g : Lay) (sz : Nat) (f : Nat → va_E) (X : Nat) (pr : Nat) (ix : Nat) (os : Nat) (st : Nat) (mo : Int32) (lo : Int32) (tr : Nat) (sn : Nat) (nn : Nat) (hL : LO g) (t_X : g.tg X = 9) (t_pr : g.tg pr = 7) (hI : OC g f) (eX : f X = .inr (8, [.ref pr, .ref (g.lk X 1), .int (nI ix), .ref (g.lk X 3), .ref (g.lk X 4), .ref (g.lk X 5), .ref (g.lk X 6), .ref (g.lk X 7), .int (nI os), .int (nI st), .int mo, .int lo, .int (nI tr)])) (hix : ix ≤ 36) (hos : os ≤ st) (hst : st ≤ 3000) (htr : tr ≤ 3) (eP : f pr = .inr (6, [.ref (g.lk pr 0), .int (nI sn), .ref (g.lk pr 2), .int (nI nn), .ref (g.lk pr 4), .ref (g.lk pr 5)])) (hsn : sn ≤ 36) (hnn : nn ≤ 72) : Met l ⟨"BigRunner$Runner", "lacksInput", "()Z"⟩ [Cond.code ⟨"BigRunner$Runner", "lacksInput", "()Z"⟩ prog_9_method_4_code 1 (some .boolean)] ({ frames := 1, cells := 0, slots := 0, locals := 20 }) (va_Pc [.ref X] (pc_in g sz f)) (va_Qi (fun r f1 => (r = nI 0 ∨ r = nI 1) ∧ (f = f1)) (pc_out g sz) (pc_A g sz)) 0 0 (pc_A g sz) := by
  refine pe_ofW (cc := prog_9_method_4_code) (maxL := 1) (ret := (some .boolean)) (lv := [(0, .ref X)]) (by decide) (Nat.le_of_ble_eq_true rfl) rfl ?_
  intro p e s m args below meth c ls hx hb hr hml hlocks hown hB hP hK hD hsz hS hl
  subst hsz
  refine lv_aload_n hx hb d_NRunner_lacksInput_0 rfl (lv_at hl 0 rfl) ?_
  refine pcc_i (va_runV (C := "BigRunner$Runner") (As := []) (rest := []) ⟨hx, hb, hml, hown, tb_nil⟩ (c_ended l g s.heap.size f X pr ix os st mo lo tr sn nn hL t_X t_pr hI eX (by omega) (by omega) (by omega) (by omega) eP (by omega) (by omega)) ⟨(callB_of 0 (tb_one (wd_423 hB _)) tb_good1 rfl rfl rfl (wd_79 hB _) (wd_428 hB _) (by decide +kernel) ⟨Nat.le_of_ble_eq_true rfl, Nat.le_of_ble_eq_true rfl⟩), (wd_421 hB _), (wd_422 hB _)⟩ ⟨pe_bl, pg_recv (ci := 8) hK hP (lo_in hL t_X (by decide)) eX rfl, pe_pre hB hK hP hD⟩ rfl rfl hl.1 rfl (lv_room (Nat.le_of_ble_eq_true rfl)) d_NRunner_lacksInput_1 ⟨Nat.le_of_ble_eq_true rfl, Nat.le_of_ble_eq_true rfl⟩) hS (fun r1 f2 H locs hq3 hP hD hS => ?_)
  obtain ⟨bo_4, i0_5, i1_6, rfl⟩ := hq3
  refine lv_if_ne (tgt := 40) hx hb d_NRunner_lacksInput_4 (by decide) (fun b7 => ?_) (fun b7 => ?_)
  · skip
    have hr8 : r1 = nI 1 := (bl_1 bo_4 b7)
    have hi9 := i1_6 hr8
    refine lv_iconst (v := nI 0) hx hb d_NRunner_lacksInput_40 (by decide) ?_
    exact pe_zret hx hb hr hlocks hK hP hD hS d_NRunner_lacksInput_41 rfl ⟨(Or.inl rfl), rfl⟩
  · skip
    have hr10 : r1 = nI 0 := b7
    have hi11 := i0_5 hr10
    refine lv_aload_n hx hb d_NRunner_lacksInput_7 rfl (lv_at hl 0 rfl) ?_
    refine pf_get (v := .ref pr) (C := "BigRunner$Runner") (T := FT8) (N := 13) hx hb (hw8 hB _) (fun _ h9 => h9) hown hK hP (lo_in hL t_X (by decide)) eX rfl 0 (by decide) (wd_330 hB _) rfl d_NRunner_lacksInput_8 ?_
    refine pf_get (v := .ref (g.lk pr 0)) (C := "BigRunner$Program") (T := FT6) (N := 6) hx hb (hw6 hB _) (fun _ h9 => h9) hown hK hP (lo_in hL t_pr (by decide)) eP rfl 0 (by decide) (wd_243 hB _) rfl d_NRunner_lacksInput_11 ?_
    refine lv_aload_n hx hb d_NRunner_lacksInput_14 rfl (lv_at hl 0 rfl) ?_
    refine pf_get (v := .int (nI ix)) (C := "BigRunner$Runner") (T := FT8) (N := 13) hx hb (hw8 hB _) (fun _ h9 => h9) hown hK hP (lo_in hL t_X (by decide)) eX rfl 2 (by decide) (wd_334 hB _) rfl d_NRunner_lacksInput_15 ?_
    have e12 := oc_24.of (lo_k7_0 hL _ t_pr) (hI (g.lk pr 0))
    refine pf_aald (i := ix) hx hb hK hP (lo_in hL (lo_k7_0 hL _ t_pr) (by decide)) e12 (lo_t24 hL _ (lo_k7_0 hL _ t_pr)) (by omega) (by decide) d_NRunner_lacksInput_18 ?_
    have t13 := lo_e24 hL _ (lo_k7_0 hL _ t_pr) ix (by omega)
    obtain ⟨kd_15, nm_16, fn_17, la_18, ta_19, e14, c20, c21, c22, c23, c24⟩ := oc_10.of t13 (hI (g.lk (g.lk pr 0) ix))
    refine pf_get (v := .int (nI kd_15)) (C := "BigRunner$Statement") (T := FT9) (N := 5) hx hb (hw9 hB _) (fun _ h9 => h9) hown hK hP (lo_in hL t13 (by decide)) e14 rfl 0 (by decide) (wd_145 hB _) rfl d_NRunner_lacksInput_19 ?_
    refine lv_iconst (v := nI 1) hx hb d_NRunner_lacksInput_22 (by decide) ?_
    refine lv_icmp_ne (tgt := 40) hx hb d_NRunner_lacksInput_23 (by decide) (fun b25 => ?_) (fun b25 => ?_)
    · skip
      replace b25 := mt (nI_eq (a := kd_15) (b := 1) (by omega) (by omega)).mpr b25
      refine lv_iconst (v := nI 0) hx hb d_NRunner_lacksInput_40 (by decide) ?_
      exact pe_zret hx hb hr hlocks hK hP hD hS d_NRunner_lacksInput_41 rfl ⟨(Or.inl rfl), rfl⟩
    · skip
      replace b25 := (nI_eq (a := kd_15) (b := 1) (by omega) (by omega)).mp b25
      refine lv_aload_n hx hb d_NRunner_lacksInput_26 rfl (lv_at hl 0 rfl) ?_
      refine pf_get (v := .ref (g.lk X 1)) (C := "BigRunner$Runner") (T := FT8) (N := 13) hx hb (hw8 hB _) (fun _ h9 => h9) hown hK hP (lo_in hL t_X (by decide)) eX rfl 1 (by decide) (wd_332 hB _) rfl d_NRunner_lacksInput_27 ?_
      obtain ⟨fi_27, wa_28, e26, c29, c30⟩ := oc_2.of (lo_k9_1 hL _ t_X) (hI (g.lk X 1))
      refine pf_get (v := .int (nI wa_28)) (C := "BigRunner$Inputs") (T := FT1) (N := 3) hx hb (hw1 hB _) (fun _ h9 => h9) hown hK hP (lo_in hL (lo_k9_1 hL _ t_X) (by decide)) e26 rfl 2 (by decide) (wd_301 hB _) rfl d_NRunner_lacksInput_30 ?_
      refine lv_if_ne (tgt := 40) hx hb d_NRunner_lacksInput_33 (by decide) (fun b31 => ?_) (fun b31 => ?_)
      · skip
        replace b31 := mt (nI_eq (a := wa_28) (b := 0) (by omega) (by omega)).mpr b31
        refine lv_iconst (v := nI 0) hx hb d_NRunner_lacksInput_40 (by decide) ?_
        exact pe_zret hx hb hr hlocks hK hP hD hS d_NRunner_lacksInput_41 rfl ⟨(Or.inl rfl), rfl⟩
      · skip
        replace b31 := (nI_eq (a := wa_28) (b := 0) (by omega) (by omega)).mp b31
        refine lv_iconst (v := nI 1) hx hb d_NRunner_lacksInput_36 (by decide) ?_
        refine lv_goto (tgt := 41) hx hb d_NRunner_lacksInput_37 (by decide) ?_
        exact pe_zret hx hb hr hlocks hK hP hD hS d_NRunner_lacksInput_41 rfl ⟨(Or.inr rfl), rfl⟩
set_option maxHeartbeats 4000000 in
set_option maxRecDepth 100000 in
theorem c_keptOutputs (l : Launch) (g : Lay) (sz : Nat) (f : Nat → va_E) (X : Nat) (pr : Nat) (ix : Nat) (os : Nat) (st : Nat) (mo : Int32) (lo : Int32) (tr : Nat) (hL : LO g) (t_X : g.tg X = 9) (t_pr : g.tg pr = 7) (hI : OC g f) (eX : f X = .inr (8, [.ref pr, .ref (g.lk X 1), .int (nI ix), .ref (g.lk X 3), .ref (g.lk X 4), .ref (g.lk X 5), .ref (g.lk X 6), .ref (g.lk X 7), .int (nI os), .int (nI st), .int mo, .int lo, .int (nI tr)])) (hix : ix ≤ 36) (hos : os ≤ st) (hst : st ≤ 3000) (htr : tr ≤ 3) : Met l ⟨"BigRunner$Runner", "keptOutputs", "()I"⟩ [Cond.code ⟨"BigRunner$Runner", "keptOutputs", "()I"⟩ prog_9_method_5_code 1 (some .int)] ({ frames := 1, cells := 0, slots := 0, locals := 40 }) (va_Pc [.ref X] (pc_in g sz f)) (va_Qi (fun r f1 => (∃ k, k ≤ 12 ∧ r = nI k) ∧ (f = f1)) (pc_out g sz) (pc_A g sz)) 0 0 (pc_A g sz) := by
  refine pe_ofW (cc := prog_9_method_5_code) (maxL := 1) (ret := (some .int)) (lv := [(0, .ref X)]) (by decide) (Nat.le_of_ble_eq_true rfl) rfl ?_
  intro p e s m args below meth c ls hx hb hr hml hlocks hown hB hP hK hD hsz hS hl
  subst hsz
  refine lv_aload_n hx hb d_NRunner_keptOutputs_0 rfl (lv_at hl 0 rfl) ?_
  refine pf_get (v := .int (nI os)) (C := "BigRunner$Runner") (T := FT8) (N := 13) hx hb (hw8 hB _) (fun _ h9 => h9) hown hK hP (lo_in hL t_X (by decide)) eX rfl 8 (by decide) (wd_341 hB _) rfl d_NRunner_keptOutputs_1 ?_
  refine lv_bipush (v := nI 12) hx hb d_NRunner_keptOutputs_4 (by decide) ?_
  refine va_mmin hx hb (hml.trans hl.1.symm) hown (wd_939 hB _) (wd_459 hB _) (wd_83 hB _) (wd_460 hB _) (Nat.le_of_ble_eq_true rfl) (Nat.le_of_ble_eq_true rfl) (Nat.le_of_ble_eq_true rfl) (Nat.le_of_ble_eq_true rfl) d_NRunner_keptOutputs_6 ?_
  refine lv_topi (fun z_ hz_ => ?_)
  obtain ⟨mn1, hmn1⟩ : ∃ z : Nat, z = min os 12 := ⟨_, rfl⟩
  obtain rfl : z_ = nI mn1 := by rw [hz_, hmn1]; exact mi_min (a := os) (b := 12) (by omega) (by omega)
  exact pe_iret hx hb hr hlocks hK hP hD hS d_NRunner_keptOutputs_9 ⟨⟨mn1, by omega, rfl⟩, rfl⟩
