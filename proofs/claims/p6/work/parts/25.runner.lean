set_option maxHeartbeats 4000000 in
set_option maxRecDepth 100000 in
theorem c_ended (l : Launch) (g : Lay) (sz : Nat) (f : Nat → va_E) (X : Nat) (pr : Nat) (ix : Nat) (os : Nat) (st : Nat) (mo : Int32) (lo : Int32) (tr : Nat) (sn : Nat) (nn : Nat) (hL : LO g) (t_X : g.tg X = 9) (t_pr : g.tg pr = 7) (hI : OC g f) (eX : f X = .inr (8, [.ref pr, .ref (g.lk X 1), .int (nI ix), .ref (g.lk X 3), .ref (g.lk X 4), .ref (g.lk X 5), .ref (g.lk X 6), .ref (g.lk X 7), .int (nI os), .int (nI st), .int mo, .int lo, .int (nI tr)])) (hix : ix ≤ 36) (hos : os ≤ st) (hst : st ≤ 3000) (htr : tr ≤ 3) (eP : f pr = .inr (6, [.ref (g.lk pr 0), .int (nI sn), .ref (g.lk pr 2), .int (nI nn), .ref (g.lk pr 4), .ref (g.lk pr 5)])) (hsn : sn ≤ 36) (hnn : nn ≤ 72) : Met l ⟨"BigRunner$Runner", "hasEnded", "()Z"⟩ [Cond.code ⟨"BigRunner$Runner", "hasEnded", "()Z"⟩ prog_9_method_3_code 1 (some .boolean)] ({ frames := 0, cells := 0, slots := 0, locals := 0 }) (va_Pc [.ref X] (pc_in g sz f)) (va_Qi (fun r f1 => (r = nI 0 ∨ r = nI 1) ∧ (r = nI 0 → ix < sn) ∧ (r = nI 1 → sn ≤ ix) ∧ (f = f1)) (pc_out g sz) (pc_A g sz)) 0 0 (pc_A g sz) := by
  refine pe_ofW (cc := prog_9_method_3_code) (maxL := 1) (ret := (some .boolean)) (lv := [(0, .ref X)]) (by decide) (Nat.le_of_ble_eq_true rfl) rfl ?_
  intro p e s m args below meth c ls hx hb hr hml hlocks hown hB hP hK hD hsz hS hl
  subst hsz
  refine lv_aload_n hx hb d_NRunner_hasEnded_0 rfl (lv_at hl 0 rfl) ?_
  refine pf_get (v := .int (nI ix)) (C := "BigRunner$Runner") (T := FT8) (N := 13) hx hb (hw8 hB _) (fun _ h9 => h9) hown hK hP (lo_in hL t_X (by decide)) eX rfl 2 (by decide) (wd_334 hB _) rfl d_NRunner_hasEnded_1 ?_
  refine lv_aload_n hx hb d_NRunner_hasEnded_4 rfl (lv_at hl 0 rfl) ?_
  refine pf_get (v := .ref pr) (C := "BigRunner$Runner") (T := FT8) (N := 13) hx hb (hw8 hB _) (fun _ h9 => h9) hown hK hP (lo_in hL t_X (by decide)) eX rfl 0 (by decide) (wd_330 hB _) rfl d_NRunner_hasEnded_5 ?_
  refine pf_get (v := .int (nI sn)) (C := "BigRunner$Program") (T := FT6) (N := 6) hx hb (hw6 hB _) (fun _ h9 => h9) hown hK hP (lo_in hL t_pr (by decide)) eP rfl 1 (by decide) (wd_247 hB _) rfl d_NRunner_hasEnded_8 ?_
  refine lv_icmp_lt (tgt := 18) hx hb d_NRunner_hasEnded_11 (by decide) (fun b1 => ?_) (fun b1 => ?_)
  · skip
    replace b1 := (nI_ltI (a := ix) (b := sn) (by omega) (by omega)).mp b1
    refine lv_iconst (v := nI 0) hx hb d_NRunner_hasEnded_18 (by decide) ?_
    exact pe_zret hx hb hr hlocks hK hP hD hS d_NRunner_hasEnded_19 rfl ⟨(Or.inl rfl), (fun _ => by first | omega | assumption), (fun z9 => absurd z9 (by decide)), rfl⟩
  · skip
    replace b1 := mt (nI_ltI (a := ix) (b := sn) (by omega) (by omega)).mpr b1
    refine lv_iconst (v := nI 1) hx hb d_NRunner_hasEnded_14 (by decide) ?_
    refine lv_goto (tgt := 19) hx hb d_NRunner_hasEnded_15 (by decide) ?_
    exact pe_zret hx hb hr hlocks hK hP hD hS d_NRunner_hasEnded_19 rfl ⟨(Or.inr rfl), (fun z9 => absurd z9 (by decide)), (fun _ => by first | omega | assumption), rfl⟩
set_option maxHeartbeats 4000000 in
set_option maxRecDepth 100000 in
theorem c_lacks (l : Launch) (g : Lay) (sz : Nat) (f : Nat → va_E) (X : Nat) (pr : Nat) (ix : Nat) (os : Nat) (st : Nat) (mo : Int32) (lo : Int32) (tr : Nat) (sn : Nat) (nn : Nat) (hL : LO g) (t_X : g.tg X = 9) (t_pr : g.tg pr = 7) (hI : OC g f) (eX : f X = .inr (8, [.ref pr, .ref (g.lk X 1), .int (nI ix), .ref (g.lk X 3), .ref (g.lk X 4), .ref (g.lk X 5), .ref (g.lk X 6), .ref (g.lk X 7), .int (nI os), .int (nI st), .int mo, .int lo, .int (nI tr)])) (hix : ix ≤ 36) (hos : os ≤ st) (hst : st ≤ 3000) (htr : tr ≤ 3) (eP : f pr = .inr (6, [.ref (g.lk pr 0), .int (nI sn), .ref (g.lk pr 2), .int (nI nn), .ref (g.lk pr 4), .ref (g.lk pr 5)])) (hsn : sn ≤ 36) (hnn : nn ≤ 72) : Met l ⟨"BigRunner$Runner", "lacksInput", "()Z"⟩ [Cond.code ⟨"BigRunner$Runner", "lacksInput", "()Z"⟩ prog_9_method_4_code 1 (some .boolean)] ({ frames := 1, cells := 0, slots := 0, locals := 20 }) (va_Pc [.ref X] (pc_in g sz f)) (va_Qi (fun r f1 => (r = nI 0 ∨ r = nI 1) ∧ (f = f1)) (pc_out g sz) (pc_A g sz)) 0 0 (pc_A g sz) := by
  refine pe_ofW (cc := prog_9_method_4_code) (maxL := 1) (ret := (some .boolean)) (lv := [(0, .ref X)]) (by decide) (Nat.le_of_ble_eq_true rfl) rfl ?_
  intro p e s m args below meth c ls hx hb hr hml hlocks hown hB hP hK hD hsz hS hl
  subst hsz
  refine lv_aload_n hx hb d_NRunner_lacksInput_0 rfl (lv_at hl 0 rfl) ?_
  refine pcc_i (va_runV (C := "BigRunner$Runner") (As := []) (rest := []) ⟨hx, hb, hml, hown, tb_nil⟩ (c_ended l g s.heap.size f X pr ix os st mo lo tr sn nn hL t_X t_pr hI eX (by omega) (by omega) (by omega) (by omega) eP (by omega) (by omega)) ⟨(callB_of 0 (tb_one (wd_423 hB _)) tb_good1 rfl rfl rfl (wd_79 hB _) (wd_428 hB _) (by decide +kernel) ⟨Nat.le_of_ble_eq_true rfl, Nat.le_of_ble_eq_true rfl⟩), (wd_421 hB _), (wd_422 hB _)⟩ ⟨pe_bl, pg_recv (ci := 8) hK hP (lo_in hL t_X (by decide)) eX rfl, pe_pre hB hK hP hD⟩ rfl rfl hl.1 rfl (lv_room (Nat.le_of_ble_eq_true rfl)) d_NRunner_lacksInput_1 ⟨Nat.le_of_ble_eq_true rfl, Nat.le_of_ble_eq_true rfl⟩) hS (fun r1 f2 H locs hq3 hP hD hS => ?_)
  obtain ⟨bo_4, i0_5, i1_6, rfl⟩ := hq3
  refine lv_if_ne (tgt := 40) hx hb d_NRunner_lacksInput_4 (by decide) (fun b7 => ?_) (fun b7 => ?_)
  · skip
    have hr8 : r1 = nI 1 := (bl_1 bo_4 b7)
    have hi9 := i1_6 hr8
    refine lv_iconst (v := nI 0) hx hb d_NRunner_lacksInput_40 (by decide) ?_
    exact pe_zret hx hb hr hlocks hK hP hD hS d_NRunner_lacksInput_41 rfl ⟨(Or.inl rfl), rfl⟩
  · skip
    have hr10 : r1 = nI 0 := b7
    have hi11 := i0_5 hr10
    refine lv_aload_n hx hb d_NRunner_lacksInput_7 rfl (lv_at hl 0 rfl) ?_
    refine pf_get (v := .ref pr) (C := "BigRunner$Runner") (T := FT8) (N := 13) hx hb (hw8 hB _) (fun _ h9 => h9) hown hK hP (lo_in hL t_X (by decide)) eX rfl 0 (by decide) (wd_330 hB _) rfl d_NRunner_lacksInput_8 ?_
    refine pf_get (v := .ref (g.lk pr 0)) (C := "BigRunner$Program") (T := FT6) (N := 6) hx hb (hw6 hB _) (fun _ h9 => h9) hown hK hP (lo_in hL t_pr (by decide)) eP rfl 0 (by decide) (wd_243 hB _) rfl d_NRunner_lacksInput_11 ?_
    refine lv_aload_n hx hb d_NRunner_lacksInput_14 rfl (lv_at hl 0 rfl) ?_
    refine pf_get (v := .int (nI ix)) (C := "BigRunner$Runner") (T := FT8) (N := 13) hx hb (hw8 hB _) (fun _ h9 => h9) hown hK hP (lo_in hL t_X (by decide)) eX rfl 2 (by decide) (wd_334 hB _) rfl d_NRunner_lacksInput_15 ?_
    have e12 := oc_24.of (lo_k7_0 hL _ t_pr) (hI (g.lk pr 0))
    refine pf_aald (i := ix) hx hb hK hP (lo_in hL (lo_k7_0 hL _ t_pr) (by decide)) e12 (lo_t24 hL _ (lo_k7_0 hL _ t_pr)) (by omega) (by decide) d_NRunner_lacksInput_18 ?_
    have t13 := lo_e24 hL _ (lo_k7_0 hL _ t_pr) ix (by omega)
    obtain ⟨kd_15, nm_16, fn_17, la_18, ta_19, e14, c20, c21, c22, c23, c24⟩ := oc_10.of t13 (hI (g.lk (g.lk pr 0) ix))
    refine pf_get (v := .int (nI kd_15)) (C := "BigRunner$Statement") (T := FT9) (N := 5) hx hb (hw9 hB _) (fun _ h9 => h9) hown hK hP (lo_in hL t13 (by decide)) e14 rfl 0 (by decide) (wd_145 hB _) rfl d_NRunner_lacksInput_19 ?_
    refine lv_iconst (v := nI 1) hx hb d_NRunner_lacksInput_22 (by decide) ?_
    refine lv_icmp_ne (tgt := 40) hx hb d_NRunner_lacksInput_23 (by decide) (fun b25 => ?_) (fun b25 => ?_)
    · skip
      replace b25 := mt (nI_eq (a := kd_15) (b := 1) (by omega) (by omega)).mpr b25
      refine lv_iconst (v := nI 0) hx hb d_NRunner_lacksInput_40 (by decide) ?_
      exact pe_zret hx hb hr hlocks hK hP hD hS d_NRunner_lacksInput_41 rfl ⟨(Or.inl rfl), rfl⟩
    · skip
      replace b25 := (nI_eq (a := kd_15) (b := 1) (by omega) (by omega)).mp b25
      refine lv_aload_n hx hb d_NRunner_lacksInput_26 rfl (lv_at hl 0 rfl) ?_
      refine pf_get (v := .ref (g.lk X 1)) (C := "BigRunner$Runner") (T := FT8) (N := 13) hx hb (hw8 hB _) (fun _ h9 => h9) hown hK hP (lo_in hL t_X (by decide)) eX rfl 1 (by decide) (wd_332 hB _) rfl d_NRunner_lacksInput_27 ?_
      obtain ⟨fi_27, wa_28, e26, c29, c30⟩ := oc_2.of (lo_k9_1 hL _ t_X) (hI (g.lk X 1))
      refine pf_get (v := .int (nI wa_28)) (C := "BigRunner$Inputs") (T := FT1) (N := 3) hx hb (hw1 hB _) (fun _ h9 => h9) hown hK hP (lo_in hL (lo_k9_1 hL _ t_X) (by decide)) e26 rfl 2 (by decide) (wd_301 hB _) rfl d_NRunner_lacksInput_30 ?_
      refine lv_if_ne (tgt := 40) hx hb d_NRunner_lacksInput_33 (by decide) (fun b31 => ?_) (fun b31 => ?_)
      · skip
        replace b31 := mt (nI_eq (a := wa_28) (b := 0) (by omega) (by omega)).mpr b31
        refine lv_iconst (v := nI 0) hx hb d_NRunner_lacksInput_40 (by decide) ?_
        exact pe_zret hx hb hr hlocks hK hP hD hS d_NRunner_lacksInput_41 rfl ⟨(Or.inl rfl), rfl⟩
      · skip
        replace b31 := (nI_eq (a := wa_28) (b := 0) (by omega) (by omega)).mp b31
        refine lv_iconst (v := nI 1) hx hb d_NRunner_lacksInput_36 (by decide) ?_
        refine lv_goto (tgt := 41) hx hb d_NRunner_lacksInput_37 (by decide) ?_
        exact pe_zret hx hb hr hlocks hK hP hD hS d_NRunner_lacksInput_41 rfl ⟨(Or.inr rfl), rfl⟩
set_option maxHeartbeats 4000000 in
set_option maxRecDepth 100000 in
theorem c_goesOn (l : Launch) (g : Lay) (sz : Nat) (f : Nat → va_E) (X : Nat) (pr : Nat) (ix : Nat) (os : Nat) (st : Nat) (mo : Int32) (lo : Int32) (tr : Nat) (sn : Nat) (nn : Nat) (hL : LO g) (t_X : g.tg X = 9) (t_pr : g.tg pr = 7) (hI : OC g f) (eX : f X = .inr (8, [.ref pr, .ref (g.lk X 1), .int (nI ix), .ref (g.lk X 3), .ref (g.lk X 4), .ref (g.lk X 5), .ref (g.lk X 6), .ref (g.lk X 7), .int (nI os), .int (nI st), .int mo, .int lo, .int (nI tr)])) (hix : ix ≤ 36) (hos : os ≤ st) (hst : st ≤ 3000) (htr : tr ≤ 3) (eP : f pr = .inr (6, [.ref (g.lk pr 0), .int (nI sn), .ref (g.lk pr 2), .int (nI nn), .ref (g.lk pr 4), .ref (g.lk pr 5)])) (hsn : sn ≤ 36) (hnn : nn ≤ 72) : Met l ⟨"BigRunner$Runner", "goesOn", "()Z"⟩ [Cond.code ⟨"BigRunner$Runner", "goesOn", "()Z"⟩ prog_9_method_7_code 1 (some .boolean)] ({ frames := 2, cells := 0, slots := 0, locals := 40 }) (va_Pc [.ref X] (pc_in g sz f)) (va_Qi (fun r f1 => (r = nI 0 ∨ r = nI 1) ∧ (r = nI 1 → ix < sn) ∧ (f = f1)) (pc_out g sz) (pc_A g sz)) 0 0 (pc_A g sz) := by
  refine pe_ofW (cc := prog_9_method_7_code) (maxL := 1) (ret := (some .boolean)) (lv := [(0, .ref X)]) (by decide) (Nat.le_of_ble_eq_true rfl) rfl ?_
  intro p e s m args below meth c ls hx hb hr hml hlocks hown hB hP hK hD hsz hS hl
  subst hsz
  refine lv_aload_n hx hb d_NRunner_goesOn_0 rfl (lv_at hl 0 rfl) ?_
  refine pf_get (v := .int (nI tr)) (C := "BigRunner$Runner") (T := FT8) (N := 13) hx hb (hw8 hB _) (fun _ h9 => h9) hown hK hP (lo_in hL t_X (by decide)) eX rfl 12 (by decide) (wd_349 hB _) rfl d_NRunner_goesOn_1 ?_
  refine lv_if_ne (tgt := 35) hx hb d_NRunner_goesOn_4 (by decide) (fun b1 => ?_) (fun b1 => ?_)
  · skip
    replace b1 := mt (nI_eq (a := tr) (b := 0) (by omega) (by omega)).mpr b1
    refine lv_iconst (v := nI 0) hx hb d_NRunner_goesOn_35 (by decide) ?_
    exact pe_zret hx hb hr hlocks hK hP hD hS d_NRunner_goesOn_36 rfl ⟨(Or.inl rfl), (fun z9 => absurd z9 (by decide)), rfl⟩
  · skip
    replace b1 := (nI_eq (a := tr) (b := 0) (by omega) (by omega)).mp b1
    refine lv_aload_n hx hb d_NRunner_goesOn_7 rfl (lv_at hl 0 rfl) ?_
    refine pcc_i (va_runV (C := "BigRunner$Runner") (As := []) (rest := []) ⟨hx, hb, hml, hown, tb_nil⟩ (c_ended l g s.heap.size f X pr ix os st mo lo tr sn nn hL t_X t_pr hI eX (by omega) (by omega) (by omega) (by omega) eP (by omega) (by omega)) ⟨(callB_of 0 (tb_one (wd_423 hB _)) tb_good1 rfl rfl rfl (wd_79 hB _) (wd_428 hB _) (by decide +kernel) ⟨Nat.le_of_ble_eq_true rfl, Nat.le_of_ble_eq_true rfl⟩), (wd_421 hB _), (wd_422 hB _)⟩ ⟨pe_bl, pg_recv (ci := 8) hK hP (lo_in hL t_X (by decide)) eX rfl, pe_pre hB hK hP hD⟩ rfl rfl hl.1 rfl (lv_room (Nat.le_of_ble_eq_true rfl)) d_NRunner_goesOn_8 ⟨Nat.le_of_ble_eq_true rfl, Nat.le_of_ble_eq_true rfl⟩) hS (fun r2 f3 H locs hq4 hP hD hS => ?_)
    obtain ⟨bo_5, i0_6, i1_7, rfl⟩ := hq4
    refine lv_if_ne (tgt := 35) hx hb d_NRunner_goesOn_11 (by decide) (fun b8 => ?_) (fun b8 => ?_)
    · skip
      have hr9 : r2 = nI 1 := (bl_1 bo_5 b8)
      have hi10 := i1_7 hr9
      refine lv_iconst (v := nI 0) hx hb d_NRunner_goesOn_35 (by decide) ?_
      exact pe_zret hx hb hr hlocks hK hP hD hS d_NRunner_goesOn_36 rfl ⟨(Or.inl rfl), (fun z9 => absurd z9 (by decide)), rfl⟩
    · skip
      have hr11 : r2 = nI 0 := b8
      have hi12 := i0_6 hr11
      refine lv_aload_n hx hb d_NRunner_goesOn_14 rfl (lv_at hl 0 rfl) ?_
      refine pf_get (v := .int (nI st)) (C := "BigRunner$Runner") (T := FT8) (N := 13) hx hb (hw8 hB _) (fun _ h9 => h9) hown hK hP (lo_in hL t_X (by decide)) eX rfl 9 (by decide) (wd_343 hB _) rfl d_NRunner_goesOn_15 ?_
      refine lv_sipush (v := nI 3000) hx hb d_NRunner_goesOn_18 (by decide) ?_
      refine lv_icmp_ge (tgt := 31) hx hb d_NRunner_goesOn_21 (by decide) (fun b13 => ?_) (fun b13 => ?_)
      · skip
        replace b13 := (nI_leI (a := 3000) (b := st) (by omega) (by omega)).mp b13
        refine lv_iconst (v := nI 1) hx hb d_NRunner_goesOn_31 (by decide) ?_
        refine lv_goto (tgt := 36) hx hb d_NRunner_goesOn_32 (by decide) ?_
        exact pe_zret hx hb hr hlocks hK hP hD hS d_NRunner_goesOn_36 rfl ⟨(Or.inr rfl), (fun _ => by first | omega | assumption), rfl⟩
      · skip
        replace b13 := mt (nI_leI (a := 3000) (b := st) (by omega) (by omega)).mpr b13
        refine lv_aload_n hx hb d_NRunner_goesOn_24 rfl (lv_at hl 0 rfl) ?_
        refine pcc_i (va_runV (C := "BigRunner$Runner") (As := []) (rest := []) ⟨hx, hb, hml, hown, tb_nil⟩ (c_lacks l g H.size f X pr ix os st mo lo tr sn nn hL t_X t_pr hI eX (by omega) (by omega) (by omega) (by omega) eP (by omega) (by omega)) ⟨(callB_of 0 (tb_one (wd_427 hB _)) tb_good1 rfl rfl rfl (wd_79 hB _) (wd_717 hB _) (by decide +kernel) ⟨Nat.le_of_ble_eq_true rfl, Nat.le_of_ble_eq_true rfl⟩), (wd_425 hB _), (wd_426 hB _)⟩ ⟨pe_bl, pg_recv (ci := 8) hK hP (lo_in hL t_X (by decide)) eX rfl, pe_pre hB hK hP hD⟩ rfl rfl hl.1 rfl (lv_room (Nat.le_of_ble_eq_true rfl)) d_NRunner_goesOn_25 ⟨Nat.le_of_ble_eq_true rfl, Nat.le_of_ble_eq_true rfl⟩) hS (fun r14 f15 H locs hq16 hP hD hS => ?_)
        obtain ⟨bo_17, rfl⟩ := hq16
        refine lv_if_ne (tgt := 35) hx hb d_NRunner_goesOn_28 (by decide) (fun b18 => ?_) (fun b18 => ?_)
        · skip
          have hr19 : r14 = nI 1 := (bl_1 bo_17 b18)
          refine lv_iconst (v := nI 0) hx hb d_NRunner_goesOn_35 (by decide) ?_
          exact pe_zret hx hb hr hlocks hK hP hD hS d_NRunner_goesOn_36 rfl ⟨(Or.inl rfl), (fun z9 => absurd z9 (by decide)), rfl⟩
        · skip
          have hr20 : r14 = nI 0 := b18
          refine lv_iconst (v := nI 1) hx hb d_NRunner_goesOn_31 (by decide) ?_
          refine lv_goto (tgt := 36) hx hb d_NRunner_goesOn_32 (by decide) ?_
          exact pe_zret hx hb hr hlocks hK hP hD hS d_NRunner_goesOn_36 rfl ⟨(Or.inr rfl), (fun _ => by first | omega | assumption), rfl⟩
set_option maxHeartbeats 4000000 in
set_option maxRecDepth 100000 in
theorem c_keptOutputs (l : Launch) (g : Lay) (sz : Nat) (f : Nat → va_E) (X : Nat) (pr : Nat) (ix : Nat) (os : Nat) (st : Nat) (mo : Int32) (lo : Int32) (tr : Nat) (hL : LO g) (t_X : g.tg X = 9) (t_pr : g.tg pr = 7) (hI : OC g f) (eX : f X = .inr (8, [.ref pr, .ref (g.lk X 1), .int (nI ix), .ref (g.lk X 3), .ref (g.lk X 4), .ref (g.lk X 5), .ref (g.lk X 6), .ref (g.lk X 7), .int (nI os), .int (nI st), .int mo, .int lo, .int (nI tr)])) (hix : ix ≤ 36) (hos : os ≤ st) (hst : st ≤ 3000) (htr : tr ≤ 3) : Met l ⟨"BigRunner$Runner", "keptOutputs", "()I"⟩ [Cond.code ⟨"BigRunner$Runner", "keptOutputs", "()I"⟩ prog_9_method_5_code 1 (some .int)] ({ frames := 1, cells := 0, slots := 0, locals := 40 }) (va_Pc [.ref X] (pc_in g sz f)) (va_Qi (fun r f1 => (∃ k, k ≤ 12 ∧ r = nI k) ∧ (f = f1)) (pc_out g sz) (pc_A g sz)) 0 0 (pc_A g sz) := by
  refine pe_ofW (cc := prog_9_method_5_code) (maxL := 1) (ret := (some .int)) (lv := [(0, .ref X)]) (by decide) (Nat.le_of_ble_eq_true rfl) rfl ?_
  intro p e s m args below meth c ls hx hb hr hml hlocks hown hB hP hK hD hsz hS hl
  subst hsz
  refine lv_aload_n hx hb d_NRunner_keptOutputs_0 rfl (lv_at hl 0 rfl) ?_
  refine pf_get (v := .int (nI os)) (C := "BigRunner$Runner") (T := FT8) (N := 13) hx hb (hw8 hB _) (fun _ h9 => h9) hown hK hP (lo_in hL t_X (by decide)) eX rfl 8 (by decide) (wd_341 hB _) rfl d_NRunner_keptOutputs_1 ?_
  refine lv_bipush (v := nI 12) hx hb d_NRunner_keptOutputs_4 (by decide) ?_
  refine va_mmin hx hb (hml.trans hl.1.symm) hown (wd_939 hB _) (wd_459 hB _) (wd_83 hB _) (wd_460 hB _) (Nat.le_of_ble_eq_true rfl) (Nat.le_of_ble_eq_true rfl) (Nat.le_of_ble_eq_true rfl) (Nat.le_of_ble_eq_true rfl) d_NRunner_keptOutputs_6 ?_
  refine lv_topi (fun z_ hz_ => ?_)
  obtain ⟨mn1, hmn1⟩ : ∃ z : Nat, z = min os 12 := ⟨_, rfl⟩
  obtain rfl : z_ = nI mn1 := by rw [hz_, hmn1]; exact mi_min (a := os) (b := 12) (by omega) (by omega)
  exact pe_iret hx hb hr hlocks hK hP hD hS d_NRunner_keptOutputs_9 ⟨⟨mn1, by omega, rfl⟩, rfl⟩
set_option maxHeartbeats 4000000 in
set_option maxRecDepth 100000 in
theorem c_valueOf (l : Launch) (g : Lay) (sz : Nat) (f : Nat → va_E) (X : Nat) (pr : Nat) (ix : Nat) (os : Nat) (st : Nat) (mo : Int32) (lo : Int32) (tr : Nat) (i : Nat) (hL : LO g) (t_X : g.tg X = 9) (t_pr : g.tg pr = 7) (hI : IV g f) (eX : f X = .inr (8, [.ref pr, .ref (g.lk X 1), .int (nI ix), .ref (g.lk X 3), .ref (g.lk X 4), .ref (g.lk X 5), .ref (g.lk X 6), .ref (g.lk X 7), .int (nI os), .int (nI st), .int mo, .int lo, .int (nI tr)])) (hix : ix ≤ 36) (hos : os ≤ st) (hst : st ≤ 3000) (htr : tr ≤ 3) (hi : i < 10) : Met l ⟨"BigRunner$Runner", "valueOf", "(I)LBigRunner$LongNumber;"⟩ [Cond.code ⟨"BigRunner$Runner", "valueOf", "(I)LBigRunner$LongNumber;"⟩ prog_9_method_6_code 2 (some (.object "BigRunner$LongNumber"))] ({ frames := 2, cells := 0, slots := 0, locals := 65 }) (va_Pc [.ref X, .int (nI i)] (pc_in g sz f)) (va_Qr (fun _ => True) (pc_outr g sz (fun f1 ra => (g.tg ra = 5) ∧ (IV g f1) ∧ (un [5, 23] g f f1))) (pc_A g sz)) 0 0 (pc_A g sz) := by
  refine pe_ofW (cc := prog_9_method_6_code) (maxL := 2) (ret := (some (.object "BigRunner$LongNumber"))) (lv := [(0, .ref X), (1, .int (nI i))]) (by decide) (Nat.le_of_ble_eq_true rfl) rfl ?_
  intro p e s m args below meth c ls hx hb hr hml hlocks hown hB hP hK hD hsz hS hl
  subst hsz
  have hu : un [5, 23] g f f := un.rf
  refine lv_aload_n hx hb d_NRunner_valueOf_0 rfl (lv_at hl 0 rfl) ?_
  refine pf_get (v := .ref pr) (C := "BigRunner$Runner") (T := FT8) (N := 13) hx hb (hw8 hB _) (fun _ h9 => h9) hown hK hP (lo_in hL t_X (by decide)) eX rfl 0 (by decide) (wd_330 hB _) rfl d_NRunner_valueOf_1 ?_
  obtain ⟨sc_2, nc_3, e1, c4, c5⟩ := oc_7.of t_pr (hI.1 pr)
  refine pf_get (v := .ref (g.lk pr 4)) (C := "BigRunner$Program") (T := FT6) (N := 6) hx hb (hw6 hB _) (fun _ h9 => h9) hown hK hP (lo_in hL t_pr (by decide)) e1 rfl 4 (by decide) (wd_254 hB _) rfl d_NRunner_valueOf_4 ?_
  refine lv_iload_n hx hb d_NRunner_valueOf_7 rfl (lv_at hl 1 rfl) ?_
  have e6 := oc_26.of (lo_k7_4 hL _ t_pr) (hI.1 (g.lk pr 4))
  refine pf_aald (i := i) hx hb hK hP (lo_in hL (lo_k7_4 hL _ t_pr) (by decide)) e6 (lo_t26 hL _ (lo_k7_4 hL _ t_pr)) (by omega) (by decide) d_NRunner_valueOf_8 ?_
  have t7 := lo_e26 hL _ (lo_k7_4 hL _ t_pr) i (by omega)
  obtain ⟨lo_9, hi_10, e8⟩ := oc_3.of t7 (hI.1 (g.lk (g.lk pr 4) i))
  refine pcc_i (va_runV (C := "BigRunner$Interval") (As := []) (rest := []) ⟨hx, hb, hml, hown, tb_nil⟩ (c_isBounded l g s.heap.size f ((g.lk (g.lk pr 4) i)) hL t7 hI.1) ⟨(callB_of 0 (tb_one (wd_440 hB _)) tb_good1 rfl rfl rfl (wd_75 hB _) (wd_730 hB _) (by decide +kernel) ⟨Nat.le_of_ble_eq_true rfl, Nat.le_of_ble_eq_true rfl⟩), (wd_438 hB _), (wd_439 hB _)⟩ ⟨pe_bl, pg_recv (ci := 2) hK hP (lo_in hL t7 (by decide)) e8 rfl, pe_pre hB hK hP hD⟩ rfl rfl hl.1 rfl (lv_room (Nat.le_of_ble_eq_true rfl)) d_NRunner_valueOf_9 ⟨Nat.le_of_ble_eq_true rfl, Nat.le_of_ble_eq_true rfl⟩) hS (fun r11 f12 H locs hq13 hP hD hS => ?_)
  obtain ⟨bo_14, rfl⟩ := hq13
  refine lv_if_ne (tgt := 22) hx hb d_NRunner_valueOf_12 (by decide) (fun b15 => ?_) (fun b15 => ?_)
  · skip
    have hr16 : r11 = nI 1 := (bl_1 bo_14 b15)
    refine lv_aload_n hx hb d_NRunner_valueOf_22 rfl (lv_at hl 0 rfl) ?_
    refine pf_get (v := .ref (g.lk X 5)) (C := "BigRunner$Runner") (T := FT8) (N := 13) hx hb (hw8 hB _) (fun _ h9 => h9) hown hK hP (lo_in hL t_X (by decide)) eX rfl 5 (by decide) (wd_337 hB _) rfl d_NRunner_valueOf_23 ?_
    refine lv_aload_n hx hb d_NRunner_valueOf_26 rfl (lv_at hl 0 rfl) ?_
    refine pf_get (v := .ref (g.lk X 3)) (C := "BigRunner$Runner") (T := FT8) (N := 13) hx hb (hw8 hB _) (fun _ h9 => h9) hown hK hP (lo_in hL t_X (by decide)) eX rfl 3 (by decide) (wd_335 hB _) rfl d_NRunner_valueOf_27 ?_
    refine lv_iload_n hx hb d_NRunner_valueOf_30 rfl (lv_at hl 1 rfl) ?_
    obtain ⟨h_18, e17⟩ := oc_27.of (lo_k9_3 hL _ t_X) (hI.1 (g.lk X 3))
    refine pf_lald (i := i) hx hb hK hP (lo_in hL (lo_k9_3 hL _ t_X) (by decide)) e17 (lo_t27 hL _ (lo_k9_3 hL _ t_X)) (by omega) (by decide) d_NRunner_valueOf_31 ?_
    obtain ⟨sg_21, n_22, e20, c23⟩ := oc_5.of (lo_k9_5 hL _ t_X) (hI.1 (g.lk X 5))
    refine pcc_v (va_runV (C := "BigRunner$LongNumber") (As := [.long (h_18 i)]) (rest := []) ⟨hx, hb, hml, hown, tb_nil⟩ (c_setTo l g H.size f ((g.lk X 5)) ((h_18 i)) hL (lo_k9_5 hL _ t_X) hI) ⟨(callB_of 1 (tb_one (wd_680 hB _)) tb_good1 rfl rfl rfl (wd_78 hB _) (wd_677 hB _) (by decide +kernel) ⟨Nat.le_of_ble_eq_true rfl, Nat.le_of_ble_eq_true rfl⟩), (wd_678 hB _), (wd_679 hB _)⟩ ⟨pe_bl, pg_recv (ci := 4) hK hP (lo_in hL (lo_k9_5 hL _ t_X) (by decide)) e20 rfl, pe_pre hB hK hP hD⟩ rfl rfl hl.1 rfl (lv_room (Nat.le_of_ble_eq_true rfl)) d_NRunner_valueOf_32 ⟨Nat.le_of_ble_eq_true rfl, Nat.le_of_ble_eq_true rfl⟩) hS (fun f25 H locs hq26 hP hD hS => ?_)
    obtain ⟨hI1_27, hu1_28⟩ := hq26
    have hu := hu.tr hu1_28 (by decide)
    have eX := hu1_28.at t_X (by decide) eX
    have e1 := hu1_28.at t_pr (by decide) e1
    have e6 := hu1_28.at (lo_k7_4 hL _ t_pr) (by decide) e6
    have e8 := hu1_28.at t7 (by decide) e8
    have e17 := hu1_28.at (lo_k9_3 hL _ t_X) (by decide) e17
    refine lv_aload_n hx hb d_NRunner_valueOf_35 rfl (lv_at hl 0 rfl) ?_
    refine pf_get (v := .ref (g.lk X 5)) (C := "BigRunner$Runner") (T := FT8) (N := 13) hx hb (hw8 hB _) (fun _ h9 => h9) hown hK hP (lo_in hL t_X (by decide)) eX rfl 5 (by decide) (wd_337 hB _) rfl d_NRunner_valueOf_36 ?_
    exact pe_aret hx hb hr hlocks hK hP hD hS d_NRunner_valueOf_39 ⟨(lo_k9_5 hL _ t_X), hI1_27, hu⟩
  · skip
    have hr29 : r11 = nI 0 := b15
    refine lv_aload_n hx hb d_NRunner_valueOf_15 rfl (lv_at hl 0 rfl) ?_
    refine pf_get (v := .ref (g.lk X 4)) (C := "BigRunner$Runner") (T := FT8) (N := 13) hx hb (hw8 hB _) (fun _ h9 => h9) hown hK hP (lo_in hL t_X (by decide)) eX rfl 4 (by decide) (wd_336 hB _) rfl d_NRunner_valueOf_16 ?_
    refine lv_iload_n hx hb d_NRunner_valueOf_19 rfl (lv_at hl 1 rfl) ?_
    have e30 := oc_28.of (lo_k9_4 hL _ t_X) (hI.1 (g.lk X 4))
    refine pf_aald (i := i) hx hb hK hP (lo_in hL (lo_k9_4 hL _ t_X) (by decide)) e30 (lo_t28 hL _ (lo_k9_4 hL _ t_X)) (by omega) (by decide) d_NRunner_valueOf_20 ?_
    have t31 := lo_e28 hL _ (lo_k9_4 hL _ t_X) i (by omega)
    exact pe_aret hx hb hr hlocks hK hP hD hS d_NRunner_valueOf_21 ⟨t31, hI, hu⟩
set_option maxHeartbeats 4000000 in
set_option maxRecDepth 100000 in
theorem c_store (l : Launch) (g : Lay) (sz : Nat) (f : Nat → va_E) (X : Nat) (pr : Nat) (ix : Nat) (os : Nat) (st : Nat) (mo : Int32) (lo : Int32) (tr : Nat) (i : Nat) (v : Int64) (hL : LO g) (t_X : g.tg X = 9) (t_pr : g.tg pr = 7) (hI : IV g f) (eX : f X = .inr (8, [.ref pr, .ref (g.lk X 1), .int (nI ix), .ref (g.lk X 3), .ref (g.lk X 4), .ref (g.lk X 5), .ref (g.lk X 6), .ref (g.lk X 7), .int (nI os), .int (nI st), .int mo, .int lo, .int (nI tr)])) (hix : ix ≤ 36) (hos : os ≤ st) (hst : st ≤ 3000) (htr : tr ≤ 3) (hi : i < 10) : Met l ⟨"BigRunner$Runner", "store", "(IJ)V"⟩ [Cond.code ⟨"BigRunner$Runner", "store", "(IJ)V"⟩ prog_9_method_10_code 4 none] ({ frames := 2, cells := 0, slots := 0, locals := 65 }) (va_Pc [.ref X, .int (nI i), .long v] (pc_in g sz f)) (va_Qv (fun f1 => (IV g f1) ∧ (un [5, 23, 27] g f f1)) (pc_out g sz) (pc_A g sz)) 0 0 (pc_A g sz) := by
  refine pe_ofW (cc := prog_9_method_10_code) (maxL := 4) (ret := none) (lv := [(0, .ref X), (1, .int (nI i)), (2, .long v)]) (by decide) (Nat.le_of_ble_eq_true rfl) rfl ?_
  intro p e s m args below meth c ls hx hb hr hml hlocks hown hB hP hK hD hsz hS hl
  subst hsz
  have hu : un [5, 23, 27] g f f := un.rf
  refine lv_aload_n hx hb d_NRunner_store_0 rfl (lv_at hl 0 rfl) ?_
  refine pf_get (v := .ref pr) (C := "BigRunner$Runner") (T := FT8) (N := 13) hx hb (hw8 hB _) (fun _ h9 => h9) hown hK hP (lo_in hL t_X (by decide)) eX rfl 0 (by decide) (wd_330 hB _) rfl d_NRunner_store_1 ?_
  obtain ⟨sc_2, nc_3, e1, c4, c5⟩ := oc_7.of t_pr (hI.1 pr)
  refine pf_get (v := .ref (g.lk pr 4)) (C := "BigRunner$Program") (T := FT6) (N := 6) hx hb (hw6 hB _) (fun _ h9 => h9) hown hK hP (lo_in hL t_pr (by decide)) e1 rfl 4 (by decide) (wd_254 hB _) rfl d_NRunner_store_4 ?_
  refine lv_iload_n hx hb d_NRunner_store_7 rfl (lv_at hl 1 rfl) ?_
  have e6 := oc_26.of (lo_k7_4 hL _ t_pr) (hI.1 (g.lk pr 4))
  refine pf_aald (i := i) hx hb hK hP (lo_in hL (lo_k7_4 hL _ t_pr) (by decide)) e6 (lo_t26 hL _ (lo_k7_4 hL _ t_pr)) (by omega) (by decide) d_NRunner_store_8 ?_
  have t7 := lo_e26 hL _ (lo_k7_4 hL _ t_pr) i (by omega)
  obtain ⟨lo_9, hi_10, e8⟩ := oc_3.of t7 (hI.1 (g.lk (g.lk pr 4) i))
  refine pcc_i (va_runV (C := "BigRunner$Interval") (As := []) (rest := []) ⟨hx, hb, hml, hown, tb_nil⟩ (c_isBounded l g s.heap.size f ((g.lk (g.lk pr 4) i)) hL t7 hI.1) ⟨(callB_of 0 (tb_one (wd_440 hB _)) tb_good1 rfl rfl rfl (wd_75 hB _) (wd_730 hB _) (by decide +kernel) ⟨Nat.le_of_ble_eq_true rfl, Nat.le_of_ble_eq_true rfl⟩), (wd_438 hB _), (wd_439 hB _)⟩ ⟨pe_bl, pg_recv (ci := 2) hK hP (lo_in hL t7 (by decide)) e8 rfl, pe_pre hB hK hP hD⟩ rfl rfl hl.1 rfl (lv_room (Nat.le_of_ble_eq_true rfl)) d_NRunner_store_9 ⟨Nat.le_of_ble_eq_true rfl, Nat.le_of_ble_eq_true rfl⟩) hS (fun r11 f12 H locs hq13 hP hD hS => ?_)
  obtain ⟨bo_14, rfl⟩ := hq13
  refine lv_if_eq (tgt := 25) hx hb d_NRunner_store_12 (by decide) (fun b15 => ?_) (fun b15 => ?_)
  · skip
    have hr16 : r11 = nI 0 := b15
    refine lv_aload_n hx hb d_NRunner_store_25 rfl (lv_at hl 0 rfl) ?_
    refine pf_get (v := .ref (g.lk X 4)) (C := "BigRunner$Runner") (T := FT8) (N := 13) hx hb (hw8 hB _) (fun _ h9 => h9) hown hK hP (lo_in hL t_X (by decide)) eX rfl 4 (by decide) (wd_336 hB _) rfl d_NRunner_store_26 ?_
    refine lv_iload_n hx hb d_NRunner_store_29 rfl (lv_at hl 1 rfl) ?_
    have e17 := oc_28.of (lo_k9_4 hL _ t_X) (hI.1 (g.lk X 4))
    refine pf_aald (i := i) hx hb hK hP (lo_in hL (lo_k9_4 hL _ t_X) (by decide)) e17 (lo_t28 hL _ (lo_k9_4 hL _ t_X)) (by omega) (by decide) d_NRunner_store_30 ?_
    have t18 := lo_e28 hL _ (lo_k9_4 hL _ t_X) i (by omega)
    refine lv_lload_n hx hb d_NRunner_store_31 rfl (lv_at hl 2 rfl) ?_
    obtain ⟨sg_20, n_21, e19, c22⟩ := oc_5.of t18 (hI.1 (g.lk (g.lk X 4) i))
    refine pcc_v (va_runV (C := "BigRunner$LongNumber") (As := [.long v]) (rest := []) ⟨hx, hb, hml, hown, tb_nil⟩ (c_setTo l g H.size f ((g.lk (g.lk X 4) i)) v hL t18 hI) ⟨(callB_of 1 (tb_one (wd_680 hB _)) tb_good1 rfl rfl rfl (wd_78 hB _) (wd_677 hB _) (by decide +kernel) ⟨Nat.le_of_ble_eq_true rfl, Nat.le_of_ble_eq_true rfl⟩), (wd_678 hB _), (wd_679 hB _)⟩ ⟨pe_bl, pg_recv (ci := 4) hK hP (lo_in hL t18 (by decide)) e19 rfl, pe_pre hB hK hP hD⟩ rfl rfl hl.1 rfl (lv_room (Nat.le_of_ble_eq_true rfl)) d_NRunner_store_32 ⟨Nat.le_of_ble_eq_true rfl, Nat.le_of_ble_eq_true rfl⟩) hS (fun f24 H locs hq25 hP hD hS => ?_)
    obtain ⟨hI1_26, hu1_27⟩ := hq25
    have hu := hu.tr hu1_27 (by decide)
    have eX := hu1_27.at t_X (by decide) eX
    have e1 := hu1_27.at t_pr (by decide) e1
    have e6 := hu1_27.at (lo_k7_4 hL _ t_pr) (by decide) e6
    have e8 := hu1_27.at t7 (by decide) e8
    have e17 := hu1_27.at (lo_k9_4 hL _ t_X) (by decide) e17
    exact pe_vret hx hb hr hlocks hK hP hD hS d_NRunner_store_35 ⟨hI1_26, hu⟩
  · skip
    have hr28 : r11 = nI 1 := (bl_1 bo_14 b15)
    refine lv_aload_n hx hb d_NRunner_store_15 rfl (lv_at hl 0 rfl) ?_
    refine pf_get (v := .ref (g.lk X 3)) (C := "BigRunner$Runner") (T := FT8) (N := 13) hx hb (hw8 hB _) (fun _ h9 => h9) hown hK hP (lo_in hL t_X (by decide)) eX rfl 3 (by decide) (wd_335 hB _) rfl d_NRunner_store_16 ?_
    refine lv_iload_n hx hb d_NRunner_store_19 rfl (lv_at hl 1 rfl) ?_
    refine lv_lload_n hx hb d_NRunner_store_20 rfl (lv_at hl 2 rfl) ?_
    obtain ⟨h_30, e29⟩ := oc_27.of (lo_k9_3 hL _ t_X) (hI.1 (g.lk X 3))
    refine pf_last (i := i) hx hb hK hP hD hS (lo_in hL (lo_k9_3 hL _ t_X) (by decide)) e29 (lo_t27 hL _ (lo_k9_3 hL _ t_X)) (by omega) (by decide) d_NRunner_store_21 (fun f32 H locs e33 k34 hP hD hS => ?_)
    have eX := (k34 X (tg_ne t_X (lo_k9_3 hL _ t_X) (by decide))).trans eX
    have e1 := (k34 pr (tg_ne t_pr (lo_k9_3 hL _ t_X) (by decide))).trans e1
    have e6 := (k34 (g.lk pr 4) (tg_ne (lo_k7_4 hL _ t_pr) (lo_k9_3 hL _ t_X) (by decide))).trans e6
    have e8 := (k34 (g.lk (g.lk pr 4) i) (tg_ne t7 (lo_k9_3 hL _ t_X) (by decide))).trans e8
    have hu := hu.st k34 (lo_k9_3 hL _ t_X) (by decide)
    have hk35 : ∀ b, b ≠ (g.lk X 3) → f32 b = f b := k34
    refine lv_goto (tgt := 35) hx hb d_NRunner_store_22 (by decide) ?_
    have hI36 := iv_1 hI hL (lo_k9_3 hL _ t_X) (by decide) hk35 (oc_27.mk (lo_k9_3 hL _ t_X) (⟨_, e33⟩))
    exact pe_vret hx hb hr hlocks hK hP hD hS d_NRunner_store_35 ⟨hI36, hu⟩
set_option maxHeartbeats 4000000 in
set_option maxRecDepth 100000 in
theorem c_assign (l : Launch) (g : Lay) (sz : Nat) (f : Nat → va_E) (X : Nat) (pr : Nat) (ix : Nat) (os : Nat) (st : Nat) (mo : Int32) (lo : Int32) (tr : Nat) (i : Nat) (x : Nat) (hL : LO g) (t_X : g.tg X = 9) (t_pr : g.tg pr = 7) (t_x : g.tg x = 6) (hI : IV g f) (eX : f X = .inr (8, [.ref pr, .ref (g.lk X 1), .int (nI ix), .ref (g.lk X 3), .ref (g.lk X 4), .ref (g.lk X 5), .ref (g.lk X 6), .ref (g.lk X 7), .int (nI os), .int (nI st), .int mo, .int lo, .int (nI tr)])) (hix : ix ≤ 36) (hos : os ≤ st) (hst : st ≤ 3000) (htr : tr ≤ 3) (hi : i < 10) (htn : g.tn x < 72) : Met l ⟨"BigRunner$Runner", "assign", "(ILBigRunner$Node;)V"⟩ [Cond.code ⟨"BigRunner$Runner", "assign", "(ILBigRunner$Node;)V"⟩ prog_9_method_11_code 3 none] ({ frames := 3, cells := 0, slots := 0, locals := 88 }) (va_Pc [.ref X, .int (nI i), .ref x] (pc_in g sz f)) (va_Qv (fun f1 => (IV g f1) ∧ (un [5, 23, 27] g f f1)) (pc_out g sz) (pc_A g sz)) 0 0 (pc_A g sz) := by
  refine pe_ofW (cc := prog_9_method_11_code) (maxL := 3) (ret := none) (lv := [(0, .ref X), (1, .int (nI i)), (2, .ref x)]) (by decide) (Nat.le_of_ble_eq_true rfl) rfl ?_
  intro p e s m args below meth c ls hx hb hr hml hlocks hown hB hP hK hD hsz hS hl
  subst hsz
  have hu : un [5, 23, 27] g f f := un.rf
  refine lv_aload_n hx hb d_NRunner_assign_0 rfl (lv_at hl 2 rfl) ?_
  obtain ⟨kd_2, le_3, ri_4, sm_5, mv_6, e1, c7, c8, c9, c10, c11, c12⟩ := oc_6.of t_x (hI.1 x)
  refine pf_get (v := .int sm_5) (C := "BigRunner$Node") (T := FT5) (N := 7) hx hb (hw5 hB _) (fun _ h9 => h9) hown hK hP (lo_in hL t_x (by decide)) e1 rfl 4 (by decide) (wd_218 hB _) rfl d_NRunner_assign_1 ?_
  refine lv_if_eq (tgt := 19) hx hb d_NRunner_assign_4 (by decide) (fun b13 => ?_) (fun b13 => ?_)
  · skip
    have hr14 : sm_5 = nI 0 := b13
    refine lv_aload_n hx hb d_NRunner_assign_19 rfl (lv_at hl 0 rfl) ?_
    refine pf_get (v := .ref pr) (C := "BigRunner$Runner") (T := FT8) (N := 13) hx hb (hw8 hB _) (fun _ h9 => h9) hown hK hP (lo_in hL t_X (by decide)) eX rfl 0 (by decide) (wd_330 hB _) rfl d_NRunner_assign_20 ?_
    obtain ⟨sc_16, nc_17, e15, c18, c19⟩ := oc_7.of t_pr (hI.1 pr)
    refine pf_get (v := .ref (g.lk pr 4)) (C := "BigRunner$Program") (T := FT6) (N := 6) hx hb (hw6 hB _) (fun _ h9 => h9) hown hK hP (lo_in hL t_pr (by decide)) e15 rfl 4 (by decide) (wd_254 hB _) rfl d_NRunner_assign_23 ?_
    refine lv_iload_n hx hb d_NRunner_assign_26 rfl (lv_at hl 1 rfl) ?_
    have e20 := oc_26.of (lo_k7_4 hL _ t_pr) (hI.1 (g.lk pr 4))
    refine pf_aald (i := i) hx hb hK hP (lo_in hL (lo_k7_4 hL _ t_pr) (by decide)) e20 (lo_t26 hL _ (lo_k7_4 hL _ t_pr)) (by omega) (by decide) d_NRunner_assign_27 ?_
    have t21 := lo_e26 hL _ (lo_k7_4 hL _ t_pr) i (by omega)
    obtain ⟨lo_23, hi_24, e22⟩ := oc_3.of t21 (hI.1 (g.lk (g.lk pr 4) i))
    refine pcc_i (va_runV (C := "BigRunner$Interval") (As := []) (rest := []) ⟨hx, hb, hml, hown, tb_nil⟩ (c_isBounded l g s.heap.size f ((g.lk (g.lk pr 4) i)) hL t21 hI.1) ⟨(callB_of 0 (tb_one (wd_440 hB _)) tb_good1 rfl rfl rfl (wd_75 hB _) (wd_730 hB _) (by decide +kernel) ⟨Nat.le_of_ble_eq_true rfl, Nat.le_of_ble_eq_true rfl⟩), (wd_438 hB _), (wd_439 hB _)⟩ ⟨pe_bl, pg_recv (ci := 2) hK hP (lo_in hL t21 (by decide)) e22 rfl, pe_pre hB hK hP hD⟩ rfl rfl hl.1 rfl (lv_room (Nat.le_of_ble_eq_true rfl)) d_NRunner_assign_28 ⟨Nat.le_of_ble_eq_true rfl, Nat.le_of_ble_eq_true rfl⟩) hS (fun r25 f26 H locs hq27 hP hD hS => ?_)
    obtain ⟨bo_28, rfl⟩ := hq27
    refine lv_if_eq (tgt := 50) hx hb d_NRunner_assign_31 (by decide) (fun b29 => ?_) (fun b29 => ?_)
    · skip
      have hr30 : r25 = nI 0 := b29
      refine lv_aload_n hx hb d_NRunner_assign_50 rfl (lv_at hl 0 rfl) ?_
      refine pf_get (v := .ref (g.lk X 4)) (C := "BigRunner$Runner") (T := FT8) (N := 13) hx hb (hw8 hB _) (fun _ h9 => h9) hown hK hP (lo_in hL t_X (by decide)) eX rfl 4 (by decide) (wd_336 hB _) rfl d_NRunner_assign_51 ?_
      refine lv_iload_n hx hb d_NRunner_assign_54 rfl (lv_at hl 1 rfl) ?_
      have e31 := oc_28.of (lo_k9_4 hL _ t_X) (hI.1 (g.lk X 4))
      refine pf_aald (i := i) hx hb hK hP (lo_in hL (lo_k9_4 hL _ t_X) (by decide)) e31 (lo_t28 hL _ (lo_k9_4 hL _ t_X)) (by omega) (by decide) d_NRunner_assign_55 ?_
      have t32 := lo_e28 hL _ (lo_k9_4 hL _ t_X) i (by omega)
      refine lv_aload_n hx hb d_NRunner_assign_56 rfl (lv_at hl 2 rfl) ?_
      refine pf_get (v := .ref (g.lk x 6)) (C := "BigRunner$Node") (T := FT5) (N := 7) hx hb (hw5 hB _) (fun _ h9 => h9) hown hK hP (lo_in hL t_x (by decide)) e1 rfl 6 (by decide) (wd_224 hB _) rfl d_NRunner_assign_57 ?_
      refine lv_aload_n hx hb d_NRunner_assign_60 rfl (lv_at hl 2 rfl) ?_
      refine pf_get (v := .ref (g.lk x 6)) (C := "BigRunner$Node") (T := FT5) (N := 7) hx hb (hw5 hB _) (fun _ h9 => h9) hown hK hP (lo_in hL t_x (by decide)) e1 rfl 6 (by decide) (wd_224 hB _) rfl d_NRunner_assign_61 ?_
      obtain ⟨sg_34, n_35, e33, c36⟩ := oc_5.of (lo_k6_6 hL _ t_x) (hI.1 (g.lk x 6))
      refine pf_get (v := .int sg_34) (C := "BigRunner$LongNumber") (T := FT4) (N := 3) hx hb (hw4 hB _) (fun _ h9 => h9) hown hK hP (lo_in hL (lo_k6_6 hL _ t_x) (by decide)) e33 rfl 0 (by decide) (wd_189 hB _) rfl d_NRunner_assign_64 ?_
      obtain ⟨sg_38, n_39, e37, c40⟩ := oc_5.of t32 (hI.1 (g.lk (g.lk X 4) i))
      refine pcc_v (va_runV (C := "BigRunner$LongNumber") (As := [.ref (g.lk x 6), .int sg_34]) (rest := []) ⟨hx, hb, hml, hown, tb_nil⟩ (c_copy l g H.size f ((g.lk (g.lk X 4) i)) ((g.lk x 6)) sg_34 hL t32 (lo_k6_6 hL _ t_x) hI (tn_ne (lo_n6 hL _ t_x) (lo_n28 hL _ (lo_k9_4 hL _ t_X) _ (by omega)) (by omega))) ⟨(callB_of 2 (tb_one (wd_746 hB _)) tb_good1 rfl rfl rfl (wd_78 hB _) (wd_743 hB _) (by decide +kernel) ⟨Nat.le_of_ble_eq_true rfl, Nat.le_of_ble_eq_true rfl⟩), (wd_744 hB _), (wd_745 hB _)⟩ ⟨pe_bl, pg_recv (ci := 4) hK hP (lo_in hL t32 (by decide)) e37 rfl, pe_pre hB hK hP hD⟩ rfl rfl hl.1 rfl (lv_room (Nat.le_of_ble_eq_true rfl)) d_NRunner_assign_67 ⟨Nat.le_of_ble_eq_true rfl, Nat.le_of_ble_eq_true rfl⟩) hS (fun f42 H locs hq43 hP hD hS => ?_)
      obtain ⟨hI1_44, hu1_45⟩ := hq43
      have hu := hu.tr hu1_45 (by decide)
      have eX := hu1_45.at t_X (by decide) eX
      have e1 := hu1_45.at t_x (by decide) e1
      have e15 := hu1_45.at t_pr (by decide) e15
      have e20 := hu1_45.at (lo_k7_4 hL _ t_pr) (by decide) e20
      have e22 := hu1_45.at t21 (by decide) e22
      have e31 := hu1_45.at (lo_k9_4 hL _ t_X) (by decide) e31
      exact pe_vret hx hb hr hlocks hK hP hD hS d_NRunner_assign_70 ⟨hI1_44, hu⟩
    · skip
      have hr46 : r25 = nI 1 := (bl_1 bo_28 b29)
      refine lv_aload_n hx hb d_NRunner_assign_34 rfl (lv_at hl 0 rfl) ?_
      refine pf_get (v := .ref (g.lk X 3)) (C := "BigRunner$Runner") (T := FT8) (N := 13) hx hb (hw8 hB _) (fun _ h9 => h9) hown hK hP (lo_in hL t_X (by decide)) eX rfl 3 (by decide) (wd_335 hB _) rfl d_NRunner_assign_35 ?_
      refine lv_iload_n hx hb d_NRunner_assign_38 rfl (lv_at hl 1 rfl) ?_
      refine lv_aload_n hx hb d_NRunner_assign_39 rfl (lv_at hl 2 rfl) ?_
      refine pf_get (v := .ref (g.lk x 6)) (C := "BigRunner$Node") (T := FT5) (N := 7) hx hb (hw5 hB _) (fun _ h9 => h9) hown hK hP (lo_in hL t_x (by decide)) e1 rfl 6 (by decide) (wd_224 hB _) rfl d_NRunner_assign_40 ?_
      obtain ⟨sg_48, n_49, e47, c50⟩ := oc_5.of (lo_k6_6 hL _ t_x) (hI.1 (g.lk x 6))
      refine pcc_l (va_runV (C := "BigRunner$LongNumber") (As := []) (rest := [.int (nI i), .ref (g.lk X 3)]) ⟨hx, hb, hml, hown, tb_nil⟩ (c_toMachine l g H.size f ((g.lk x 6)) hL (lo_k6_6 hL _ t_x) hI.1) ⟨(callB_of 0 (tb_one (wd_838 hB _)) tb_good1 rfl rfl rfl (wd_78 hB _) (wd_835 hB _) (by decide +kernel) ⟨Nat.le_of_ble_eq_true rfl, Nat.le_of_ble_eq_true rfl⟩), (wd_836 hB _), (wd_837 hB _)⟩ ⟨pe_bl, pg_recv (ci := 4) hK hP (lo_in hL (lo_k6_6 hL _ t_x) (by decide)) e47 rfl, pe_pre hB hK hP hD⟩ rfl rfl hl.1 rfl (lv_room (Nat.le_of_ble_eq_true rfl)) d_NRunner_assign_43 ⟨Nat.le_of_ble_eq_true rfl, Nat.le_of_ble_eq_true rfl⟩) hS (fun r51 f52 H locs hq53 hP hD hS => ?_)
      subst hq53
      obtain ⟨h_55, e54⟩ := oc_27.of (lo_k9_3 hL _ t_X) (hI.1 (g.lk X 3))
      refine pf_last (i := i) hx hb hK hP hD hS (lo_in hL (lo_k9_3 hL _ t_X) (by decide)) e54 (lo_t27 hL _ (lo_k9_3 hL _ t_X)) (by omega) (by decide) d_NRunner_assign_46 (fun f57 H locs e58 k59 hP hD hS => ?_)
      have eX := (k59 X (tg_ne t_X (lo_k9_3 hL _ t_X) (by decide))).trans eX
      have e1 := (k59 x (tg_ne t_x (lo_k9_3 hL _ t_X) (by decide))).trans e1
      have e15 := (k59 pr (tg_ne t_pr (lo_k9_3 hL _ t_X) (by decide))).trans e15
      have e20 := (k59 (g.lk pr 4) (tg_ne (lo_k7_4 hL _ t_pr) (lo_k9_3 hL _ t_X) (by decide))).trans e20
      have e22 := (k59 (g.lk (g.lk pr 4) i) (tg_ne t21 (lo_k9_3 hL _ t_X) (by decide))).trans e22
      have e47 := (k59 (g.lk x 6) (tg_ne (lo_k6_6 hL _ t_x) (lo_k9_3 hL _ t_X) (by decide))).trans e47
      have hu := hu.st k59 (lo_k9_3 hL _ t_X) (by decide)
      have hk60 : ∀ b, b ≠ (g.lk X 3) → f57 b = f b := k59
      refine lv_goto (tgt := 70) hx hb d_NRunner_assign_47 (by decide) ?_
      have hI61 := iv_1 hI hL (lo_k9_3 hL _ t_X) (by decide) hk60 (oc_27.mk (lo_k9_3 hL _ t_X) (⟨_, e58⟩))
      exact pe_vret hx hb hr hlocks hK hP hD hS d_NRunner_assign_70 ⟨hI61, hu⟩
  · skip
    have hr62 : sm_5 = nI 1 := (bl_1 c11 b13)
    refine lv_aload_n hx hb d_NRunner_assign_7 rfl (lv_at hl 0 rfl) ?_
    refine lv_iload_n hx hb d_NRunner_assign_8 rfl (lv_at hl 1 rfl) ?_
    refine lv_aload_n hx hb d_NRunner_assign_9 rfl (lv_at hl 2 rfl) ?_
    refine pf_get (v := .long mv_6) (C := "BigRunner$Node") (T := FT5) (N := 7) hx hb (hw5 hB _) (fun _ h9 => h9) hown hK hP (lo_in hL t_x (by decide)) e1 rfl 5 (by decide) (wd_221 hB _) rfl d_NRunner_assign_10 ?_
    refine pcc_v (va_runV (C := "BigRunner$Runner") (As := [.int (nI i), .long mv_6]) (rest := []) ⟨hx, hb, hml, hown, tb_nil⟩ (c_store l g s.heap.size f X pr ix os st mo lo tr i mv_6 hL t_X t_pr hI eX (by omega) (by omega) (by omega) (by omega) (by omega)) ⟨(callB_of 2 (tb_one (wd_729 hB _)) tb_good1 rfl rfl rfl (wd_79 hB _) (wd_726 hB _) (by decide +kernel) ⟨Nat.le_of_ble_eq_true rfl, Nat.le_of_ble_eq_true rfl⟩), (wd_728 hB _), (wd_24 hB _)⟩ ⟨pe_bl, pg_recv (ci := 8) hK hP (lo_in hL t_X (by decide)) eX rfl, pe_pre hB hK hP hD⟩ rfl rfl hl.1 rfl (lv_room (Nat.le_of_ble_eq_true rfl)) d_NRunner_assign_13 ⟨Nat.le_of_ble_eq_true rfl, Nat.le_of_ble_eq_true rfl⟩) hS (fun f64 H locs hq65 hP hD hS => ?_)
    obtain ⟨hI1_66, hu1_67⟩ := hq65
    have hu := hu.tr hu1_67 (by decide)
    have eX := hu1_67.at t_X (by decide) eX
    have e1 := hu1_67.at t_x (by decide) e1
    refine lv_goto (tgt := 70) hx hb d_NRunner_assign_16 (by decide) ?_
    exact pe_vret hx hb hr hlocks hK hP hD hS d_NRunner_assign_70 ⟨hI1_66, hu⟩
set_option maxHeartbeats 4000000 in
set_option maxRecDepth 100000 in
theorem c_keep (l : Launch) (g : Lay) (sz : Nat) (f : Nat → va_E) (X : Nat) (pr : Nat) (ix : Nat) (os : Nat) (st : Nat) (mo : Int32) (lo : Int32) (tr : Nat) (x : Nat) (hL : LO g) (t_X : g.tg X = 9) (t_pr : g.tg pr = 7) (t_x : g.tg x = 6) (hI : IV g f) (eX : f X = .inr (8, [.ref pr, .ref (g.lk X 1), .int (nI ix), .ref (g.lk X 3), .ref (g.lk X 4), .ref (g.lk X 5), .ref (g.lk X 6), .ref (g.lk X 7), .int (nI os), .int (nI st), .int mo, .int lo, .int (nI tr)])) (hix : ix ≤ 36) (hos : os ≤ st) (hst : st ≤ 3000) (htr : tr ≤ 3) (ho : os < st) (htn : g.tn x < 72) : Met l ⟨"BigRunner$Runner", "keep", "(LBigRunner$Node;)V"⟩ [Cond.code ⟨"BigRunner$Runner", "keep", "(LBigRunner$Node;)V"⟩ prog_9_method_12_code 3 none] ({ frames := 3, cells := 0, slots := 0, locals := 85 }) (va_Pc [.ref X, .ref x] (pc_in g sz f)) (va_Qv (fun f1 => (f1 X = .inr (8, [.ref pr, .ref (g.lk X 1), .int (nI ix), .ref (g.lk X 3), .ref (g.lk X 4), .ref (g.lk X 5), .ref (g.lk X 6), .ref (g.lk X 7), .int (nI (os + 1)), .int (nI st), .int mo, .int lo, .int (nI tr)])) ∧ (IV g f1) ∧ (un [5, 9, 23] g f f1)) (pc_out g sz) (pc_A g sz)) 0 0 (pc_A g sz) := by
  refine pe_ofW (cc := prog_9_method_12_code) (maxL := 3) (ret := none) (lv := [(0, .ref X), (1, .ref x)]) (by decide) (Nat.le_of_ble_eq_true rfl) rfl ?_
  intro p e s m args below meth c ls hx hb hr hml hlocks hown hB hP hK hD hsz hS hl
  subst hsz
  have hu : un [5, 9, 23] g f f := un.rf
  refine lv_aload_n hx hb d_NRunner_keep_0 rfl (lv_at hl 0 rfl) ?_
  refine pf_get (v := .int (nI os)) (C := "BigRunner$Runner") (T := FT8) (N := 13) hx hb (hw8 hB _) (fun _ h9 => h9) hown hK hP (lo_in hL t_X (by decide)) eX rfl 8 (by decide) (wd_341 hB _) rfl d_NRunner_keep_1 ?_
  refine lv_bipush (v := nI 12) hx hb d_NRunner_keep_4 (by decide) ?_
  refine lv_icmp_ge (tgt := 31) hx hb d_NRunner_keep_6 (by decide) (fun b1 => ?_) (fun b1 => ?_)
  · skip
    replace b1 := (nI_leI (a := 12) (b := os) (by omega) (by omega)).mp b1
    refine lv_aload_n hx hb d_NRunner_keep_31 rfl (lv_at hl 0 rfl) ?_
    refine lv_dup hx hb d_NRunner_keep_32 rfl ?_
    refine pf_get (v := .int (nI os)) (C := "BigRunner$Runner") (T := FT8) (N := 13) hx hb (hw8 hB _) (fun _ h9 => h9) hown hK hP (lo_in hL t_X (by decide)) eX rfl 8 (by decide) (wd_341 hB _) rfl d_NRunner_keep_33 ?_
    refine lv_iconst (v := nI 1) hx hb d_NRunner_keep_36 (by decide) ?_
    refine pf_iaddN (x := os) (y := 1) hx hb d_NRunner_keep_37 ?_
    refine pf_put (v := .int (nI (os + 1))) (ty := .int) (fs' := [.ref pr, .ref (g.lk X 1), .int (nI ix), .ref (g.lk X 3), .ref (g.lk X 4), .ref (g.lk X 5), .ref (g.lk X 6), .ref (g.lk X 7), .int (nI (os + 1)), .int (nI st), .int mo, .int lo, .int (nI tr)]) (C := "BigRunner$Runner") (T := FT8) (N := 13) hx hb (hw8 hB _) (fun _ h9 => h9) TY8 ok8 nm8 hown hK hP hD hS (lo_in hL t_X (by decide)) eX rfl 8 (by decide) (wd_341 hB _) rfl (by decide +kernel) rfl rfl (Nat.le_of_ble_eq_true rfl) rfl d_NRunner_keep_38 (fun f2 H locs e3 k4 hP hD hS => ?_)
    have hu := hu.st k4 t_X (by decide)
    have hk5 : ∀ b, b ≠ X → f2 b = f b := k4
    have hI6 := iv_1 hI hL t_X (by decide) hk5 (oc_9.mk t_X (⟨pr, ix, (os + 1), st, mo, lo, tr, e3, t_pr, (by omega), (by omega), (by omega), (by omega)⟩))
    exact pe_vret hx hb hr hlocks hK hP hD hS d_NRunner_keep_41 ⟨e3, hI6, hu⟩
  · skip
    replace b1 := mt (nI_leI (a := 12) (b := os) (by omega) (by omega)).mpr b1
    refine lv_aload_n hx hb d_NRunner_keep_9 rfl (lv_at hl 1 rfl) ?_
    obtain ⟨kd_8, le_9, ri_10, sm_11, mv_12, e7, c13, c14, c15, c16, c17, c18⟩ := oc_6.of t_x (hI.1 x)
    refine pcc_r (va_runV (C := "BigRunner$Node") (As := []) (rest := []) ⟨hx, hb, hml, hown, tb_nil⟩ (c_widened l g s.heap.size f x hL t_x hI) ⟨(callB_of 0 (tb_one (wd_761 hB _)) tb_good1 rfl rfl rfl (wd_77 hB _) (wd_758 hB _) (by decide +kernel) ⟨Nat.le_of_ble_eq_true rfl, Nat.le_of_ble_eq_true rfl⟩), (wd_759 hB _), (wd_760 hB _)⟩ ⟨pe_bl, pg_recv (ci := 5) hK hP (lo_in hL t_x (by decide)) e7 rfl, pe_pre hB hK hP hD⟩ rfl rfl hl.1 rfl (lv_room (Nat.le_of_ble_eq_true rfl)) d_NRunner_keep_10 ⟨Nat.le_of_ble_eq_true rfl, Nat.le_of_ble_eq_true rfl⟩) hS (fun r19 f20 H locs hq21 hP hD hS => ?_)
    obtain ⟨ra_22, hI1_23, hu1_24⟩ := hq21
    subst ra_22
    have hu := hu.tr hu1_24 (by decide)
    have eX := hu1_24.at t_X (by decide) eX
    have e7 := hu1_24.at t_x (by decide) e7
    refine lv_astore_n (lv' := [(2, .ref (g.lk x 6)), (0, .ref X), (1, .ref x)]) hx hb d_NRunner_keep_13 rfl hl (by decide) rfl (fun ls hl => ?_)
    refine lv_aload_n hx hb d_NRunner_keep_14 rfl (lv_at hl 1 rfl) ?_
    refine pf_get (v := .ref (g.lk X 7)) (C := "BigRunner$Runner") (T := FT8) (N := 13) hx hb (hw8 hB _) (fun _ h9 => h9) hown hK hP (lo_in hL t_X (by decide)) eX rfl 7 (by decide) (wd_339 hB _) rfl d_NRunner_keep_15 ?_
    refine lv_aload_n hx hb d_NRunner_keep_18 rfl (lv_at hl 1 rfl) ?_
    refine pf_get (v := .int (nI os)) (C := "BigRunner$Runner") (T := FT8) (N := 13) hx hb (hw8 hB _) (fun _ h9 => h9) hown hK hP (lo_in hL t_X (by decide)) eX rfl 8 (by decide) (wd_341 hB _) rfl d_NRunner_keep_19 ?_
    have e25 := oc_29.of (lo_k9_7 hL _ t_X) (hI1_23.1 (g.lk X 7))
    refine pf_aald (i := os) hx hb hK hP (lo_in hL (lo_k9_7 hL _ t_X) (by decide)) e25 (lo_t29 hL _ (lo_k9_7 hL _ t_X)) (by omega) (by decide) d_NRunner_keep_22 ?_
    have t26 := lo_e29 hL _ (lo_k9_7 hL _ t_X) os (by omega)
    refine lv_aload_n hx hb d_NRunner_keep_23 rfl (lv_at hl 0 rfl) ?_
    refine lv_aload_n hx hb d_NRunner_keep_24 rfl (lv_at hl 0 rfl) ?_
    obtain ⟨sg_28, n_29, e27, c30⟩ := oc_5.of (lo_k6_6 hL _ t_x) (hI1_23.1 (g.lk x 6))
    refine pf_get (v := .int sg_28) (C := "BigRunner$LongNumber") (T := FT4) (N := 3) hx hb (hw4 hB _) (fun _ h9 => h9) hown hK hP (lo_in hL (lo_k6_6 hL _ t_x) (by decide)) e27 rfl 0 (by decide) (wd_189 hB _) rfl d_NRunner_keep_25 ?_
    obtain ⟨sg_32, n_33, e31, c34⟩ := oc_5.of t26 (hI1_23.1 (g.lk (g.lk X 7) os))
    refine pcc_v (va_runV (C := "BigRunner$LongNumber") (As := [.ref (g.lk x 6), .int sg_28]) (rest := []) ⟨hx, hb, hml, hown, tb_nil⟩ (c_copy l g H.size f20 ((g.lk (g.lk X 7) os)) ((g.lk x 6)) sg_28 hL t26 (lo_k6_6 hL _ t_x) hI1_23 (tn_ne (lo_n6 hL _ t_x) (lo_n29 hL _ (lo_k9_7 hL _ t_X) _ (by omega)) (by omega))) ⟨(callB_of 2 (tb_one (wd_746 hB _)) tb_good1 rfl rfl rfl (wd_78 hB _) (wd_743 hB _) (by decide +kernel) ⟨Nat.le_of_ble_eq_true rfl, Nat.le_of_ble_eq_true rfl⟩), (wd_744 hB _), (wd_745 hB _)⟩ ⟨pe_bl, pg_recv (ci := 4) hK hP (lo_in hL t26 (by decide)) e31 rfl, pe_pre hB hK hP hD⟩ rfl rfl hl.1 rfl (lv_room (Nat.le_of_ble_eq_true rfl)) d_NRunner_keep_28 ⟨Nat.le_of_ble_eq_true rfl, Nat.le_of_ble_eq_true rfl⟩) hS (fun f36 H locs hq37 hP hD hS => ?_)
    obtain ⟨hI1_38, hu1_39⟩ := hq37
    have hu := hu.tr hu1_39 (by decide)
    have eX := hu1_39.at t_X (by decide) eX
    have e7 := hu1_39.at t_x (by decide) e7
    have e25 := hu1_39.at (lo_k9_7 hL _ t_X) (by decide) e25
    refine lv_aload_n hx hb d_NRunner_keep_31 rfl (lv_at hl 1 rfl) ?_
    refine lv_dup hx hb d_NRunner_keep_32 rfl ?_
    refine pf_get (v := .int (nI os)) (C := "BigRunner$Runner") (T := FT8) (N := 13) hx hb (hw8 hB _) (fun _ h9 => h9) hown hK hP (lo_in hL t_X (by decide)) eX rfl 8 (by decide) (wd_341 hB _) rfl d_NRunner_keep_33 ?_
    refine lv_iconst (v := nI 1) hx hb d_NRunner_keep_36 (by decide) ?_
    refine pf_iaddN (x := os) (y := 1) hx hb d_NRunner_keep_37 ?_
    refine pf_put (v := .int (nI (os + 1))) (ty := .int) (fs' := [.ref pr, .ref (g.lk X 1), .int (nI ix), .ref (g.lk X 3), .ref (g.lk X 4), .ref (g.lk X 5), .ref (g.lk X 6), .ref (g.lk X 7), .int (nI (os + 1)), .int (nI st), .int mo, .int lo, .int (nI tr)]) (C := "BigRunner$Runner") (T := FT8) (N := 13) hx hb (hw8 hB _) (fun _ h9 => h9) TY8 ok8 nm8 hown hK hP hD hS (lo_in hL t_X (by decide)) eX rfl 8 (by decide) (wd_341 hB _) rfl (by decide +kernel) rfl rfl (Nat.le_of_ble_eq_true rfl) rfl d_NRunner_keep_38 (fun f40 H locs e41 k42 hP hD hS => ?_)
    have e7 := (k42 x (tg_ne t_x t_X (by decide))).trans e7
    have e25 := (k42 (g.lk X 7) (tg_ne (lo_k9_7 hL _ t_X) t_X (by decide))).trans e25
    have hu := hu.st k42 t_X (by decide)
    have hk43 : ∀ b, b ≠ X → f40 b = f36 b := k42
    have hI44 := iv_1 hI1_38 hL t_X (by decide) hk43 (oc_9.mk t_X (⟨pr, ix, (os + 1), st, mo, lo, tr, e41, t_pr, (by omega), (by omega), (by omega), (by omega)⟩))
    exact pe_vret hx hb hr hlocks hK hP hD hS d_NRunner_keep_41 ⟨e41, hI44, hu⟩
set_option maxHeartbeats 4000000 in
set_option maxRecDepth 100000 in
theorem c_fetch (l : Launch) (g : Lay) (sz : Nat) (f : Nat → va_E) (X : Nat) (pr : Nat) (ix : Nat) (os : Nat) (st : Nat) (mo : Int32) (lo : Int32) (tr : Nat) (x : Nat) (kd : Nat) (le : Nat) (ri : Nat) (sm : Int32) (mv : Int64) (hL : LO g) (t_X : g.tg X = 9) (t_pr : g.tg pr = 7) (t_x : g.tg x = 6) (hI : IV g f) (eX : f X = .inr (8, [.ref pr, .ref (g.lk X 1), .int (nI ix), .ref (g.lk X 3), .ref (g.lk X 4), .ref (g.lk X 5), .ref (g.lk X 6), .ref (g.lk X 7), .int (nI os), .int (nI st), .int mo, .int lo, .int (nI tr)])) (hix : ix ≤ 36) (hos : os ≤ st) (hst : st ≤ 3000) (htr : tr ≤ 3) (eN : f x = .inr (5, [.int (nI kd), .int (nI le), .int (nI ri), .ref (g.lk x 3), .int sm, .long mv, .ref (g.lk x 6)])) (hk7 : kd ≤ 7) (hle : le < 72) (hri : ri < 72) (hkl : kd = 1 → le < 10) (hsm : sm = 0 ∨ sm = 1) (hk2 : 2 ≤ kd → le < g.tn x ∧ ri < g.tn x) (hk1 : kd = 1) (htn : g.tn x < 72) : Met l ⟨"BigRunner$Runner", "fetch", "(LBigRunner$Node;)V"⟩ [Cond.code ⟨"BigRunner$Runner", "fetch", "(LBigRunner$Node;)V"⟩ prog_9_method_14_code 2 none] ({ frames := 2, cells := 0, slots := 0, locals := 82 }) (va_Pc [.ref X, .ref x] (pc_in g sz f)) (va_Qv (fun f1 => (IV g f1) ∧ (un [5, 6, 23] g f f1)) (pc_out g sz) (pc_A g sz)) 0 0 (pc_A g sz) := by
  refine pe_ofW (cc := prog_9_method_14_code) (maxL := 2) (ret := none) (lv := [(0, .ref X), (1, .ref x)]) (by decide) (Nat.le_of_ble_eq_true rfl) rfl ?_
  intro p e s m args below meth c ls hx hb hr hml hlocks hown hB hP hK hD hsz hS hl
  subst hsz
  have hu : un [5, 6, 23] g f f := un.rf
  refine lv_aload_n hx hb d_NRunner_fetch_0 rfl (lv_at hl 1 rfl) ?_
  refine pf_get (v := .int sm) (C := "BigRunner$Node") (T := FT5) (N := 7) hx hb (hw5 hB _) (fun _ h9 => h9) hown hK hP (lo_in hL t_x (by decide)) eN rfl 4 (by decide) (wd_218 hB _) rfl d_NRunner_fetch_1 ?_
  refine lv_if_eq (tgt := 23) hx hb d_NRunner_fetch_4 (by decide) (fun b1 => ?_) (fun b1 => ?_)
  · skip
    have hr2 : sm = nI 0 := b1
    refine lv_aload_n hx hb d_NRunner_fetch_23 rfl (lv_at hl 1 rfl) ?_
    refine pf_get (v := .ref (g.lk x 6)) (C := "BigRunner$Node") (T := FT5) (N := 7) hx hb (hw5 hB _) (fun _ h9 => h9) hown hK hP (lo_in hL t_x (by decide)) eN rfl 6 (by decide) (wd_224 hB _) rfl d_NRunner_fetch_24 ?_
    refine lv_aload_n hx hb d_NRunner_fetch_27 rfl (lv_at hl 0 rfl) ?_
    refine pf_get (v := .ref (g.lk X 4)) (C := "BigRunner$Runner") (T := FT8) (N := 13) hx hb (hw8 hB _) (fun _ h9 => h9) hown hK hP (lo_in hL t_X (by decide)) eX rfl 4 (by decide) (wd_336 hB _) rfl d_NRunner_fetch_28 ?_
    refine lv_aload_n hx hb d_NRunner_fetch_31 rfl (lv_at hl 1 rfl) ?_
    refine pf_get (v := .int (nI le)) (C := "BigRunner$Node") (T := FT5) (N := 7) hx hb (hw5 hB _) (fun _ h9 => h9) hown hK hP (lo_in hL t_x (by decide)) eN rfl 1 (by decide) (wd_208 hB _) rfl d_NRunner_fetch_32 ?_
    have e3 := oc_28.of (lo_k9_4 hL _ t_X) (hI.1 (g.lk X 4))
    refine pf_aald (i := le) hx hb hK hP (lo_in hL (lo_k9_4 hL _ t_X) (by decide)) e3 (lo_t28 hL _ (lo_k9_4 hL _ t_X)) (by omega) (by decide) d_NRunner_fetch_35 ?_
    have t4 := lo_e28 hL _ (lo_k9_4 hL _ t_X) le (by omega)
    refine lv_aload_n hx hb d_NRunner_fetch_36 rfl (lv_at hl 0 rfl) ?_
    refine pf_get (v := .ref (g.lk X 4)) (C := "BigRunner$Runner") (T := FT8) (N := 13) hx hb (hw8 hB _) (fun _ h9 => h9) hown hK hP (lo_in hL t_X (by decide)) eX rfl 4 (by decide) (wd_336 hB _) rfl d_NRunner_fetch_37 ?_
    refine lv_aload_n hx hb d_NRunner_fetch_40 rfl (lv_at hl 1 rfl) ?_
    refine pf_get (v := .int (nI le)) (C := "BigRunner$Node") (T := FT5) (N := 7) hx hb (hw5 hB _) (fun _ h9 => h9) hown hK hP (lo_in hL t_x (by decide)) eN rfl 1 (by decide) (wd_208 hB _) rfl d_NRunner_fetch_41 ?_
    refine pf_aald (i := le) hx hb hK hP (lo_in hL (lo_k9_4 hL _ t_X) (by decide)) e3 (lo_t28 hL _ (lo_k9_4 hL _ t_X)) (by omega) (by decide) d_NRunner_fetch_44 ?_
    obtain ⟨sg_6, n_7, e5, c8⟩ := oc_5.of t4 (hI.1 (g.lk (g.lk X 4) le))
    refine pf_get (v := .int sg_6) (C := "BigRunner$LongNumber") (T := FT4) (N := 3) hx hb (hw4 hB _) (fun _ h9 => h9) hown hK hP (lo_in hL t4 (by decide)) e5 rfl 0 (by decide) (wd_189 hB _) rfl d_NRunner_fetch_45 ?_
    obtain ⟨sg_10, n_11, e9, c12⟩ := oc_5.of (lo_k6_6 hL _ t_x) (hI.1 (g.lk x 6))
    refine pcc_v (va_runV (C := "BigRunner$LongNumber") (As := [.ref (g.lk (g.lk X 4) le), .int sg_6]) (rest := []) ⟨hx, hb, hml, hown, tb_nil⟩ (c_copy l g s.heap.size f ((g.lk x 6)) ((g.lk (g.lk X 4) le)) sg_6 hL (lo_k6_6 hL _ t_x) t4 hI (tn_ne (lo_n28 hL _ (lo_k9_4 hL _ t_X) _ (by omega)) (lo_n6 hL _ t_x) (by omega))) ⟨(callB_of 2 (tb_one (wd_746 hB _)) tb_good1 rfl rfl rfl (wd_78 hB _) (wd_743 hB _) (by decide +kernel) ⟨Nat.le_of_ble_eq_true rfl, Nat.le_of_ble_eq_true rfl⟩), (wd_744 hB _), (wd_745 hB _)⟩ ⟨pe_bl, pg_recv (ci := 4) hK hP (lo_in hL (lo_k6_6 hL _ t_x) (by decide)) e9 rfl, pe_pre hB hK hP hD⟩ rfl rfl hl.1 rfl (lv_room (Nat.le_of_ble_eq_true rfl)) d_NRunner_fetch_48 ⟨Nat.le_of_ble_eq_true rfl, Nat.le_of_ble_eq_true rfl⟩) hS (fun f14 H locs hq15 hP hD hS => ?_)
    obtain ⟨hI1_16, hu1_17⟩ := hq15
    have hu := hu.tr hu1_17 (by decide)
    have eX := hu1_17.at t_X (by decide) eX
    have eN := hu1_17.at t_x (by decide) eN
    have e3 := hu1_17.at (lo_k9_4 hL _ t_X) (by decide) e3
    exact pe_vret hx hb hr hlocks hK hP hD hS d_NRunner_fetch_51 ⟨hI1_16, hu⟩
  · skip
    have hr18 : sm = nI 1 := (bl_1 hsm b1)
    refine lv_aload_n hx hb d_NRunner_fetch_7 rfl (lv_at hl 1 rfl) ?_
    refine lv_aload_n hx hb d_NRunner_fetch_8 rfl (lv_at hl 0 rfl) ?_
    refine pf_get (v := .ref (g.lk X 3)) (C := "BigRunner$Runner") (T := FT8) (N := 13) hx hb (hw8 hB _) (fun _ h9 => h9) hown hK hP (lo_in hL t_X (by decide)) eX rfl 3 (by decide) (wd_335 hB _) rfl d_NRunner_fetch_9 ?_
    refine lv_aload_n hx hb d_NRunner_fetch_12 rfl (lv_at hl 1 rfl) ?_
    refine pf_get (v := .int (nI le)) (C := "BigRunner$Node") (T := FT5) (N := 7) hx hb (hw5 hB _) (fun _ h9 => h9) hown hK hP (lo_in hL t_x (by decide)) eN rfl 1 (by decide) (wd_208 hB _) rfl d_NRunner_fetch_13 ?_
    obtain ⟨h_20, e19⟩ := oc_27.of (lo_k9_3 hL _ t_X) (hI.1 (g.lk X 3))
    refine pf_lald (i := le) hx hb hK hP (lo_in hL (lo_k9_3 hL _ t_X) (by decide)) e19 (lo_t27 hL _ (lo_k9_3 hL _ t_X)) (by omega) (by decide) d_NRunner_fetch_16 ?_
    refine pf_put (v := .long (h_20 le)) (ty := .long) (fs' := [.int (nI kd), .int (nI le), .int (nI ri), .ref (g.lk x 3), .int sm, .long (h_20 le), .ref (g.lk x 6)]) (C := "BigRunner$Node") (T := FT5) (N := 7) hx hb (hw5 hB _) (fun _ h9 => h9) TY5 ok5 nm5 hown hK hP hD hS (lo_in hL t_x (by decide)) eN rfl 5 (by decide) (wd_221 hB _) rfl (by decide +kernel) rfl rfl (Nat.le_of_ble_eq_true rfl) rfl d_NRunner_fetch_17 (fun f22 H locs e23 k24 hP hD hS => ?_)
    have eX := (k24 X (tg_ne t_X t_x (by decide))).trans eX
    have e19 := (k24 (g.lk X 3) (tg_ne (lo_k9_3 hL _ t_X) t_x (by decide))).trans e19
    have hu := hu.st k24 t_x (by decide)
    have hk25 : ∀ b, b ≠ x → f22 b = f b := k24
    refine lv_goto (tgt := 51) hx hb d_NRunner_fetch_20 (by decide) ?_
    have hI26 := iv_1 hI hL t_x (by decide) hk25 (oc_6.mk t_x (⟨kd, le, ri, sm, ((h_20 le)), e23, (by omega), (by omega), (by omega), (by omega), hsm, (by omega)⟩))
    exact pe_vret hx hb hr hlocks hK hP hD hS d_NRunner_fetch_51 ⟨hI26, hu⟩
set_option maxHeartbeats 4000000 in
set_option maxRecDepth 100000 in
theorem c_operate (l : Launch) (g : Lay) (sz : Nat) (f : Nat → va_E) (X : Nat) (pr : Nat) (ix : Nat) (os : Nat) (st : Nat) (mo : Int32) (lo : Int32) (tr : Nat) (x : Nat) (kd : Nat) (le : Nat) (ri : Nat) (sm : Int32) (mv : Int64) (hL : LO g) (t_X : g.tg X = 9) (t_pr : g.tg pr = 7) (t_x : g.tg x = 6) (hI : IV g f) (eX : f X = .inr (8, [.ref pr, .ref (g.lk X 1), .int (nI ix), .ref (g.lk X 3), .ref (g.lk X 4), .ref (g.lk X 5), .ref (g.lk X 6), .ref (g.lk X 7), .int (nI os), .int (nI st), .int mo, .int lo, .int (nI tr)])) (hix : ix ≤ 36) (hos : os ≤ st) (hst : st ≤ 3000) (htr : tr ≤ 3) (eN : f x = .inr (5, [.int (nI kd), .int (nI le), .int (nI ri), .ref (g.lk x 3), .int sm, .long mv, .ref (g.lk x 6)])) (hk7 : kd ≤ 7) (hle : le < 72) (hri : ri < 72) (hkl : kd = 1 → le < 10) (hsm : sm = 0 ∨ sm = 1) (hk2 : 2 ≤ kd → le < g.tn x ∧ ri < g.tn x) (hkk : 2 ≤ kd) : Met l ⟨"BigRunner$Runner", "operate", "(LBigRunner$Node;)I"⟩ [Cond.code ⟨"BigRunner$Runner", "operate", "(LBigRunner$Node;)I"⟩ prog_9_method_15_code 6 (some .int)] ({ frames := 0, cells := 0, slots := 0, locals := 0 }) (va_Pc [.ref X, .ref x] (pc_in g sz f)) (va_Qi (fun r f1 => (∃ (mo1 : Int32), f1 X = .inr (8, [.ref pr, .ref (g.lk X 1), .int (nI ix), .ref (g.lk X 3), .ref (g.lk X 4), .ref (g.lk X 5), .ref (g.lk X 6), .ref (g.lk X 7), .int (nI os), .int (nI st), .int mo1, .int lo, .int (nI tr)])) ∧ (∃ k, k ≤ 3 ∧ r = nI k) ∧ (IV g f1) ∧ (un [6, 9] g f f1)) (pc_out g sz) (pc_A g sz)) 0 0 (pc_A g sz) := by
  refine pe_ofW (cc := prog_9_method_15_code) (maxL := 6) (ret := (some .int)) (lv := [(0, .ref X), (1, .ref x)]) (by decide) (Nat.le_of_ble_eq_true rfl) rfl ?_
  intro p e s m args below meth c ls hx hb hr hml hlocks hown hB hP hK hD hsz hS hl
  subst hsz
  have hu : un [6, 9] g f f := un.rf
  refine lv_aload_n hx hb d_NRunner_operate_0 rfl (lv_at hl 0 rfl) ?_
  refine lv_dup hx hb d_NRunner_operate_1 rfl ?_
  refine pf_get (v := .int mo) (C := "BigRunner$Runner") (T := FT8) (N := 13) hx hb (hw8 hB _) (fun _ h9 => h9) hown hK hP (lo_in hL t_X (by decide)) eX rfl 10 (by decide) (wd_345 hB _) rfl d_NRunner_operate_2 ?_
  refine lv_iconst (v := nI 1) hx hb d_NRunner_operate_5 (by decide) ?_
  refine lv_iadd hx hb d_NRunner_operate_6 ?_
  refine pf_put (v := .int (mo + ((nI 1)))) (ty := .int) (fs' := [.ref pr, .ref (g.lk X 1), .int (nI ix), .ref (g.lk X 3), .ref (g.lk X 4), .ref (g.lk X 5), .ref (g.lk X 6), .ref (g.lk X 7), .int (nI os), .int (nI st), .int (mo + ((nI 1))), .int lo, .int (nI tr)]) (C := "BigRunner$Runner") (T := FT8) (N := 13) hx hb (hw8 hB _) (fun _ h9 => h9) TY8 ok8 nm8 hown hK hP hD hS (lo_in hL t_X (by decide)) eX rfl 10 (by decide) (wd_345 hB _) rfl (by decide +kernel) rfl rfl (Nat.le_of_ble_eq_true rfl) rfl d_NRunner_operate_7 (fun f1 H locs e2 k3 hP hD hS => ?_)
  have eN := (k3 x (tg_ne t_x t_X (by decide))).trans eN
  have hu := hu.st k3 t_X (by decide)
  have hk4 : ∀ b, b ≠ X → f1 b = f b := k3
  refine lv_aload_n hx hb d_NRunner_operate_10 rfl (lv_at hl 0 rfl) ?_
  refine pf_get (v := .ref pr) (C := "BigRunner$Runner") (T := FT8) (N := 13) hx hb (hw8 hB _) (fun _ h9 => h9) hown hK hP (lo_in hL t_X (by decide)) e2 rfl 0 (by decide) (wd_330 hB _) rfl d_NRunner_operate_11 ?_
  obtain ⟨sc_6, nc_7, e5, c8, c9⟩ := oc_7.of t_pr (hI.1 pr)
  replace e5 := (hk4 pr (tg_ne t_pr t_X (by decide))).trans e5
  refine pf_get (v := .ref (g.lk pr 2)) (C := "BigRunner$Program") (T := FT6) (N := 6) hx hb (hw6 hB _) (fun _ h9 => h9) hown hK hP (lo_in hL t_pr (by decide)) e5 rfl 2 (by decide) (wd_249 hB _) rfl d_NRunner_operate_14 ?_
  refine lv_aload_n hx hb d_NRunner_operate_17 rfl (lv_at hl 1 rfl) ?_
  refine pf_get (v := .int (nI le)) (C := "BigRunner$Node") (T := FT5) (N := 7) hx hb (hw5 hB _) (fun _ h9 => h9) hown hK hP (lo_in hL t_x (by decide)) eN rfl 1 (by decide) (wd_208 hB _) rfl d_NRunner_operate_18 ?_
  have e10 := oc_25.of (lo_k7_2 hL _ t_pr) (hI.1 (g.lk pr 2))
  replace e10 := (hk4 (g.lk pr 2) (tg_ne (lo_k7_2 hL _ t_pr) t_X (by decide))).trans e10
  refine pf_aald (i := le) hx hb hK hP (lo_in hL (lo_k7_2 hL _ t_pr) (by decide)) e10 (lo_t25 hL _ (lo_k7_2 hL _ t_pr)) (by omega) (by decide) d_NRunner_operate_21 ?_
  have t11 := lo_e25 hL _ (lo_k7_2 hL _ t_pr) le (by omega)
  obtain ⟨kd_13, le_14, ri_15, sm_16, mv_17, e12, c18, c19, c20, c21, c22, c23⟩ := oc_6.of t11 (hI.1 (g.lk (g.lk pr 2) le))
  replace e12 := (hk4 (g.lk (g.lk pr 2) le) (tg_ne t11 t_X (by decide))).trans e12
  refine pf_get (v := .long mv_17) (C := "BigRunner$Node") (T := FT5) (N := 7) hx hb (hw5 hB _) (fun _ h9 => h9) hown hK hP (lo_in hL t11 (by decide)) e12 rfl 5 (by decide) (wd_221 hB _) rfl d_NRunner_operate_22 ?_
  refine lv_lstore_n (lv' := [(2, .long mv_17), (0, .ref X), (1, .ref x)]) hx hb d_NRunner_operate_25 rfl hl (by decide) rfl (fun ls hl => ?_)
  refine lv_aload_n hx hb d_NRunner_operate_26 rfl (lv_at hl 1 rfl) ?_
  refine pf_get (v := .ref pr) (C := "BigRunner$Runner") (T := FT8) (N := 13) hx hb (hw8 hB _) (fun _ h9 => h9) hown hK hP (lo_in hL t_X (by decide)) e2 rfl 0 (by decide) (wd_330 hB _) rfl d_NRunner_operate_27 ?_
  refine pf_get (v := .ref (g.lk pr 2)) (C := "BigRunner$Program") (T := FT6) (N := 6) hx hb (hw6 hB _) (fun _ h9 => h9) hown hK hP (lo_in hL t_pr (by decide)) e5 rfl 2 (by decide) (wd_249 hB _) rfl d_NRunner_operate_30 ?_
  refine lv_aload_n hx hb d_NRunner_operate_33 rfl (lv_at hl 2 rfl) ?_
  refine pf_get (v := .int (nI ri)) (C := "BigRunner$Node") (T := FT5) (N := 7) hx hb (hw5 hB _) (fun _ h9 => h9) hown hK hP (lo_in hL t_x (by decide)) eN rfl 2 (by decide) (wd_212 hB _) rfl d_NRunner_operate_34 ?_
  refine pf_aald (i := ri) hx hb hK hP (lo_in hL (lo_k7_2 hL _ t_pr) (by decide)) e10 (lo_t25 hL _ (lo_k7_2 hL _ t_pr)) (by omega) (by decide) d_NRunner_operate_37 ?_
  have t24 := lo_e25 hL _ (lo_k7_2 hL _ t_pr) ri (by omega)
  obtain ⟨kd_26, le_27, ri_28, sm_29, mv_30, e25, c31, c32, c33, c34, c35, c36⟩ := oc_6.of t24 (hI.1 (g.lk (g.lk pr 2) ri))
  replace e25 := (hk4 (g.lk (g.lk pr 2) ri) (tg_ne t24 t_X (by decide))).trans e25
  refine pf_get (v := .long mv_30) (C := "BigRunner$Node") (T := FT5) (N := 7) hx hb (hw5 hB _) (fun _ h9 => h9) hown hK hP (lo_in hL t24 (by decide)) e25 rfl 5 (by decide) (wd_221 hB _) rfl d_NRunner_operate_38 ?_
  refine lv_lstore (lv' := [(4, .long mv_30), (2, .long mv_17), (0, .ref X), (1, .ref x)]) hx hb d_NRunner_operate_41 hl (by decide) rfl (fun ls hl => ?_)
  refine lv_aload_n hx hb d_NRunner_operate_43 rfl (lv_at hl 3 rfl) ?_
  refine pf_get (v := .int (nI kd)) (C := "BigRunner$Node") (T := FT5) (N := 7) hx hb (hw5 hB _) (fun _ h9 => h9) hown hK hP (lo_in hL t_x (by decide)) eN rfl 0 (by decide) (wd_204 hB _) rfl d_NRunner_operate_44 ?_
  by_cases b37 : kd = 2
  · skip
    refine lv_tableIn (off := 29) (tgt := 76) hx hb d_NRunner_operate_47 (by rw [nI_toInt (by omega)]; omega) (by rw [nI_toInt (by omega)]; omega) (by rw [nI_toInt (by omega), b37]; rfl) (by decide) ?_
    refine lv_aload_n hx hb d_NRunner_operate_76 rfl (lv_at hl 3 rfl) ?_
    refine lv_lload_n hx hb d_NRunner_operate_77 rfl (lv_at hl 1 rfl) ?_
    refine lv_lneg hx hb d_NRunner_operate_78 ?_
    have hI38 := iv_1 hI hL t_X (by decide) hk4 (oc_9.mk t_X (⟨pr, ix, os, st, ((mo + ((nI 1)))), lo, tr, e2, t_pr, (by omega), (by omega), (by omega), (by omega)⟩))
    refine pf_put (v := .long (-mv_17)) (ty := .long) (fs' := [.int (nI kd), .int (nI le), .int (nI ri), .ref (g.lk x 3), .int sm, .long (-mv_17), .ref (g.lk x 6)]) (C := "BigRunner$Node") (T := FT5) (N := 7) hx hb (hw5 hB _) (fun _ h9 => h9) TY5 ok5 nm5 hown hK hP hD hS (lo_in hL t_x (by decide)) eN rfl 5 (by decide) (wd_221 hB _) rfl (by decide +kernel) rfl rfl (Nat.le_of_ble_eq_true rfl) rfl d_NRunner_operate_79 (fun f39 H locs e40 k41 hP hD hS => ?_)
    have e2 := (k41 X (tg_ne t_X t_x (by decide))).trans e2
    have e5 := (k41 pr (tg_ne t_pr t_x (by decide))).trans e5
    have e10 := (k41 (g.lk pr 2) (tg_ne (lo_k7_2 hL _ t_pr) t_x (by decide))).trans e10
    have hu := hu.st k41 t_x (by decide)
    have hk42 : ∀ b, b ≠ x → f39 b = f1 b := k41
    refine lv_iconst (v := nI 0) hx hb d_NRunner_operate_82 (by decide) ?_
    have hI43 := iv_1 hI38 hL t_x (by decide) hk42 (oc_6.mk t_x (⟨kd, le, ri, sm, ((-mv_17)), e40, (by omega), (by omega), (by omega), (by omega), hsm, (by omega)⟩))
    exact pe_iret hx hb hr hlocks hK hP hD hS d_NRunner_operate_83 ⟨⟨(mo + ((nI 1))), e2⟩, ⟨0, by omega, rfl⟩, hI43, hu⟩
  by_cases b44 : kd = 3
  · skip
    refine lv_tableIn (off := 37) (tgt := 84) hx hb d_NRunner_operate_47 (by rw [nI_toInt (by omega)]; omega) (by rw [nI_toInt (by omega)]; omega) (by rw [nI_toInt (by omega), b44]; rfl) (by decide) ?_
    refine lv_aload_n hx hb d_NRunner_operate_84 rfl (lv_at hl 3 rfl) ?_
    refine lv_lload_n hx hb d_NRunner_operate_85 rfl (lv_at hl 1 rfl) ?_
    refine lv_lload hx hb d_NRunner_operate_86 (lv_at hl 0 rfl) ?_
    refine lv_ladd hx hb d_NRunner_operate_88 ?_
    have hI45 := iv_1 hI hL t_X (by decide) hk4 (oc_9.mk t_X (⟨pr, ix, os, st, ((mo + ((nI 1)))), lo, tr, e2, t_pr, (by omega), (by omega), (by omega), (by omega)⟩))
    refine pf_put (v := .long (mv_17 + mv_30)) (ty := .long) (fs' := [.int (nI kd), .int (nI le), .int (nI ri), .ref (g.lk x 3), .int sm, .long (mv_17 + mv_30), .ref (g.lk x 6)]) (C := "BigRunner$Node") (T := FT5) (N := 7) hx hb (hw5 hB _) (fun _ h9 => h9) TY5 ok5 nm5 hown hK hP hD hS (lo_in hL t_x (by decide)) eN rfl 5 (by decide) (wd_221 hB _) rfl (by decide +kernel) rfl rfl (Nat.le_of_ble_eq_true rfl) rfl d_NRunner_operate_89 (fun f46 H locs e47 k48 hP hD hS => ?_)
    have e2 := (k48 X (tg_ne t_X t_x (by decide))).trans e2
    have e5 := (k48 pr (tg_ne t_pr t_x (by decide))).trans e5
    have e10 := (k48 (g.lk pr 2) (tg_ne (lo_k7_2 hL _ t_pr) t_x (by decide))).trans e10
    have hu := hu.st k48 t_x (by decide)
    have hk49 : ∀ b, b ≠ x → f46 b = f1 b := k48
    refine lv_iconst (v := nI 0) hx hb d_NRunner_operate_92 (by decide) ?_
    have hI50 := iv_1 hI45 hL t_x (by decide) hk49 (oc_6.mk t_x (⟨kd, le, ri, sm, ((mv_17 + mv_30)), e47, (by omega), (by omega), (by omega), (by omega), hsm, (by omega)⟩))
    exact pe_iret hx hb hr hlocks hK hP hD hS d_NRunner_operate_93 ⟨⟨(mo + ((nI 1))), e2⟩, ⟨0, by omega, rfl⟩, hI50, hu⟩
  by_cases b51 : kd = 4
  · skip
    refine lv_tableIn (off := 47) (tgt := 94) hx hb d_NRunner_operate_47 (by rw [nI_toInt (by omega)]; omega) (by rw [nI_toInt (by omega)]; omega) (by rw [nI_toInt (by omega), b51]; rfl) (by decide) ?_
    refine lv_aload_n hx hb d_NRunner_operate_94 rfl (lv_at hl 3 rfl) ?_
    refine lv_lload_n hx hb d_NRunner_operate_95 rfl (lv_at hl 1 rfl) ?_
    refine lv_lload hx hb d_NRunner_operate_96 (lv_at hl 0 rfl) ?_
    refine lv_lsub hx hb d_NRunner_operate_98 ?_
    have hI52 := iv_1 hI hL t_X (by decide) hk4 (oc_9.mk t_X (⟨pr, ix, os, st, ((mo + ((nI 1)))), lo, tr, e2, t_pr, (by omega), (by omega), (by omega), (by omega)⟩))
    refine pf_put (v := .long (mv_17 - mv_30)) (ty := .long) (fs' := [.int (nI kd), .int (nI le), .int (nI ri), .ref (g.lk x 3), .int sm, .long (mv_17 - mv_30), .ref (g.lk x 6)]) (C := "BigRunner$Node") (T := FT5) (N := 7) hx hb (hw5 hB _) (fun _ h9 => h9) TY5 ok5 nm5 hown hK hP hD hS (lo_in hL t_x (by decide)) eN rfl 5 (by decide) (wd_221 hB _) rfl (by decide +kernel) rfl rfl (Nat.le_of_ble_eq_true rfl) rfl d_NRunner_operate_99 (fun f53 H locs e54 k55 hP hD hS => ?_)
    have e2 := (k55 X (tg_ne t_X t_x (by decide))).trans e2
    have e5 := (k55 pr (tg_ne t_pr t_x (by decide))).trans e5
    have e10 := (k55 (g.lk pr 2) (tg_ne (lo_k7_2 hL _ t_pr) t_x (by decide))).trans e10
    have hu := hu.st k55 t_x (by decide)
    have hk56 : ∀ b, b ≠ x → f53 b = f1 b := k55
    refine lv_iconst (v := nI 0) hx hb d_NRunner_operate_102 (by decide) ?_
    have hI57 := iv_1 hI52 hL t_x (by decide) hk56 (oc_6.mk t_x (⟨kd, le, ri, sm, ((mv_17 - mv_30)), e54, (by omega), (by omega), (by omega), (by omega), hsm, (by omega)⟩))
    exact pe_iret hx hb hr hlocks hK hP hD hS d_NRunner_operate_103 ⟨⟨(mo + ((nI 1))), e2⟩, ⟨0, by omega, rfl⟩, hI57, hu⟩
  by_cases b58 : kd = 5
  · skip
    refine lv_tableIn (off := 57) (tgt := 104) hx hb d_NRunner_operate_47 (by rw [nI_toInt (by omega)]; omega) (by rw [nI_toInt (by omega)]; omega) (by rw [nI_toInt (by omega), b58]; rfl) (by decide) ?_
    refine lv_aload_n hx hb d_NRunner_operate_104 rfl (lv_at hl 3 rfl) ?_
    refine lv_lload_n hx hb d_NRunner_operate_105 rfl (lv_at hl 1 rfl) ?_
    refine lv_lload hx hb d_NRunner_operate_106 (lv_at hl 0 rfl) ?_
    refine lv_lmul hx hb d_NRunner_operate_108 ?_
    have hI59 := iv_1 hI hL t_X (by decide) hk4 (oc_9.mk t_X (⟨pr, ix, os, st, ((mo + ((nI 1)))), lo, tr, e2, t_pr, (by omega), (by omega), (by omega), (by omega)⟩))
    refine pf_put (v := .long (mv_17 * mv_30)) (ty := .long) (fs' := [.int (nI kd), .int (nI le), .int (nI ri), .ref (g.lk x 3), .int sm, .long (mv_17 * mv_30), .ref (g.lk x 6)]) (C := "BigRunner$Node") (T := FT5) (N := 7) hx hb (hw5 hB _) (fun _ h9 => h9) TY5 ok5 nm5 hown hK hP hD hS (lo_in hL t_x (by decide)) eN rfl 5 (by decide) (wd_221 hB _) rfl (by decide +kernel) rfl rfl (Nat.le_of_ble_eq_true rfl) rfl d_NRunner_operate_109 (fun f60 H locs e61 k62 hP hD hS => ?_)
    have e2 := (k62 X (tg_ne t_X t_x (by decide))).trans e2
    have e5 := (k62 pr (tg_ne t_pr t_x (by decide))).trans e5
    have e10 := (k62 (g.lk pr 2) (tg_ne (lo_k7_2 hL _ t_pr) t_x (by decide))).trans e10
    have hu := hu.st k62 t_x (by decide)
    have hk63 : ∀ b, b ≠ x → f60 b = f1 b := k62
    refine lv_iconst (v := nI 0) hx hb d_NRunner_operate_112 (by decide) ?_
    have hI64 := iv_1 hI59 hL t_x (by decide) hk63 (oc_6.mk t_x (⟨kd, le, ri, sm, ((mv_17 * mv_30)), e61, (by omega), (by omega), (by omega), (by omega), hsm, (by omega)⟩))
    exact pe_iret hx hb hr hlocks hK hP hD hS d_NRunner_operate_113 ⟨⟨(mo + ((nI 1))), e2⟩, ⟨0, by omega, rfl⟩, hI64, hu⟩
  refine lv_tableOut (tgt := 114) hx hb d_NRunner_operate_47 (by rw [nI_toInt (by omega)]; omega) (by decide) ?_
  refine lv_lload hx hb d_NRunner_operate_114 (lv_at hl 0 rfl) ?_
  refine lv_lconst (v := nL 0) hx hb d_NRunner_operate_116 (by decide) ?_
  refine W.lcmp hx hb d_NRunner_operate_117 ?_
  refine lv_if_ne (tgt := 123) hx hb d_NRunner_operate_118 (by decide) (fun b65 => ?_) (fun b65 => ?_)
  · skip
    replace b65 := mt pl_eq.mpr b65
    refine lv_aload_n hx hb d_NRunner_operate_123 rfl (lv_at hl 3 rfl) ?_
    refine lv_aload_n hx hb d_NRunner_operate_124 rfl (lv_at hl 3 rfl) ?_
    refine pf_get (v := .int (nI kd)) (C := "BigRunner$Node") (T := FT5) (N := 7) hx hb (hw5 hB _) (fun _ h9 => h9) hown hK hP (lo_in hL t_x (by decide)) eN rfl 0 (by decide) (wd_204 hB _) rfl d_NRunner_operate_125 ?_
    refine lv_bipush (v := nI 6) hx hb d_NRunner_operate_128 (by decide) ?_
    refine lv_icmp_ne (tgt := 140) hx hb d_NRunner_operate_130 (by decide) (fun b66 => ?_) (fun b66 => ?_)
    · skip
      replace b66 := mt (nI_eq (a := kd) (b := 6) (by omega) (by omega)).mpr b66
      refine lv_lload_n hx hb d_NRunner_operate_140 rfl (lv_at hl 1 rfl) ?_
      refine lv_lload hx hb d_NRunner_operate_141 (lv_at hl 0 rfl) ?_
      refine lv_lrem hx hb d_NRunner_operate_143 (nz (by assumption)) ?_
      have hI67 := iv_1 hI hL t_X (by decide) hk4 (oc_9.mk t_X (⟨pr, ix, os, st, ((mo + ((nI 1)))), lo, tr, e2, t_pr, (by omega), (by omega), (by omega), (by omega)⟩))
      refine pf_put (v := .long (mv_17 - mv_17 / mv_30 * mv_30)) (ty := .long) (fs' := [.int (nI kd), .int (nI le), .int (nI ri), .ref (g.lk x 3), .int sm, .long (mv_17 - mv_17 / mv_30 * mv_30), .ref (g.lk x 6)]) (C := "BigRunner$Node") (T := FT5) (N := 7) hx hb (hw5 hB _) (fun _ h9 => h9) TY5 ok5 nm5 hown hK hP hD hS (lo_in hL t_x (by decide)) eN rfl 5 (by decide) (wd_221 hB _) rfl (by decide +kernel) rfl rfl (Nat.le_of_ble_eq_true rfl) rfl d_NRunner_operate_144 (fun f68 H locs e69 k70 hP hD hS => ?_)
      have e2 := (k70 X (tg_ne t_X t_x (by decide))).trans e2
      have e5 := (k70 pr (tg_ne t_pr t_x (by decide))).trans e5
      have e10 := (k70 (g.lk pr 2) (tg_ne (lo_k7_2 hL _ t_pr) t_x (by decide))).trans e10
      have hu := hu.st k70 t_x (by decide)
      have hk71 : ∀ b, b ≠ x → f68 b = f1 b := k70
      refine lv_iconst (v := nI 0) hx hb d_NRunner_operate_147 (by decide) ?_
      have hI72 := iv_1 hI67 hL t_x (by decide) hk71 (oc_6.mk t_x (⟨kd, le, ri, sm, ((mv_17 - mv_17 / mv_30 * mv_30)), e69, (by omega), (by omega), (by omega), (by omega), hsm, (by omega)⟩))
      exact pe_iret hx hb hr hlocks hK hP hD hS d_NRunner_operate_148 ⟨⟨(mo + ((nI 1))), e2⟩, ⟨0, by omega, rfl⟩, hI72, hu⟩
    · skip
      replace b66 := (nI_eq (a := kd) (b := 6) (by omega) (by omega)).mp b66
      refine lv_lload_n hx hb d_NRunner_operate_133 rfl (lv_at hl 1 rfl) ?_
      refine lv_lload hx hb d_NRunner_operate_134 (lv_at hl 0 rfl) ?_
      refine lv_ldiv hx hb d_NRunner_operate_136 (nz (by assumption)) ?_
      refine lv_goto (tgt := 144) hx hb d_NRunner_operate_137 (by decide) ?_
      have hI73 := iv_1 hI hL t_X (by decide) hk4 (oc_9.mk t_X (⟨pr, ix, os, st, ((mo + ((nI 1)))), lo, tr, e2, t_pr, (by omega), (by omega), (by omega), (by omega)⟩))
      refine pf_put (v := .long (mv_17 / mv_30)) (ty := .long) (fs' := [.int (nI kd), .int (nI le), .int (nI ri), .ref (g.lk x 3), .int sm, .long (mv_17 / mv_30), .ref (g.lk x 6)]) (C := "BigRunner$Node") (T := FT5) (N := 7) hx hb (hw5 hB _) (fun _ h9 => h9) TY5 ok5 nm5 hown hK hP hD hS (lo_in hL t_x (by decide)) eN rfl 5 (by decide) (wd_221 hB _) rfl (by decide +kernel) rfl rfl (Nat.le_of_ble_eq_true rfl) rfl d_NRunner_operate_144 (fun f74 H locs e75 k76 hP hD hS => ?_)
      have e2 := (k76 X (tg_ne t_X t_x (by decide))).trans e2
      have e5 := (k76 pr (tg_ne t_pr t_x (by decide))).trans e5
      have e10 := (k76 (g.lk pr 2) (tg_ne (lo_k7_2 hL _ t_pr) t_x (by decide))).trans e10
      have hu := hu.st k76 t_x (by decide)
      have hk77 : ∀ b, b ≠ x → f74 b = f1 b := k76
      refine lv_iconst (v := nI 0) hx hb d_NRunner_operate_147 (by decide) ?_
      have hI78 := iv_1 hI73 hL t_x (by decide) hk77 (oc_6.mk t_x (⟨kd, le, ri, sm, ((mv_17 / mv_30)), e75, (by omega), (by omega), (by omega), (by omega), hsm, (by omega)⟩))
      exact pe_iret hx hb hr hlocks hK hP hD hS d_NRunner_operate_148 ⟨⟨(mo + ((nI 1))), e2⟩, ⟨0, by omega, rfl⟩, hI78, hu⟩
  · skip
    replace b65 := pl_eq.mp b65
    refine lv_iconst (v := nI 1) hx hb d_NRunner_operate_121 (by decide) ?_
    have hI79 := iv_1 hI hL t_X (by decide) hk4 (oc_9.mk t_X (⟨pr, ix, os, st, ((mo + ((nI 1)))), lo, tr, e2, t_pr, (by omega), (by omega), (by omega), (by omega)⟩))
    exact pe_iret hx hb hr hlocks hK hP hD hS d_NRunner_operate_122 ⟨⟨(mo + ((nI 1))), e2⟩, ⟨1, by omega, rfl⟩, hI79, hu⟩
set_option maxHeartbeats 4000000 in
set_option maxRecDepth 100000 in
theorem c_operateLong (l : Launch) (g : Lay) (sz : Nat) (f : Nat → va_E) (X : Nat) (pr : Nat) (ix : Nat) (os : Nat) (st : Nat) (mo : Int32) (lo : Int32) (tr : Nat) (x : Nat) (kd : Nat) (le : Nat) (ri : Nat) (sm : Int32) (mv : Int64) (hL : LO g) (t_X : g.tg X = 9) (t_pr : g.tg pr = 7) (t_x : g.tg x = 6) (hI : IV g f) (eX : f X = .inr (8, [.ref pr, .ref (g.lk X 1), .int (nI ix), .ref (g.lk X 3), .ref (g.lk X 4), .ref (g.lk X 5), .ref (g.lk X 6), .ref (g.lk X 7), .int (nI os), .int (nI st), .int mo, .int lo, .int (nI tr)])) (hix : ix ≤ 36) (hos : os ≤ st) (hst : st ≤ 3000) (htr : tr ≤ 3) (eN : f x = .inr (5, [.int (nI kd), .int (nI le), .int (nI ri), .ref (g.lk x 3), .int sm, .long mv, .ref (g.lk x 6)])) (hk7 : kd ≤ 7) (hle : le < 72) (hri : ri < 72) (hkl : kd = 1 → le < 10) (hsm : sm = 0 ∨ sm = 1) (hk2 : 2 ≤ kd → le < g.tn x ∧ ri < g.tn x) (hkk : 2 ≤ kd) : Met l ⟨"BigRunner$Runner", "operateLong", "(LBigRunner$Node;)I"⟩ [Cond.code ⟨"BigRunner$Runner", "operateLong", "(LBigRunner$Node;)I"⟩ prog_9_method_16_code 5 (some .int)] ({ frames := 4, cells := 0, slots := 0, locals := 112 }) (va_Pc [.ref X, .ref x] (pc_in g sz f)) (va_Qi (fun r f1 => (∃ (lo1 : Int32), f1 X = .inr (8, [.ref pr, .ref (g.lk X 1), .int (nI ix), .ref (g.lk X 3), .ref (g.lk X 4), .ref (g.lk X 5), .ref (g.lk X 6), .ref (g.lk X 7), .int (nI os), .int (nI st), .int mo, .int lo1, .int (nI tr)])) ∧ (∃ k, k ≤ 3 ∧ r = nI k) ∧ (IV g f1) ∧ (un [4, 5, 9, 22, 23] g f f1)) (pc_out g sz) (pc_A g sz)) 0 0 (pc_A g sz) := by
  refine pe_ofW (cc := prog_9_method_16_code) (maxL := 5) (ret := (some .int)) (lv := [(0, .ref X), (1, .ref x)]) (by decide) (Nat.le_of_ble_eq_true rfl) rfl ?_
  intro p e s m args below meth c ls hx hb hr hml hlocks hown hB hP hK hD hsz hS hl
  subst hsz
  have hu : un [4, 5, 9, 22, 23] g f f := un.rf
  refine lv_aload_n hx hb d_NRunner_operateLong_0 rfl (lv_at hl 0 rfl) ?_
  refine lv_dup hx hb d_NRunner_operateLong_1 rfl ?_
  refine pf_get (v := .int lo) (C := "BigRunner$Runner") (T := FT8) (N := 13) hx hb (hw8 hB _) (fun _ h9 => h9) hown hK hP (lo_in hL t_X (by decide)) eX rfl 11 (by decide) (wd_347 hB _) rfl d_NRunner_operateLong_2 ?_
  refine lv_iconst (v := nI 1) hx hb d_NRunner_operateLong_5 (by decide) ?_
  refine lv_iadd hx hb d_NRunner_operateLong_6 ?_
  refine pf_put (v := .int (lo + ((nI 1)))) (ty := .int) (fs' := [.ref pr, .ref (g.lk X 1), .int (nI ix), .ref (g.lk X 3), .ref (g.lk X 4), .ref (g.lk X 5), .ref (g.lk X 6), .ref (g.lk X 7), .int (nI os), .int (nI st), .int mo, .int (lo + ((nI 1))), .int (nI tr)]) (C := "BigRunner$Runner") (T := FT8) (N := 13) hx hb (hw8 hB _) (fun _ h9 => h9) TY8 ok8 nm8 hown hK hP hD hS (lo_in hL t_X (by decide)) eX rfl 11 (by decide) (wd_347 hB _) rfl (by decide +kernel) rfl rfl (Nat.le_of_ble_eq_true rfl) rfl d_NRunner_operateLong_7 (fun f1 H locs e2 k3 hP hD hS => ?_)
  have eN := (k3 x (tg_ne t_x t_X (by decide))).trans eN
  have hu := hu.st k3 t_X (by decide)
  have hk4 : ∀ b, b ≠ X → f1 b = f b := k3
  refine lv_aload_n hx hb d_NRunner_operateLong_10 rfl (lv_at hl 0 rfl) ?_
  refine pf_get (v := .ref pr) (C := "BigRunner$Runner") (T := FT8) (N := 13) hx hb (hw8 hB _) (fun _ h9 => h9) hown hK hP (lo_in hL t_X (by decide)) e2 rfl 0 (by decide) (wd_330 hB _) rfl d_NRunner_operateLong_11 ?_
  obtain ⟨sc_6, nc_7, e5, c8, c9⟩ := oc_7.of t_pr (hI.1 pr)
  replace e5 := (hk4 pr (tg_ne t_pr t_X (by decide))).trans e5
  refine pf_get (v := .ref (g.lk pr 2)) (C := "BigRunner$Program") (T := FT6) (N := 6) hx hb (hw6 hB _) (fun _ h9 => h9) hown hK hP (lo_in hL t_pr (by decide)) e5 rfl 2 (by decide) (wd_249 hB _) rfl d_NRunner_operateLong_14 ?_
  refine lv_aload_n hx hb d_NRunner_operateLong_17 rfl (lv_at hl 1 rfl) ?_
  refine pf_get (v := .int (nI le)) (C := "BigRunner$Node") (T := FT5) (N := 7) hx hb (hw5 hB _) (fun _ h9 => h9) hown hK hP (lo_in hL t_x (by decide)) eN rfl 1 (by decide) (wd_208 hB _) rfl d_NRunner_operateLong_18 ?_
  have e10 := oc_25.of (lo_k7_2 hL _ t_pr) (hI.1 (g.lk pr 2))
  replace e10 := (hk4 (g.lk pr 2) (tg_ne (lo_k7_2 hL _ t_pr) t_X (by decide))).trans e10
  refine pf_aald (i := le) hx hb hK hP (lo_in hL (lo_k7_2 hL _ t_pr) (by decide)) e10 (lo_t25 hL _ (lo_k7_2 hL _ t_pr)) (by omega) (by decide) d_NRunner_operateLong_21 ?_
  have t11 := lo_e25 hL _ (lo_k7_2 hL _ t_pr) le (by omega)
  have hI12 := iv_1 hI hL t_X (by decide) hk4 (oc_9.mk t_X (⟨pr, ix, os, st, mo, ((lo + ((nI 1)))), tr, e2, t_pr, (by omega), (by omega), (by omega), (by omega)⟩))
  obtain ⟨kd_14, le_15, ri_16, sm_17, mv_18, e13, c19, c20, c21, c22, c23, c24⟩ := oc_6.of t11 (hI12.1 (g.lk (g.lk pr 2) le))
  refine pcc_r (va_runV (C := "BigRunner$Node") (As := []) (rest := []) ⟨hx, hb, hml, hown, tb_nil⟩ (c_widened l g H.size f1 ((g.lk (g.lk pr 2) le)) hL t11 hI12) ⟨(callB_of 0 (tb_one (wd_761 hB _)) tb_good1 rfl rfl rfl (wd_77 hB _) (wd_758 hB _) (by decide +kernel) ⟨Nat.le_of_ble_eq_true rfl, Nat.le_of_ble_eq_true rfl⟩), (wd_759 hB _), (wd_760 hB _)⟩ ⟨pe_bl, pg_recv (ci := 5) hK hP (lo_in hL t11 (by decide)) e13 rfl, pe_pre hB hK hP hD⟩ rfl rfl hl.1 rfl (lv_room (Nat.le_of_ble_eq_true rfl)) d_NRunner_operateLong_22 ⟨Nat.le_of_ble_eq_true rfl, Nat.le_of_ble_eq_true rfl⟩) hS (fun r25 f26 H locs hq27 hP hD hS => ?_)
  obtain ⟨ra_28, hI1_29, hu1_30⟩ := hq27
  subst ra_28
  have hu := hu.tr hu1_30 (by decide)
  have eN := hu1_30.at t_x (by decide) eN
  have e2 := hu1_30.at t_X (by decide) e2
  have e5 := hu1_30.at t_pr (by decide) e5
  have e10 := hu1_30.at (lo_k7_2 hL _ t_pr) (by decide) e10
  have e13 := hu1_30.at t11 (by decide) e13
  refine lv_astore_n (lv' := [(2, .ref (g.lk (g.lk (g.lk pr 2) le) 6)), (0, .ref X), (1, .ref x)]) hx hb d_NRunner_operateLong_25 rfl hl (by decide) rfl (fun ls hl => ?_)
  refine lv_aload_n hx hb d_NRunner_operateLong_26 rfl (lv_at hl 1 rfl) ?_
  refine pf_get (v := .ref pr) (C := "BigRunner$Runner") (T := FT8) (N := 13) hx hb (hw8 hB _) (fun _ h9 => h9) hown hK hP (lo_in hL t_X (by decide)) e2 rfl 0 (by decide) (wd_330 hB _) rfl d_NRunner_operateLong_27 ?_
  refine pf_get (v := .ref (g.lk pr 2)) (C := "BigRunner$Program") (T := FT6) (N := 6) hx hb (hw6 hB _) (fun _ h9 => h9) hown hK hP (lo_in hL t_pr (by decide)) e5 rfl 2 (by decide) (wd_249 hB _) rfl d_NRunner_operateLong_30 ?_
  refine lv_aload_n hx hb d_NRunner_operateLong_33 rfl (lv_at hl 2 rfl) ?_
  refine pf_get (v := .int (nI ri)) (C := "BigRunner$Node") (T := FT5) (N := 7) hx hb (hw5 hB _) (fun _ h9 => h9) hown hK hP (lo_in hL t_x (by decide)) eN rfl 2 (by decide) (wd_212 hB _) rfl d_NRunner_operateLong_34 ?_
  refine pf_aald (i := ri) hx hb hK hP (lo_in hL (lo_k7_2 hL _ t_pr) (by decide)) e10 (lo_t25 hL _ (lo_k7_2 hL _ t_pr)) (by omega) (by decide) d_NRunner_operateLong_37 ?_
  have t31 := lo_e25 hL _ (lo_k7_2 hL _ t_pr) ri (by omega)
  obtain ⟨kd_33, le_34, ri_35, sm_36, mv_37, e32, c38, c39, c40, c41, c42, c43⟩ := oc_6.of t31 (hI1_29.1 (g.lk (g.lk pr 2) ri))
  refine pcc_r (va_runV (C := "BigRunner$Node") (As := []) (rest := []) ⟨hx, hb, hml, hown, tb_nil⟩ (c_widened l g H.size f26 ((g.lk (g.lk pr 2) ri)) hL t31 hI1_29) ⟨(callB_of 0 (tb_one (wd_761 hB _)) tb_good1 rfl rfl rfl (wd_77 hB _) (wd_758 hB _) (by decide +kernel) ⟨Nat.le_of_ble_eq_true rfl, Nat.le_of_ble_eq_true rfl⟩), (wd_759 hB _), (wd_760 hB _)⟩ ⟨pe_bl, pg_recv (ci := 5) hK hP (lo_in hL t31 (by decide)) e32 rfl, pe_pre hB hK hP hD⟩ rfl rfl hl.1 rfl (lv_room (Nat.le_of_ble_eq_true rfl)) d_NRunner_operateLong_38 ⟨Nat.le_of_ble_eq_true rfl, Nat.le_of_ble_eq_true rfl⟩) hS (fun r44 f45 H locs hq46 hP hD hS => ?_)
  obtain ⟨ra_47, hI1_48, hu1_49⟩ := hq46
  subst ra_47
  have hu := hu.tr hu1_49 (by decide)
  have eN := hu1_49.at t_x (by decide) eN
  have e2 := hu1_49.at t_X (by decide) e2
  have e5 := hu1_49.at t_pr (by decide) e5
  have e10 := hu1_49.at (lo_k7_2 hL _ t_pr) (by decide) e10
  have e13 := hu1_49.at t11 (by decide) e13
  have e32 := hu1_49.at t31 (by decide) e32
  refine lv_astore_n (lv' := [(3, .ref (g.lk (g.lk (g.lk pr 2) ri) 6)), (2, .ref (g.lk (g.lk (g.lk pr 2) le) 6)), (0, .ref X), (1, .ref x)]) hx hb d_NRunner_operateLong_41 rfl hl (by decide) rfl (fun ls hl => ?_)
  refine lv_iconst (v := nI 1) hx hb d_NRunner_operateLong_42 (by decide) ?_
  refine lv_istore (lv' := [(4, .int (nI 1)), (3, .ref (g.lk (g.lk (g.lk pr 2) ri) 6)), (2, .ref (g.lk (g.lk (g.lk pr 2) le) 6)), (0, .ref X), (1, .ref x)]) hx hb d_NRunner_operateLong_43 hl (by decide) rfl (fun ls hl => ?_)
  refine lv_aload_n hx hb d_NRunner_operateLong_45 rfl (lv_at hl 4 rfl) ?_
  refine pf_get (v := .int (nI kd)) (C := "BigRunner$Node") (T := FT5) (N := 7) hx hb (hw5 hB _) (fun _ h9 => h9) hown hK hP (lo_in hL t_x (by decide)) eN rfl 0 (by decide) (wd_204 hB _) rfl d_NRunner_operateLong_46 ?_
  by_cases b50 : kd = 2
  · skip
    refine lv_tableIn (off := 31) (tgt := 80) hx hb d_NRunner_operateLong_49 (by rw [nI_toInt (by omega)]; omega) (by rw [nI_toInt (by omega)]; omega) (by rw [nI_toInt (by omega), b50]; rfl) (by decide) ?_
    refine lv_aload_n hx hb d_NRunner_operateLong_80 rfl (lv_at hl 4 rfl) ?_
    refine pf_get (v := .ref (g.lk x 6)) (C := "BigRunner$Node") (T := FT5) (N := 7) hx hb (hw5 hB _) (fun _ h9 => h9) hown hK hP (lo_in hL t_x (by decide)) eN rfl 6 (by decide) (wd_224 hB _) rfl d_NRunner_operateLong_81 ?_
    refine lv_aload_n hx hb d_NRunner_operateLong_84 rfl (lv_at hl 2 rfl) ?_
    refine lv_aload_n hx hb d_NRunner_operateLong_85 rfl (lv_at hl 2 rfl) ?_
    obtain ⟨sg_52, n_53, e51, c54⟩ := oc_5.of (lo_k6_6 hL _ t11) (hI1_48.1 (g.lk (g.lk (g.lk pr 2) le) 6))
    refine pf_get (v := .int sg_52) (C := "BigRunner$LongNumber") (T := FT4) (N := 3) hx hb (hw4 hB _) (fun _ h9 => h9) hown hK hP (lo_in hL (lo_k6_6 hL _ t11) (by decide)) e51 rfl 0 (by decide) (wd_189 hB _) rfl d_NRunner_operateLong_86 ?_
    refine lv_ineg hx hb d_NRunner_operateLong_89 ?_
    obtain ⟨sg_56, n_57, e55, c58⟩ := oc_5.of (lo_k6_6 hL _ t_x) (hI1_48.1 (g.lk x 6))
    refine pcc_v (va_runV (C := "BigRunner$LongNumber") (As := [.ref (g.lk (g.lk (g.lk pr 2) le) 6), .int (-sg_52)]) (rest := []) ⟨hx, hb, hml, hown, tb_nil⟩ (c_copy l g H.size f45 ((g.lk x 6)) ((g.lk (g.lk (g.lk pr 2) le) 6)) ((-sg_52)) hL (lo_k6_6 hL _ t_x) (lo_k6_6 hL _ t11) hI1_48 (tn_ne ((lo_n6 hL _ t11).trans (lo_n25 hL _ (lo_k7_2 hL _ t_pr) _ (by omega))) (lo_n6 hL _ t_x) (by omega))) ⟨(callB_of 2 (tb_one (wd_746 hB _)) tb_good1 rfl rfl rfl (wd_78 hB _) (wd_743 hB _) (by decide +kernel) ⟨Nat.le_of_ble_eq_true rfl, Nat.le_of_ble_eq_true rfl⟩), (wd_744 hB _), (wd_745 hB _)⟩ ⟨pe_bl, pg_recv (ci := 4) hK hP (lo_in hL (lo_k6_6 hL _ t_x) (by decide)) e55 rfl, pe_pre hB hK hP hD⟩ rfl rfl hl.1 rfl (lv_room (Nat.le_of_ble_eq_true rfl)) d_NRunner_operateLong_90 ⟨Nat.le_of_ble_eq_true rfl, Nat.le_of_ble_eq_true rfl⟩) hS (fun f60 H locs hq61 hP hD hS => ?_)
    obtain ⟨hI1_62, hu1_63⟩ := hq61
    have hu := hu.tr hu1_63 (by decide)
    have eN := hu1_63.at t_x (by decide) eN
    have e2 := hu1_63.at t_X (by decide) e2
    have e5 := hu1_63.at t_pr (by decide) e5
    have e10 := hu1_63.at (lo_k7_2 hL _ t_pr) (by decide) e10
    have e13 := hu1_63.at t11 (by decide) e13
    have e32 := hu1_63.at t31 (by decide) e32
    refine lv_goto (tgt := 183) hx hb d_NRunner_operateLong_93 (by decide) ?_
    refine lv_iload hx hb d_NRunner_operateLong_183 (lv_at hl 0 rfl) ?_
    refine lv_if_eq (tgt := 192) hx hb d_NRunner_operateLong_185 (by decide) (fun b64 => ?_) (fun b64 => ?_)
    · skip
      replace b64 := (nI_eq (a := 1) (b := 0) (by omega) (by omega)).mp b64
      exfalso; omega
    · skip
      replace b64 := mt (nI_eq (a := 1) (b := 0) (by omega) (by omega)).mpr b64
      refine lv_iconst (v := nI 0) hx hb d_NRunner_operateLong_188 (by decide) ?_
      refine lv_goto (tgt := 193) hx hb d_NRunner_operateLong_189 (by decide) ?_
      exact pe_iret hx hb hr hlocks hK hP hD hS d_NRunner_operateLong_193 ⟨⟨(lo + ((nI 1))), e2⟩, ⟨0, by omega, rfl⟩, hI1_62, hu⟩
  by_cases b65 : kd = 3
  · skip
    refine lv_tableIn (off := 47) (tgt := 96) hx hb d_NRunner_operateLong_49 (by rw [nI_toInt (by omega)]; omega) (by rw [nI_toInt (by omega)]; omega) (by rw [nI_toInt (by omega), b65]; rfl) (by decide) ?_
    refine lv_aload_n hx hb d_NRunner_operateLong_96 rfl (lv_at hl 4 rfl) ?_
    refine pf_get (v := .ref (g.lk x 6)) (C := "BigRunner$Node") (T := FT5) (N := 7) hx hb (hw5 hB _) (fun _ h9 => h9) hown hK hP (lo_in hL t_x (by decide)) eN rfl 6 (by decide) (wd_224 hB _) rfl d_NRunner_operateLong_97 ?_
    refine lv_aload_n hx hb d_NRunner_operateLong_100 rfl (lv_at hl 2 rfl) ?_
    refine lv_aload_n hx hb d_NRunner_operateLong_101 rfl (lv_at hl 1 rfl) ?_
    refine lv_aload_n hx hb d_NRunner_operateLong_102 rfl (lv_at hl 1 rfl) ?_
    obtain ⟨sg_67, n_68, e66, c69⟩ := oc_5.of (lo_k6_6 hL _ t31) (hI1_48.1 (g.lk (g.lk (g.lk pr 2) ri) 6))
    refine pf_get (v := .int sg_67) (C := "BigRunner$LongNumber") (T := FT4) (N := 3) hx hb (hw4 hB _) (fun _ h9 => h9) hown hK hP (lo_in hL (lo_k6_6 hL _ t31) (by decide)) e66 rfl 0 (by decide) (wd_189 hB _) rfl d_NRunner_operateLong_103 ?_
    obtain ⟨sg_71, n_72, e70, c73⟩ := oc_5.of (lo_k6_6 hL _ t_x) (hI1_48.1 (g.lk x 6))
    refine pcc_i (va_runV (C := "BigRunner$LongNumber") (As := [.ref (g.lk (g.lk (g.lk pr 2) le) 6), .ref (g.lk (g.lk (g.lk pr 2) ri) 6), .int sg_67]) (rest := []) ⟨hx, hb, hml, hown, tb_nil⟩ (c_setSum l g H.size f45 ((g.lk x 6)) ((g.lk (g.lk (g.lk pr 2) le) 6)) ((g.lk (g.lk (g.lk pr 2) ri) 6)) sg_67 hL (lo_k6_6 hL _ t_x) (lo_k6_6 hL _ t11) (lo_k6_6 hL _ t31) hI1_48 (tn_ne ((lo_n6 hL _ t11).trans (lo_n25 hL _ (lo_k7_2 hL _ t_pr) _ (by omega))) (lo_n6 hL _ t_x) (by omega)) (tn_ne ((lo_n6 hL _ t31).trans (lo_n25 hL _ (lo_k7_2 hL _ t_pr) _ (by omega))) (lo_n6 hL _ t_x) (by omega))) ⟨(callB_of 3 (tb_one (wd_766 hB _)) tb_good1 rfl rfl rfl (wd_78 hB _) (wd_763 hB _) (by decide +kernel) ⟨Nat.le_of_ble_eq_true rfl, Nat.le_of_ble_eq_true rfl⟩), (wd_764 hB _), (wd_765 hB _)⟩ ⟨pe_bl, pg_recv (ci := 4) hK hP (lo_in hL (lo_k6_6 hL _ t_x) (by decide)) e70 rfl, pe_pre hB hK hP hD⟩ rfl rfl hl.1 rfl (lv_room (Nat.le_of_ble_eq_true rfl)) d_NRunner_operateLong_106 ⟨Nat.le_of_ble_eq_true rfl, Nat.le_of_ble_eq_true rfl⟩) hS (fun r74 f75 H locs hq76 hP hD hS => ?_)
    obtain ⟨bo_77, hI1_78, hu1_79⟩ := hq76
    have hu := hu.tr hu1_79 (by decide)
    have eN := hu1_79.at t_x (by decide) eN
    have e2 := hu1_79.at t_X (by decide) e2
    have e5 := hu1_79.at t_pr (by decide) e5
    have e10 := hu1_79.at (lo_k7_2 hL _ t_pr) (by decide) e10
    have e13 := hu1_79.at t11 (by decide) e13
    have e32 := hu1_79.at t31 (by decide) e32
    refine lv_istore (lv' := [(4, .int r74), (3, .ref (g.lk (g.lk (g.lk pr 2) ri) 6)), (2, .ref (g.lk (g.lk (g.lk pr 2) le) 6)), (0, .ref X), (1, .ref x)]) hx hb d_NRunner_operateLong_109 hl (by decide) rfl (fun ls hl => ?_)
    refine lv_goto (tgt := 183) hx hb d_NRunner_operateLong_111 (by decide) ?_
    refine lv_iload hx hb d_NRunner_operateLong_183 (lv_at hl 0 rfl) ?_
    refine lv_if_eq (tgt := 192) hx hb d_NRunner_operateLong_185 (by decide) (fun b80 => ?_) (fun b80 => ?_)
    · skip
      have hr81 : r74 = nI 0 := b80
      refine lv_iconst (v := nI 2) hx hb d_NRunner_operateLong_192 (by decide) ?_
      exact pe_iret hx hb hr hlocks hK hP hD hS d_NRunner_operateLong_193 ⟨⟨(lo + ((nI 1))), e2⟩, ⟨2, by omega, rfl⟩, hI1_78, hu⟩
    · skip
      have hr82 : r74 = nI 1 := (bl_1 bo_77 b80)
      refine lv_iconst (v := nI 0) hx hb d_NRunner_operateLong_188 (by decide) ?_
      refine lv_goto (tgt := 193) hx hb d_NRunner_operateLong_189 (by decide) ?_
      exact pe_iret hx hb hr hlocks hK hP hD hS d_NRunner_operateLong_193 ⟨⟨(lo + ((nI 1))), e2⟩, ⟨0, by omega, rfl⟩, hI1_78, hu⟩
  by_cases b83 : kd = 4
  · skip
    refine lv_tableIn (off := 65) (tgt := 114) hx hb d_NRunner_operateLong_49 (by rw [nI_toInt (by omega)]; omega) (by rw [nI_toInt (by omega)]; omega) (by rw [nI_toInt (by omega), b83]; rfl) (by decide) ?_
    refine lv_aload_n hx hb d_NRunner_operateLong_114 rfl (lv_at hl 4 rfl) ?_
    refine pf_get (v := .ref (g.lk x 6)) (C := "BigRunner$Node") (T := FT5) (N := 7) hx hb (hw5 hB _) (fun _ h9 => h9) hown hK hP (lo_in hL t_x (by decide)) eN rfl 6 (by decide) (wd_224 hB _) rfl d_NRunner_operateLong_115 ?_
    refine lv_aload_n hx hb d_NRunner_operateLong_118 rfl (lv_at hl 2 rfl) ?_
    refine lv_aload_n hx hb d_NRunner_operateLong_119 rfl (lv_at hl 1 rfl) ?_
    refine lv_aload_n hx hb d_NRunner_operateLong_120 rfl (lv_at hl 1 rfl) ?_
    obtain ⟨sg_85, n_86, e84, c87⟩ := oc_5.of (lo_k6_6 hL _ t31) (hI1_48.1 (g.lk (g.lk (g.lk pr 2) ri) 6))
    refine pf_get (v := .int sg_85) (C := "BigRunner$LongNumber") (T := FT4) (N := 3) hx hb (hw4 hB _) (fun _ h9 => h9) hown hK hP (lo_in hL (lo_k6_6 hL _ t31) (by decide)) e84 rfl 0 (by decide) (wd_189 hB _) rfl d_NRunner_operateLong_121 ?_
    refine lv_ineg hx hb d_NRunner_operateLong_124 ?_
    obtain ⟨sg_89, n_90, e88, c91⟩ := oc_5.of (lo_k6_6 hL _ t_x) (hI1_48.1 (g.lk x 6))
    refine pcc_i (va_runV (C := "BigRunner$LongNumber") (As := [.ref (g.lk (g.lk (g.lk pr 2) le) 6), .ref (g.lk (g.lk (g.lk pr 2) ri) 6), .int (-sg_85)]) (rest := []) ⟨hx, hb, hml, hown, tb_nil⟩ (c_setSum l g H.size f45 ((g.lk x 6)) ((g.lk (g.lk (g.lk pr 2) le) 6)) ((g.lk (g.lk (g.lk pr 2) ri) 6)) ((-sg_85)) hL (lo_k6_6 hL _ t_x) (lo_k6_6 hL _ t11) (lo_k6_6 hL _ t31) hI1_48 (tn_ne ((lo_n6 hL _ t11).trans (lo_n25 hL _ (lo_k7_2 hL _ t_pr) _ (by omega))) (lo_n6 hL _ t_x) (by omega)) (tn_ne ((lo_n6 hL _ t31).trans (lo_n25 hL _ (lo_k7_2 hL _ t_pr) _ (by omega))) (lo_n6 hL _ t_x) (by omega))) ⟨(callB_of 3 (tb_one (wd_766 hB _)) tb_good1 rfl rfl rfl (wd_78 hB _) (wd_763 hB _) (by decide +kernel) ⟨Nat.le_of_ble_eq_true rfl, Nat.le_of_ble_eq_true rfl⟩), (wd_764 hB _), (wd_765 hB _)⟩ ⟨pe_bl, pg_recv (ci := 4) hK hP (lo_in hL (lo_k6_6 hL _ t_x) (by decide)) e88 rfl, pe_pre hB hK hP hD⟩ rfl rfl hl.1 rfl (lv_room (Nat.le_of_ble_eq_true rfl)) d_NRunner_operateLong_125 ⟨Nat.le_of_ble_eq_true rfl, Nat.le_of_ble_eq_true rfl⟩) hS (fun r92 f93 H locs hq94 hP hD hS => ?_)
    obtain ⟨bo_95, hI1_96, hu1_97⟩ := hq94
    have hu := hu.tr hu1_97 (by decide)
    have eN := hu1_97.at t_x (by decide) eN
    have e2 := hu1_97.at t_X (by decide) e2
    have e5 := hu1_97.at t_pr (by decide) e5
    have e10 := hu1_97.at (lo_k7_2 hL _ t_pr) (by decide) e10
    have e13 := hu1_97.at t11 (by decide) e13
    have e32 := hu1_97.at t31 (by decide) e32
    refine lv_istore (lv' := [(4, .int r92), (3, .ref (g.lk (g.lk (g.lk pr 2) ri) 6)), (2, .ref (g.lk (g.lk (g.lk pr 2) le) 6)), (0, .ref X), (1, .ref x)]) hx hb d_NRunner_operateLong_128 hl (by decide) rfl (fun ls hl => ?_)
    refine lv_goto (tgt := 183) hx hb d_NRunner_operateLong_130 (by decide) ?_
    refine lv_iload hx hb d_NRunner_operateLong_183 (lv_at hl 0 rfl) ?_
    refine lv_if_eq (tgt := 192) hx hb d_NRunner_operateLong_185 (by decide) (fun b98 => ?_) (fun b98 => ?_)
    · skip
      have hr99 : r92 = nI 0 := b98
      refine lv_iconst (v := nI 2) hx hb d_NRunner_operateLong_192 (by decide) ?_
      exact pe_iret hx hb hr hlocks hK hP hD hS d_NRunner_operateLong_193 ⟨⟨(lo + ((nI 1))), e2⟩, ⟨2, by omega, rfl⟩, hI1_96, hu⟩
    · skip
      have hr100 : r92 = nI 1 := (bl_1 bo_95 b98)
      refine lv_iconst (v := nI 0) hx hb d_NRunner_operateLong_188 (by decide) ?_
      refine lv_goto (tgt := 193) hx hb d_NRunner_operateLong_189 (by decide) ?_
      exact pe_iret hx hb hr hlocks hK hP hD hS d_NRunner_operateLong_193 ⟨⟨(lo + ((nI 1))), e2⟩, ⟨0, by omega, rfl⟩, hI1_96, hu⟩
  by_cases b101 : kd = 5
  · skip
    refine lv_tableIn (off := 84) (tgt := 133) hx hb d_NRunner_operateLong_49 (by rw [nI_toInt (by omega)]; omega) (by rw [nI_toInt (by omega)]; omega) (by rw [nI_toInt (by omega), b101]; rfl) (by decide) ?_
    refine lv_aload_n hx hb d_NRunner_operateLong_133 rfl (lv_at hl 4 rfl) ?_
    refine pf_get (v := .ref (g.lk x 6)) (C := "BigRunner$Node") (T := FT5) (N := 7) hx hb (hw5 hB _) (fun _ h9 => h9) hown hK hP (lo_in hL t_x (by decide)) eN rfl 6 (by decide) (wd_224 hB _) rfl d_NRunner_operateLong_134 ?_
    refine lv_aload_n hx hb d_NRunner_operateLong_137 rfl (lv_at hl 2 rfl) ?_
    refine lv_aload_n hx hb d_NRunner_operateLong_138 rfl (lv_at hl 1 rfl) ?_
    obtain ⟨sg_103, n_104, e102, c105⟩ := oc_5.of (lo_k6_6 hL _ t_x) (hI1_48.1 (g.lk x 6))
    refine pcc_i (va_runV (C := "BigRunner$LongNumber") (As := [.ref (g.lk (g.lk (g.lk pr 2) le) 6), .ref (g.lk (g.lk (g.lk pr 2) ri) 6)]) (rest := []) ⟨hx, hb, hml, hown, tb_nil⟩ (c_setProduct l g H.size f45 ((g.lk x 6)) ((g.lk (g.lk (g.lk pr 2) le) 6)) ((g.lk (g.lk (g.lk pr 2) ri) 6)) hL (lo_k6_6 hL _ t_x) (lo_k6_6 hL _ t11) (lo_k6_6 hL _ t31) hI1_48 (tn_ne ((lo_n6 hL _ t11).trans (lo_n25 hL _ (lo_k7_2 hL _ t_pr) _ (by omega))) (lo_n6 hL _ t_x) (by omega)) (tn_ne ((lo_n6 hL _ t31).trans (lo_n25 hL _ (lo_k7_2 hL _ t_pr) _ (by omega))) (lo_n6 hL _ t_x) (by omega))) ⟨(callB_of 2 (tb_one (wd_799 hB _)) tb_good1 rfl rfl rfl (wd_78 hB _) (wd_796 hB _) (by decide +kernel) ⟨Nat.le_of_ble_eq_true rfl, Nat.le_of_ble_eq_true rfl⟩), (wd_797 hB _), (wd_798 hB _)⟩ ⟨pe_bl, pg_recv (ci := 4) hK hP (lo_in hL (lo_k6_6 hL _ t_x) (by decide)) e102 rfl, pe_pre hB hK hP hD⟩ rfl rfl hl.1 rfl (lv_room (Nat.le_of_ble_eq_true rfl)) d_NRunner_operateLong_139 ⟨Nat.le_of_ble_eq_true rfl, Nat.le_of_ble_eq_true rfl⟩) hS (fun r106 f107 H locs hq108 hP hD hS => ?_)
    obtain ⟨bo_109, hI1_110, hu1_111⟩ := hq108
    have hu := hu.tr hu1_111 (by decide)
    have eN := hu1_111.at t_x (by decide) eN
    have e2 := hu1_111.at t_X (by decide) e2
    have e5 := hu1_111.at t_pr (by decide) e5
    have e10 := hu1_111.at (lo_k7_2 hL _ t_pr) (by decide) e10
    have e13 := hu1_111.at t11 (by decide) e13
    have e32 := hu1_111.at t31 (by decide) e32
    refine lv_istore (lv' := [(4, .int r106), (3, .ref (g.lk (g.lk (g.lk pr 2) ri) 6)), (2, .ref (g.lk (g.lk (g.lk pr 2) le) 6)), (0, .ref X), (1, .ref x)]) hx hb d_NRunner_operateLong_142 hl (by decide) rfl (fun ls hl => ?_)
    refine lv_goto (tgt := 183) hx hb d_NRunner_operateLong_144 (by decide) ?_
    refine lv_iload hx hb d_NRunner_operateLong_183 (lv_at hl 0 rfl) ?_
    refine lv_if_eq (tgt := 192) hx hb d_NRunner_operateLong_185 (by decide) (fun b112 => ?_) (fun b112 => ?_)
    · skip
      have hr113 : r106 = nI 0 := b112
      refine lv_iconst (v := nI 2) hx hb d_NRunner_operateLong_192 (by decide) ?_
      exact pe_iret hx hb hr hlocks hK hP hD hS d_NRunner_operateLong_193 ⟨⟨(lo + ((nI 1))), e2⟩, ⟨2, by omega, rfl⟩, hI1_110, hu⟩
    · skip
      have hr114 : r106 = nI 1 := (bl_1 bo_109 b112)
      refine lv_iconst (v := nI 0) hx hb d_NRunner_operateLong_188 (by decide) ?_
      refine lv_goto (tgt := 193) hx hb d_NRunner_operateLong_189 (by decide) ?_
      exact pe_iret hx hb hr hlocks hK hP hD hS d_NRunner_operateLong_193 ⟨⟨(lo + ((nI 1))), e2⟩, ⟨0, by omega, rfl⟩, hI1_110, hu⟩
  refine lv_tableOut (tgt := 147) hx hb d_NRunner_operateLong_49 (by rw [nI_toInt (by omega)]; omega) (by decide) ?_
  refine lv_aload_n hx hb d_NRunner_operateLong_147 rfl (lv_at hl 1 rfl) ?_
  obtain ⟨sg_116, n_117, e115, c118⟩ := oc_5.of (lo_k6_6 hL _ t31) (hI1_48.1 (g.lk (g.lk (g.lk pr 2) ri) 6))
  refine pf_get (v := .int sg_116) (C := "BigRunner$LongNumber") (T := FT4) (N := 3) hx hb (hw4 hB _) (fun _ h9 => h9) hown hK hP (lo_in hL (lo_k6_6 hL _ t31) (by decide)) e115 rfl 0 (by decide) (wd_189 hB _) rfl d_NRunner_operateLong_148 ?_
  refine lv_if_ne (tgt := 156) hx hb d_NRunner_operateLong_151 (by decide) (fun b119 => ?_) (fun b119 => ?_)
  · skip
    refine lv_aload_n hx hb d_NRunner_operateLong_156 rfl (lv_at hl 3 rfl) ?_
    refine pf_get (v := .ref (g.lk X 6)) (C := "BigRunner$Runner") (T := FT8) (N := 13) hx hb (hw8 hB _) (fun _ h9 => h9) hown hK hP (lo_in hL t_X (by decide)) e2 rfl 6 (by decide) (wd_338 hB _) rfl d_NRunner_operateLong_157 ?_
    refine lv_aload_n hx hb d_NRunner_operateLong_160 rfl (lv_at hl 2 rfl) ?_
    refine lv_aload_n hx hb d_NRunner_operateLong_161 rfl (lv_at hl 1 rfl) ?_
    refine lv_aload_n hx hb d_NRunner_operateLong_162 rfl (lv_at hl 4 rfl) ?_
    refine pf_get (v := .ref (g.lk x 6)) (C := "BigRunner$Node") (T := FT5) (N := 7) hx hb (hw5 hB _) (fun _ h9 => h9) hown hK hP (lo_in hL t_x (by decide)) eN rfl 6 (by decide) (wd_224 hB _) rfl d_NRunner_operateLong_163 ?_
    refine lv_aload_n hx hb d_NRunner_operateLong_166 rfl (lv_at hl 4 rfl) ?_
    refine pf_get (v := .int (nI kd)) (C := "BigRunner$Node") (T := FT5) (N := 7) hx hb (hw5 hB _) (fun _ h9 => h9) hown hK hP (lo_in hL t_x (by decide)) eN rfl 0 (by decide) (wd_204 hB _) rfl d_NRunner_operateLong_167 ?_
    refine lv_bipush (v := nI 7) hx hb d_NRunner_operateLong_170 (by decide) ?_
    refine lv_icmp_ne (tgt := 179) hx hb d_NRunner_operateLong_172 (by decide) (fun b120 => ?_) (fun b120 => ?_)
    · skip
      replace b120 := mt (nI_eq (a := kd) (b := 7) (by omega) (by omega)).mpr b120
      refine lv_iconst (v := nI 0) hx hb d_NRunner_operateLong_179 (by decide) ?_
      obtain ⟨n_122, e121, c123⟩ := oc_4.of (lo_k9_6 hL _ t_X) (hI1_48.1 (g.lk X 6))
      refine pcc_v (va_runV (C := "BigRunner$LongDivision") (As := [.ref (g.lk (g.lk (g.lk pr 2) le) 6), .ref (g.lk (g.lk (g.lk pr 2) ri) 6), .ref (g.lk x 6), .int (nI 0)]) (rest := []) ⟨hx, hb, hml, hown, tb_nil⟩ (c_divide l g H.size f45 ((g.lk X 6)) ((g.lk (g.lk (g.lk pr 2) le) 6)) ((g.lk (g.lk (g.lk pr 2) ri) 6)) ((g.lk x 6)) ((nI 0)) hL (lo_k9_6 hL _ t_X) (lo_k6_6 hL _ t11) (lo_k6_6 hL _ t31) (lo_k6_6 hL _ t_x) hI1_48 (tn_ne ((lo_n6 hL _ t11).trans (lo_n25 hL _ (lo_k7_2 hL _ t_pr) _ (by omega))) (lo_n6 hL _ t_x) (by omega)) (tn_ne ((lo_n6 hL _ t31).trans (lo_n25 hL _ (lo_k7_2 hL _ t_pr) _ (by omega))) (lo_n6 hL _ t_x) (by omega))) ⟨(callB_of 4 (tb_one (wd_806 hB _)) tb_good1 rfl rfl rfl (wd_81 hB _) (wd_803 hB _) (by decide +kernel) ⟨Nat.le_of_ble_eq_true rfl, Nat.le_of_ble_eq_true rfl⟩), (wd_804 hB _), (wd_805 hB _)⟩ ⟨pe_bl, pg_recv (ci := 3) hK hP (lo_in hL (lo_k9_6 hL _ t_X) (by decide)) e121 rfl, pe_pre hB hK hP hD⟩ rfl rfl hl.1 rfl (lv_room (Nat.le_of_ble_eq_true rfl)) d_NRunner_operateLong_180 ⟨Nat.le_of_ble_eq_true rfl, Nat.le_of_ble_eq_true rfl⟩) hS (fun f125 H locs hq126 hP hD hS => ?_)
      obtain ⟨hI1_127, hu1_128⟩ := hq126
      have hu := hu.tr hu1_128 (by decide)
      have eN := hu1_128.at t_x (by decide) eN
      have e2 := hu1_128.at t_X (by decide) e2
      have e5 := hu1_128.at t_pr (by decide) e5
      have e10 := hu1_128.at (lo_k7_2 hL _ t_pr) (by decide) e10
      have e13 := hu1_128.at t11 (by decide) e13
      have e32 := hu1_128.at t31 (by decide) e32
      refine lv_iload hx hb d_NRunner_operateLong_183 (lv_at hl 0 rfl) ?_
      refine lv_if_eq (tgt := 192) hx hb d_NRunner_operateLong_185 (by decide) (fun b129 => ?_) (fun b129 => ?_)
      · skip
        replace b129 := (nI_eq (a := 1) (b := 0) (by omega) (by omega)).mp b129
        exfalso; omega
      · skip
        replace b129 := mt (nI_eq (a := 1) (b := 0) (by omega) (by omega)).mpr b129
        refine lv_iconst (v := nI 0) hx hb d_NRunner_operateLong_188 (by decide) ?_
        refine lv_goto (tgt := 193) hx hb d_NRunner_operateLong_189 (by decide) ?_
        exact pe_iret hx hb hr hlocks hK hP hD hS d_NRunner_operateLong_193 ⟨⟨(lo + ((nI 1))), e2⟩, ⟨0, by omega, rfl⟩, hI1_127, hu⟩
    · skip
      replace b120 := (nI_eq (a := kd) (b := 7) (by omega) (by omega)).mp b120
      refine lv_iconst (v := nI 1) hx hb d_NRunner_operateLong_175 (by decide) ?_
      refine lv_goto (tgt := 180) hx hb d_NRunner_operateLong_176 (by decide) ?_
      obtain ⟨n_131, e130, c132⟩ := oc_4.of (lo_k9_6 hL _ t_X) (hI1_48.1 (g.lk X 6))
      refine pcc_v (va_runV (C := "BigRunner$LongDivision") (As := [.ref (g.lk (g.lk (g.lk pr 2) le) 6), .ref (g.lk (g.lk (g.lk pr 2) ri) 6), .ref (g.lk x 6), .int (nI 1)]) (rest := []) ⟨hx, hb, hml, hown, tb_nil⟩ (c_divide l g H.size f45 ((g.lk X 6)) ((g.lk (g.lk (g.lk pr 2) le) 6)) ((g.lk (g.lk (g.lk pr 2) ri) 6)) ((g.lk x 6)) ((nI 1)) hL (lo_k9_6 hL _ t_X) (lo_k6_6 hL _ t11) (lo_k6_6 hL _ t31) (lo_k6_6 hL _ t_x) hI1_48 (tn_ne ((lo_n6 hL _ t11).trans (lo_n25 hL _ (lo_k7_2 hL _ t_pr) _ (by omega))) (lo_n6 hL _ t_x) (by omega)) (tn_ne ((lo_n6 hL _ t31).trans (lo_n25 hL _ (lo_k7_2 hL _ t_pr) _ (by omega))) (lo_n6 hL _ t_x) (by omega))) ⟨(callB_of 4 (tb_one (wd_806 hB _)) tb_good1 rfl rfl rfl (wd_81 hB _) (wd_803 hB _) (by decide +kernel) ⟨Nat.le_of_ble_eq_true rfl, Nat.le_of_ble_eq_true rfl⟩), (wd_804 hB _), (wd_805 hB _)⟩ ⟨pe_bl, pg_recv (ci := 3) hK hP (lo_in hL (lo_k9_6 hL _ t_X) (by decide)) e130 rfl, pe_pre hB hK hP hD⟩ rfl rfl hl.1 rfl (lv_room (Nat.le_of_ble_eq_true rfl)) d_NRunner_operateLong_180 ⟨Nat.le_of_ble_eq_true rfl, Nat.le_of_ble_eq_true rfl⟩) hS (fun f134 H locs hq135 hP hD hS => ?_)
      obtain ⟨hI1_136, hu1_137⟩ := hq135
      have hu := hu.tr hu1_137 (by decide)
      have eN := hu1_137.at t_x (by decide) eN
      have e2 := hu1_137.at t_X (by decide) e2
      have e5 := hu1_137.at t_pr (by decide) e5
      have e10 := hu1_137.at (lo_k7_2 hL _ t_pr) (by decide) e10
      have e13 := hu1_137.at t11 (by decide) e13
      have e32 := hu1_137.at t31 (by decide) e32
      refine lv_iload hx hb d_NRunner_operateLong_183 (lv_at hl 0 rfl) ?_
      refine lv_if_eq (tgt := 192) hx hb d_NRunner_operateLong_185 (by decide) (fun b138 => ?_) (fun b138 => ?_)
      · skip
        replace b138 := (nI_eq (a := 1) (b := 0) (by omega) (by omega)).mp b138
        exfalso; omega
      · skip
        replace b138 := mt (nI_eq (a := 1) (b := 0) (by omega) (by omega)).mpr b138
        refine lv_iconst (v := nI 0) hx hb d_NRunner_operateLong_188 (by decide) ?_
        refine lv_goto (tgt := 193) hx hb d_NRunner_operateLong_189 (by decide) ?_
        exact pe_iret hx hb hr hlocks hK hP hD hS d_NRunner_operateLong_193 ⟨⟨(lo + ((nI 1))), e2⟩, ⟨0, by omega, rfl⟩, hI1_136, hu⟩
  · skip
    refine lv_iconst (v := nI 1) hx hb d_NRunner_operateLong_154 (by decide) ?_
    exact pe_iret hx hb hr hlocks hK hP hD hS d_NRunner_operateLong_155 ⟨⟨(lo + ((nI 1))), e2⟩, ⟨1, by omega, rfl⟩, hI1_48, hu⟩
set_option maxHeartbeats 4000000 in
set_option maxRecDepth 100000 in
theorem c_workOut (l : Launch) (g : Lay) (sz : Nat) (f : Nat → va_E) (X : Nat) (pr : Nat) (ix : Nat) (os : Nat) (st : Nat) (mo : Int32) (lo : Int32) (tr : Nat) (S : Nat) (kd : Nat) (nm : Nat) (fn : Nat) (la : Nat) (ta : Nat) (hL : LO g) (t_X : g.tg X = 9) (t_pr : g.tg pr = 7) (t_S : g.tg S = 10) (hI : IV g f) (eX : f X = .inr (8, [.ref pr, .ref (g.lk X 1), .int (nI ix), .ref (g.lk X 3), .ref (g.lk X 4), .ref (g.lk X 5), .ref (g.lk X 6), .ref (g.lk X 7), .int (nI os), .int (nI st), .int mo, .int lo, .int (nI tr)])) (hix : ix ≤ 36) (hos : os ≤ st) (hst : st ≤ 3000) (htr : tr ≤ 3) (eS : f S = .inr (9, [.int (nI kd), .int (nI nm), .int (nI fn), .int (nI la), .int (nI ta)])) (hfn : fn ≤ 72) (hla : la < 72) : Met l ⟨"BigRunner$Runner", "workOut", "(LBigRunner$Statement;)I"⟩ [Cond.code ⟨"BigRunner$Runner", "workOut", "(LBigRunner$Statement;)I"⟩ prog_9_method_13_code 5 (some .int)] ({ frames := 5, cells := 0, slots := 0, locals := 136 }) (va_Pc [.ref X, .ref S] (pc_in g sz f)) (va_Qi (fun r f1 => (∃ (mo1 : Int32) (lo1 : Int32), f1 X = .inr (8, [.ref pr, .ref (g.lk X 1), .int (nI ix), .ref (g.lk X 3), .ref (g.lk X 4), .ref (g.lk X 5), .ref (g.lk X 6), .ref (g.lk X 7), .int (nI os), .int (nI st), .int mo1, .int lo1, .int (nI tr)])) ∧ (∃ k, k ≤ 3 ∧ r = nI k) ∧ (IV g f1) ∧ (un [4, 5, 6, 9, 22, 23] g f f1)) (pc_out g sz) (pc_A g sz)) 0 0 (pc_A g sz) := by
  refine pe_ofW (cc := prog_9_method_13_code) (maxL := 5) (ret := (some .int)) (lv := [(0, .ref X), (1, .ref S)]) (by decide) (Nat.le_of_ble_eq_true rfl) rfl ?_
  intro p e s m args below meth c ls hx hb hr hml hlocks hown hB hP hK hD hsz hS hl
  subst hsz
  have hu : un [4, 5, 6, 9, 22, 23] g f f := un.rf
  refine lv_aload_n hx hb d_NRunner_workOut_0 rfl (lv_at hl 1 rfl) ?_
  refine pf_get (v := .int (nI fn)) (C := "BigRunner$Statement") (T := FT9) (N := 5) hx hb (hw9 hB _) (fun _ h9 => h9) hown hK hP (lo_in hL t_S (by decide)) eS rfl 2 (by decide) (wd_154 hB _) rfl d_NRunner_workOut_1 ?_
  refine lv_istore_n (lv' := [(2, .int (nI fn)), (0, .ref X), (1, .ref S)]) hx hb d_NRunner_workOut_4 rfl hl (by decide) rfl (fun ls hl => ?_)
  have lp1 : ∀ (k3 : Nat) (i : Nat) (mo2 : Int32) (lo2 : Int32) (f2 : Nat → va_E) (H : Heap) (locs : List Loc) (ls : Array Slot), (73 < i + k3) → (i ≤ 73) → f2 X = .inr (8, [.ref pr, .ref (g.lk X 1), .int (nI ix), .ref (g.lk X 3), .ref (g.lk X 4), .ref (g.lk X 5), .ref (g.lk X 6), .ref (g.lk X 7), .int (nI os), .int (nI st), .int mo2, .int lo2, .int (nI tr)]) → IV g f2 → un [4, 5, 6, 9, 22, 23] g f f2 → lv_has ls 5 [(2, .int (nI i)), (0, .ref X), (1, .ref S)] → va_P g.D vcl (va_pl g.LP f2) H → va_D (pc_A g s.heap.size) (va_pl g.LP f2) → va_S (pc_A g s.heap.size) s.heap H locs → W p l e ({ frames := 5, cells := 0, slots := 0, locals := 136 }) s m args below meth c H locs 0 0 (MQ below (va_Qi (fun r f1 => (∃ (mo1 : Int32) (lo1 : Int32), f1 X = .inr (8, [.ref pr, .ref (g.lk X 1), .int (nI ix), .ref (g.lk X 3), .ref (g.lk X 4), .ref (g.lk X 5), .ref (g.lk X 6), .ref (g.lk X 7), .int (nI os), .int (nI st), .int mo1, .int lo1, .int (nI tr)])) ∧ (∃ k, k ≤ 3 ∧ r = nI k) ∧ (IV g f1) ∧ (un [4, 5, 6, 9, 22, 23] g f f1)) (pc_out g s.heap.size) (pc_A g s.heap.size)) args s 0 0 (pc_A g s.heap.size)) (F0 m 5 ls []) := by
    intro k3
    induction k3 with
    | zero => intros; exfalso; omega
    | succ k3 ih4 =>
      intro i mo2 lo2 f2 H locs ls hfu5 hi e6 hI7 hv8 hl hP hD hS
      have eS := hv8.at t_S (by decide) eS
      have hu := hu.tr hv8 (by decide)
      refine lv_iload_n hx hb d_NRunner_workOut_5 rfl (lv_at hl 0 rfl) ?_
      refine lv_aload_n hx hb d_NRunner_workOut_6 rfl (lv_at hl 2 rfl) ?_
      refine pf_get (v := .int (nI la)) (C := "BigRunner$Statement") (T := FT9) (N := 5) hx hb (hw9 hB _) (fun _ h9 => h9) hown hK hP (lo_in hL t_S (by decide)) eS rfl 3 (by decide) (wd_157 hB _) rfl d_NRunner_workOut_7 ?_
      refine lv_icmp_gt (tgt := 85) hx hb d_NRunner_workOut_10 (by decide) (fun b9 => ?_) (fun b9 => ?_)
      · skip
        replace b9 := (nI_ltI (a := la) (b := i) (by omega) (by omega)).mp b9
        refine lv_iconst (v := nI 0) hx hb d_NRunner_workOut_85 (by decide) ?_
        exact pe_iret hx hb hr hlocks hK hP hD hS d_NRunner_workOut_86 ⟨⟨mo2, lo2, e6⟩, ⟨0, by omega, rfl⟩, hI7, hu⟩
      · skip
        replace b9 := mt (nI_ltI (a := la) (b := i) (by omega) (by omega)).mpr b9
        refine lv_aload_n hx hb d_NRunner_workOut_13 rfl (lv_at hl 1 rfl) ?_
        refine pf_get (v := .ref pr) (C := "BigRunner$Runner") (T := FT8) (N := 13) hx hb (hw8 hB _) (fun _ h9 => h9) hown hK hP (lo_in hL t_X (by decide)) e6 rfl 0 (by decide) (wd_330 hB _) rfl d_NRunner_workOut_14 ?_
        obtain ⟨sc_11, nc_12, e10, c13, c14⟩ := oc_7.of t_pr (hI7.1 pr)
        refine pf_get (v := .ref (g.lk pr 2)) (C := "BigRunner$Program") (T := FT6) (N := 6) hx hb (hw6 hB _) (fun _ h9 => h9) hown hK hP (lo_in hL t_pr (by decide)) e10 rfl 2 (by decide) (wd_249 hB _) rfl d_NRunner_workOut_17 ?_
        refine lv_iload_n hx hb d_NRunner_workOut_20 rfl (lv_at hl 0 rfl) ?_
        have e15 := oc_25.of (lo_k7_2 hL _ t_pr) (hI7.1 (g.lk pr 2))
        refine pf_aald (i := i) hx hb hK hP (lo_in hL (lo_k7_2 hL _ t_pr) (by decide)) e15 (lo_t25 hL _ (lo_k7_2 hL _ t_pr)) (by omega) (by decide) d_NRunner_workOut_21 ?_
        have t16 := lo_e25 hL _ (lo_k7_2 hL _ t_pr) i (by omega)
        refine lv_astore_n (lv' := [(3, .ref (g.lk (g.lk pr 2) i)), (2, .int (nI i)), (0, .ref X), (1, .ref S)]) hx hb d_NRunner_workOut_22 rfl hl (by decide) rfl (fun ls hl => ?_)
        refine lv_iconst (v := nI 0) hx hb d_NRunner_workOut_23 (by decide) ?_
        refine lv_istore (lv' := [(4, .int (nI 0)), (3, .ref (g.lk (g.lk pr 2) i)), (2, .int (nI i)), (0, .ref X), (1, .ref S)]) hx hb d_NRunner_workOut_24 hl (by decide) rfl (fun ls hl => ?_)
        refine lv_aload_n hx hb d_NRunner_workOut_26 rfl (lv_at hl 1 rfl) ?_
        obtain ⟨kd_18, le_19, ri_20, sm_21, mv_22, e17, c23, c24, c25, c26, c27, c28⟩ := oc_6.of t16 (hI7.1 (g.lk (g.lk pr 2) i))
        refine pf_get (v := .int (nI kd_18)) (C := "BigRunner$Node") (T := FT5) (N := 7) hx hb (hw5 hB _) (fun _ h9 => h9) hown hK hP (lo_in hL t16 (by decide)) e17 rfl 0 (by decide) (wd_204 hB _) rfl d_NRunner_workOut_27 ?_
        refine lv_iconst (v := nI 1) hx hb d_NRunner_workOut_30 (by decide) ?_
        refine lv_icmp_ne (tgt := 42) hx hb d_NRunner_workOut_31 (by decide) (fun b29 => ?_) (fun b29 => ?_)
        · skip
          replace b29 := mt (nI_eq (a := kd_18) (b := 1) (by omega) (by omega)).mpr b29
          refine lv_aload_n hx hb d_NRunner_workOut_42 rfl (lv_at hl 1 rfl) ?_
          refine pf_get (v := .int (nI kd_18)) (C := "BigRunner$Node") (T := FT5) (N := 7) hx hb (hw5 hB _) (fun _ h9 => h9) hown hK hP (lo_in hL t16 (by decide)) e17 rfl 0 (by decide) (wd_204 hB _) rfl d_NRunner_workOut_43 ?_
          refine lv_if_eq (tgt := 71) hx hb d_NRunner_workOut_46 (by decide) (fun b30 => ?_) (fun b30 => ?_)
          · skip
            replace b30 := (nI_eq (a := kd_18) (b := 0) (by omega) (by omega)).mp b30
            refine lv_iload hx hb d_NRunner_workOut_71 (lv_at hl 0 rfl) ?_
            refine lv_if_eq (tgt := 79) hx hb d_NRunner_workOut_73 (by decide) (fun b31 => ?_) (fun b31 => ?_)
            · skip
              replace b31 := (nI_eq (a := 0) (b := 0) (by omega) (by omega)).mp b31
              refine lv_iinc (k := 2) (v := nI (i + 1)) (lv' := [(2, .int (nI (i + 1))), (4, .int (nI 0)), (3, .ref (g.lk (g.lk pr 2) i)), (0, .ref X), (1, .ref S)]) hx hb d_NRunner_workOut_79 hl rfl (by rw [nI_succ]; rfl) (by decide) rfl (fun ls hl => ?_)
              refine lv_goto (tgt := 5) hx hb d_NRunner_workOut_82 (by decide) ?_
              have hl : lv_has ls 5 [(2, .int (nI (i + 1))), (0, .ref X), (1, .ref S)] := lv_sub hl [0, 3, 4] rfl
              exact ih4 (i + 1) mo2 lo2 f2 H locs ls (by omega) (by omega) e6 hI7 hv8 hl hP hD hS
            · skip
              replace b31 := mt (nI_eq (a := 0) (b := 0) (by omega) (by omega)).mpr b31
              exfalso; omega
          · skip
            replace b30 := mt (nI_eq (a := kd_18) (b := 0) (by omega) (by omega)).mpr b30
            refine lv_aload_n hx hb d_NRunner_workOut_49 rfl (lv_at hl 1 rfl) ?_
            refine pf_get (v := .int sm_21) (C := "BigRunner$Node") (T := FT5) (N := 7) hx hb (hw5 hB _) (fun _ h9 => h9) hown hK hP (lo_in hL t16 (by decide)) e17 rfl 4 (by decide) (wd_218 hB _) rfl d_NRunner_workOut_50 ?_
            refine lv_if_eq (tgt := 64) hx hb d_NRunner_workOut_53 (by decide) (fun b32 => ?_) (fun b32 => ?_)
            · skip
              have hr33 : sm_21 = nI 0 := b32
              refine lv_aload_n hx hb d_NRunner_workOut_64 rfl (lv_at hl 3 rfl) ?_
              refine lv_aload_n hx hb d_NRunner_workOut_65 rfl (lv_at hl 1 rfl) ?_
              refine pcc_i (va_runV (C := "BigRunner$Runner") (As := [.ref (g.lk (g.lk pr 2) i)]) (rest := []) ⟨hx, hb, hml, hown, tb_nil⟩ (c_operateLong l g H.size f2 X pr ix os st mo2 lo2 tr ((g.lk (g.lk pr 2) i)) kd_18 le_19 ri_20 sm_21 mv_22 hL t_X t_pr t16 hI7 e6 (by omega) (by omega) (by omega) (by omega) e17 (by omega) (by omega) (by omega) (by omega) (by omega) (by omega) (by omega)) ⟨(callB_of 1 (tb_one (wd_757 hB _)) tb_good1 rfl rfl rfl (wd_79 hB _) (wd_754 hB _) (by decide +kernel) ⟨Nat.le_of_ble_eq_true rfl, Nat.le_of_ble_eq_true rfl⟩), (wd_756 hB _), (wd_29 hB _)⟩ ⟨pe_bl, pg_recv (ci := 8) hK hP (lo_in hL t_X (by decide)) e6 rfl, pe_pre hB hK hP hD⟩ rfl rfl hl.1 rfl (lv_room (Nat.le_of_ble_eq_true rfl)) d_NRunner_workOut_66 ⟨Nat.le_of_ble_eq_true rfl, Nat.le_of_ble_eq_true rfl⟩) hS (fun r34 f35 H locs hq36 hP hD hS => ?_)
              obtain ⟨x1_37, q3_38, hI1_39, hu1_40⟩ := hq36
              obtain ⟨kr41, hkr41_0, rfl⟩ := q3_38
              have hu := hu.tr hu1_40 (by decide)
              have hv8 := hv8.tr hu1_40 (by decide)
              have eS := hu1_40.at t_S (by decide) eS
              have e10 := hu1_40.at t_pr (by decide) e10
              have e15 := hu1_40.at (lo_k7_2 hL _ t_pr) (by decide) e15
              have e17 := hu1_40.at t16 (by decide) e17
              obtain ⟨lo1_42, e43⟩ := x1_37
              refine lv_istore (lv' := [(4, .int (nI kr41)), (3, .ref (g.lk (g.lk pr 2) i)), (2, .int (nI i)), (0, .ref X), (1, .ref S)]) hx hb d_NRunner_workOut_69 hl (by decide) rfl (fun ls hl => ?_)
              refine lv_iload hx hb d_NRunner_workOut_71 (lv_at hl 0 rfl) ?_
              refine lv_if_eq (tgt := 79) hx hb d_NRunner_workOut_73 (by decide) (fun b44 => ?_) (fun b44 => ?_)
              · skip
                replace b44 := (nI_eq (a := kr41) (b := 0) (by omega) (by omega)).mp b44
                refine lv_iinc (k := 2) (v := nI (i + 1)) (lv' := [(2, .int (nI (i + 1))), (4, .int (nI kr41)), (3, .ref (g.lk (g.lk pr 2) i)), (0, .ref X), (1, .ref S)]) hx hb d_NRunner_workOut_79 hl rfl (by rw [nI_succ]; rfl) (by decide) rfl (fun ls hl => ?_)
                refine lv_goto (tgt := 5) hx hb d_NRunner_workOut_82 (by decide) ?_
                have hl : lv_has ls 5 [(2, .int (nI (i + 1))), (0, .ref X), (1, .ref S)] := lv_sub hl [0, 3, 4] rfl
                exact ih4 (i + 1) mo2 lo1_42 f35 H locs ls (by omega) (by omega) e43 hI1_39 hv8 hl hP hD hS
              · skip
                replace b44 := mt (nI_eq (a := kr41) (b := 0) (by omega) (by omega)).mpr b44
                refine lv_iload hx hb d_NRunner_workOut_76 (lv_at hl 0 rfl) ?_
                exact pe_iret hx hb hr hlocks hK hP hD hS d_NRunner_workOut_78 ⟨⟨mo2, lo1_42, e43⟩, ⟨kr41, by omega, rfl⟩, hI1_39, hu⟩
            · skip
              have hr45 : sm_21 = nI 1 := (bl_1 c27 b32)
              refine lv_aload_n hx hb d_NRunner_workOut_56 rfl (lv_at hl 3 rfl) ?_
              refine lv_aload_n hx hb d_NRunner_workOut_57 rfl (lv_at hl 1 rfl) ?_
              refine pcc_i (va_runV (C := "BigRunner$Runner") (As := [.ref (g.lk (g.lk pr 2) i)]) (rest := []) ⟨hx, hb, hml, hown, tb_nil⟩ (c_operate l g H.size f2 X pr ix os st mo2 lo2 tr ((g.lk (g.lk pr 2) i)) kd_18 le_19 ri_20 sm_21 mv_22 hL t_X t_pr t16 hI7 e6 (by omega) (by omega) (by omega) (by omega) e17 (by omega) (by omega) (by omega) (by omega) (by omega) (by omega) (by omega)) ⟨(callB_of 1 (tb_one (wd_753 hB _)) tb_good1 rfl rfl rfl (wd_79 hB _) (wd_750 hB _) (by decide +kernel) ⟨Nat.le_of_ble_eq_true rfl, Nat.le_of_ble_eq_true rfl⟩), (wd_752 hB _), (wd_28 hB _)⟩ ⟨pe_bl, pg_recv (ci := 8) hK hP (lo_in hL t_X (by decide)) e6 rfl, pe_pre hB hK hP hD⟩ rfl rfl hl.1 rfl (lv_room (Nat.le_of_ble_eq_true rfl)) d_NRunner_workOut_58 ⟨Nat.le_of_ble_eq_true rfl, Nat.le_of_ble_eq_true rfl⟩) hS (fun r46 f47 H locs hq48 hP hD hS => ?_)
              obtain ⟨x1_49, q3_50, hI1_51, hu1_52⟩ := hq48
              obtain ⟨kr53, hkr53_0, rfl⟩ := q3_50
              have hu := hu.tr hu1_52 (by decide)
              have hv8 := hv8.tr hu1_52 (by decide)
              have eS := hu1_52.at t_S (by decide) eS
              have e10 := hu1_52.at t_pr (by decide) e10
              have e15 := hu1_52.at (lo_k7_2 hL _ t_pr) (by decide) e15
              obtain ⟨mo1_54, e55⟩ := x1_49
              refine lv_goto (tgt := 69) hx hb d_NRunner_workOut_61 (by decide) ?_
              refine lv_istore (lv' := [(4, .int (nI kr53)), (3, .ref (g.lk (g.lk pr 2) i)), (2, .int (nI i)), (0, .ref X), (1, .ref S)]) hx hb d_NRunner_workOut_69 hl (by decide) rfl (fun ls hl => ?_)
              refine lv_iload hx hb d_NRunner_workOut_71 (lv_at hl 0 rfl) ?_
              refine lv_if_eq (tgt := 79) hx hb d_NRunner_workOut_73 (by decide) (fun b56 => ?_) (fun b56 => ?_)
              · skip
                replace b56 := (nI_eq (a := kr53) (b := 0) (by omega) (by omega)).mp b56
                refine lv_iinc (k := 2) (v := nI (i + 1)) (lv' := [(2, .int (nI (i + 1))), (4, .int (nI kr53)), (3, .ref (g.lk (g.lk pr 2) i)), (0, .ref X), (1, .ref S)]) hx hb d_NRunner_workOut_79 hl rfl (by rw [nI_succ]; rfl) (by decide) rfl (fun ls hl => ?_)
                refine lv_goto (tgt := 5) hx hb d_NRunner_workOut_82 (by decide) ?_
                have hl : lv_has ls 5 [(2, .int (nI (i + 1))), (0, .ref X), (1, .ref S)] := lv_sub hl [0, 3, 4] rfl
                exact ih4 (i + 1) mo1_54 lo2 f47 H locs ls (by omega) (by omega) e55 hI1_51 hv8 hl hP hD hS
              · skip
                replace b56 := mt (nI_eq (a := kr53) (b := 0) (by omega) (by omega)).mpr b56
                refine lv_iload hx hb d_NRunner_workOut_76 (lv_at hl 0 rfl) ?_
                exact pe_iret hx hb hr hlocks hK hP hD hS d_NRunner_workOut_78 ⟨⟨mo1_54, lo2, e55⟩, ⟨kr53, by omega, rfl⟩, hI1_51, hu⟩
        · skip
          replace b29 := (nI_eq (a := kd_18) (b := 1) (by omega) (by omega)).mp b29
          refine lv_aload_n hx hb d_NRunner_workOut_34 rfl (lv_at hl 3 rfl) ?_
          refine lv_aload_n hx hb d_NRunner_workOut_35 rfl (lv_at hl 1 rfl) ?_
          refine pcc_v (va_runV (C := "BigRunner$Runner") (As := [.ref (g.lk (g.lk pr 2) i)]) (rest := []) ⟨hx, hb, hml, hown, tb_nil⟩ (c_fetch l g H.size f2 X pr ix os st mo2 lo2 tr ((g.lk (g.lk pr 2) i)) kd_18 le_19 ri_20 sm_21 mv_22 hL t_X t_pr t16 hI7 e6 (by omega) (by omega) (by omega) (by omega) e17 (by omega) (by omega) (by omega) (by omega) (by omega) (by omega) (by omega) (Nat.lt_of_le_of_lt (Nat.le_of_eq (lo_n25 hL _ (lo_k7_2 hL _ t_pr) _ (by omega))) (by omega))) ⟨(callB_of 1 (tb_one (wd_742 hB _)) tb_good1 rfl rfl rfl (wd_79 hB _) (wd_739 hB _) (by decide +kernel) ⟨Nat.le_of_ble_eq_true rfl, Nat.le_of_ble_eq_true rfl⟩), (wd_741 hB _), (wd_27 hB _)⟩ ⟨pe_bl, pg_recv (ci := 8) hK hP (lo_in hL t_X (by decide)) e6 rfl, pe_pre hB hK hP hD⟩ rfl rfl hl.1 rfl (lv_room (Nat.le_of_ble_eq_true rfl)) d_NRunner_workOut_36 ⟨Nat.le_of_ble_eq_true rfl, Nat.le_of_ble_eq_true rfl⟩) hS (fun f58 H locs hq59 hP hD hS => ?_)
          obtain ⟨hI1_60, hu1_61⟩ := hq59
          have hu := hu.tr hu1_61 (by decide)
          have hv8 := hv8.tr hu1_61 (by decide)
          have eS := hu1_61.at t_S (by decide) eS
          have e6 := hu1_61.at t_X (by decide) e6
          have e10 := hu1_61.at t_pr (by decide) e10
          have e15 := hu1_61.at (lo_k7_2 hL _ t_pr) (by decide) e15
          refine lv_goto (tgt := 71) hx hb d_NRunner_workOut_39 (by decide) ?_
          refine lv_iload hx hb d_NRunner_workOut_71 (lv_at hl 0 rfl) ?_
          refine lv_if_eq (tgt := 79) hx hb d_NRunner_workOut_73 (by decide) (fun b62 => ?_) (fun b62 => ?_)
          · skip
            replace b62 := (nI_eq (a := 0) (b := 0) (by omega) (by omega)).mp b62
            refine lv_iinc (k := 2) (v := nI (i + 1)) (lv' := [(2, .int (nI (i + 1))), (4, .int (nI 0)), (3, .ref (g.lk (g.lk pr 2) i)), (0, .ref X), (1, .ref S)]) hx hb d_NRunner_workOut_79 hl rfl (by rw [nI_succ]; rfl) (by decide) rfl (fun ls hl => ?_)
            refine lv_goto (tgt := 5) hx hb d_NRunner_workOut_82 (by decide) ?_
            have hl : lv_has ls 5 [(2, .int (nI (i + 1))), (0, .ref X), (1, .ref S)] := lv_sub hl [0, 3, 4] rfl
            exact ih4 (i + 1) mo2 lo2 f58 H locs ls (by omega) (by omega) e6 hI1_60 hv8 hl hP hD hS
          · skip
            replace b62 := mt (nI_eq (a := 0) (b := 0) (by omega) (by omega)).mpr b62
            exfalso; omega
  exact lp1 74 fn mo lo f s.heap [] ls (by omega) (by omega) eX hI un.rf hl hP hD hS
