/-! ===== BigRunner's own methods ===== -/
theorem ix_of {x : Int32} (h1 : ¬ x < 0) (h2 : x < nI 10) : ∃ k, k < 10 ∧ x = nI k := by
  obtain ⟨j, hj, rfl⟩ := nI_of h1
  exact ⟨j, (nI_ltI hj (by decide)).mp h2, rfl⟩
set_option maxHeartbeats 4000000 in
set_option maxRecDepth 100000 in
theorem c_type (l : Launch) (g : Lay) (sz : Nat) (f : Nat → va_E) (B : Nat) (n : Nat) (ld : Int32) (hT : Nat → Int32) (c9 : Int32) (hL : LO g) (t_B : g.tg B = 1) (hI : IV g f) (eB : f B = .inr (0, [.ref (g.lk B 0), .int (nI n), .ref (g.lk B 2), .ref (g.lk B 3), .int ld])) (hn : n ≤ 72) (hld : ld = nI 0 ∨ ld = nI 1) (eT : f (g.lk B 0) = .inl (g.ac (g.lk B 0), 72, .inl hT)) (cT : ∀ i, i < 72 → vp_nar .char (hT i) = hT i) : Met l ⟨"BigRunner", "type", "(C)Z"⟩ [Cond.code ⟨"BigRunner", "type", "(C)Z"⟩ prog_1_method_2_code 2 (some .boolean)] ({ frames := 0, cells := 0, slots := 0, locals := 0 }) (va_Pc [.ref B, .int c9] (pc_in g sz f)) (va_Qi (fun r f1 => ((r = nI 0 ∧ ¬ (nI 33 ≤ c9 ∧ c9 ≤ nI 126 ∧ n < 72) ∧ f1 B = .inr (0, [.ref (g.lk B 0), .int (nI n), .ref (g.lk B 2), .ref (g.lk B 3), .int ld]) ∧ f1 (g.lk B 0) = .inl (g.ac (g.lk B 0), 72, .inl hT)) ∨ (r = nI 1 ∧ (nI 33 ≤ c9 ∧ c9 ≤ nI 126 ∧ n < 72) ∧ f1 B = .inr (0, [.ref (g.lk B 0), .int (nI (n + 1)), .ref (g.lk B 2), .ref (g.lk B 3), .int ld]) ∧ f1 (g.lk B 0) = .inl (g.ac (g.lk B 0), 72, .inl (upd hT n (vp_nar .char c9))))) ∧ (IV g f1) ∧ (un [1, 20] g f f1)) (pc_out g sz) (pc_A g sz)) 0 0 (pc_A g sz) := by
  refine pe_ofW (cc := prog_1_method_2_code) (maxL := 2) (ret := (some .boolean)) (lv := [(0, .ref B), (1, .int c9)]) (by decide) (Nat.le_of_ble_eq_true rfl) rfl ?_
  intro p e s m args below meth c ls hx hb hr hml hlocks hown hB hP hK hD hsz hS hl
  subst hsz
  have hu : un [1, 20] g f f := un.rf
  refine lv_iload_n hx hb d_B_type_0 rfl (lv_at hl 1 rfl) ?_
  refine lv_bipush (v := nI 33) hx hb d_B_type_1 (by decide) ?_
  refine lv_icmp_lt (tgt := 21) hx hb d_B_type_3 (by decide) (fun b1 => ?_) (fun b1 => ?_)
  · skip
    refine lv_iconst (v := nI 0) hx hb d_B_type_21 (by decide) ?_
    exact pe_zret hx hb hr hlocks hK hP hD hS d_B_type_22 rfl ⟨(Or.inl ⟨rfl, (fun z => by first | exact absurd z.1 (Int32.not_le.mpr (by assumption)) | exact absurd z.2.1 (Int32.not_le.mpr (by assumption)) | omega), eB, eT⟩), hI, hu⟩
  · skip
    refine lv_iload_n hx hb d_B_type_6 rfl (lv_at hl 1 rfl) ?_
    refine lv_bipush (v := nI 126) hx hb d_B_type_7 (by decide) ?_
    refine lv_icmp_gt (tgt := 21) hx hb d_B_type_9 (by decide) (fun b2 => ?_) (fun b2 => ?_)
    · skip
      refine lv_iconst (v := nI 0) hx hb d_B_type_21 (by decide) ?_
      exact pe_zret hx hb hr hlocks hK hP hD hS d_B_type_22 rfl ⟨(Or.inl ⟨rfl, (fun z => by first | exact absurd z.1 (Int32.not_le.mpr (by assumption)) | exact absurd z.2.1 (Int32.not_le.mpr (by assumption)) | omega), eB, eT⟩), hI, hu⟩
    · skip
      refine lv_aload_n hx hb d_B_type_12 rfl (lv_at hl 0 rfl) ?_
      refine pf_get (v := .int (nI n)) (C := "BigRunner") (T := FT0) (N := 5) hx hb (hw0 hB _) (fun _ h9 => h9) hown hK hP (lo_in hL t_B (by decide)) eB rfl 1 (by decide) (wd_379 hB _) rfl d_B_type_13 ?_
      refine lv_bipush (v := nI 72) hx hb d_B_type_16 (by decide) ?_
      refine lv_icmp_lt (tgt := 23) hx hb d_B_type_18 (by decide) (fun b3 => ?_) (fun b3 => ?_)
      · skip
        replace b3 := (nI_ltI (a := n) (b := 72) (by omega) (by omega)).mp b3
        refine lv_aload_n hx hb d_B_type_23 rfl (lv_at hl 0 rfl) ?_
        refine pf_get (v := .ref (g.lk B 0)) (C := "BigRunner") (T := FT0) (N := 5) hx hb (hw0 hB _) (fun _ h9 => h9) hown hK hP (lo_in hL t_B (by decide)) eB rfl 0 (by decide) (wd_378 hB _) rfl d_B_type_24 ?_
        refine lv_aload_n hx hb d_B_type_27 rfl (lv_at hl 0 rfl) ?_
        refine pf_get (v := .int (nI n)) (C := "BigRunner") (T := FT0) (N := 5) hx hb (hw0 hB _) (fun _ h9 => h9) hown hK hP (lo_in hL t_B (by decide)) eB rfl 1 (by decide) (wd_379 hB _) rfl d_B_type_28 ?_
        refine lv_iload_n hx hb d_B_type_31 rfl (lv_at hl 1 rfl) ?_
        refine pf_cast (i := n) hx hb hK hP hD hS (lo_in hL (lo_k1_0 hL _ t_B) (by decide)) eT (lo_t20 hL _ (lo_k1_0 hL _ t_B)) (by omega) (by decide) d_B_type_32 (fun f4 H locs e5 k6 hP hD hS => ?_)
        have eB := (k6 B (tg_ne t_B (lo_k1_0 hL _ t_B) (by decide))).trans eB
        have hu := hu.st k6 (lo_k1_0 hL _ t_B) (by decide)
        have hk7 : ∀ b, b ≠ (g.lk B 0) → f4 b = f b := k6
        have c8 := nc_upd (i := n) (x := c9) cT
        refine lv_aload_n hx hb d_B_type_33 rfl (lv_at hl 0 rfl) ?_
        refine lv_dup hx hb d_B_type_34 rfl ?_
        refine pf_get (v := .int (nI n)) (C := "BigRunner") (T := FT0) (N := 5) hx hb (hw0 hB _) (fun _ h9 => h9) hown hK hP (lo_in hL t_B (by decide)) eB rfl 1 (by decide) (wd_379 hB _) rfl d_B_type_35 ?_
        refine lv_iconst (v := nI 1) hx hb d_B_type_38 (by decide) ?_
        refine pf_iaddN (x := n) (y := 1) hx hb d_B_type_39 ?_
        have hI9 := iv_1 hI hL (lo_k1_0 hL _ t_B) (by decide) hk7 (oc_20.mk (lo_k1_0 hL _ t_B) (⟨_, e5, c8⟩))
        refine pf_put (v := .int (nI (n + 1))) (ty := .int) (fs' := [.ref (g.lk B 0), .int (nI (n + 1)), .ref (g.lk B 2), .ref (g.lk B 3), .int ld]) (C := "BigRunner") (T := FT0) (N := 5) hx hb (hw0 hB _) (fun _ h9 => h9) TY0 ok0 nm0 hown hK hP hD hS (lo_in hL t_B (by decide)) eB rfl 1 (by decide) (wd_379 hB _) rfl (by decide +kernel) rfl rfl (Nat.le_of_ble_eq_true rfl) rfl d_B_type_40 (fun f10 H locs e11 k12 hP hD hS => ?_)
        have e5 := (k12 (g.lk B 0) (tg_ne (lo_k1_0 hL _ t_B) t_B (by decide))).trans e5
        have hu := hu.st k12 t_B (by decide)
        have hk13 : ∀ b, b ≠ B → f10 b = f4 b := k12
        refine lv_iconst (v := nI 1) hx hb d_B_type_43 (by decide) ?_
        have hI14 := iv_1 hI9 hL t_B (by decide) hk13 (oc_1.mk t_B (⟨(n + 1), ld, e11, (by omega), hld⟩))
        exact pe_zret hx hb hr hlocks hK hP hD hS d_B_type_44 rfl ⟨(Or.inr ⟨rfl, ⟨Int32.not_lt.mp (by assumption), Int32.not_lt.mp (by assumption), by omega⟩, e11, e5⟩), hI14, hu⟩
      · skip
        replace b3 := mt (nI_ltI (a := n) (b := 72) (by omega) (by omega)).mpr b3
        refine lv_iconst (v := nI 0) hx hb d_B_type_21 (by decide) ?_
        exact pe_zret hx hb hr hlocks hK hP hD hS d_B_type_22 rfl ⟨(Or.inl ⟨rfl, (fun z => by first | exact absurd z.1 (Int32.not_le.mpr (by assumption)) | exact absurd z.2.1 (Int32.not_le.mpr (by assumption)) | omega), eB, eT⟩), hI, hu⟩
set_option maxHeartbeats 4000000 in
set_option maxRecDepth 100000 in
theorem c_wipe (l : Launch) (g : Lay) (sz : Nat) (f : Nat → va_E) (B : Nat) (n : Nat) (ld : Int32) (hL : LO g) (t_B : g.tg B = 1) (hI : IV g f) (eB : f B = .inr (0, [.ref (g.lk B 0), .int (nI n), .ref (g.lk B 2), .ref (g.lk B 3), .int ld])) (hn : n ≤ 72) (hld : ld = nI 0 ∨ ld = nI 1) : Met l ⟨"BigRunner", "wipe", "()V"⟩ [Cond.code ⟨"BigRunner", "wipe", "()V"⟩ prog_1_method_3_code 1 none] ({ frames := 0, cells := 0, slots := 0, locals := 0 }) (va_Pc [.ref B] (pc_in g sz f)) (va_Qv (fun f1 => (f1 B = .inr (0, [.ref (g.lk B 0), .int (nI 0), .ref (g.lk B 2), .ref (g.lk B 3), .int ld])) ∧ (IV g f1) ∧ (un [1] g f f1)) (pc_out g sz) (pc_A g sz)) 0 0 (pc_A g sz) := by
  refine pe_ofW (cc := prog_1_method_3_code) (maxL := 1) (ret := none) (lv := [(0, .ref B)]) (by decide) (Nat.le_of_ble_eq_true rfl) rfl ?_
  intro p e s m args below meth c ls hx hb hr hml hlocks hown hB hP hK hD hsz hS hl
  subst hsz
  have hu : un [1] g f f := un.rf
  refine lv_aload_n hx hb d_B_wipe_0 rfl (lv_at hl 0 rfl) ?_
  refine lv_iconst (v := nI 0) hx hb d_B_wipe_1 (by decide) ?_
  refine pf_put (v := .int (nI 0)) (ty := .int) (fs' := [.ref (g.lk B 0), .int (nI 0), .ref (g.lk B 2), .ref (g.lk B 3), .int ld]) (C := "BigRunner") (T := FT0) (N := 5) hx hb (hw0 hB _) (fun _ h9 => h9) TY0 ok0 nm0 hown hK hP hD hS (lo_in hL t_B (by decide)) eB rfl 1 (by decide) (wd_379 hB _) rfl (by decide +kernel) rfl rfl (Nat.le_of_ble_eq_true rfl) rfl d_B_wipe_2 (fun f1 H locs e2 k3 hP hD hS => ?_)
  have hu := hu.st k3 t_B (by decide)
  have hk4 : ∀ b, b ≠ B → f1 b = f b := k3
  have hI5 := iv_1 hI hL t_B (by decide) hk4 (oc_1.mk t_B (⟨0, ld, e2, (by omega), hld⟩))
  exact pe_vret hx hb hr hlocks hK hP hD hS d_B_wipe_5 ⟨e2, hI5, hu⟩
set_option maxHeartbeats 4000000 in
set_option maxRecDepth 100000 in
theorem c_state (l : Launch) (g : Lay) (sz : Nat) (f : Nat → va_E) (B : Nat) (hL : LO g) (t_B : g.tg B = 1) (hI : OC g f) : Met l ⟨"BigRunner", "state", "()I"⟩ [Cond.code ⟨"BigRunner", "state", "()I"⟩ prog_1_method_13_code 1 (some .int)] ({ frames := 2, cells := 0, slots := 0, locals := 40 }) (va_Pc [.ref B] (pc_in g sz f)) (va_Qi (fun r f1 => (f = f1)) (pc_out g sz) (pc_A g sz)) 0 0 (pc_A g sz) := by
  refine pe_ofW (cc := prog_1_method_13_code) (maxL := 1) (ret := (some .int)) (lv := [(0, .ref B)]) (by decide) (Nat.le_of_ble_eq_true rfl) rfl ?_
  intro p e s m args below meth c ls hx hb hr hml hlocks hown hB hP hK hD hsz hS hl
  subst hsz
  refine lv_aload_n hx hb d_B_state_0 rfl (lv_at hl 0 rfl) ?_
  obtain ⟨n_2, ld_3, e1, c4, c5⟩ := oc_1.of t_B (hI B)
  refine pf_get (v := .int ld_3) (C := "BigRunner") (T := FT0) (N := 5) hx hb (hw0 hB _) (fun _ h9 => h9) hown hK hP (lo_in hL t_B (by decide)) e1 rfl 4 (by decide) (wd_382 hB _) rfl d_B_state_1 ?_
  refine lv_if_ne (tgt := 9) hx hb d_B_state_4 (by decide) (fun b6 => ?_) (fun b6 => ?_)
  · skip
    have hr7 : ld_3 = nI 1 := (bl_1 c5 b6)
    refine lv_aload_n hx hb d_B_state_9 rfl (lv_at hl 0 rfl) ?_
    refine pf_get (v := .ref (g.lk B 3)) (C := "BigRunner") (T := FT0) (N := 5) hx hb (hw0 hB _) (fun _ h9 => h9) hown hK hP (lo_in hL t_B (by decide)) e1 rfl 3 (by decide) (wd_381 hB _) rfl d_B_state_10 ?_
    obtain ⟨pr_9, ix_10, os_11, st_12, mo_13, lo_14, tr_15, e8, c16, c17, c18, c19, c20⟩ := oc_9.of (lo_k1_3 hL _ t_B) (hI (g.lk B 3))
    refine pf_get (v := .int (nI tr_15)) (C := "BigRunner$Runner") (T := FT8) (N := 13) hx hb (hw8 hB _) (fun _ h9 => h9) hown hK hP (lo_in hL (lo_k1_3 hL _ t_B) (by decide)) e8 rfl 12 (by decide) (wd_350 hB _) rfl d_B_state_13 ?_
    refine lv_if_eq (tgt := 21) hx hb d_B_state_16 (by decide) (fun b21 => ?_) (fun b21 => ?_)
    · skip
      replace b21 := (nI_eq (a := tr_15) (b := 0) (by omega) (by omega)).mp b21
      refine lv_aload_n hx hb d_B_state_21 rfl (lv_at hl 0 rfl) ?_
      refine pf_get (v := .ref (g.lk B 3)) (C := "BigRunner") (T := FT0) (N := 5) hx hb (hw0 hB _) (fun _ h9 => h9) hown hK hP (lo_in hL t_B (by decide)) e1 rfl 3 (by decide) (wd_381 hB _) rfl d_B_state_22 ?_
      obtain ⟨sc_23, nc_24, e22, c25, c26⟩ := oc_7.of c16 (hI pr_9)
      refine pcc_i (va_runV (C := "BigRunner$Runner") (As := []) (rest := []) ⟨hx, hb, hml, hown, tb_nil⟩ (c_ended l g s.heap.size f ((g.lk B 3)) pr_9 ix_10 os_11 st_12 mo_13 lo_14 tr_15 sc_23 nc_24 hL (lo_k1_3 hL _ t_B) c16 hI e8 (by omega) (by omega) (by omega) (by omega) e22 (by omega) (by omega)) ⟨(callB_of 0 (tb_one (wd_423 hB _)) tb_good1 rfl rfl rfl (wd_79 hB _) (wd_420 hB _) (by decide +kernel) ⟨Nat.le_of_ble_eq_true rfl, Nat.le_of_ble_eq_true rfl⟩), (wd_421 hB _), (wd_422 hB _)⟩ ⟨pe_bl, pg_recv (ci := 8) hK hP (lo_in hL (lo_k1_3 hL _ t_B) (by decide)) e8 rfl, pe_pre hB hK hP hD⟩ rfl rfl hl.1 rfl (lv_room (Nat.le_of_ble_eq_true rfl)) d_B_state_25 ⟨Nat.le_of_ble_eq_true rfl, Nat.le_of_ble_eq_true rfl⟩) hS (fun r27 f28 H locs hq29 hP hD hS => ?_)
      obtain ⟨bo_30, i0_31, i1_32, rfl⟩ := hq29
      refine lv_if_eq (tgt := 33) hx hb d_B_state_28 (by decide) (fun b33 => ?_) (fun b33 => ?_)
      · skip
        have hr34 : r27 = nI 0 := b33
        have hi35 := i0_31 hr34
        refine lv_aload_n hx hb d_B_state_33 rfl (lv_at hl 0 rfl) ?_
        refine pf_get (v := .ref (g.lk B 3)) (C := "BigRunner") (T := FT0) (N := 5) hx hb (hw0 hB _) (fun _ h9 => h9) hown hK hP (lo_in hL t_B (by decide)) e1 rfl 3 (by decide) (wd_381 hB _) rfl d_B_state_34 ?_
        refine pcc_i (va_runV (C := "BigRunner$Runner") (As := []) (rest := []) ⟨hx, hb, hml, hown, tb_nil⟩ (c_lacks l g H.size f ((g.lk B 3)) pr_9 ix_10 os_11 st_12 mo_13 lo_14 tr_15 sc_23 nc_24 hL (lo_k1_3 hL _ t_B) c16 hI e8 (by omega) (by omega) (by omega) (by omega) e22 (by omega) (by omega)) ⟨(callB_of 0 (tb_one (wd_427 hB _)) tb_good1 rfl rfl rfl (wd_79 hB _) (wd_424 hB _) (by decide +kernel) ⟨Nat.le_of_ble_eq_true rfl, Nat.le_of_ble_eq_true rfl⟩), (wd_425 hB _), (wd_426 hB _)⟩ ⟨pe_bl, pg_recv (ci := 8) hK hP (lo_in hL (lo_k1_3 hL _ t_B) (by decide)) e8 rfl, pe_pre hB hK hP hD⟩ rfl rfl hl.1 rfl (lv_room (Nat.le_of_ble_eq_true rfl)) d_B_state_37 ⟨Nat.le_of_ble_eq_true rfl, Nat.le_of_ble_eq_true rfl⟩) hS (fun r36 f37 H locs hq38 hP hD hS => ?_)
        obtain ⟨bo_39, rfl⟩ := hq38
        refine lv_if_eq (tgt := 47) hx hb d_B_state_40 (by decide) (fun b40 => ?_) (fun b40 => ?_)
        · skip
          have hr41 : r36 = nI 0 := b40
          refine lv_iconst (v := nI 1) hx hb d_B_state_47 (by decide) ?_
          exact pe_iret hx hb hr hlocks hK hP hD hS d_B_state_48 rfl
        · skip
          have hr42 : r36 = nI 1 := (bl_1 bo_39 b40)
          refine lv_iconst (v := nI 2) hx hb d_B_state_43 (by decide) ?_
          refine lv_goto (tgt := 48) hx hb d_B_state_44 (by decide) ?_
          exact pe_iret hx hb hr hlocks hK hP hD hS d_B_state_48 rfl
      · skip
        have hr43 : r27 = nI 1 := (bl_1 bo_30 b33)
        have hi44 := i1_32 hr43
        refine lv_iconst (v := nI 3) hx hb d_B_state_31 (by decide) ?_
        exact pe_iret hx hb hr hlocks hK hP hD hS d_B_state_32 rfl
    · skip
      replace b21 := mt (nI_eq (a := tr_15) (b := 0) (by omega) (by omega)).mpr b21
      refine lv_iconst (v := nI 4) hx hb d_B_state_19 (by decide) ?_
      exact pe_iret hx hb hr hlocks hK hP hD hS d_B_state_20 rfl
  · skip
    have hr45 : ld_3 = nI 0 := b6
    refine lv_iconst (v := nI 0) hx hb d_B_state_7 (by decide) ?_
    exact pe_iret hx hb hr hlocks hK hP hD hS d_B_state_8 rfl
set_option maxHeartbeats 4000000 in
set_option maxRecDepth 100000 in
theorem c_look (l : Launch) (g : Lay) (sz : Nat) (f : Nat → va_E) (B : Nat) (v : Int32) (hL : LO g) (t_B : g.tg B = 1) (hI : OC g f) : Met l ⟨"BigRunner", "look", "(I)I"⟩ [Cond.code ⟨"BigRunner", "look", "(I)I"⟩ prog_1_method_7_code 2 (some .int)] ({ frames := 3, cells := 0, slots := 0, locals := 60 }) (va_Pc [.ref B, .int v] (pc_in g sz f)) (va_Qi (fun r f1 => (f = f1)) (pc_out g sz) (pc_A g sz)) 0 0 (pc_A g sz) := by
  refine pe_ofW (cc := prog_1_method_7_code) (maxL := 2) (ret := (some .int)) (lv := [(0, .ref B), (1, .int v)]) (by decide) (Nat.le_of_ble_eq_true rfl) rfl ?_
  intro p e s m args below meth c ls hx hb hr hml hlocks hown hB hP hK hD hsz hS hl
  subst hsz
  refine lv_iload_n hx hb d_B_look_0 rfl (lv_at hl 1 rfl) ?_
  by_cases b1 : v = 0
  · skip
    refine lv_tableIn (off := 43) (tgt := 44) hx hb d_B_look_1 (by rw [b1]; decide) (by rw [b1]; decide) (by rw [b1]; decide) (by decide) ?_
    refine lv_aload_n hx hb d_B_look_44 rfl (lv_at hl 0 rfl) ?_
    obtain ⟨n_3, ld_4, e2, c5, c6⟩ := oc_1.of t_B (hI B)
    refine pcc_i (va_runV (C := "BigRunner") (As := []) (rest := []) ⟨hx, hb, hml, hown, tb_nil⟩ (c_state l g s.heap.size f B hL t_B hI) ⟨(callB_of 0 (tb_one (wd_419 hB _)) tb_good1 rfl rfl rfl (wd_72 hB _) (wd_416 hB _) (by decide +kernel) ⟨Nat.le_of_ble_eq_true rfl, Nat.le_of_ble_eq_true rfl⟩), (wd_418 hB _), (wd_0 hB _)⟩ ⟨pe_bl, pg_recv (ci := 0) hK hP (lo_in hL t_B (by decide)) e2 rfl, pe_pre hB hK hP hD⟩ rfl rfl hl.1 rfl (lv_room (Nat.le_of_ble_eq_true rfl)) d_B_look_45 ⟨Nat.le_of_ble_eq_true rfl, Nat.le_of_ble_eq_true rfl⟩) hS (fun r7 f8 H locs hq9 hP hD hS => ?_)
    subst hq9
    exact pe_iret hx hb hr hlocks hK hP hD hS d_B_look_48 rfl
  by_cases b10 : v = 1
  · skip
    refine lv_tableIn (off := 48) (tgt := 49) hx hb d_B_look_1 (by rw [b10]; decide) (by rw [b10]; decide) (by rw [b10]; decide) (by decide) ?_
    refine lv_aload_n hx hb d_B_look_49 rfl (lv_at hl 0 rfl) ?_
    obtain ⟨n_12, ld_13, e11, c14, c15⟩ := oc_1.of t_B (hI B)
    refine pf_get (v := .ref (g.lk B 3)) (C := "BigRunner") (T := FT0) (N := 5) hx hb (hw0 hB _) (fun _ h9 => h9) hown hK hP (lo_in hL t_B (by decide)) e11 rfl 3 (by decide) (wd_381 hB _) rfl d_B_look_50 ?_
    obtain ⟨pr_17, ix_18, os_19, st_20, mo_21, lo_22, tr_23, e16, c24, c25, c26, c27, c28⟩ := oc_9.of (lo_k1_3 hL _ t_B) (hI (g.lk B 3))
    refine pf_get (v := .int (nI tr_23)) (C := "BigRunner$Runner") (T := FT8) (N := 13) hx hb (hw8 hB _) (fun _ h9 => h9) hown hK hP (lo_in hL (lo_k1_3 hL _ t_B) (by decide)) e16 rfl 12 (by decide) (wd_350 hB _) rfl d_B_look_53 ?_
    exact pe_iret hx hb hr hlocks hK hP hD hS d_B_look_56 rfl
  by_cases b29 : v = 2
  · skip
    refine lv_tableIn (off := 56) (tgt := 57) hx hb d_B_look_1 (by rw [b29]; decide) (by rw [b29]; decide) (by rw [b29]; decide) (by decide) ?_
    refine lv_aload_n hx hb d_B_look_57 rfl (lv_at hl 0 rfl) ?_
    obtain ⟨n_31, ld_32, e30, c33, c34⟩ := oc_1.of t_B (hI B)
    refine pf_get (v := .ref (g.lk B 3)) (C := "BigRunner") (T := FT0) (N := 5) hx hb (hw0 hB _) (fun _ h9 => h9) hown hK hP (lo_in hL t_B (by decide)) e30 rfl 3 (by decide) (wd_381 hB _) rfl d_B_look_58 ?_
    obtain ⟨pr_36, ix_37, os_38, st_39, mo_40, lo_41, tr_42, e35, c43, c44, c45, c46, c47⟩ := oc_9.of (lo_k1_3 hL _ t_B) (hI (g.lk B 3))
    refine pf_get (v := .int (nI st_39)) (C := "BigRunner$Runner") (T := FT8) (N := 13) hx hb (hw8 hB _) (fun _ h9 => h9) hown hK hP (lo_in hL (lo_k1_3 hL _ t_B) (by decide)) e35 rfl 9 (by decide) (wd_344 hB _) rfl d_B_look_61 ?_
    exact pe_iret hx hb hr hlocks hK hP hD hS d_B_look_64 rfl
  by_cases b48 : v = 3
  · skip
    refine lv_tableIn (off := 64) (tgt := 65) hx hb d_B_look_1 (by rw [b48]; decide) (by rw [b48]; decide) (by rw [b48]; decide) (by decide) ?_
    refine lv_aload_n hx hb d_B_look_65 rfl (lv_at hl 0 rfl) ?_
    obtain ⟨n_50, ld_51, e49, c52, c53⟩ := oc_1.of t_B (hI B)
    refine pf_get (v := .ref (g.lk B 3)) (C := "BigRunner") (T := FT0) (N := 5) hx hb (hw0 hB _) (fun _ h9 => h9) hown hK hP (lo_in hL t_B (by decide)) e49 rfl 3 (by decide) (wd_381 hB _) rfl d_B_look_66 ?_
    obtain ⟨pr_55, ix_56, os_57, st_58, mo_59, lo_60, tr_61, e54, c62, c63, c64, c65, c66⟩ := oc_9.of (lo_k1_3 hL _ t_B) (hI (g.lk B 3))
    refine pf_get (v := .int mo_59) (C := "BigRunner$Runner") (T := FT8) (N := 13) hx hb (hw8 hB _) (fun _ h9 => h9) hown hK hP (lo_in hL (lo_k1_3 hL _ t_B) (by decide)) e54 rfl 10 (by decide) (wd_346 hB _) rfl d_B_look_69 ?_
    exact pe_iret hx hb hr hlocks hK hP hD hS d_B_look_72 rfl
  by_cases b67 : v = 4
  · skip
    refine lv_tableIn (off := 72) (tgt := 73) hx hb d_B_look_1 (by rw [b67]; decide) (by rw [b67]; decide) (by rw [b67]; decide) (by decide) ?_
    refine lv_aload_n hx hb d_B_look_73 rfl (lv_at hl 0 rfl) ?_
    obtain ⟨n_69, ld_70, e68, c71, c72⟩ := oc_1.of t_B (hI B)
    refine pf_get (v := .ref (g.lk B 3)) (C := "BigRunner") (T := FT0) (N := 5) hx hb (hw0 hB _) (fun _ h9 => h9) hown hK hP (lo_in hL t_B (by decide)) e68 rfl 3 (by decide) (wd_381 hB _) rfl d_B_look_74 ?_
    obtain ⟨pr_74, ix_75, os_76, st_77, mo_78, lo_79, tr_80, e73, c81, c82, c83, c84, c85⟩ := oc_9.of (lo_k1_3 hL _ t_B) (hI (g.lk B 3))
    refine pf_get (v := .int lo_79) (C := "BigRunner$Runner") (T := FT8) (N := 13) hx hb (hw8 hB _) (fun _ h9 => h9) hown hK hP (lo_in hL (lo_k1_3 hL _ t_B) (by decide)) e73 rfl 11 (by decide) (wd_348 hB _) rfl d_B_look_77 ?_
    exact pe_iret hx hb hr hlocks hK hP hD hS d_B_look_80 rfl
  by_cases b86 : v = 5
  · skip
    refine lv_tableIn (off := 80) (tgt := 81) hx hb d_B_look_1 (by rw [b86]; decide) (by rw [b86]; decide) (by rw [b86]; decide) (by decide) ?_
    refine lv_aload_n hx hb d_B_look_81 rfl (lv_at hl 0 rfl) ?_
    obtain ⟨n_88, ld_89, e87, c90, c91⟩ := oc_1.of t_B (hI B)
    refine pf_get (v := .ref (g.lk B 3)) (C := "BigRunner") (T := FT0) (N := 5) hx hb (hw0 hB _) (fun _ h9 => h9) hown hK hP (lo_in hL t_B (by decide)) e87 rfl 3 (by decide) (wd_381 hB _) rfl d_B_look_82 ?_
    obtain ⟨pr_93, ix_94, os_95, st_96, mo_97, lo_98, tr_99, e92, c100, c101, c102, c103, c104⟩ := oc_9.of (lo_k1_3 hL _ t_B) (hI (g.lk B 3))
    refine pf_get (v := .int (nI os_95)) (C := "BigRunner$Runner") (T := FT8) (N := 13) hx hb (hw8 hB _) (fun _ h9 => h9) hown hK hP (lo_in hL (lo_k1_3 hL _ t_B) (by decide)) e92 rfl 8 (by decide) (wd_342 hB _) rfl d_B_look_85 ?_
    exact pe_iret hx hb hr hlocks hK hP hD hS d_B_look_88 rfl
  by_cases b105 : v = 6
  · skip
    refine lv_tableIn (off := 88) (tgt := 89) hx hb d_B_look_1 (by rw [b105]; decide) (by rw [b105]; decide) (by rw [b105]; decide) (by decide) ?_
    refine lv_aload_n hx hb d_B_look_89 rfl (lv_at hl 0 rfl) ?_
    obtain ⟨n_107, ld_108, e106, c109, c110⟩ := oc_1.of t_B (hI B)
    refine pf_get (v := .ref (g.lk B 3)) (C := "BigRunner") (T := FT0) (N := 5) hx hb (hw0 hB _) (fun _ h9 => h9) hown hK hP (lo_in hL t_B (by decide)) e106 rfl 3 (by decide) (wd_381 hB _) rfl d_B_look_90 ?_
    obtain ⟨pr_112, ix_113, os_114, st_115, mo_116, lo_117, tr_118, e111, c119, c120, c121, c122, c123⟩ := oc_9.of (lo_k1_3 hL _ t_B) (hI (g.lk B 3))
    refine pf_get (v := .ref (g.lk (g.lk B 3) 1)) (C := "BigRunner$Runner") (T := FT8) (N := 13) hx hb (hw8 hB _) (fun _ h9 => h9) hown hK hP (lo_in hL (lo_k1_3 hL _ t_B) (by decide)) e111 rfl 1 (by decide) (wd_333 hB _) rfl d_B_look_93 ?_
    obtain ⟨fi_125, wa_126, e124, c127, c128⟩ := oc_2.of (lo_k9_1 hL _ (lo_k1_3 hL _ t_B)) (hI (g.lk (g.lk B 3) 1))
    refine pf_get (v := .int (nI wa_126)) (C := "BigRunner$Inputs") (T := FT1) (N := 3) hx hb (hw1 hB _) (fun _ h9 => h9) hown hK hP (lo_in hL (lo_k9_1 hL _ (lo_k1_3 hL _ t_B)) (by decide)) e124 rfl 2 (by decide) (wd_302 hB _) rfl d_B_look_96 ?_
    exact pe_iret hx hb hr hlocks hK hP hD hS d_B_look_99 rfl
  refine lv_tableOut (tgt := 100) hx hb d_B_look_1 (by have := lv_neT b1 (a := 0) (by decide); have := lv_neT b10 (a := 1) (by decide); have := lv_neT b29 (a := 2) (by decide); have := lv_neT b48 (a := 3) (by decide); have := lv_neT b67 (a := 4) (by decide); have := lv_neT b86 (a := 5) (by decide); have := lv_neT b105 (a := 6) (by decide); omega) (by decide) ?_
  refine lv_iconst (v := (-1)) hx hb d_B_look_100 (by decide) ?_
  exact pe_iret hx hb hr hlocks hK hP hD hS d_B_look_101 rfl
set_option maxHeartbeats 4000000 in
set_option maxRecDepth 100000 in
theorem c_hasVar (l : Launch) (g : Lay) (sz : Nat) (f : Nat → va_E) (B : Nat) (v : Int32) (hL : LO g) (t_B : g.tg B = 1) (hI : OC g f) : Met l ⟨"BigRunner", "hasVariable", "(I)Z"⟩ [Cond.code ⟨"BigRunner", "hasVariable", "(I)Z"⟩ prog_1_method_12_code 2 (some .boolean)] ({ frames := 0, cells := 0, slots := 0, locals := 0 }) (va_Pc [.ref B, .int v] (pc_in g sz f)) (va_Qi (fun r f1 => (r = nI 0 ∨ r = nI 1) ∧ (r = nI 1 → ∃ k, k < 10 ∧ v = nI k) ∧ (f = f1)) (pc_out g sz) (pc_A g sz)) 0 0 (pc_A g sz) := by
  refine pe_ofW (cc := prog_1_method_12_code) (maxL := 2) (ret := (some .boolean)) (lv := [(0, .ref B), (1, .int v)]) (by decide) (Nat.le_of_ble_eq_true rfl) rfl ?_
  intro p e s m args below meth c ls hx hb hr hml hlocks hown hB hP hK hD hsz hS hl
  subst hsz
  refine lv_aload_n hx hb d_B_hasVariable_0 rfl (lv_at hl 0 rfl) ?_
  obtain ⟨n_2, ld_3, e1, c4, c5⟩ := oc_1.of t_B (hI B)
  refine pf_get (v := .int ld_3) (C := "BigRunner") (T := FT0) (N := 5) hx hb (hw0 hB _) (fun _ h9 => h9) hown hK hP (lo_in hL t_B (by decide)) e1 rfl 4 (by decide) (wd_382 hB _) rfl d_B_hasVariable_1 ?_
  refine lv_if_eq (tgt := 21) hx hb d_B_hasVariable_4 (by decide) (fun b6 => ?_) (fun b6 => ?_)
  · skip
    have hr7 : ld_3 = nI 0 := b6
    refine lv_iconst (v := nI 0) hx hb d_B_hasVariable_21 (by decide) ?_
    exact pe_zret hx hb hr hlocks hK hP hD hS d_B_hasVariable_22 rfl ⟨(Or.inl rfl), (fun z9 => absurd z9 (by decide)), rfl⟩
  · skip
    have hr8 : ld_3 = nI 1 := (bl_1 c5 b6)
    refine lv_iload_n hx hb d_B_hasVariable_7 rfl (lv_at hl 1 rfl) ?_
    refine lv_if_lt (tgt := 21) hx hb d_B_hasVariable_8 (by decide) (fun b9 => ?_) (fun b9 => ?_)
    · skip
      refine lv_iconst (v := nI 0) hx hb d_B_hasVariable_21 (by decide) ?_
      exact pe_zret hx hb hr hlocks hK hP hD hS d_B_hasVariable_22 rfl ⟨(Or.inl rfl), (fun z9 => absurd z9 (by decide)), rfl⟩
    · skip
      refine lv_iload_n hx hb d_B_hasVariable_11 rfl (lv_at hl 1 rfl) ?_
      refine lv_bipush (v := nI 10) hx hb d_B_hasVariable_12 (by decide) ?_
      refine lv_icmp_ge (tgt := 21) hx hb d_B_hasVariable_14 (by decide) (fun b10 => ?_) (fun b10 => ?_)
      · skip
        refine lv_iconst (v := nI 0) hx hb d_B_hasVariable_21 (by decide) ?_
        exact pe_zret hx hb hr hlocks hK hP hD hS d_B_hasVariable_22 rfl ⟨(Or.inl rfl), (fun z9 => absurd z9 (by decide)), rfl⟩
      · skip
        refine lv_iconst (v := nI 1) hx hb d_B_hasVariable_17 (by decide) ?_
        refine lv_goto (tgt := 22) hx hb d_B_hasVariable_18 (by decide) ?_
        exact pe_zret hx hb hr hlocks hK hP hD hS d_B_hasVariable_22 rfl ⟨(Or.inr rfl), (fun _ => ix_of (by assumption) (Int32.not_le.mp (by assumption))), rfl⟩
set_option maxHeartbeats 4000000 in
set_option maxRecDepth 100000 in
theorem c_small (l : Launch) (g : Lay) (sz : Nat) (f : Nat → va_E) (B : Nat) (v : Int32) (hL : LO g) (t_B : g.tg B = 1) (hI : OC g f) : Met l ⟨"BigRunner", "small", "(I)Z"⟩ [Cond.code ⟨"BigRunner", "small", "(I)Z"⟩ prog_1_method_9_code 2 (some .boolean)] ({ frames := 2, cells := 0, slots := 0, locals := 41 }) (va_Pc [.ref B, .int v] (pc_in g sz f)) (va_Qi (fun r f1 => (r = nI 0 ∨ r = nI 1) ∧ (f = f1)) (pc_out g sz) (pc_A g sz)) 0 0 (pc_A g sz) := by
  refine pe_ofW (cc := prog_1_method_9_code) (maxL := 2) (ret := (some .boolean)) (lv := [(0, .ref B), (1, .int v)]) (by decide) (Nat.le_of_ble_eq_true rfl) rfl ?_
  intro p e s m args below meth c ls hx hb hr hml hlocks hown hB hP hK hD hsz hS hl
  subst hsz
  refine lv_aload_n hx hb d_B_small_0 rfl (lv_at hl 0 rfl) ?_
  refine lv_iload_n hx hb d_B_small_1 rfl (lv_at hl 1 rfl) ?_
  obtain ⟨n_2, ld_3, e1, c4, c5⟩ := oc_1.of t_B (hI B)
  refine pcc_i (va_runV (C := "BigRunner") (As := [.int v]) (rest := []) ⟨hx, hb, hml, hown, tb_nil⟩ (c_hasVar l g s.heap.size f B v hL t_B hI) ⟨(callB_of 1 (tb_one (wd_436 hB _)) tb_good1 rfl rfl rfl (wd_72 hB _) (wd_433 hB _) (by decide +kernel) ⟨Nat.le_of_ble_eq_true rfl, Nat.le_of_ble_eq_true rfl⟩), (wd_435 hB _), (wd_1 hB _)⟩ ⟨pe_bl, pg_recv (ci := 0) hK hP (lo_in hL t_B (by decide)) e1 rfl, pe_pre hB hK hP hD⟩ rfl rfl hl.1 rfl (lv_room (Nat.le_of_ble_eq_true rfl)) d_B_small_2 ⟨Nat.le_of_ble_eq_true rfl, Nat.le_of_ble_eq_true rfl⟩) hS (fun r6 f7 H locs hq8 hP hD hS => ?_)
  obtain ⟨bo_9, i1_10, rfl⟩ := hq8
  refine lv_if_eq (tgt := 30) hx hb d_B_small_5 (by decide) (fun b11 => ?_) (fun b11 => ?_)
  · skip
    have hr12 : r6 = nI 0 := b11
    refine lv_iconst (v := nI 0) hx hb d_B_small_30 (by decide) ?_
    exact pe_zret hx hb hr hlocks hK hP hD hS d_B_small_31 rfl ⟨(Or.inl rfl), rfl⟩
  · skip
    have hr13 : r6 = nI 1 := (bl_1 bo_9 b11)
    have hi14 := i1_10 hr13
    obtain ⟨vk15, hvk15, rfl⟩ := hi14
    refine lv_aload_n hx hb d_B_small_8 rfl (lv_at hl 0 rfl) ?_
    refine pf_get (v := .ref (g.lk B 3)) (C := "BigRunner") (T := FT0) (N := 5) hx hb (hw0 hB _) (fun _ h9 => h9) hown hK hP (lo_in hL t_B (by decide)) e1 rfl 3 (by decide) (wd_381 hB _) rfl d_B_small_9 ?_
    obtain ⟨pr_17, ix_18, os_19, st_20, mo_21, lo_22, tr_23, e16, c24, c25, c26, c27, c28⟩ := oc_9.of (lo_k1_3 hL _ t_B) (hI (g.lk B 3))
    refine pf_get (v := .ref pr_17) (C := "BigRunner$Runner") (T := FT8) (N := 13) hx hb (hw8 hB _) (fun _ h9 => h9) hown hK hP (lo_in hL (lo_k1_3 hL _ t_B) (by decide)) e16 rfl 0 (by decide) (wd_331 hB _) rfl d_B_small_12 ?_
    obtain ⟨sc_30, nc_31, e29, c32, c33⟩ := oc_7.of c24 (hI pr_17)
    refine pf_get (v := .ref (g.lk pr_17 4)) (C := "BigRunner$Program") (T := FT6) (N := 6) hx hb (hw6 hB _) (fun _ h9 => h9) hown hK hP (lo_in hL c24 (by decide)) e29 rfl 4 (by decide) (wd_255 hB _) rfl d_B_small_15 ?_
    refine lv_iload_n hx hb d_B_small_18 rfl (lv_at hl 1 rfl) ?_
    have e34 := oc_26.of (lo_k7_4 hL _ c24) (hI (g.lk pr_17 4))
    refine pf_aald (i := vk15) hx hb hK hP (lo_in hL (lo_k7_4 hL _ c24) (by decide)) e34 (lo_t26 hL _ (lo_k7_4 hL _ c24)) (by omega) (by decide) d_B_small_19 ?_
    have t35 := lo_e26 hL _ (lo_k7_4 hL _ c24) vk15 (by omega)
    obtain ⟨lo_37, hi_38, e36⟩ := oc_3.of t35 (hI (g.lk (g.lk pr_17 4) vk15))
    refine pcc_i (va_runV (C := "BigRunner$Interval") (As := []) (rest := []) ⟨hx, hb, hml, hown, tb_nil⟩ (c_isBounded l g H.size f ((g.lk (g.lk pr_17 4) vk15)) hL t35 hI) ⟨(callB_of 0 (tb_one (wd_440 hB _)) tb_good1 rfl rfl rfl (wd_75 hB _) (wd_437 hB _) (by decide +kernel) ⟨Nat.le_of_ble_eq_true rfl, Nat.le_of_ble_eq_true rfl⟩), (wd_438 hB _), (wd_439 hB _)⟩ ⟨pe_bl, pg_recv (ci := 2) hK hP (lo_in hL t35 (by decide)) e36 rfl, pe_pre hB hK hP hD⟩ rfl rfl hl.1 rfl (lv_room (Nat.le_of_ble_eq_true rfl)) d_B_small_20 ⟨Nat.le_of_ble_eq_true rfl, Nat.le_of_ble_eq_true rfl⟩) hS (fun r39 f40 H locs hq41 hP hD hS => ?_)
    obtain ⟨bo_42, rfl⟩ := hq41
    refine lv_if_eq (tgt := 30) hx hb d_B_small_23 (by decide) (fun b43 => ?_) (fun b43 => ?_)
    · skip
      have hr44 : r39 = nI 0 := b43
      refine lv_iconst (v := nI 0) hx hb d_B_small_30 (by decide) ?_
      exact pe_zret hx hb hr hlocks hK hP hD hS d_B_small_31 rfl ⟨(Or.inl rfl), rfl⟩
    · skip
      have hr45 : r39 = nI 1 := (bl_1 bo_42 b43)
      refine lv_iconst (v := nI 1) hx hb d_B_small_26 (by decide) ?_
      refine lv_goto (tgt := 31) hx hb d_B_small_27 (by decide) ?_
      exact pe_zret hx hb hr hlocks hK hP hD hS d_B_small_31 rfl ⟨(Or.inr rfl), rfl⟩

