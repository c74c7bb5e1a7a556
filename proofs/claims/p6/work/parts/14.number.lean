set_option maxHeartbeats 4000000 in
set_option maxRecDepth 100000 in
theorem c_limb (l : Launch) (g : Lay) (sz : Nat) (f : Nat → va_E) (x : Nat) (i : Nat) (hL : LO g) (t_x : g.tg x = 5) (hI : OC g f) (hi : i < 2147483648) : Met l ⟨"BigRunner$LongNumber", "limb", "(I)I"⟩ [Cond.code ⟨"BigRunner$LongNumber", "limb", "(I)I"⟩ prog_5_method_12_code 2 (some .int)] ({ frames := 0, cells := 0, slots := 0, locals := 0 }) (va_Pc [.ref x, .int (nI i)] (pc_in g sz f)) (va_Qi (fun r f1 => (∃ k, k < 1000000000 ∧ r = nI k) ∧ (f = f1)) (pc_out g sz) (pc_A g sz)) 0 0 (pc_A g sz) := by
  refine pe_ofW (cc := prog_5_method_12_code) (maxL := 2) (ret := (some .int)) (lv := [(0, .ref x), (1, .int (nI i))]) (by decide) (Nat.le_of_ble_eq_true rfl) rfl ?_
  intro p e s m args below meth c ls hx hb hr hml hlocks hown hB hP hK hD hsz hS hl
  subst hsz
  refine lv_iload_n hx hb d_NLongNumber_limb_0 rfl (lv_at hl 1 rfl) ?_
  refine lv_aload_n hx hb d_NLongNumber_limb_1 rfl (lv_at hl 0 rfl) ?_
  obtain ⟨sg_2, n_3, e1, c4⟩ := oc_5.of t_x (hI x)
  refine pf_get (v := .int (nI n_3)) (C := "BigRunner$LongNumber") (T := FT4) (N := 3) hx hb (hw4 hB _) (fun _ h9 => h9) hown hK hP (lo_in hL t_x (by decide)) e1 rfl 1 (by decide) (wd_190 hB _) rfl d_NLongNumber_limb_2 ?_
  refine lv_icmp_ge (tgt := 17) hx hb d_NLongNumber_limb_5 (by decide) (fun b5 => ?_) (fun b5 => ?_)
  · skip
    replace b5 := (nI_leI (a := n_3) (b := i) (by omega) (by omega)).mp b5
    refine lv_iconst (v := nI 0) hx hb d_NLongNumber_limb_17 (by decide) ?_
    exact pe_iret hx hb hr hlocks hK hP hD hS d_NLongNumber_limb_18 ⟨⟨0, by omega, rfl⟩, rfl⟩
  · skip
    replace b5 := mt (nI_leI (a := n_3) (b := i) (by omega) (by omega)).mpr b5
    refine lv_aload_n hx hb d_NLongNumber_limb_8 rfl (lv_at hl 0 rfl) ?_
    refine pf_get (v := .ref (g.lk x 2)) (C := "BigRunner$LongNumber") (T := FT4) (N := 3) hx hb (hw4 hB _) (fun _ h9 => h9) hown hK hP (lo_in hL t_x (by decide)) e1 rfl 2 (by decide) (wd_192 hB _) rfl d_NLongNumber_limb_9 ?_
    refine lv_iload_n hx hb d_NLongNumber_limb_12 rfl (lv_at hl 1 rfl) ?_
    obtain ⟨h_7, e6, c8⟩ := oc_23.of (lo_k5_2 hL _ t_x) (hI (g.lk x 2))
    refine pf_iald (i := i) hx hb hK hP (lo_in hL (lo_k5_2 hL _ t_x) (by decide)) e6 (lo_t23 hL _ (lo_k5_2 hL _ t_x)) (by omega) (by decide) d_NLongNumber_limb_13 ?_
    refine lv_topi (fun z_ hz_ => ?_)
    obtain ⟨li9, hli9, qli9⟩ := c8 i (by omega)
    obtain rfl : z_ = nI li9 := hz_.trans qli9
    refine lv_goto (tgt := 18) hx hb d_NLongNumber_limb_14 (by decide) ?_
    exact pe_iret hx hb hr hlocks hK hP hD hS d_NLongNumber_limb_18 ⟨⟨li9, by omega, rfl⟩, rfl⟩
set_option maxHeartbeats 4000000 in
set_option maxRecDepth 100000 in
theorem c_fits (l : Launch) (g : Lay) (sz : Nat) (f : Nat → va_E) (x : Nat) (hL : LO g) (t_x : g.tg x = 5) (hI : OC g f) : Met l ⟨"BigRunner$LongNumber", "fits", "()Z"⟩ [Cond.code ⟨"BigRunner$LongNumber", "fits", "()Z"⟩ prog_5_method_8_code 1 (some .boolean)] ({ frames := 0, cells := 0, slots := 0, locals := 0 }) (va_Pc [.ref x] (pc_in g sz f)) (va_Qi (fun r f1 => (r = nI 0 ∨ r = nI 1) ∧ (f = f1)) (pc_out g sz) (pc_A g sz)) 0 0 (pc_A g sz) := by
  refine pe_ofW (cc := prog_5_method_8_code) (maxL := 1) (ret := (some .boolean)) (lv := [(0, .ref x)]) (by decide) (Nat.le_of_ble_eq_true rfl) rfl ?_
  intro p e s m args below meth c ls hx hb hr hml hlocks hown hB hP hK hD hsz hS hl
  subst hsz
  refine lv_aload_n hx hb d_NLongNumber_fits_0 rfl (lv_at hl 0 rfl) ?_
  obtain ⟨sg_2, n_3, e1, c4⟩ := oc_5.of t_x (hI x)
  refine pf_get (v := .int (nI n_3)) (C := "BigRunner$LongNumber") (T := FT4) (N := 3) hx hb (hw4 hB _) (fun _ h9 => h9) hown hK hP (lo_in hL t_x (by decide)) e1 rfl 1 (by decide) (wd_190 hB _) rfl d_NLongNumber_fits_1 ?_
  refine lv_bipush (v := nI 13) hx hb d_NLongNumber_fits_4 (by decide) ?_
  refine lv_icmp_le (tgt := 31) hx hb d_NLongNumber_fits_6 (by decide) (fun b5 => ?_) (fun b5 => ?_)
  · skip
    replace b5 := (nI_leI (a := n_3) (b := 13) (by omega) (by omega)).mp b5
    refine lv_iconst (v := nI 1) hx hb d_NLongNumber_fits_31 (by decide) ?_
    refine lv_goto (tgt := 36) hx hb d_NLongNumber_fits_32 (by decide) ?_
    exact pe_zret hx hb hr hlocks hK hP hD hS d_NLongNumber_fits_36 rfl ⟨(Or.inr rfl), rfl⟩
  · skip
    replace b5 := mt (nI_leI (a := n_3) (b := 13) (by omega) (by omega)).mpr b5
    refine lv_aload_n hx hb d_NLongNumber_fits_9 rfl (lv_at hl 0 rfl) ?_
    refine pf_get (v := .int (nI n_3)) (C := "BigRunner$LongNumber") (T := FT4) (N := 3) hx hb (hw4 hB _) (fun _ h9 => h9) hown hK hP (lo_in hL t_x (by decide)) e1 rfl 1 (by decide) (wd_190 hB _) rfl d_NLongNumber_fits_10 ?_
    refine lv_bipush (v := nI 14) hx hb d_NLongNumber_fits_13 (by decide) ?_
    refine lv_icmp_ne (tgt := 35) hx hb d_NLongNumber_fits_15 (by decide) (fun b6 => ?_) (fun b6 => ?_)
    · skip
      replace b6 := mt (nI_eq (a := n_3) (b := 14) (by omega) (by omega)).mpr b6
      refine lv_iconst (v := nI 0) hx hb d_NLongNumber_fits_35 (by decide) ?_
      exact pe_zret hx hb hr hlocks hK hP hD hS d_NLongNumber_fits_36 rfl ⟨(Or.inl rfl), rfl⟩
    · skip
      replace b6 := (nI_eq (a := n_3) (b := 14) (by omega) (by omega)).mp b6
      refine lv_aload_n hx hb d_NLongNumber_fits_18 rfl (lv_at hl 0 rfl) ?_
      refine pf_get (v := .ref (g.lk x 2)) (C := "BigRunner$LongNumber") (T := FT4) (N := 3) hx hb (hw4 hB _) (fun _ h9 => h9) hown hK hP (lo_in hL t_x (by decide)) e1 rfl 2 (by decide) (wd_192 hB _) rfl d_NLongNumber_fits_19 ?_
      refine lv_bipush (v := nI 13) hx hb d_NLongNumber_fits_22 (by decide) ?_
      obtain ⟨h_8, e7, c9⟩ := oc_23.of (lo_k5_2 hL _ t_x) (hI (g.lk x 2))
      refine pf_iald (i := 13) hx hb hK hP (lo_in hL (lo_k5_2 hL _ t_x) (by decide)) e7 (lo_t23 hL _ (lo_k5_2 hL _ t_x)) (by omega) (by decide) d_NLongNumber_fits_24 ?_
      refine lv_topi (fun z_ hz_ => ?_)
      obtain ⟨li10, hli10, qli10⟩ := c9 13 (by omega)
      obtain rfl : z_ = nI li10 := hz_.trans qli10
      refine lv_sipush (v := nI 1000) hx hb d_NLongNumber_fits_25 (by decide) ?_
      refine lv_icmp_ge (tgt := 35) hx hb d_NLongNumber_fits_28 (by decide) (fun b11 => ?_) (fun b11 => ?_)
      · skip
        replace b11 := (nI_leI (a := 1000) (b := li10) (by omega) (by omega)).mp b11
        refine lv_iconst (v := nI 0) hx hb d_NLongNumber_fits_35 (by decide) ?_
        exact pe_zret hx hb hr hlocks hK hP hD hS d_NLongNumber_fits_36 rfl ⟨(Or.inl rfl), rfl⟩
      · skip
        replace b11 := mt (nI_leI (a := 1000) (b := li10) (by omega) (by omega)).mpr b11
        refine lv_iconst (v := nI 1) hx hb d_NLongNumber_fits_31 (by decide) ?_
        refine lv_goto (tgt := 36) hx hb d_NLongNumber_fits_32 (by decide) ?_
        exact pe_zret hx hb hr hlocks hK hP hD hS d_NLongNumber_fits_36 rfl ⟨(Or.inr rfl), rfl⟩
set_option maxHeartbeats 4000000 in
set_option maxRecDepth 100000 in
theorem c_finish (l : Launch) (g : Lay) (sz : Nat) (f : Nat → va_E) (x : Nat) (n : Nat) (sg : Int32) (hL : LO g) (t_x : g.tg x = 5) (hI : IX g x f) (hn : n < 2147483648) : Met l ⟨"BigRunner$LongNumber", "finish", "(II)V"⟩ [Cond.code ⟨"BigRunner$LongNumber", "finish", "(II)V"⟩ prog_5_method_7_code 3 none] ({ frames := 1, cells := 0, slots := 0, locals := 40 }) (va_Pc [.ref x, .int (nI n), .int sg] (pc_in g sz f)) (va_Qv (fun f1 => (IV g f1) ∧ (un [5] g f f1)) (pc_out g sz) (pc_A g sz)) 0 0 (pc_A g sz) := by
  refine pe_ofW (cc := prog_5_method_7_code) (maxL := 3) (ret := none) (lv := [(0, .ref x), (1, .int (nI n)), (2, .int sg)]) (by decide) (Nat.le_of_ble_eq_true rfl) rfl ?_
  intro p e s m args below meth c ls hx hb hr hml hlocks hown hB hP hK hD hsz hS hl
  subst hsz
  have hu : un [5] g f f := un.rf
  refine lv_aload_n hx hb d_NLongNumber_finish_0 rfl (lv_at hl 0 rfl) ?_
  refine lv_iload_n hx hb d_NLongNumber_finish_1 rfl (lv_at hl 1 rfl) ?_
  refine lv_bipush (v := nI 15) hx hb d_NLongNumber_finish_2 (by decide) ?_
  refine va_mmin hx hb (hml.trans hl.1.symm) hown (wd_775 hB _) (wd_459 hB _) (wd_83 hB _) (wd_460 hB _) (Nat.le_of_ble_eq_true rfl) (Nat.le_of_ble_eq_true rfl) (Nat.le_of_ble_eq_true rfl) (Nat.le_of_ble_eq_true rfl) d_NLongNumber_finish_4 ?_
  refine lv_topi (fun z_ hz_ => ?_)
  obtain ⟨mn1, hmn1⟩ : ∃ z : Nat, z = min n 15 := ⟨_, rfl⟩
  obtain rfl : z_ = nI mn1 := by rw [hz_, hmn1]; exact mi_min (a := n) (b := 15) (by omega) (by omega)
  obtain ⟨sg_3, n_4, e2, c5⟩ := oc_5.of t_x (hI.1 x)
  refine pf_put (v := .int (nI mn1)) (ty := .int) (fs' := [.int sg_3, .int (nI mn1), .ref (g.lk x 2)]) (C := "BigRunner$LongNumber") (T := FT4) (N := 3) hx hb (hw4 hB _) (fun _ h9 => h9) TY4 ok4 nm4 hown hK hP hD hS (lo_in hL t_x (by decide)) e2 rfl 1 (by decide) (wd_190 hB _) rfl (by decide +kernel) rfl rfl (Nat.le_of_ble_eq_true rfl) rfl d_NLongNumber_finish_7 (fun f6 H locs e7 k8 hP hD hS => ?_)
  have hu := hu.st k8 t_x (by decide)
  have hk9 : ∀ b, b ≠ x → f6 b = f b := k8
  have hI10 := ix_5 hI hL t_x hk9 (⟨sg_3, mn1, e7, (by omega)⟩)
  have lp11 : ∀ (k13 : Nat) (j : Nat) (f12 : Nat → va_E) (H : Heap) (locs : List Loc) (ls : Array Slot), (j < k13) → (j ≤ 15) → f12 x = .inr (4, [.int sg_3, .int (nI j), .ref (g.lk x 2)]) → IX g x f12 → un [5] g f6 f12 → lv_has ls 3 [(0, .ref x), (1, .int (nI n)), (2, .int sg)] → va_P g.D vcl (va_pl g.LP f12) H → va_D (pc_A g s.heap.size) (va_pl g.LP f12) → va_S (pc_A g s.heap.size) s.heap H locs → W p l e ({ frames := 1, cells := 0, slots := 0, locals := 40 }) s m args below meth c H locs 0 0 (MQ below (va_Qv (fun f1 => (IV g f1) ∧ (un [5] g f f1)) (pc_out g s.heap.size) (pc_A g s.heap.size)) args s 0 0 (pc_A g s.heap.size)) (F0 m 10 ls []) := by
    intro k13
    induction k13 with
    | zero => intros; exfalso; omega
    | succ k13 ih14 =>
      intro j f12 H locs ls hfu15 hj e16 hI17 hv18 hl hP hD hS
      have hu := hu.tr hv18 (by decide)
      refine lv_aload_n hx hb d_NLongNumber_finish_10 rfl (lv_at hl 0 rfl) ?_
      refine pf_get (v := .int (nI j)) (C := "BigRunner$LongNumber") (T := FT4) (N := 3) hx hb (hw4 hB _) (fun _ h9 => h9) hown hK hP (lo_in hL t_x (by decide)) e16 rfl 1 (by decide) (wd_190 hB _) rfl d_NLongNumber_finish_11 ?_
      refine lv_if_le (tgt := 44) hx hb d_NLongNumber_finish_14 (by decide) (fun b19 => ?_) (fun b19 => ?_)
      · skip
        replace b19 := (nI_leI (a := j) (b := 0) (by omega) (by omega)).mp b19
        refine lv_aload_n hx hb d_NLongNumber_finish_44 rfl (lv_at hl 0 rfl) ?_
        refine lv_aload_n hx hb d_NLongNumber_finish_45 rfl (lv_at hl 0 rfl) ?_
        refine pf_get (v := .int (nI j)) (C := "BigRunner$LongNumber") (T := FT4) (N := 3) hx hb (hw4 hB _) (fun _ h9 => h9) hown hK hP (lo_in hL t_x (by decide)) e16 rfl 1 (by decide) (wd_190 hB _) rfl d_NLongNumber_finish_46 ?_
        refine lv_if_ne (tgt := 56) hx hb d_NLongNumber_finish_49 (by decide) (fun b20 => ?_) (fun b20 => ?_)
        · skip
          replace b20 := mt (nI_eq (a := j) (b := 0) (by omega) (by omega)).mpr b20
          refine lv_iload_n hx hb d_NLongNumber_finish_56 rfl (lv_at hl 2 rfl) ?_
          refine pf_put (v := .int sg) (ty := .int) (fs' := [.int sg, .int (nI j), .ref (g.lk x 2)]) (C := "BigRunner$LongNumber") (T := FT4) (N := 3) hx hb (hw4 hB _) (fun _ h9 => h9) TY4 ok4 nm4 hown hK hP hD hS (lo_in hL t_x (by decide)) e16 rfl 0 (by decide) (wd_186 hB _) rfl (by decide +kernel) rfl rfl (Nat.le_of_ble_eq_true rfl) rfl d_NLongNumber_finish_57 (fun f21 H locs e22 k23 hP hD hS => ?_)
          have hu := hu.st k23 t_x (by decide)
          have hv18 := hv18.st k23 t_x (by decide)
          have hk24 : ∀ b, b ≠ x → f21 b = f12 b := k23
          have hI25 := ix_5 hI17 hL t_x hk24 (⟨sg, j, e22, (by omega)⟩)
          obtain ⟨h_27, e26, c28⟩ := oc_23.of (lo_k5_2 hL _ t_x) (hI25.1 (g.lk x 2))
          have hI29 := IX.iv hI25 (nr_mk e22 e26 (by omega) (fun q8 => by omega))
          exact pe_vret hx hb hr hlocks hK hP hD hS d_NLongNumber_finish_60 ⟨hI29, hu⟩
        · skip
          replace b20 := (nI_eq (a := j) (b := 0) (by omega) (by omega)).mp b20
          refine lv_iconst (v := nI 0) hx hb d_NLongNumber_finish_52 (by decide) ?_
          refine lv_goto (tgt := 57) hx hb d_NLongNumber_finish_53 (by decide) ?_
          refine pf_put (v := .int (nI 0)) (ty := .int) (fs' := [.int (nI 0), .int (nI j), .ref (g.lk x 2)]) (C := "BigRunner$LongNumber") (T := FT4) (N := 3) hx hb (hw4 hB _) (fun _ h9 => h9) TY4 ok4 nm4 hown hK hP hD hS (lo_in hL t_x (by decide)) e16 rfl 0 (by decide) (wd_186 hB _) rfl (by decide +kernel) rfl rfl (Nat.le_of_ble_eq_true rfl) rfl d_NLongNumber_finish_57 (fun f30 H locs e31 k32 hP hD hS => ?_)
          have hu := hu.st k32 t_x (by decide)
          have hv18 := hv18.st k32 t_x (by decide)
          have hk33 : ∀ b, b ≠ x → f30 b = f12 b := k32
          have hI34 := ix_5 hI17 hL t_x hk33 (⟨((nI 0)), j, e31, (by omega)⟩)
          obtain ⟨h_36, e35, c37⟩ := oc_23.of (lo_k5_2 hL _ t_x) (hI34.1 (g.lk x 2))
          have hI38 := IX.iv hI34 (nr_mk e31 e35 (by omega) (fun q8 => by omega))
          exact pe_vret hx hb hr hlocks hK hP hD hS d_NLongNumber_finish_60 ⟨hI38, hu⟩
      · skip
        replace b19 := mt (nI_leI (a := j) (b := 0) (by omega) (by omega)).mpr b19
        refine lv_aload_n hx hb d_NLongNumber_finish_17 rfl (lv_at hl 0 rfl) ?_
        refine pf_get (v := .ref (g.lk x 2)) (C := "BigRunner$LongNumber") (T := FT4) (N := 3) hx hb (hw4 hB _) (fun _ h9 => h9) hown hK hP (lo_in hL t_x (by decide)) e16 rfl 2 (by decide) (wd_192 hB _) rfl d_NLongNumber_finish_18 ?_
        refine lv_aload_n hx hb d_NLongNumber_finish_21 rfl (lv_at hl 0 rfl) ?_
        refine pf_get (v := .int (nI j)) (C := "BigRunner$LongNumber") (T := FT4) (N := 3) hx hb (hw4 hB _) (fun _ h9 => h9) hown hK hP (lo_in hL t_x (by decide)) e16 rfl 1 (by decide) (wd_190 hB _) rfl d_NLongNumber_finish_22 ?_
        refine lv_iconst (v := nI 1) hx hb d_NLongNumber_finish_25 (by decide) ?_
        refine pf_isubN (x := j) (y := 1) hx hb (by omega) d_NLongNumber_finish_26 ?_
        obtain ⟨h_40, e39, c41⟩ := oc_23.of (lo_k5_2 hL _ t_x) (hI17.1 (g.lk x 2))
        refine pf_iald (i := j - 1) hx hb hK hP (lo_in hL (lo_k5_2 hL _ t_x) (by decide)) e39 (lo_t23 hL _ (lo_k5_2 hL _ t_x)) (by omega) (by decide) d_NLongNumber_finish_27 ?_
        refine lv_topi (fun z_ hz_ => ?_)
        obtain ⟨li42, hli42, qli42⟩ := c41 (j - 1) (by omega)
        obtain rfl : z_ = nI li42 := hz_.trans qli42
        refine lv_if_ne (tgt := 44) hx hb d_NLongNumber_finish_28 (by decide) (fun b43 => ?_) (fun b43 => ?_)
        · skip
          replace b43 := mt (nI_eq (a := li42) (b := 0) (by omega) (by omega)).mpr b43
          refine lv_aload_n hx hb d_NLongNumber_finish_44 rfl (lv_at hl 0 rfl) ?_
          refine lv_aload_n hx hb d_NLongNumber_finish_45 rfl (lv_at hl 0 rfl) ?_
          refine pf_get (v := .int (nI j)) (C := "BigRunner$LongNumber") (T := FT4) (N := 3) hx hb (hw4 hB _) (fun _ h9 => h9) hown hK hP (lo_in hL t_x (by decide)) e16 rfl 1 (by decide) (wd_190 hB _) rfl d_NLongNumber_finish_46 ?_
          refine lv_if_ne (tgt := 56) hx hb d_NLongNumber_finish_49 (by decide) (fun b44 => ?_) (fun b44 => ?_)
          · skip
            replace b44 := mt (nI_eq (a := j) (b := 0) (by omega) (by omega)).mpr b44
            refine lv_iload_n hx hb d_NLongNumber_finish_56 rfl (lv_at hl 2 rfl) ?_
            refine pf_put (v := .int sg) (ty := .int) (fs' := [.int sg, .int (nI j), .ref (g.lk x 2)]) (C := "BigRunner$LongNumber") (T := FT4) (N := 3) hx hb (hw4 hB _) (fun _ h9 => h9) TY4 ok4 nm4 hown hK hP hD hS (lo_in hL t_x (by decide)) e16 rfl 0 (by decide) (wd_186 hB _) rfl (by decide +kernel) rfl rfl (Nat.le_of_ble_eq_true rfl) rfl d_NLongNumber_finish_57 (fun f45 H locs e46 k47 hP hD hS => ?_)
            have e39 := (k47 (g.lk x 2) (tg_ne (lo_k5_2 hL _ t_x) t_x (by decide))).trans e39
            have hu := hu.st k47 t_x (by decide)
            have hv18 := hv18.st k47 t_x (by decide)
            have hk48 : ∀ b, b ≠ x → f45 b = f12 b := k47
            have hI49 := ix_5 hI17 hL t_x hk48 (⟨sg, j, e46, (by omega)⟩)
            have hI50 := IX.iv hI49 (nr_mk e46 e39 (by omega) (fun q8 => by first | omega | (rw [qli42]; exact fun q9 => absurd ((nI_eq (a := li42) (b := 0) (by omega) (by omega)).mp q9) (by omega))))
            exact pe_vret hx hb hr hlocks hK hP hD hS d_NLongNumber_finish_60 ⟨hI50, hu⟩
          · skip
            replace b44 := (nI_eq (a := j) (b := 0) (by omega) (by omega)).mp b44
            refine lv_iconst (v := nI 0) hx hb d_NLongNumber_finish_52 (by decide) ?_
            refine lv_goto (tgt := 57) hx hb d_NLongNumber_finish_53 (by decide) ?_
            refine pf_put (v := .int (nI 0)) (ty := .int) (fs' := [.int (nI 0), .int (nI j), .ref (g.lk x 2)]) (C := "BigRunner$LongNumber") (T := FT4) (N := 3) hx hb (hw4 hB _) (fun _ h9 => h9) TY4 ok4 nm4 hown hK hP hD hS (lo_in hL t_x (by decide)) e16 rfl 0 (by decide) (wd_186 hB _) rfl (by decide +kernel) rfl rfl (Nat.le_of_ble_eq_true rfl) rfl d_NLongNumber_finish_57 (fun f51 H locs e52 k53 hP hD hS => ?_)
            have e39 := (k53 (g.lk x 2) (tg_ne (lo_k5_2 hL _ t_x) t_x (by decide))).trans e39
            have hu := hu.st k53 t_x (by decide)
            have hv18 := hv18.st k53 t_x (by decide)
            have hk54 : ∀ b, b ≠ x → f51 b = f12 b := k53
            have hI55 := ix_5 hI17 hL t_x hk54 (⟨((nI 0)), j, e52, (by omega)⟩)
            have hI56 := IX.iv hI55 (nr_mk e52 e39 (by omega) (fun q8 => by first | omega | (rw [qli42]; exact fun q9 => absurd ((nI_eq (a := li42) (b := 0) (by omega) (by omega)).mp q9) (by omega))))
            exact pe_vret hx hb hr hlocks hK hP hD hS d_NLongNumber_finish_60 ⟨hI56, hu⟩
        · skip
          replace b43 := (nI_eq (a := li42) (b := 0) (by omega) (by omega)).mp b43
          refine lv_aload_n hx hb d_NLongNumber_finish_31 rfl (lv_at hl 0 rfl) ?_
          refine lv_dup hx hb d_NLongNumber_finish_32 rfl ?_
          refine pf_get (v := .int (nI j)) (C := "BigRunner$LongNumber") (T := FT4) (N := 3) hx hb (hw4 hB _) (fun _ h9 => h9) hown hK hP (lo_in hL t_x (by decide)) e16 rfl 1 (by decide) (wd_190 hB _) rfl d_NLongNumber_finish_33 ?_
          refine lv_iconst (v := nI 1) hx hb d_NLongNumber_finish_36 (by decide) ?_
          refine pf_isubN (x := j) (y := 1) hx hb (by omega) d_NLongNumber_finish_37 ?_
          refine pf_put (v := .int (nI (j - 1))) (ty := .int) (fs' := [.int sg_3, .int (nI (j - 1)), .ref (g.lk x 2)]) (C := "BigRunner$LongNumber") (T := FT4) (N := 3) hx hb (hw4 hB _) (fun _ h9 => h9) TY4 ok4 nm4 hown hK hP hD hS (lo_in hL t_x (by decide)) e16 rfl 1 (by decide) (wd_190 hB _) rfl (by decide +kernel) rfl rfl (Nat.le_of_ble_eq_true rfl) rfl d_NLongNumber_finish_38 (fun f57 H locs e58 k59 hP hD hS => ?_)
          have e39 := (k59 (g.lk x 2) (tg_ne (lo_k5_2 hL _ t_x) t_x (by decide))).trans e39
          have hu := hu.st k59 t_x (by decide)
          have hv18 := hv18.st k59 t_x (by decide)
          have hk60 : ∀ b, b ≠ x → f57 b = f12 b := k59
          refine lv_goto (tgt := 10) hx hb d_NLongNumber_finish_41 (by decide) ?_
          have hI61 := ix_5 hI17 hL t_x hk60 (⟨sg_3, (j - 1), e58, (by omega)⟩)
          exact ih14 (j - 1) f57 H locs ls (by omega) (by omega) e58 hI61 hv18 hl hP hD hS
  exact lp11 (mn1 + 1) mn1 f6 H locs ls (by omega) (by omega) e7 hI10 un.rf hl hP hD hS
set_option maxHeartbeats 4000000 in
set_option maxRecDepth 100000 in
theorem c_copy (l : Launch) (g : Lay) (sz : Nat) (f : Nat → va_E) (x : Nat) (y : Nat) (sg : Int32) (hL : LO g) (t_x : g.tg x = 5) (t_y : g.tg y = 5) (hI : IV g f) (hne : y ≠ x) : Met l ⟨"BigRunner$LongNumber", "copy", "(LBigRunner$LongNumber;I)V"⟩ [Cond.code ⟨"BigRunner$LongNumber", "copy", "(LBigRunner$LongNumber;I)V"⟩ prog_5_method_3_code 3 none] ({ frames := 1, cells := 0, slots := 0, locals := 60 }) (va_Pc [.ref x, .ref y, .int sg] (pc_in g sz f)) (va_Qv (fun f1 => (IV g f1) ∧ (un [5, 23] g f f1)) (pc_out g sz) (pc_A g sz)) 0 0 (pc_A g sz) := by
  refine pe_ofW (cc := prog_5_method_3_code) (maxL := 3) (ret := none) (lv := [(0, .ref x), (1, .ref y), (2, .int sg)]) (by decide) (Nat.le_of_ble_eq_true rfl) rfl ?_
  intro p e s m args below meth c ls hx hb hr hml hlocks hown hB hP hK hD hsz hS hl
  subst hsz
  have hu : un [5, 23] g f f := un.rf
  obtain ⟨sg_2, n_3, e1, c4⟩ := oc_5.of t_y (hI.1 y)
  obtain ⟨h_6, e5, c7⟩ := oc_23.of (lo_k5_2 hL _ t_y) (hI.1 (g.lk y 2))
  have hny := hI.2 y t_y n_3 _ _ e1 e5 (by omega)
  have hI8 := IV.ix hI x
  refine lv_aload_n hx hb d_NLongNumber_copy_0 rfl (lv_at hl 0 rfl) ?_
  refine lv_iload_n hx hb d_NLongNumber_copy_1 rfl (lv_at hl 2 rfl) ?_
  obtain ⟨sg_10, n_11, e9, c12⟩ := oc_5.of t_x (hI8.1 x)
  refine pf_put (v := .int sg) (ty := .int) (fs' := [.int sg, .int (nI n_11), .ref (g.lk x 2)]) (C := "BigRunner$LongNumber") (T := FT4) (N := 3) hx hb (hw4 hB _) (fun _ h9 => h9) TY4 ok4 nm4 hown hK hP hD hS (lo_in hL t_x (by decide)) e9 rfl 0 (by decide) (wd_186 hB _) rfl (by decide +kernel) rfl rfl (Nat.le_of_ble_eq_true rfl) rfl d_NLongNumber_copy_2 (fun f13 H locs e14 k15 hP hD hS => ?_)
  have e1 := (k15 y hne).trans e1
  have e5 := (k15 (g.lk y 2) (tg_ne (lo_k5_2 hL _ t_y) t_x (by decide))).trans e5
  have hu := hu.st k15 t_x (by decide)
  have hk16 : ∀ b, b ≠ x → f13 b = f b := k15
  refine lv_aload_n hx hb d_NLongNumber_copy_5 rfl (lv_at hl 0 rfl) ?_
  refine lv_aload_n hx hb d_NLongNumber_copy_6 rfl (lv_at hl 1 rfl) ?_
  refine pf_get (v := .int (nI n_3)) (C := "BigRunner$LongNumber") (T := FT4) (N := 3) hx hb (hw4 hB _) (fun _ h9 => h9) hown hK hP (lo_in hL t_y (by decide)) e1 rfl 1 (by decide) (wd_190 hB _) rfl d_NLongNumber_copy_7 ?_
  refine pf_put (v := .int (nI n_3)) (ty := .int) (fs' := [.int sg, .int (nI n_3), .ref (g.lk x 2)]) (C := "BigRunner$LongNumber") (T := FT4) (N := 3) hx hb (hw4 hB _) (fun _ h9 => h9) TY4 ok4 nm4 hown hK hP hD hS (lo_in hL t_x (by decide)) e14 rfl 1 (by decide) (wd_190 hB _) rfl (by decide +kernel) rfl rfl (Nat.le_of_ble_eq_true rfl) rfl d_NLongNumber_copy_10 (fun f17 H locs e18 k19 hP hD hS => ?_)
  have e1 := (k19 y hne).trans e1
  have e5 := (k19 (g.lk y 2) (tg_ne (lo_k5_2 hL _ t_y) t_x (by decide))).trans e5
  have hu := hu.st k19 t_x (by decide)
  have hk20 : ∀ b, b ≠ x → f17 b = f b := fun b q0 => (k19 b q0).trans (hk16 b q0)
  refine lv_aload_n hx hb d_NLongNumber_copy_13 rfl (lv_at hl 1 rfl) ?_
  refine pf_get (v := .ref (g.lk y 2)) (C := "BigRunner$LongNumber") (T := FT4) (N := 3) hx hb (hw4 hB _) (fun _ h9 => h9) hown hK hP (lo_in hL t_y (by decide)) e1 rfl 2 (by decide) (wd_192 hB _) rfl d_NLongNumber_copy_14 ?_
  refine lv_iconst (v := nI 0) hx hb d_NLongNumber_copy_17 (by decide) ?_
  refine lv_aload_n hx hb d_NLongNumber_copy_18 rfl (lv_at hl 0 rfl) ?_
  refine pf_get (v := .ref (g.lk x 2)) (C := "BigRunner$LongNumber") (T := FT4) (N := 3) hx hb (hw4 hB _) (fun _ h9 => h9) hown hK hP (lo_in hL t_x (by decide)) e18 rfl 2 (by decide) (wd_192 hB _) rfl d_NLongNumber_copy_19 ?_
  refine lv_iconst (v := nI 0) hx hb d_NLongNumber_copy_22 (by decide) ?_
  refine lv_aload_n hx hb d_NLongNumber_copy_23 rfl (lv_at hl 1 rfl) ?_
  refine pf_get (v := .int (nI n_3)) (C := "BigRunner$LongNumber") (T := FT4) (N := 3) hx hb (hw4 hB _) (fun _ h9 => h9) hown hK hP (lo_in hL t_y (by decide)) e1 rfl 1 (by decide) (wd_190 hB _) rfl d_NLongNumber_copy_24 ?_
  have hI21 := ix_5 hI8 hL t_x hk20 (⟨sg, n_3, e18, (by omega)⟩)
  obtain ⟨h_23, e22, c24⟩ := oc_23.of (lo_k5_2 hL _ t_x) (hI21.1 (g.lk x 2))
  refine pf_copyi (n := n_3) (sp := 0) (dp := 0) hx hb (hml.trans hl.1.symm) hown (wd_747 hB _) (wd_749 hB _) (wd_748 hB _) (wd_90 hB _) hK hP hD hS (lo_in hL (lo_k5_2 hL _ t_y) (by decide)) (lo_in hL (lo_k5_2 hL _ t_x) (by decide)) e5 e22 (lo_t23 hL _ (lo_k5_2 hL _ t_y)) (lo_t23 hL _ (lo_k5_2 hL _ t_x)) (by omega) (by omega) (by decide) (by decide) (Nat.le_of_ble_eq_true rfl) (Nat.le_of_ble_eq_true rfl) d_NLongNumber_copy_27 (fun f25 H locs e26 k27 hP hD hS => ?_)
  have e1 := (k27 y (tg_ne t_y (lo_k5_2 hL _ t_x) (by decide))).trans e1
  have e5 := (k27 (g.lk y 2) (fun q9 => hne (lo_inj5 hL _ _ t_y t_x q9))).trans e5
  have e18 := (k27 x (tg_ne t_x (lo_k5_2 hL _ t_x) (by decide))).trans e18
  have hu := hu.st k27 (lo_k5_2 hL _ t_x) (by decide)
  have hk28 : ∀ b, b ≠ (g.lk x 2) → f25 b = f17 b := k27
  have c29 := lb_cpy (n0 := 15) (n1 := 15) (sp := 0) (dp := 0) (m := n_3) c7 c24 (by omega) (by omega)
  have hI30 := ix_23 hI21 hL t_x hk28 (⟨_, e26, c29⟩)
  have hI31 := IX.iv hI30 (nr_mk e18 e26 (by omega) (fun q8 => by have z := hny q8; unfold va_cpy; rw [if_pos (by omega)]; simpa using z))
  exact pe_vret hx hb hr hlocks hK hP hD hS d_NLongNumber_copy_30 ⟨hI31, hu⟩
set_option maxHeartbeats 4000000 in
set_option maxRecDepth 100000 in
theorem c_toMachine (l : Launch) (g : Lay) (sz : Nat) (f : Nat → va_E) (x : Nat) (hL : LO g) (t_x : g.tg x = 5) (hI : OC g f) : Met l ⟨"BigRunner$LongNumber", "toMachine", "()J"⟩ [Cond.code ⟨"BigRunner$LongNumber", "toMachine", "()J"⟩ prog_5_method_4_code 4 (some .long)] ({ frames := 0, cells := 0, slots := 0, locals := 0 }) (va_Pc [.ref x] (pc_in g sz f)) (va_Ql (fun r f1 => (f = f1)) (pc_out g sz) (pc_A g sz)) 0 0 (pc_A g sz) := by
  refine pe_ofW (cc := prog_5_method_4_code) (maxL := 4) (ret := (some .long)) (lv := [(0, .ref x)]) (by decide) (Nat.le_of_ble_eq_true rfl) rfl ?_
  intro p e s m args below meth c ls hx hb hr hml hlocks hown hB hP hK hD hsz hS hl
  subst hsz
  refine lv_lconst (v := nL 0) hx hb d_NLongNumber_toMachine_0 (by decide) ?_
  refine lv_lstore_n (lv' := [(1, .long (nL 0)), (0, .ref x)]) hx hb d_NLongNumber_toMachine_1 rfl hl (by decide) rfl (fun ls hl => ?_)
  refine lv_aload_n hx hb d_NLongNumber_toMachine_2 rfl (lv_at hl 1 rfl) ?_
  obtain ⟨sg_2, n_3, e1, c4⟩ := oc_5.of t_x (hI x)
  refine pf_get (v := .int (nI n_3)) (C := "BigRunner$LongNumber") (T := FT4) (N := 3) hx hb (hw4 hB _) (fun _ h9 => h9) hown hK hP (lo_in hL t_x (by decide)) e1 rfl 1 (by decide) (wd_190 hB _) rfl d_NLongNumber_toMachine_3 ?_
  refine lv_iconst (v := nI 1) hx hb d_NLongNumber_toMachine_6 (by decide) ?_
  refine lv_isub hx hb d_NLongNumber_toMachine_7 ?_
  refine lv_istore_n (lv' := [(3, .int (nI n_3 - nI 1)), (1, .long (nL 0)), (0, .ref x)]) hx hb d_NLongNumber_toMachine_8 rfl hl (by decide) rfl (fun ls hl => ?_)
  have lp5 : ∀ (k7 : Nat) (v : Int64) (j : Nat) (H : Heap) (locs : List Loc) (ls : Array Slot), (j < k7) → (j ≤ 15) → lv_has ls 4 [(3, .int (nI j - nI 1)), (1, .long v), (0, .ref x)] → va_P g.D vcl (va_pl g.LP f) H → va_D (pc_A g s.heap.size) (va_pl g.LP f) → va_S (pc_A g s.heap.size) s.heap H locs → W p l e ({ frames := 0, cells := 0, slots := 0, locals := 0 }) s m args below meth c H locs 0 0 (MQ below (va_Ql (fun r f1 => (f = f1)) (pc_out g s.heap.size) (pc_A g s.heap.size)) args s 0 0 (pc_A g s.heap.size)) (F0 m 9 ls []) := by
    intro k7
    induction k7 with
    | zero => intros; exfalso; omega
    | succ k7 ih8 =>
      intro v j H locs ls hfu9 hj hl hP hD hS
      cases j with
      | zero =>
        have hl : lv_has ls 4 [(3, .int (-1)), (1, .long v), (0, .ref x)] := by rw [show nI 0 - nI 1 = (-1 : Int32) by decide] at hl; exact hl
        refine lv_iload_n hx hb d_NLongNumber_toMachine_9 rfl (lv_at hl 0 rfl) ?_
        refine lv_if_lt (tgt := 33) hx hb d_NLongNumber_toMachine_10 (by decide) (fun b12 => ?_) (fun b12 => ?_)
        · skip
          refine lv_aload_n hx hb d_NLongNumber_toMachine_33 rfl (lv_at hl 2 rfl) ?_
          refine pf_get (v := .int sg_2) (C := "BigRunner$LongNumber") (T := FT4) (N := 3) hx hb (hw4 hB _) (fun _ h9 => h9) hown hK hP (lo_in hL t_x (by decide)) e1 rfl 0 (by decide) (wd_186 hB _) rfl d_NLongNumber_toMachine_34 ?_
          refine lv_if_ge (tgt := 45) hx hb d_NLongNumber_toMachine_37 (by decide) (fun b13 => ?_) (fun b13 => ?_)
          · skip
            refine lv_lload_n hx hb d_NLongNumber_toMachine_45 rfl (lv_at hl 1 rfl) ?_
            exact pe_lret hx hb hr hlocks hK hP hD hS d_NLongNumber_toMachine_46 rfl
          · skip
            refine lv_lload_n hx hb d_NLongNumber_toMachine_40 rfl (lv_at hl 1 rfl) ?_
            refine lv_lneg hx hb d_NLongNumber_toMachine_41 ?_
            refine lv_goto (tgt := 46) hx hb d_NLongNumber_toMachine_42 (by decide) ?_
            exact pe_lret hx hb hr hlocks hK hP hD hS d_NLongNumber_toMachine_46 rfl
        · skip
          exact absurd (by decide) b12
      | succ j =>
        have hl : lv_has ls 4 [(3, .int (nI j)), (1, .long v), (0, .ref x)] := by rw [nI_pr1] at hl; exact hl
        refine lv_iload_n hx hb d_NLongNumber_toMachine_9 rfl (lv_at hl 0 rfl) ?_
        refine lv_if_lt (tgt := 33) hx hb d_NLongNumber_toMachine_10 (by decide) (fun b14 => ?_) (fun b14 => ?_)
        · skip
          replace b14 := (nI_ltI (a := j) (b := 0) (by omega) (by omega)).mp b14
          exfalso; omega
        · skip
          replace b14 := mt (nI_ltI (a := j) (b := 0) (by omega) (by omega)).mpr b14
          refine lv_lload_n hx hb d_NLongNumber_toMachine_13 rfl (lv_at hl 1 rfl) ?_
          refine lv_ldc2 (v := 1000000000) hx hb hown (wd_685 hB _) d_NLongNumber_toMachine_14 ?_
          refine lv_topl (fun z_ hz_ => ?_)
          obtain rfl : z_ = nL 1000000000 := hz_
          refine lv_lmul hx hb d_NLongNumber_toMachine_17 ?_
          refine lv_aload_n hx hb d_NLongNumber_toMachine_18 rfl (lv_at hl 2 rfl) ?_
          refine pf_get (v := .ref (g.lk x 2)) (C := "BigRunner$LongNumber") (T := FT4) (N := 3) hx hb (hw4 hB _) (fun _ h9 => h9) hown hK hP (lo_in hL t_x (by decide)) e1 rfl 2 (by decide) (wd_192 hB _) rfl d_NLongNumber_toMachine_19 ?_
          refine lv_iload_n hx hb d_NLongNumber_toMachine_22 rfl (lv_at hl 0 rfl) ?_
          obtain ⟨h_16, e15, c17⟩ := oc_23.of (lo_k5_2 hL _ t_x) (hI (g.lk x 2))
          refine pf_iald (i := j) hx hb hK hP (lo_in hL (lo_k5_2 hL _ t_x) (by decide)) e15 (lo_t23 hL _ (lo_k5_2 hL _ t_x)) (by omega) (by decide) d_NLongNumber_toMachine_23 ?_
          refine lv_topi (fun z_ hz_ => ?_)
          obtain ⟨li18, hli18, qli18⟩ := c17 j (by omega)
          obtain rfl : z_ = nI li18 := hz_.trans qli18
          refine pf_i2lN hx hb (by omega) d_NLongNumber_toMachine_24 ?_
          refine lv_ladd hx hb d_NLongNumber_toMachine_25 ?_
          refine lv_lstore_n (lv' := [(1, .long (((v * ((nL 1000000000)))) + ((nL li18)))), (3, .int (nI j)), (0, .ref x)]) hx hb d_NLongNumber_toMachine_26 rfl hl (by decide) rfl (fun ls hl => ?_)
          refine lv_iinc (k := 1) (v := nI j - nI 1) (lv' := [(3, .int (nI j - nI 1)), (1, .long (((v * ((nL 1000000000)))) + ((nL li18)))), (0, .ref x)]) hx hb d_NLongNumber_toMachine_27 hl rfl (by rw [Int32.sub_eq_add_neg]; rfl) (by decide) rfl (fun ls hl => ?_)
          refine lv_goto (tgt := 9) hx hb d_NLongNumber_toMachine_30 (by decide) ?_
          exact ih8 (((v * ((nL 1000000000)))) + ((nL li18))) j H locs ls (by omega) (by omega) hl hP hD hS
  exact lp5 (n_3 + 1) (nL 0) n_3 s.heap [] ls (by omega) (by omega) hl hP hD hS
set_option maxHeartbeats 4000000 in
set_option maxRecDepth 100000 in
theorem c_isFarther (l : Launch) (g : Lay) (sz : Nat) (f : Nat → va_E) (x : Nat) (y : Nat) (hL : LO g) (t_x : g.tg x = 5) (t_y : g.tg y = 5) (hI : OC g f) : Met l ⟨"BigRunner$LongNumber", "isFarther", "(LBigRunner$LongNumber;LBigRunner$LongNumber;)Z"⟩ [Cond.code ⟨"BigRunner$LongNumber", "isFarther", "(LBigRunner$LongNumber;LBigRunner$LongNumber;)Z"⟩ prog_5_method_11_code 3 (some .boolean)] ({ frames := 0, cells := 0, slots := 0, locals := 0 }) (va_Pc [.ref x, .ref y] (pc_in g sz f)) (va_Qi (fun r f1 => (r = nI 0 ∨ r = nI 1) ∧ (f = f1)) (pc_out g sz) (pc_A g sz)) 0 0 (pc_A g sz) := by
  refine pe_ofW (cc := prog_5_method_11_code) (maxL := 3) (ret := (some .boolean)) (lv := [(0, .ref x), (1, .ref y)]) (by decide) (Nat.le_of_ble_eq_true rfl) rfl ?_
  intro p e s m args below meth c ls hx hb hr hml hlocks hown hB hP hK hD hsz hS hl
  subst hsz
  refine lv_aload_n hx hb d_NLongNumber_isFarther_0 rfl (lv_at hl 0 rfl) ?_
  obtain ⟨sg_2, n_3, e1, c4⟩ := oc_5.of t_x (hI x)
  refine pf_get (v := .int (nI n_3)) (C := "BigRunner$LongNumber") (T := FT4) (N := 3) hx hb (hw4 hB _) (fun _ h9 => h9) hown hK hP (lo_in hL t_x (by decide)) e1 rfl 1 (by decide) (wd_190 hB _) rfl d_NLongNumber_isFarther_1 ?_
  refine lv_aload_n hx hb d_NLongNumber_isFarther_4 rfl (lv_at hl 1 rfl) ?_
  obtain ⟨sg_6, n_7, e5, c8⟩ := oc_5.of t_y (hI y)
  refine pf_get (v := .int (nI n_7)) (C := "BigRunner$LongNumber") (T := FT4) (N := 3) hx hb (hw4 hB _) (fun _ h9 => h9) hown hK hP (lo_in hL t_y (by decide)) e5 rfl 1 (by decide) (wd_190 hB _) rfl d_NLongNumber_isFarther_5 ?_
  refine lv_icmp_eq (tgt := 28) hx hb d_NLongNumber_isFarther_8 (by decide) (fun b9 => ?_) (fun b9 => ?_)
  · skip
    replace b9 := (nI_eq (a := n_3) (b := n_7) (by omega) (by omega)).mp b9
    refine lv_aload_n hx hb d_NLongNumber_isFarther_28 rfl (lv_at hl 0 rfl) ?_
    refine pf_get (v := .int (nI n_3)) (C := "BigRunner$LongNumber") (T := FT4) (N := 3) hx hb (hw4 hB _) (fun _ h9 => h9) hown hK hP (lo_in hL t_x (by decide)) e1 rfl 1 (by decide) (wd_190 hB _) rfl d_NLongNumber_isFarther_29 ?_
    refine lv_iconst (v := nI 1) hx hb d_NLongNumber_isFarther_32 (by decide) ?_
    refine lv_isub hx hb d_NLongNumber_isFarther_33 ?_
    refine lv_istore_n (lv' := [(2, .int (nI n_3 - nI 1)), (0, .ref x), (1, .ref y)]) hx hb d_NLongNumber_isFarther_34 rfl hl (by decide) rfl (fun ls hl => ?_)
    have lp10 : ∀ (k12 : Nat) (j : Nat) (H : Heap) (locs : List Loc) (ls : Array Slot), (j < k12) → (j ≤ n_3) → (j ≤ n_7) → lv_has ls 3 [(2, .int (nI j - nI 1)), (0, .ref x), (1, .ref y)] → va_P g.D vcl (va_pl g.LP f) H → va_D (pc_A g s.heap.size) (va_pl g.LP f) → va_S (pc_A g s.heap.size) s.heap H locs → W p l e ({ frames := 0, cells := 0, slots := 0, locals := 0 }) s m args below meth c H locs 0 0 (MQ below (va_Qi (fun r f1 => (r = nI 0 ∨ r = nI 1) ∧ (f = f1)) (pc_out g s.heap.size) (pc_A g s.heap.size)) args s 0 0 (pc_A g s.heap.size)) (F0 m 35 ls []) := by
      intro k12
      induction k12 with
      | zero => intros; exfalso; omega
      | succ k12 ih13 =>
        intro j H locs ls hfu14 hj hj2 hl hP hD hS
        cases j with
        | zero =>
          have hl : lv_has ls 3 [(2, .int (-1)), (0, .ref x), (1, .ref y)] := by rw [show nI 0 - nI 1 = (-1 : Int32) by decide] at hl; exact hl
          refine lv_iload_n hx hb d_NLongNumber_isFarther_35 rfl (lv_at hl 0 rfl) ?_
          refine lv_if_lt (tgt := 81) hx hb d_NLongNumber_isFarther_36 (by decide) (fun b17 => ?_) (fun b17 => ?_)
          · skip
            refine lv_iconst (v := nI 0) hx hb d_NLongNumber_isFarther_81 (by decide) ?_
            exact pe_zret hx hb hr hlocks hK hP hD hS d_NLongNumber_isFarther_82 rfl ⟨(Or.inl rfl), rfl⟩
          · skip
            exact absurd (by decide) b17
        | succ j =>
          have hl : lv_has ls 3 [(2, .int (nI j)), (0, .ref x), (1, .ref y)] := by rw [nI_pr1] at hl; exact hl
          refine lv_iload_n hx hb d_NLongNumber_isFarther_35 rfl (lv_at hl 0 rfl) ?_
          refine lv_if_lt (tgt := 81) hx hb d_NLongNumber_isFarther_36 (by decide) (fun b18 => ?_) (fun b18 => ?_)
          · skip
            replace b18 := (nI_ltI (a := j) (b := 0) (by omega) (by omega)).mp b18
            exfalso; omega
          · skip
            replace b18 := mt (nI_ltI (a := j) (b := 0) (by omega) (by omega)).mpr b18
            refine lv_aload_n hx hb d_NLongNumber_isFarther_39 rfl (lv_at hl 1 rfl) ?_
            refine pf_get (v := .ref (g.lk x 2)) (C := "BigRunner$LongNumber") (T := FT4) (N := 3) hx hb (hw4 hB _) (fun _ h9 => h9) hown hK hP (lo_in hL t_x (by decide)) e1 rfl 2 (by decide) (wd_192 hB _) rfl d_NLongNumber_isFarther_40 ?_
            refine lv_iload_n hx hb d_NLongNumber_isFarther_43 rfl (lv_at hl 0 rfl) ?_
            obtain ⟨h_20, e19, c21⟩ := oc_23.of (lo_k5_2 hL _ t_x) (hI (g.lk x 2))
            refine pf_iald (i := j) hx hb hK hP (lo_in hL (lo_k5_2 hL _ t_x) (by decide)) e19 (lo_t23 hL _ (lo_k5_2 hL _ t_x)) (by omega) (by decide) d_NLongNumber_isFarther_44 ?_
            refine lv_topi (fun z_ hz_ => ?_)
            obtain ⟨li22, hli22, qli22⟩ := c21 j (by omega)
            obtain rfl : z_ = nI li22 := hz_.trans qli22
            refine lv_aload_n hx hb d_NLongNumber_isFarther_45 rfl (lv_at hl 2 rfl) ?_
            refine pf_get (v := .ref (g.lk y 2)) (C := "BigRunner$LongNumber") (T := FT4) (N := 3) hx hb (hw4 hB _) (fun _ h9 => h9) hown hK hP (lo_in hL t_y (by decide)) e5 rfl 2 (by decide) (wd_192 hB _) rfl d_NLongNumber_isFarther_46 ?_
            refine lv_iload_n hx hb d_NLongNumber_isFarther_49 rfl (lv_at hl 0 rfl) ?_
            obtain ⟨h_24, e23, c25⟩ := oc_23.of (lo_k5_2 hL _ t_y) (hI (g.lk y 2))
            refine pf_iald (i := j) hx hb hK hP (lo_in hL (lo_k5_2 hL _ t_y) (by decide)) e23 (lo_t23 hL _ (lo_k5_2 hL _ t_y)) (by omega) (by decide) d_NLongNumber_isFarther_50 ?_
            refine lv_topi (fun z_ hz_ => ?_)
            obtain ⟨li26, hli26, qli26⟩ := c25 j (by omega)
            obtain rfl : z_ = nI li26 := hz_.trans qli26
            refine lv_icmp_eq (tgt := 75) hx hb d_NLongNumber_isFarther_51 (by decide) (fun b27 => ?_) (fun b27 => ?_)
            · skip
              replace b27 := (nI_eq (a := li22) (b := li26) (by omega) (by omega)).mp b27
              refine lv_iinc (k := 0) (v := nI j - nI 1) (lv' := [(2, .int (nI j - nI 1)), (0, .ref x), (1, .ref y)]) hx hb d_NLongNumber_isFarther_75 hl rfl (by rw [Int32.sub_eq_add_neg]; rfl) (by decide) rfl (fun ls hl => ?_)
              refine lv_goto (tgt := 35) hx hb d_NLongNumber_isFarther_78 (by decide) ?_
              exact ih13 j H locs ls (by omega) (by omega) (by omega) hl hP hD hS
            · skip
              replace b27 := mt (nI_eq (a := li22) (b := li26) (by omega) (by omega)).mpr b27
              refine lv_aload_n hx hb d_NLongNumber_isFarther_54 rfl (lv_at hl 1 rfl) ?_
              refine pf_get (v := .ref (g.lk x 2)) (C := "BigRunner$LongNumber") (T := FT4) (N := 3) hx hb (hw4 hB _) (fun _ h9 => h9) hown hK hP (lo_in hL t_x (by decide)) e1 rfl 2 (by decide) (wd_192 hB _) rfl d_NLongNumber_isFarther_55 ?_
              refine lv_iload_n hx hb d_NLongNumber_isFarther_58 rfl (lv_at hl 0 rfl) ?_
              refine pf_iald (i := j) hx hb hK hP (lo_in hL (lo_k5_2 hL _ t_x) (by decide)) e19 (lo_t23 hL _ (lo_k5_2 hL _ t_x)) (by omega) (by decide) d_NLongNumber_isFarther_59 ?_
              refine lv_topi (fun z_ hz_ => ?_)
              obtain ⟨li28, hli28, qli28⟩ := c21 j (by omega)
              obtain rfl : z_ = nI li28 := hz_.trans qli28
              refine lv_aload_n hx hb d_NLongNumber_isFarther_60 rfl (lv_at hl 2 rfl) ?_
              refine pf_get (v := .ref (g.lk y 2)) (C := "BigRunner$LongNumber") (T := FT4) (N := 3) hx hb (hw4 hB _) (fun _ h9 => h9) hown hK hP (lo_in hL t_y (by decide)) e5 rfl 2 (by decide) (wd_192 hB _) rfl d_NLongNumber_isFarther_61 ?_
              refine lv_iload_n hx hb d_NLongNumber_isFarther_64 rfl (lv_at hl 0 rfl) ?_
              refine pf_iald (i := j) hx hb hK hP (lo_in hL (lo_k5_2 hL _ t_y) (by decide)) e23 (lo_t23 hL _ (lo_k5_2 hL _ t_y)) (by omega) (by decide) d_NLongNumber_isFarther_65 ?_
              refine lv_topi (fun z_ hz_ => ?_)
              obtain ⟨li29, hli29, qli29⟩ := c25 j (by omega)
              obtain rfl : z_ = nI li29 := hz_.trans qli29
              refine lv_icmp_le (tgt := 73) hx hb d_NLongNumber_isFarther_66 (by decide) (fun b30 => ?_) (fun b30 => ?_)
              · skip
                replace b30 := (nI_leI (a := li28) (b := li29) (by omega) (by omega)).mp b30
                refine lv_iconst (v := nI 0) hx hb d_NLongNumber_isFarther_73 (by decide) ?_
                exact pe_zret hx hb hr hlocks hK hP hD hS d_NLongNumber_isFarther_74 rfl ⟨(Or.inl rfl), rfl⟩
              · skip
                replace b30 := mt (nI_leI (a := li28) (b := li29) (by omega) (by omega)).mpr b30
                refine lv_iconst (v := nI 1) hx hb d_NLongNumber_isFarther_69 (by decide) ?_
                refine lv_goto (tgt := 74) hx hb d_NLongNumber_isFarther_70 (by decide) ?_
                exact pe_zret hx hb hr hlocks hK hP hD hS d_NLongNumber_isFarther_74 rfl ⟨(Or.inr rfl), rfl⟩
    exact lp10 (n_3 + 1) n_3 s.heap [] ls (by omega) (by omega) (by omega) hl hP hD hS
  · skip
    replace b9 := mt (nI_eq (a := n_3) (b := n_7) (by omega) (by omega)).mpr b9
    refine lv_aload_n hx hb d_NLongNumber_isFarther_11 rfl (lv_at hl 0 rfl) ?_
    refine pf_get (v := .int (nI n_3)) (C := "BigRunner$LongNumber") (T := FT4) (N := 3) hx hb (hw4 hB _) (fun _ h9 => h9) hown hK hP (lo_in hL t_x (by decide)) e1 rfl 1 (by decide) (wd_190 hB _) rfl d_NLongNumber_isFarther_12 ?_
    refine lv_aload_n hx hb d_NLongNumber_isFarther_15 rfl (lv_at hl 1 rfl) ?_
    refine pf_get (v := .int (nI n_7)) (C := "BigRunner$LongNumber") (T := FT4) (N := 3) hx hb (hw4 hB _) (fun _ h9 => h9) hown hK hP (lo_in hL t_y (by decide)) e5 rfl 1 (by decide) (wd_190 hB _) rfl d_NLongNumber_isFarther_16 ?_
    refine lv_icmp_le (tgt := 26) hx hb d_NLongNumber_isFarther_19 (by decide) (fun b31 => ?_) (fun b31 => ?_)
    · skip
      replace b31 := (nI_leI (a := n_3) (b := n_7) (by omega) (by omega)).mp b31
      refine lv_iconst (v := nI 0) hx hb d_NLongNumber_isFarther_26 (by decide) ?_
      exact pe_zret hx hb hr hlocks hK hP hD hS d_NLongNumber_isFarther_27 rfl ⟨(Or.inl rfl), rfl⟩
    · skip
      replace b31 := mt (nI_leI (a := n_3) (b := n_7) (by omega) (by omega)).mpr b31
      refine lv_iconst (v := nI 1) hx hb d_NLongNumber_isFarther_22 (by decide) ?_
      refine lv_goto (tgt := 27) hx hb d_NLongNumber_isFarther_23 (by decide) ?_
      exact pe_zret hx hb hr hlocks hK hP hD hS d_NLongNumber_isFarther_27 rfl ⟨(Or.inr rfl), rfl⟩
set_option maxHeartbeats 4000000 in
set_option maxRecDepth 100000 in
theorem c_addLimbs (l : Launch) (g : Lay) (sz : Nat) (f : Nat → va_E) (x : Nat) (y : Nat) (z : Nat) (sg : Int32) (hL : LO g) (t_x : g.tg x = 5) (t_y : g.tg y = 5) (t_z : g.tg z = 5) (hI : IV g f) (h1 : y ≠ x) (h2 : z ≠ x) : Met l ⟨"BigRunner$LongNumber", "addLimbs", "(LBigRunner$LongNumber;LBigRunner$LongNumber;I)V"⟩ [Cond.code ⟨"BigRunner$LongNumber", "addLimbs", "(LBigRunner$LongNumber;LBigRunner$LongNumber;I)V"⟩ prog_5_method_13_code 8 none] ({ frames := 2, cells := 0, slots := 0, locals := 62 }) (va_Pc [.ref x, .ref y, .ref z, .int sg] (pc_in g sz f)) (va_Qv (fun f1 => (IV g f1) ∧ (un [5, 23] g f f1)) (pc_out g sz) (pc_A g sz)) 0 0 (pc_A g sz) := by
  refine pe_ofW (cc := prog_5_method_13_code) (maxL := 8) (ret := none) (lv := [(0, .ref x), (1, .ref y), (2, .ref z), (3, .int sg)]) (by decide) (Nat.le_of_ble_eq_true rfl) rfl ?_
  intro p e s m args below meth c ls hx hb hr hml hlocks hown hB hP hK hD hsz hS hl
  subst hsz
  have hu : un [5, 23] g f f := un.rf
  obtain ⟨sg_2, n_3, e1, c4⟩ := oc_5.of t_x (hI.1 x)
  have hI5 := IV.ix hI x
  refine lv_aload_n hx hb d_NLongNumber_addLimbs_0 rfl (lv_at hl 1 rfl) ?_
  obtain ⟨sg_7, n_8, e6, c9⟩ := oc_5.of t_y (hI5.1 y)
  refine pf_get (v := .int (nI n_8)) (C := "BigRunner$LongNumber") (T := FT4) (N := 3) hx hb (hw4 hB _) (fun _ h9 => h9) hown hK hP (lo_in hL t_y (by decide)) e6 rfl 1 (by decide) (wd_190 hB _) rfl d_NLongNumber_addLimbs_1 ?_
  refine lv_aload_n hx hb d_NLongNumber_addLimbs_4 rfl (lv_at hl 2 rfl) ?_
  obtain ⟨sg_11, n_12, e10, c13⟩ := oc_5.of t_z (hI5.1 z)
  refine pf_get (v := .int (nI n_12)) (C := "BigRunner$LongNumber") (T := FT4) (N := 3) hx hb (hw4 hB _) (fun _ h9 => h9) hown hK hP (lo_in hL t_z (by decide)) e10 rfl 1 (by decide) (wd_190 hB _) rfl d_NLongNumber_addLimbs_5 ?_
  refine va_mmax hx hb (hml.trans hl.1.symm) hown (wd_772 hB _) (wd_773 hB _) (wd_83 hB _) (wd_774 hB _) (Nat.le_of_ble_eq_true rfl) (Nat.le_of_ble_eq_true rfl) (Nat.le_of_ble_eq_true rfl) (Nat.le_of_ble_eq_true rfl) d_NLongNumber_addLimbs_8 ?_
  refine lv_topi (fun z_ hz_ => ?_)
  obtain ⟨mn14, hmn14⟩ : ∃ z : Nat, z = max n_8 n_12 := ⟨_, rfl⟩
  obtain rfl : z_ = nI mn14 := by rw [hz_, hmn14]; exact mi_max (a := n_8) (b := n_12) (by omega) (by omega)
  refine lv_iconst (v := nI 1) hx hb d_NLongNumber_addLimbs_11 (by decide) ?_
  refine pf_iaddN (x := mn14) (y := 1) hx hb d_NLongNumber_addLimbs_12 ?_
  refine lv_bipush (v := nI 15) hx hb d_NLongNumber_addLimbs_13 (by decide) ?_
  refine va_mmin hx hb (hml.trans hl.1.symm) hown (wd_775 hB _) (wd_459 hB _) (wd_83 hB _) (wd_460 hB _) (Nat.le_of_ble_eq_true rfl) (Nat.le_of_ble_eq_true rfl) (Nat.le_of_ble_eq_true rfl) (Nat.le_of_ble_eq_true rfl) d_NLongNumber_addLimbs_15 ?_
  refine lv_topi (fun z_ hz_ => ?_)
  obtain ⟨mn15, hmn15⟩ : ∃ z : Nat, z = min (mn14 + 1) 15 := ⟨_, rfl⟩
  obtain rfl : z_ = nI mn15 := by rw [hz_, hmn15]; exact mi_min (a := mn14 + 1) (b := 15) (by omega) (by omega)
  refine lv_istore (lv' := [(4, .int (nI mn15)), (0, .ref x), (1, .ref y), (2, .ref z), (3, .int sg)]) hx hb d_NLongNumber_addLimbs_18 hl (by decide) rfl (fun ls hl => ?_)
  refine lv_iconst (v := nI 0) hx hb d_NLongNumber_addLimbs_20 (by decide) ?_
  refine lv_istore (lv' := [(5, .int (nI 0)), (4, .int (nI mn15)), (0, .ref x), (1, .ref y), (2, .ref z), (3, .int sg)]) hx hb d_NLongNumber_addLimbs_21 hl (by decide) rfl (fun ls hl => ?_)
  refine lv_iconst (v := nI 0) hx hb d_NLongNumber_addLimbs_23 (by decide) ?_
  refine lv_istore (lv' := [(6, .int (nI 0)), (5, .int (nI 0)), (4, .int (nI mn15)), (0, .ref x), (1, .ref y), (2, .ref z), (3, .int sg)]) hx hb d_NLongNumber_addLimbs_24 hl (by decide) rfl (fun ls hl => ?_)
  have lp16 : ∀ (k18 : Nat) (cy : Nat) (i : Nat) (f17 : Nat → va_E) (H : Heap) (locs : List Loc) (ls : Array Slot), (mn15 < i + k18) → (cy ≤ 1) → (i ≤ mn15) → IX g x f17 → un [23] g f f17 → lv_has ls 8 [(6, .int (nI i)), (5, .int (nI cy)), (4, .int (nI mn15)), (0, .ref x), (1, .ref y), (2, .ref z), (3, .int sg)] → va_P g.D vcl (va_pl g.LP f17) H → va_D (pc_A g s.heap.size) (va_pl g.LP f17) → va_S (pc_A g s.heap.size) s.heap H locs → W p l e ({ frames := 2, cells := 0, slots := 0, locals := 62 }) s m args below meth c H locs 0 0 (MQ below (va_Qv (fun f1 => (IV g f1) ∧ (un [5, 23] g f f1)) (pc_out g s.heap.size) (pc_A g s.heap.size)) args s 0 0 (pc_A g s.heap.size)) (F0 m 26 ls []) := by
    intro k18
    induction k18 with
    | zero => intros; exfalso; omega
    | succ k18 ih19 =>
      intro cy i f17 H locs ls hfu20 hcy hi hI21 hv22 hl hP hD hS
      have e1 := hv22.at t_x (by decide) e1
      have e6 := hv22.at t_y (by decide) e6
      have e10 := hv22.at t_z (by decide) e10
      have hu := hu.tr hv22 (by decide)
      refine lv_iload hx hb d_NLongNumber_addLimbs_26 (lv_at hl 0 rfl) ?_
      refine lv_iload hx hb d_NLongNumber_addLimbs_28 (lv_at hl 2 rfl) ?_
      refine lv_icmp_ge (tgt := 86) hx hb d_NLongNumber_addLimbs_30 (by decide) (fun b23 => ?_) (fun b23 => ?_)
      · skip
        replace b23 := (nI_leI (a := mn15) (b := i) (by omega) (by omega)).mp b23
        refine lv_aload_n hx hb d_NLongNumber_addLimbs_86 rfl (lv_at hl 3 rfl) ?_
        refine lv_iload hx hb d_NLongNumber_addLimbs_87 (lv_at hl 2 rfl) ?_
        refine lv_iload_n hx hb d_NLongNumber_addLimbs_89 rfl (lv_at hl 6 rfl) ?_
        refine pcc_v (va_runV (C := "BigRunner$LongNumber") (As := [.int (nI mn15), .int sg]) (rest := []) ⟨hx, hb, hml, hown, tb_nil⟩ (c_finish l g H.size f17 x mn15 sg hL t_x hI21 (by omega)) ⟨(callB_of 2 (tb_one (wd_784 hB _)) tb_good1 rfl rfl rfl (wd_78 hB _) (wd_781 hB _) (by decide +kernel) ⟨Nat.le_of_ble_eq_true rfl, Nat.le_of_ble_eq_true rfl⟩), (wd_782 hB _), (wd_783 hB _)⟩ ⟨pe_bl, pg_recv (ci := 4) hK hP (lo_in hL t_x (by decide)) e1 rfl, pe_pre hB hK hP hD⟩ rfl rfl hl.1 rfl (lv_room (Nat.le_of_ble_eq_true rfl)) d_NLongNumber_addLimbs_90 ⟨Nat.le_of_ble_eq_true rfl, Nat.le_of_ble_eq_true rfl⟩) hS (fun f25 H locs hq26 hP hD hS => ?_)
        obtain ⟨hI1_27, hu1_28⟩ := hq26
        have hu := hu.tr hu1_28 (by decide)
        exact pe_vret hx hb hr hlocks hK hP hD hS d_NLongNumber_addLimbs_93 ⟨hI1_27, hu⟩
      · skip
        replace b23 := mt (nI_leI (a := mn15) (b := i) (by omega) (by omega)).mpr b23
        refine lv_aload_n hx hb d_NLongNumber_addLimbs_33 rfl (lv_at hl 4 rfl) ?_
        refine lv_iload hx hb d_NLongNumber_addLimbs_34 (lv_at hl 0 rfl) ?_
        refine pcc_i (va_runV (C := "BigRunner$LongNumber") (As := [.int (nI i)]) (rest := []) ⟨hx, hb, hml, hown, tb_nil⟩ (c_limb l g H.size f17 y i hL t_y hI21.1 (by omega)) ⟨(callB_of 1 (tb_one (wd_779 hB _)) tb_good1 rfl rfl rfl (wd_78 hB _) (wd_776 hB _) (by decide +kernel) ⟨Nat.le_of_ble_eq_true rfl, Nat.le_of_ble_eq_true rfl⟩), (wd_778 hB _), (wd_31 hB _)⟩ ⟨pe_bl, pg_recv (ci := 4) hK hP (lo_in hL t_y (by decide)) e6 rfl, pe_pre hB hK hP hD⟩ rfl rfl hl.1 rfl (lv_room (Nat.le_of_ble_eq_true rfl)) d_NLongNumber_addLimbs_36 ⟨Nat.le_of_ble_eq_true rfl, Nat.le_of_ble_eq_true rfl⟩) hS (fun r29 f30 H locs hq31 hP hD hS => ?_)
        obtain ⟨lb_32, rfl⟩ := hq31
        obtain ⟨kr33, hkr33_0, rfl⟩ := lb_32
        refine lv_aload_n hx hb d_NLongNumber_addLimbs_39 rfl (lv_at hl 5 rfl) ?_
        refine lv_iload hx hb d_NLongNumber_addLimbs_40 (lv_at hl 0 rfl) ?_
        refine pcc_i (va_runV (C := "BigRunner$LongNumber") (As := [.int (nI i)]) (rest := [.int (nI kr33)]) ⟨hx, hb, hml, hown, tb_nil⟩ (c_limb l g H.size f17 z i hL t_z hI21.1 (by omega)) ⟨(callB_of 1 (tb_one (wd_779 hB _)) tb_good1 rfl rfl rfl (wd_78 hB _) (wd_776 hB _) (by decide +kernel) ⟨Nat.le_of_ble_eq_true rfl, Nat.le_of_ble_eq_true rfl⟩), (wd_778 hB _), (wd_31 hB _)⟩ ⟨pe_bl, pg_recv (ci := 4) hK hP (lo_in hL t_z (by decide)) e10 rfl, pe_pre hB hK hP hD⟩ rfl rfl hl.1 rfl (lv_room (Nat.le_of_ble_eq_true rfl)) d_NLongNumber_addLimbs_42 ⟨Nat.le_of_ble_eq_true rfl, Nat.le_of_ble_eq_true rfl⟩) hS (fun r34 f35 H locs hq36 hP hD hS => ?_)
        obtain ⟨lb_37, rfl⟩ := hq36
        obtain ⟨kr38, hkr38_0, rfl⟩ := lb_37
        refine pf_iaddN (x := kr33) (y := kr38) hx hb d_NLongNumber_addLimbs_45 ?_
        refine lv_iload hx hb d_NLongNumber_addLimbs_46 (lv_at hl 1 rfl) ?_
        refine pf_iaddN (x := kr33 + kr38) (y := cy) hx hb d_NLongNumber_addLimbs_48 ?_
        refine lv_istore (lv' := [(7, .int (nI ((kr33 + kr38) + cy))), (6, .int (nI i)), (5, .int (nI cy)), (4, .int (nI mn15)), (0, .ref x), (1, .ref y), (2, .ref z), (3, .int sg)]) hx hb d_NLongNumber_addLimbs_49 hl (by decide) rfl (fun ls hl => ?_)
        refine lv_iload hx hb d_NLongNumber_addLimbs_51 (lv_at hl 0 rfl) ?_
        refine lv_ldc (v := 1000000000) hx hb hown (wd_780 hB _) d_NLongNumber_addLimbs_53 ?_
        refine lv_topi (fun z_ hz_ => ?_)
        obtain rfl : z_ = nI 1000000000 := hz_
        refine lv_icmp_lt (tgt := 62) hx hb d_NLongNumber_addLimbs_55 (by decide) (fun b39 => ?_) (fun b39 => ?_)
        · skip
          replace b39 := (nI_ltI (a := (kr33 + kr38) + cy) (b := 1000000000) (by omega) (by omega)).mp b39
          refine lv_iconst (v := nI 0) hx hb d_NLongNumber_addLimbs_62 (by decide) ?_
          refine lv_istore (lv' := [(5, .int (nI 0)), (7, .int (nI ((kr33 + kr38) + cy))), (6, .int (nI i)), (4, .int (nI mn15)), (0, .ref x), (1, .ref y), (2, .ref z), (3, .int sg)]) hx hb d_NLongNumber_addLimbs_63 hl (by decide) rfl (fun ls hl => ?_)
          refine lv_aload_n hx hb d_NLongNumber_addLimbs_65 rfl (lv_at hl 4 rfl) ?_
          refine pf_get (v := .ref (g.lk x 2)) (C := "BigRunner$LongNumber") (T := FT4) (N := 3) hx hb (hw4 hB _) (fun _ h9 => h9) hown hK hP (lo_in hL t_x (by decide)) e1 rfl 2 (by decide) (wd_192 hB _) rfl d_NLongNumber_addLimbs_66 ?_
          refine lv_iload hx hb d_NLongNumber_addLimbs_69 (lv_at hl 2 rfl) ?_
          refine lv_iload hx hb d_NLongNumber_addLimbs_71 (lv_at hl 1 rfl) ?_
          refine lv_iload hx hb d_NLongNumber_addLimbs_73 (lv_at hl 0 rfl) ?_
          refine lv_ldc (v := 1000000000) hx hb hown (wd_780 hB _) d_NLongNumber_addLimbs_75 ?_
          refine lv_topi (fun z_ hz_ => ?_)
          obtain rfl : z_ = nI 1000000000 := hz_
          refine pf_imulN (x := 0) (y := 1000000000) hx hb d_NLongNumber_addLimbs_77 ?_
          refine lv_topi (fun z_ hz_ => ?_)
          obtain rfl : z_ = nI 0 := hz_.trans (congrArg nI (Nat.zero_mul 1000000000))
          refine pf_isubN (x := (kr33 + kr38) + cy) (y := 0) hx hb (by omega) d_NLongNumber_addLimbs_78 ?_
          obtain ⟨h_41, e40, c42⟩ := oc_23.of (lo_k5_2 hL _ t_x) (hI21.1 (g.lk x 2))
          refine pf_iast (i := i) hx hb hK hP hD hS (lo_in hL (lo_k5_2 hL _ t_x) (by decide)) e40 (lo_t23 hL _ (lo_k5_2 hL _ t_x)) (by omega) (by decide) d_NLongNumber_addLimbs_79 (fun f43 H locs e44 k45 hP hD hS => ?_)
          have e1 := (k45 x (tg_ne t_x (lo_k5_2 hL _ t_x) (by decide))).trans e1
          have e6 := (k45 y (tg_ne t_y (lo_k5_2 hL _ t_x) (by decide))).trans e6
          have e10 := (k45 z (tg_ne t_z (lo_k5_2 hL _ t_x) (by decide))).trans e10
          have hu := hu.st k45 (lo_k5_2 hL _ t_x) (by decide)
          have hv22 := hv22.st k45 (lo_k5_2 hL _ t_x) (by decide)
          have hk46 : ∀ b, b ≠ (g.lk x 2) → f43 b = f17 b := k45
          have c47 := lb_upd (n := 15) (i := i) (v := ((kr33 + kr38) + cy) - 0) c42 (by omega)
          refine lv_iinc (k := 2) (v := nI (i + 1)) (lv' := [(6, .int (nI (i + 1))), (5, .int (nI 0)), (7, .int (nI ((kr33 + kr38) + cy))), (4, .int (nI mn15)), (0, .ref x), (1, .ref y), (2, .ref z), (3, .int sg)]) hx hb d_NLongNumber_addLimbs_80 hl rfl (by rw [nI_succ]; rfl) (by decide) rfl (fun ls hl => ?_)
          refine lv_goto (tgt := 26) hx hb d_NLongNumber_addLimbs_83 (by decide) ?_
          have hI48 := ix_23 hI21 hL t_x hk46 (⟨_, e44, c47⟩)
          have hl : lv_has ls 8 [(6, .int (nI (i + 1))), (5, .int (nI 0)), (4, .int (nI mn15)), (0, .ref x), (1, .ref y), (2, .ref z), (3, .int sg)] := lv_sub hl [0, 1, 3, 4, 5, 6, 7] rfl
          exact ih19 0 (i + 1) f43 H locs ls (by omega) (by omega) (by omega) hI48 hv22 hl hP hD hS
        · skip
          replace b39 := mt (nI_ltI (a := (kr33 + kr38) + cy) (b := 1000000000) (by omega) (by omega)).mpr b39
          refine lv_iconst (v := nI 1) hx hb d_NLongNumber_addLimbs_58 (by decide) ?_
          refine lv_goto (tgt := 63) hx hb d_NLongNumber_addLimbs_59 (by decide) ?_
          refine lv_istore (lv' := [(5, .int (nI 1)), (7, .int (nI ((kr33 + kr38) + cy))), (6, .int (nI i)), (4, .int (nI mn15)), (0, .ref x), (1, .ref y), (2, .ref z), (3, .int sg)]) hx hb d_NLongNumber_addLimbs_63 hl (by decide) rfl (fun ls hl => ?_)
          refine lv_aload_n hx hb d_NLongNumber_addLimbs_65 rfl (lv_at hl 4 rfl) ?_
          refine pf_get (v := .ref (g.lk x 2)) (C := "BigRunner$LongNumber") (T := FT4) (N := 3) hx hb (hw4 hB _) (fun _ h9 => h9) hown hK hP (lo_in hL t_x (by decide)) e1 rfl 2 (by decide) (wd_192 hB _) rfl d_NLongNumber_addLimbs_66 ?_
          refine lv_iload hx hb d_NLongNumber_addLimbs_69 (lv_at hl 2 rfl) ?_
          refine lv_iload hx hb d_NLongNumber_addLimbs_71 (lv_at hl 1 rfl) ?_
          refine lv_iload hx hb d_NLongNumber_addLimbs_73 (lv_at hl 0 rfl) ?_
          refine lv_ldc (v := 1000000000) hx hb hown (wd_780 hB _) d_NLongNumber_addLimbs_75 ?_
          refine lv_topi (fun z_ hz_ => ?_)
          obtain rfl : z_ = nI 1000000000 := hz_
          refine pf_imulN (x := 1) (y := 1000000000) hx hb d_NLongNumber_addLimbs_77 ?_
          refine lv_topi (fun z_ hz_ => ?_)
          obtain rfl : z_ = nI 1000000000 := hz_.trans (congrArg nI (Nat.one_mul 1000000000))
          refine pf_isubN (x := (kr33 + kr38) + cy) (y := 1000000000) hx hb (by omega) d_NLongNumber_addLimbs_78 ?_
          obtain ⟨h_50, e49, c51⟩ := oc_23.of (lo_k5_2 hL _ t_x) (hI21.1 (g.lk x 2))
          refine pf_iast (i := i) hx hb hK hP hD hS (lo_in hL (lo_k5_2 hL _ t_x) (by decide)) e49 (lo_t23 hL _ (lo_k5_2 hL _ t_x)) (by omega) (by decide) d_NLongNumber_addLimbs_79 (fun f52 H locs e53 k54 hP hD hS => ?_)
          have e1 := (k54 x (tg_ne t_x (lo_k5_2 hL _ t_x) (by decide))).trans e1
          have e6 := (k54 y (tg_ne t_y (lo_k5_2 hL _ t_x) (by decide))).trans e6
          have e10 := (k54 z (tg_ne t_z (lo_k5_2 hL _ t_x) (by decide))).trans e10
          have hu := hu.st k54 (lo_k5_2 hL _ t_x) (by decide)
          have hv22 := hv22.st k54 (lo_k5_2 hL _ t_x) (by decide)
          have hk55 : ∀ b, b ≠ (g.lk x 2) → f52 b = f17 b := k54
          have c56 := lb_upd (n := 15) (i := i) (v := ((kr33 + kr38) + cy) - 1000000000) c51 (by omega)
          refine lv_iinc (k := 2) (v := nI (i + 1)) (lv' := [(6, .int (nI (i + 1))), (5, .int (nI 1)), (7, .int (nI ((kr33 + kr38) + cy))), (4, .int (nI mn15)), (0, .ref x), (1, .ref y), (2, .ref z), (3, .int sg)]) hx hb d_NLongNumber_addLimbs_80 hl rfl (by rw [nI_succ]; rfl) (by decide) rfl (fun ls hl => ?_)
          refine lv_goto (tgt := 26) hx hb d_NLongNumber_addLimbs_83 (by decide) ?_
          have hI57 := ix_23 hI21 hL t_x hk55 (⟨_, e53, c56⟩)
          have hl : lv_has ls 8 [(6, .int (nI (i + 1))), (5, .int (nI 1)), (4, .int (nI mn15)), (0, .ref x), (1, .ref y), (2, .ref z), (3, .int sg)] := lv_sub hl [0, 1, 3, 4, 5, 6, 7] rfl
          exact ih19 1 (i + 1) f52 H locs ls (by omega) (by omega) (by omega) hI57 hv22 hl hP hD hS
  exact lp16 (mn15 + 1) 0 0 f s.heap [] ls (by omega) (by omega) (by omega) hI5 un.rf hl hP hD hS
set_option maxHeartbeats 4000000 in
set_option maxRecDepth 100000 in
theorem c_subtractLimbs (l : Launch) (g : Lay) (sz : Nat) (f : Nat → va_E) (x : Nat) (y : Nat) (z : Nat) (sg : Int32) (hL : LO g) (t_x : g.tg x = 5) (t_y : g.tg y = 5) (t_z : g.tg z = 5) (hI : IV g f) (h1 : y ≠ x) (h2 : z ≠ x) : Met l ⟨"BigRunner$LongNumber", "subtractLimbs", "(LBigRunner$LongNumber;LBigRunner$LongNumber;I)V"⟩ [Cond.code ⟨"BigRunner$LongNumber", "subtractLimbs", "(LBigRunner$LongNumber;LBigRunner$LongNumber;I)V"⟩ prog_5_method_14_code 7 none] ({ frames := 2, cells := 0, slots := 0, locals := 62 }) (va_Pc [.ref x, .ref y, .ref z, .int sg] (pc_in g sz f)) (va_Qv (fun f1 => (IV g f1) ∧ (un [5, 23] g f f1)) (pc_out g sz) (pc_A g sz)) 0 0 (pc_A g sz) := by
  refine pe_ofW (cc := prog_5_method_14_code) (maxL := 7) (ret := none) (lv := [(0, .ref x), (1, .ref y), (2, .ref z), (3, .int sg)]) (by decide) (Nat.le_of_ble_eq_true rfl) rfl ?_
  intro p e s m args below meth c ls hx hb hr hml hlocks hown hB hP hK hD hsz hS hl
  subst hsz
  have hu : un [5, 23] g f f := un.rf
  obtain ⟨sg_2, n_3, e1, c4⟩ := oc_5.of t_x (hI.1 x)
  obtain ⟨sg_6, n_7, e5, c8⟩ := oc_5.of t_y (hI.1 y)
  have hI9 := IV.ix hI x
  refine lv_iconst (v := nI 0) hx hb d_NLongNumber_subtractLimbs_0 (by decide) ?_
  refine lv_istore (lv' := [(4, .int (nI 0)), (0, .ref x), (1, .ref y), (2, .ref z), (3, .int sg)]) hx hb d_NLongNumber_subtractLimbs_1 hl (by decide) rfl (fun ls hl => ?_)
  refine lv_iconst (v := nI 0) hx hb d_NLongNumber_subtractLimbs_3 (by decide) ?_
  refine lv_istore (lv' := [(5, .int (nI 0)), (4, .int (nI 0)), (0, .ref x), (1, .ref y), (2, .ref z), (3, .int sg)]) hx hb d_NLongNumber_subtractLimbs_4 hl (by decide) rfl (fun ls hl => ?_)
  have lp10 : ∀ (k12 : Nat) (cy : Nat) (i : Nat) (f11 : Nat → va_E) (H : Heap) (locs : List Loc) (ls : Array Slot), (n_7 < i + k12) → (cy ≤ 1) → (i ≤ n_7) → IX g x f11 → un [23] g f f11 → lv_has ls 7 [(5, .int (nI i)), (4, .int (nI cy)), (0, .ref x), (1, .ref y), (2, .ref z), (3, .int sg)] → va_P g.D vcl (va_pl g.LP f11) H → va_D (pc_A g s.heap.size) (va_pl g.LP f11) → va_S (pc_A g s.heap.size) s.heap H locs → W p l e ({ frames := 2, cells := 0, slots := 0, locals := 62 }) s m args below meth c H locs 0 0 (MQ below (va_Qv (fun f1 => (IV g f1) ∧ (un [5, 23] g f f1)) (pc_out g s.heap.size) (pc_A g s.heap.size)) args s 0 0 (pc_A g s.heap.size)) (F0 m 6 ls []) := by
    intro k12
    induction k12 with
    | zero => intros; exfalso; omega
    | succ k12 ih13 =>
      intro cy i f11 H locs ls hfu14 hcy hi hI15 hv16 hl hP hD hS
      have e1 := hv16.at t_x (by decide) e1
      have e5 := hv16.at t_y (by decide) e5
      have hu := hu.tr hv16 (by decide)
      refine lv_iload hx hb d_NLongNumber_subtractLimbs_6 (lv_at hl 0 rfl) ?_
      refine lv_aload_n hx hb d_NLongNumber_subtractLimbs_8 rfl (lv_at hl 3 rfl) ?_
      refine pf_get (v := .int (nI n_7)) (C := "BigRunner$LongNumber") (T := FT4) (N := 3) hx hb (hw4 hB _) (fun _ h9 => h9) hown hK hP (lo_in hL t_y (by decide)) e5 rfl 1 (by decide) (wd_190 hB _) rfl d_NLongNumber_subtractLimbs_9 ?_
      refine lv_icmp_ge (tgt := 67) hx hb d_NLongNumber_subtractLimbs_12 (by decide) (fun b17 => ?_) (fun b17 => ?_)
      · skip
        replace b17 := (nI_leI (a := n_7) (b := i) (by omega) (by omega)).mp b17
        refine lv_aload_n hx hb d_NLongNumber_subtractLimbs_67 rfl (lv_at hl 2 rfl) ?_
        refine lv_aload_n hx hb d_NLongNumber_subtractLimbs_68 rfl (lv_at hl 3 rfl) ?_
        refine pf_get (v := .int (nI n_7)) (C := "BigRunner$LongNumber") (T := FT4) (N := 3) hx hb (hw4 hB _) (fun _ h9 => h9) hown hK hP (lo_in hL t_y (by decide)) e5 rfl 1 (by decide) (wd_190 hB _) rfl d_NLongNumber_subtractLimbs_69 ?_
        refine lv_iload_n hx hb d_NLongNumber_subtractLimbs_72 rfl (lv_at hl 5 rfl) ?_
        refine pcc_v (va_runV (C := "BigRunner$LongNumber") (As := [.int (nI n_7), .int sg]) (rest := []) ⟨hx, hb, hml, hown, tb_nil⟩ (c_finish l g H.size f11 x n_7 sg hL t_x hI15 (by omega)) ⟨(callB_of 2 (tb_one (wd_784 hB _)) tb_good1 rfl rfl rfl (wd_78 hB _) (wd_781 hB _) (by decide +kernel) ⟨Nat.le_of_ble_eq_true rfl, Nat.le_of_ble_eq_true rfl⟩), (wd_782 hB _), (wd_783 hB _)⟩ ⟨pe_bl, pg_recv (ci := 4) hK hP (lo_in hL t_x (by decide)) e1 rfl, pe_pre hB hK hP hD⟩ rfl rfl hl.1 rfl (lv_room (Nat.le_of_ble_eq_true rfl)) d_NLongNumber_subtractLimbs_73 ⟨Nat.le_of_ble_eq_true rfl, Nat.le_of_ble_eq_true rfl⟩) hS (fun f19 H locs hq20 hP hD hS => ?_)
        obtain ⟨hI1_21, hu1_22⟩ := hq20
        have hu := hu.tr hu1_22 (by decide)
        exact pe_vret hx hb hr hlocks hK hP hD hS d_NLongNumber_subtractLimbs_76 ⟨hI1_21, hu⟩
      · skip
        replace b17 := mt (nI_leI (a := n_7) (b := i) (by omega) (by omega)).mpr b17
        refine lv_aload_n hx hb d_NLongNumber_subtractLimbs_15 rfl (lv_at hl 3 rfl) ?_
        refine pf_get (v := .ref (g.lk y 2)) (C := "BigRunner$LongNumber") (T := FT4) (N := 3) hx hb (hw4 hB _) (fun _ h9 => h9) hown hK hP (lo_in hL t_y (by decide)) e5 rfl 2 (by decide) (wd_192 hB _) rfl d_NLongNumber_subtractLimbs_16 ?_
        refine lv_iload hx hb d_NLongNumber_subtractLimbs_19 (lv_at hl 0 rfl) ?_
        obtain ⟨h_24, e23, c25⟩ := oc_23.of (lo_k5_2 hL _ t_y) (hI15.1 (g.lk y 2))
        refine pf_iald (i := i) hx hb hK hP (lo_in hL (lo_k5_2 hL _ t_y) (by decide)) e23 (lo_t23 hL _ (lo_k5_2 hL _ t_y)) (by omega) (by decide) d_NLongNumber_subtractLimbs_21 ?_
        refine lv_topi (fun z_ hz_ => ?_)
        obtain ⟨li26, hli26, qli26⟩ := c25 i (by omega)
        obtain rfl : z_ = nI li26 := hz_.trans qli26
        refine lv_aload_n hx hb d_NLongNumber_subtractLimbs_22 rfl (lv_at hl 4 rfl) ?_
        refine lv_iload hx hb d_NLongNumber_subtractLimbs_23 (lv_at hl 0 rfl) ?_
        obtain ⟨sg_28, n_29, e27, c30⟩ := oc_5.of t_z (hI15.1 z)
        refine pcc_i (va_runV (C := "BigRunner$LongNumber") (As := [.int (nI i)]) (rest := [.int (nI li26)]) ⟨hx, hb, hml, hown, tb_nil⟩ (c_limb l g H.size f11 z i hL t_z hI15.1 (by omega)) ⟨(callB_of 1 (tb_one (wd_779 hB _)) tb_good1 rfl rfl rfl (wd_78 hB _) (wd_776 hB _) (by decide +kernel) ⟨Nat.le_of_ble_eq_true rfl, Nat.le_of_ble_eq_true rfl⟩), (wd_778 hB _), (wd_31 hB _)⟩ ⟨pe_bl, pg_recv (ci := 4) hK hP (lo_in hL t_z (by decide)) e27 rfl, pe_pre hB hK hP hD⟩ rfl rfl hl.1 rfl (lv_room (Nat.le_of_ble_eq_true rfl)) d_NLongNumber_subtractLimbs_25 ⟨Nat.le_of_ble_eq_true rfl, Nat.le_of_ble_eq_true rfl⟩) hS (fun r31 f32 H locs hq33 hP hD hS => ?_)
        obtain ⟨lb_34, rfl⟩ := hq33
        obtain ⟨kr35, hkr35_0, rfl⟩ := lb_34
        refine lv_isub hx hb d_NLongNumber_subtractLimbs_28 ?_
        refine lv_iload hx hb d_NLongNumber_subtractLimbs_29 (lv_at hl 1 rfl) ?_
        refine lv_isub hx hb d_NLongNumber_subtractLimbs_31 ?_
        rw [nI_ss]
        refine lv_istore (lv' := [(6, .int (nI li26 - nI (kr35 + cy))), (5, .int (nI i)), (4, .int (nI cy)), (0, .ref x), (1, .ref y), (2, .ref z), (3, .int sg)]) hx hb d_NLongNumber_subtractLimbs_32 hl (by decide) rfl (fun ls hl => ?_)
        refine lv_iload hx hb d_NLongNumber_subtractLimbs_34 (lv_at hl 0 rfl) ?_
        refine lv_if_ge (tgt := 43) hx hb d_NLongNumber_subtractLimbs_36 (by decide) (fun b36 => ?_) (fun b36 => ?_)
        · skip
          replace b36 : ¬ li26 < (kr35 + cy) := fun q9 => absurd ((nI_dlt (u := li26) (m := kr35 + cy) (by omega) (by omega)).mpr q9) (Int32.not_lt.mpr b36)
          refine lv_iconst (v := nI 0) hx hb d_NLongNumber_subtractLimbs_43 (by decide) ?_
          refine lv_istore (lv' := [(4, .int (nI 0)), (6, .int (nI li26 - nI (kr35 + cy))), (5, .int (nI i)), (0, .ref x), (1, .ref y), (2, .ref z), (3, .int sg)]) hx hb d_NLongNumber_subtractLimbs_44 hl (by decide) rfl (fun ls hl => ?_)
          refine lv_aload_n hx hb d_NLongNumber_subtractLimbs_46 rfl (lv_at hl 3 rfl) ?_
          refine pf_get (v := .ref (g.lk x 2)) (C := "BigRunner$LongNumber") (T := FT4) (N := 3) hx hb (hw4 hB _) (fun _ h9 => h9) hown hK hP (lo_in hL t_x (by decide)) e1 rfl 2 (by decide) (wd_192 hB _) rfl d_NLongNumber_subtractLimbs_47 ?_
          refine lv_iload hx hb d_NLongNumber_subtractLimbs_50 (lv_at hl 2 rfl) ?_
          refine lv_iload hx hb d_NLongNumber_subtractLimbs_52 (lv_at hl 1 rfl) ?_
          refine lv_iload hx hb d_NLongNumber_subtractLimbs_54 (lv_at hl 0 rfl) ?_
          refine lv_ldc (v := 1000000000) hx hb hown (wd_780 hB _) d_NLongNumber_subtractLimbs_56 ?_
          refine lv_topi (fun z_ hz_ => ?_)
          obtain rfl : z_ = nI 1000000000 := hz_
          refine pf_imulN (x := 0) (y := 1000000000) hx hb d_NLongNumber_subtractLimbs_58 ?_
          refine lv_topi (fun z_ hz_ => ?_)
          obtain rfl : z_ = nI 0 := hz_.trans (congrArg nI (Nat.zero_mul 1000000000))
          refine lv_iadd hx hb d_NLongNumber_subtractLimbs_59 ?_
          rw [nI_dad (show (kr35 + cy) ≤ li26 + 0 by omega)]
          obtain ⟨h_38, e37, c39⟩ := oc_23.of (lo_k5_2 hL _ t_x) (hI15.1 (g.lk x 2))
          refine pf_iast (i := i) hx hb hK hP hD hS (lo_in hL (lo_k5_2 hL _ t_x) (by decide)) e37 (lo_t23 hL _ (lo_k5_2 hL _ t_x)) (by omega) (by decide) d_NLongNumber_subtractLimbs_60 (fun f40 H locs e41 k42 hP hD hS => ?_)
          have e1 := (k42 x (tg_ne t_x (lo_k5_2 hL _ t_x) (by decide))).trans e1
          have e5 := (k42 y (tg_ne t_y (lo_k5_2 hL _ t_x) (by decide))).trans e5
          have e23 := (k42 (g.lk y 2) (fun q9 => h1 (lo_inj5 hL _ _ t_y t_x q9))).trans e23
          have e27 := (k42 z (tg_ne t_z (lo_k5_2 hL _ t_x) (by decide))).trans e27
          have hu := hu.st k42 (lo_k5_2 hL _ t_x) (by decide)
          have hv16 := hv16.st k42 (lo_k5_2 hL _ t_x) (by decide)
          have hk43 : ∀ b, b ≠ (g.lk x 2) → f40 b = f11 b := k42
          have c44 := lb_upd (n := 15) (i := i) (v := li26 + 0 - (kr35 + cy)) c39 (by omega)
          refine lv_iinc (k := 2) (v := nI (i + 1)) (lv' := [(5, .int (nI (i + 1))), (4, .int (nI 0)), (6, .int (nI li26 - nI (kr35 + cy))), (0, .ref x), (1, .ref y), (2, .ref z), (3, .int sg)]) hx hb d_NLongNumber_subtractLimbs_61 hl rfl (by rw [nI_succ]; rfl) (by decide) rfl (fun ls hl => ?_)
          refine lv_goto (tgt := 6) hx hb d_NLongNumber_subtractLimbs_64 (by decide) ?_
          have hI45 := ix_23 hI15 hL t_x hk43 (⟨_, e41, c44⟩)
          have hl : lv_has ls 7 [(5, .int (nI (i + 1))), (4, .int (nI 0)), (0, .ref x), (1, .ref y), (2, .ref z), (3, .int sg)] := lv_sub hl [0, 1, 3, 4, 5, 6] rfl
          exact ih13 0 (i + 1) f40 H locs ls (by omega) (by omega) (by omega) hI45 hv16 hl hP hD hS
        · skip
          replace b36 := ((nI_dlt (u := li26) (m := kr35 + cy) (by omega) (by omega)).mp (Int32.not_le.mp b36))
          refine lv_iconst (v := nI 1) hx hb d_NLongNumber_subtractLimbs_39 (by decide) ?_
          refine lv_goto (tgt := 44) hx hb d_NLongNumber_subtractLimbs_40 (by decide) ?_
          refine lv_istore (lv' := [(4, .int (nI 1)), (6, .int (nI li26 - nI (kr35 + cy))), (5, .int (nI i)), (0, .ref x), (1, .ref y), (2, .ref z), (3, .int sg)]) hx hb d_NLongNumber_subtractLimbs_44 hl (by decide) rfl (fun ls hl => ?_)
          refine lv_aload_n hx hb d_NLongNumber_subtractLimbs_46 rfl (lv_at hl 3 rfl) ?_
          refine pf_get (v := .ref (g.lk x 2)) (C := "BigRunner$LongNumber") (T := FT4) (N := 3) hx hb (hw4 hB _) (fun _ h9 => h9) hown hK hP (lo_in hL t_x (by decide)) e1 rfl 2 (by decide) (wd_192 hB _) rfl d_NLongNumber_subtractLimbs_47 ?_
          refine lv_iload hx hb d_NLongNumber_subtractLimbs_50 (lv_at hl 2 rfl) ?_
          refine lv_iload hx hb d_NLongNumber_subtractLimbs_52 (lv_at hl 1 rfl) ?_
          refine lv_iload hx hb d_NLongNumber_subtractLimbs_54 (lv_at hl 0 rfl) ?_
          refine lv_ldc (v := 1000000000) hx hb hown (wd_780 hB _) d_NLongNumber_subtractLimbs_56 ?_
          refine lv_topi (fun z_ hz_ => ?_)
          obtain rfl : z_ = nI 1000000000 := hz_
          refine pf_imulN (x := 1) (y := 1000000000) hx hb d_NLongNumber_subtractLimbs_58 ?_
          refine lv_topi (fun z_ hz_ => ?_)
          obtain rfl : z_ = nI 1000000000 := hz_.trans (congrArg nI (Nat.one_mul 1000000000))
          refine lv_iadd hx hb d_NLongNumber_subtractLimbs_59 ?_
          rw [nI_dad (show (kr35 + cy) ≤ li26 + 1000000000 by omega)]
          obtain ⟨h_47, e46, c48⟩ := oc_23.of (lo_k5_2 hL _ t_x) (hI15.1 (g.lk x 2))
          refine pf_iast (i := i) hx hb hK hP hD hS (lo_in hL (lo_k5_2 hL _ t_x) (by decide)) e46 (lo_t23 hL _ (lo_k5_2 hL _ t_x)) (by omega) (by decide) d_NLongNumber_subtractLimbs_60 (fun f49 H locs e50 k51 hP hD hS => ?_)
          have e1 := (k51 x (tg_ne t_x (lo_k5_2 hL _ t_x) (by decide))).trans e1
          have e5 := (k51 y (tg_ne t_y (lo_k5_2 hL _ t_x) (by decide))).trans e5
          have e23 := (k51 (g.lk y 2) (fun q9 => h1 (lo_inj5 hL _ _ t_y t_x q9))).trans e23
          have e27 := (k51 z (tg_ne t_z (lo_k5_2 hL _ t_x) (by decide))).trans e27
          have hu := hu.st k51 (lo_k5_2 hL _ t_x) (by decide)
          have hv16 := hv16.st k51 (lo_k5_2 hL _ t_x) (by decide)
          have hk52 : ∀ b, b ≠ (g.lk x 2) → f49 b = f11 b := k51
          have c53 := lb_upd (n := 15) (i := i) (v := li26 + 1000000000 - (kr35 + cy)) c48 (by omega)
          refine lv_iinc (k := 2) (v := nI (i + 1)) (lv' := [(5, .int (nI (i + 1))), (4, .int (nI 1)), (6, .int (nI li26 - nI (kr35 + cy))), (0, .ref x), (1, .ref y), (2, .ref z), (3, .int sg)]) hx hb d_NLongNumber_subtractLimbs_61 hl rfl (by rw [nI_succ]; rfl) (by decide) rfl (fun ls hl => ?_)
          refine lv_goto (tgt := 6) hx hb d_NLongNumber_subtractLimbs_64 (by decide) ?_
          have hI54 := ix_23 hI15 hL t_x hk52 (⟨_, e50, c53⟩)
          have hl : lv_has ls 7 [(5, .int (nI (i + 1))), (4, .int (nI 1)), (0, .ref x), (1, .ref y), (2, .ref z), (3, .int sg)] := lv_sub hl [0, 1, 3, 4, 5, 6] rfl
          exact ih13 1 (i + 1) f49 H locs ls (by omega) (by omega) (by omega) hI54 hv16 hl hP hD hS
  exact lp10 (n_7 + 1) 0 0 f s.heap [] ls (by omega) (by omega) (by omega) hI9 un.rf hl hP hD hS
set_option maxHeartbeats 4000000 in
set_option maxRecDepth 100000 in
theorem c_setSum (l : Launch) (g : Lay) (sz : Nat) (f : Nat → va_E) (x : Nat) (y : Nat) (z : Nat) (sg : Int32) (hL : LO g) (t_x : g.tg x = 5) (t_y : g.tg y = 5) (t_z : g.tg z = 5) (hI : IV g f) (h1 : y ≠ x) (h2 : z ≠ x) : Met l ⟨"BigRunner$LongNumber", "setSum", "(LBigRunner$LongNumber;LBigRunner$LongNumber;I)Z"⟩ [Cond.code ⟨"BigRunner$LongNumber", "setSum", "(LBigRunner$LongNumber;LBigRunner$LongNumber;I)Z"⟩ prog_5_method_9_code 4 (some .boolean)] ({ frames := 3, cells := 0, slots := 0, locals := 89 }) (va_Pc [.ref x, .ref y, .ref z, .int sg] (pc_in g sz f)) (va_Qi (fun r f1 => (r = nI 0 ∨ r = nI 1) ∧ (IV g f1) ∧ (un [5, 23] g f f1)) (pc_out g sz) (pc_A g sz)) 0 0 (pc_A g sz) := by
  refine pe_ofW (cc := prog_5_method_9_code) (maxL := 4) (ret := (some .boolean)) (lv := [(0, .ref x), (1, .ref y), (2, .ref z), (3, .int sg)]) (by decide) (Nat.le_of_ble_eq_true rfl) rfl ?_
  intro p e s m args below meth c ls hx hb hr hml hlocks hown hB hP hK hD hsz hS hl
  subst hsz
  have hu : un [5, 23] g f f := un.rf
  refine lv_iload_n hx hb d_NLongNumber_setSum_0 rfl (lv_at hl 3 rfl) ?_
  refine lv_if_ne (tgt := 16) hx hb d_NLongNumber_setSum_1 (by decide) (fun b1 => ?_) (fun b1 => ?_)
  · skip
    refine lv_aload_n hx hb d_NLongNumber_setSum_16 rfl (lv_at hl 1 rfl) ?_
    obtain ⟨sg_3, n_4, e2, c5⟩ := oc_5.of t_y (hI.1 y)
    refine pf_get (v := .int sg_3) (C := "BigRunner$LongNumber") (T := FT4) (N := 3) hx hb (hw4 hB _) (fun _ h9 => h9) hown hK hP (lo_in hL t_y (by decide)) e2 rfl 0 (by decide) (wd_186 hB _) rfl d_NLongNumber_setSum_17 ?_
    refine lv_if_ne (tgt := 32) hx hb d_NLongNumber_setSum_20 (by decide) (fun b6 => ?_) (fun b6 => ?_)
    · skip
      refine lv_aload_n hx hb d_NLongNumber_setSum_32 rfl (lv_at hl 1 rfl) ?_
      refine pf_get (v := .int sg_3) (C := "BigRunner$LongNumber") (T := FT4) (N := 3) hx hb (hw4 hB _) (fun _ h9 => h9) hown hK hP (lo_in hL t_y (by decide)) e2 rfl 0 (by decide) (wd_186 hB _) rfl d_NLongNumber_setSum_33 ?_
      refine lv_iload_n hx hb d_NLongNumber_setSum_36 rfl (lv_at hl 3 rfl) ?_
      refine lv_icmp_ne (tgt := 53) hx hb d_NLongNumber_setSum_37 (by decide) (fun b7 => ?_) (fun b7 => ?_)
      · skip
        refine lv_aload_n hx hb d_NLongNumber_setSum_53 rfl (lv_at hl 1 rfl) ?_
        refine lv_aload_n hx hb d_NLongNumber_setSum_54 rfl (lv_at hl 2 rfl) ?_
        refine pcc_i (va_runS (As := [.ref y, .ref z]) (rest := []) ⟨hx, hb, hml, hown, tb_nil⟩ (c_isFarther l g s.heap.size f y z hL t_y t_z hI.1) ⟨(callB_of 2 (tb_one (wd_787 hB _)) tb_good1 rfl rfl rfl (wd_78 hB _) (wd_785 hB _) (by decide +kernel) ⟨Nat.le_of_ble_eq_true rfl, Nat.le_of_ble_eq_true rfl⟩), (wd_786 hB _)⟩ ⟨pe_bl, pe_pre hB hK hP hD⟩ rfl rfl hl.1 rfl (lv_room (Nat.le_of_ble_eq_true rfl)) d_NLongNumber_setSum_55 ⟨Nat.le_of_ble_eq_true rfl, Nat.le_of_ble_eq_true rfl⟩) hS (fun r8 f9 H locs hq10 hP hD hS => ?_)
        obtain ⟨bo_11, rfl⟩ := hq10
        refine lv_if_eq (tgt := 74) hx hb d_NLongNumber_setSum_58 (by decide) (fun b12 => ?_) (fun b12 => ?_)
        · skip
          have hr13 : r8 = nI 0 := b12
          refine lv_aload_n hx hb d_NLongNumber_setSum_74 rfl (lv_at hl 0 rfl) ?_
          refine lv_aload_n hx hb d_NLongNumber_setSum_75 rfl (lv_at hl 2 rfl) ?_
          refine lv_aload_n hx hb d_NLongNumber_setSum_76 rfl (lv_at hl 1 rfl) ?_
          refine lv_iload_n hx hb d_NLongNumber_setSum_77 rfl (lv_at hl 3 rfl) ?_
          obtain ⟨sg_15, n_16, e14, c17⟩ := oc_5.of t_x (hI.1 x)
          refine pcc_v (va_runV (C := "BigRunner$LongNumber") (As := [.ref z, .ref y, .int sg]) (rest := []) ⟨hx, hb, hml, hown, tb_nil⟩ (c_subtractLimbs l g H.size f x z y sg hL t_x t_z t_y hI h2 h1) ⟨(callB_of 3 (tb_one (wd_791 hB _)) tb_good1 rfl rfl rfl (wd_78 hB _) (wd_788 hB _) (by decide +kernel) ⟨Nat.le_of_ble_eq_true rfl, Nat.le_of_ble_eq_true rfl⟩), (wd_790 hB _), (wd_32 hB _)⟩ ⟨pe_bl, pg_recv (ci := 4) hK hP (lo_in hL t_x (by decide)) e14 rfl, pe_pre hB hK hP hD⟩ rfl rfl hl.1 rfl (lv_room (Nat.le_of_ble_eq_true rfl)) d_NLongNumber_setSum_78 ⟨Nat.le_of_ble_eq_true rfl, Nat.le_of_ble_eq_true rfl⟩) hS (fun f19 H locs hq20 hP hD hS => ?_)
          obtain ⟨hI1_21, hu1_22⟩ := hq20
          have hu := hu.tr hu1_22 (by decide)
          refine lv_aload_n hx hb d_NLongNumber_setSum_81 rfl (lv_at hl 0 rfl) ?_
          obtain ⟨sg_24, n_25, e23, c26⟩ := oc_5.of t_x (hI1_21.1 x)
          refine pcc_i (va_runV (C := "BigRunner$LongNumber") (As := []) (rest := []) ⟨hx, hb, hml, hown, tb_nil⟩ (c_fits l g H.size f19 x hL t_x hI1_21.1) ⟨(callB_of 0 (tb_one (wd_795 hB _)) tb_good1 rfl rfl rfl (wd_78 hB _) (wd_792 hB _) (by decide +kernel) ⟨Nat.le_of_ble_eq_true rfl, Nat.le_of_ble_eq_true rfl⟩), (wd_794 hB _), (wd_33 hB _)⟩ ⟨pe_bl, pg_recv (ci := 4) hK hP (lo_in hL t_x (by decide)) e23 rfl, pe_pre hB hK hP hD⟩ rfl rfl hl.1 rfl (lv_room (Nat.le_of_ble_eq_true rfl)) d_NLongNumber_setSum_82 ⟨Nat.le_of_ble_eq_true rfl, Nat.le_of_ble_eq_true rfl⟩) hS (fun r27 f28 H locs hq29 hP hD hS => ?_)
          obtain ⟨bo_30, rfl⟩ := hq29
          exact pe_zret hx hb hr hlocks hK hP hD hS d_NLongNumber_setSum_85 (by rcases bo_30 with h9 | h9 <;> rw [h9] <;> rfl) ⟨bo_30, hI1_21, hu⟩
        · skip
          have hr31 : r8 = nI 1 := (bl_1 bo_11 b12)
          refine lv_aload_n hx hb d_NLongNumber_setSum_61 rfl (lv_at hl 0 rfl) ?_
          refine lv_aload_n hx hb d_NLongNumber_setSum_62 rfl (lv_at hl 1 rfl) ?_
          refine lv_aload_n hx hb d_NLongNumber_setSum_63 rfl (lv_at hl 2 rfl) ?_
          refine lv_aload_n hx hb d_NLongNumber_setSum_64 rfl (lv_at hl 1 rfl) ?_
          refine pf_get (v := .int sg_3) (C := "BigRunner$LongNumber") (T := FT4) (N := 3) hx hb (hw4 hB _) (fun _ h9 => h9) hown hK hP (lo_in hL t_y (by decide)) e2 rfl 0 (by decide) (wd_186 hB _) rfl d_NLongNumber_setSum_65 ?_
          obtain ⟨sg_33, n_34, e32, c35⟩ := oc_5.of t_x (hI.1 x)
          refine pcc_v (va_runV (C := "BigRunner$LongNumber") (As := [.ref y, .ref z, .int sg_3]) (rest := []) ⟨hx, hb, hml, hown, tb_nil⟩ (c_subtractLimbs l g H.size f x y z sg_3 hL t_x t_y t_z hI h1 h2) ⟨(callB_of 3 (tb_one (wd_791 hB _)) tb_good1 rfl rfl rfl (wd_78 hB _) (wd_788 hB _) (by decide +kernel) ⟨Nat.le_of_ble_eq_true rfl, Nat.le_of_ble_eq_true rfl⟩), (wd_790 hB _), (wd_32 hB _)⟩ ⟨pe_bl, pg_recv (ci := 4) hK hP (lo_in hL t_x (by decide)) e32 rfl, pe_pre hB hK hP hD⟩ rfl rfl hl.1 rfl (lv_room (Nat.le_of_ble_eq_true rfl)) d_NLongNumber_setSum_68 ⟨Nat.le_of_ble_eq_true rfl, Nat.le_of_ble_eq_true rfl⟩) hS (fun f37 H locs hq38 hP hD hS => ?_)
          obtain ⟨hI1_39, hu1_40⟩ := hq38
          have hu := hu.tr hu1_40 (by decide)
          refine lv_goto (tgt := 81) hx hb d_NLongNumber_setSum_71 (by decide) ?_
          refine lv_aload_n hx hb d_NLongNumber_setSum_81 rfl (lv_at hl 0 rfl) ?_
          obtain ⟨sg_42, n_43, e41, c44⟩ := oc_5.of t_x (hI1_39.1 x)
          refine pcc_i (va_runV (C := "BigRunner$LongNumber") (As := []) (rest := []) ⟨hx, hb, hml, hown, tb_nil⟩ (c_fits l g H.size f37 x hL t_x hI1_39.1) ⟨(callB_of 0 (tb_one (wd_795 hB _)) tb_good1 rfl rfl rfl (wd_78 hB _) (wd_792 hB _) (by decide +kernel) ⟨Nat.le_of_ble_eq_true rfl, Nat.le_of_ble_eq_true rfl⟩), (wd_794 hB _), (wd_33 hB _)⟩ ⟨pe_bl, pg_recv (ci := 4) hK hP (lo_in hL t_x (by decide)) e41 rfl, pe_pre hB hK hP hD⟩ rfl rfl hl.1 rfl (lv_room (Nat.le_of_ble_eq_true rfl)) d_NLongNumber_setSum_82 ⟨Nat.le_of_ble_eq_true rfl, Nat.le_of_ble_eq_true rfl⟩) hS (fun r45 f46 H locs hq47 hP hD hS => ?_)
          obtain ⟨bo_48, rfl⟩ := hq47
          exact pe_zret hx hb hr hlocks hK hP hD hS d_NLongNumber_setSum_85 (by rcases bo_48 with h9 | h9 <;> rw [h9] <;> rfl) ⟨bo_48, hI1_39, hu⟩
      · skip
        refine lv_aload_n hx hb d_NLongNumber_setSum_40 rfl (lv_at hl 0 rfl) ?_
        refine lv_aload_n hx hb d_NLongNumber_setSum_41 rfl (lv_at hl 1 rfl) ?_
        refine lv_aload_n hx hb d_NLongNumber_setSum_42 rfl (lv_at hl 2 rfl) ?_
        refine lv_aload_n hx hb d_NLongNumber_setSum_43 rfl (lv_at hl 1 rfl) ?_
        refine pf_get (v := .int sg_3) (C := "BigRunner$LongNumber") (T := FT4) (N := 3) hx hb (hw4 hB _) (fun _ h9 => h9) hown hK hP (lo_in hL t_y (by decide)) e2 rfl 0 (by decide) (wd_186 hB _) rfl d_NLongNumber_setSum_44 ?_
        obtain ⟨sg_50, n_51, e49, c52⟩ := oc_5.of t_x (hI.1 x)
        refine pcc_v (va_runV (C := "BigRunner$LongNumber") (As := [.ref y, .ref z, .int sg_3]) (rest := []) ⟨hx, hb, hml, hown, tb_nil⟩ (c_addLimbs l g s.heap.size f x y z sg_3 hL t_x t_y t_z hI h1 h2) ⟨(callB_of 3 (tb_one (wd_771 hB _)) tb_good1 rfl rfl rfl (wd_78 hB _) (wd_768 hB _) (by decide +kernel) ⟨Nat.le_of_ble_eq_true rfl, Nat.le_of_ble_eq_true rfl⟩), (wd_770 hB _), (wd_30 hB _)⟩ ⟨pe_bl, pg_recv (ci := 4) hK hP (lo_in hL t_x (by decide)) e49 rfl, pe_pre hB hK hP hD⟩ rfl rfl hl.1 rfl (lv_room (Nat.le_of_ble_eq_true rfl)) d_NLongNumber_setSum_47 ⟨Nat.le_of_ble_eq_true rfl, Nat.le_of_ble_eq_true rfl⟩) hS (fun f54 H locs hq55 hP hD hS => ?_)
        obtain ⟨hI1_56, hu1_57⟩ := hq55
        have hu := hu.tr hu1_57 (by decide)
        refine lv_goto (tgt := 81) hx hb d_NLongNumber_setSum_50 (by decide) ?_
        refine lv_aload_n hx hb d_NLongNumber_setSum_81 rfl (lv_at hl 0 rfl) ?_
        obtain ⟨sg_59, n_60, e58, c61⟩ := oc_5.of t_x (hI1_56.1 x)
        refine pcc_i (va_runV (C := "BigRunner$LongNumber") (As := []) (rest := []) ⟨hx, hb, hml, hown, tb_nil⟩ (c_fits l g H.size f54 x hL t_x hI1_56.1) ⟨(callB_of 0 (tb_one (wd_795 hB _)) tb_good1 rfl rfl rfl (wd_78 hB _) (wd_792 hB _) (by decide +kernel) ⟨Nat.le_of_ble_eq_true rfl, Nat.le_of_ble_eq_true rfl⟩), (wd_794 hB _), (wd_33 hB _)⟩ ⟨pe_bl, pg_recv (ci := 4) hK hP (lo_in hL t_x (by decide)) e58 rfl, pe_pre hB hK hP hD⟩ rfl rfl hl.1 rfl (lv_room (Nat.le_of_ble_eq_true rfl)) d_NLongNumber_setSum_82 ⟨Nat.le_of_ble_eq_true rfl, Nat.le_of_ble_eq_true rfl⟩) hS (fun r62 f63 H locs hq64 hP hD hS => ?_)
        obtain ⟨bo_65, rfl⟩ := hq64
        exact pe_zret hx hb hr hlocks hK hP hD hS d_NLongNumber_setSum_85 (by rcases bo_65 with h9 | h9 <;> rw [h9] <;> rfl) ⟨bo_65, hI1_56, hu⟩
    · skip
      refine lv_aload_n hx hb d_NLongNumber_setSum_23 rfl (lv_at hl 0 rfl) ?_
      refine lv_aload_n hx hb d_NLongNumber_setSum_24 rfl (lv_at hl 2 rfl) ?_
      refine lv_iload_n hx hb d_NLongNumber_setSum_25 rfl (lv_at hl 3 rfl) ?_
      obtain ⟨sg_67, n_68, e66, c69⟩ := oc_5.of t_x (hI.1 x)
      refine pcc_v (va_runV (C := "BigRunner$LongNumber") (As := [.ref z, .int sg]) (rest := []) ⟨hx, hb, hml, hown, tb_nil⟩ (c_copy l g s.heap.size f x z sg hL t_x t_z hI h2) ⟨(callB_of 2 (tb_one (wd_746 hB _)) tb_good1 rfl rfl rfl (wd_78 hB _) (wd_767 hB _) (by decide +kernel) ⟨Nat.le_of_ble_eq_true rfl, Nat.le_of_ble_eq_true rfl⟩), (wd_744 hB _), (wd_745 hB _)⟩ ⟨pe_bl, pg_recv (ci := 4) hK hP (lo_in hL t_x (by decide)) e66 rfl, pe_pre hB hK hP hD⟩ rfl rfl hl.1 rfl (lv_room (Nat.le_of_ble_eq_true rfl)) d_NLongNumber_setSum_26 ⟨Nat.le_of_ble_eq_true rfl, Nat.le_of_ble_eq_true rfl⟩) hS (fun f71 H locs hq72 hP hD hS => ?_)
      obtain ⟨hI1_73, hu1_74⟩ := hq72
      have hu := hu.tr hu1_74 (by decide)
      refine lv_goto (tgt := 81) hx hb d_NLongNumber_setSum_29 (by decide) ?_
      refine lv_aload_n hx hb d_NLongNumber_setSum_81 rfl (lv_at hl 0 rfl) ?_
      obtain ⟨sg_76, n_77, e75, c78⟩ := oc_5.of t_x (hI1_73.1 x)
      refine pcc_i (va_runV (C := "BigRunner$LongNumber") (As := []) (rest := []) ⟨hx, hb, hml, hown, tb_nil⟩ (c_fits l g H.size f71 x hL t_x hI1_73.1) ⟨(callB_of 0 (tb_one (wd_795 hB _)) tb_good1 rfl rfl rfl (wd_78 hB _) (wd_792 hB _) (by decide +kernel) ⟨Nat.le_of_ble_eq_true rfl, Nat.le_of_ble_eq_true rfl⟩), (wd_794 hB _), (wd_33 hB _)⟩ ⟨pe_bl, pg_recv (ci := 4) hK hP (lo_in hL t_x (by decide)) e75 rfl, pe_pre hB hK hP hD⟩ rfl rfl hl.1 rfl (lv_room (Nat.le_of_ble_eq_true rfl)) d_NLongNumber_setSum_82 ⟨Nat.le_of_ble_eq_true rfl, Nat.le_of_ble_eq_true rfl⟩) hS (fun r79 f80 H locs hq81 hP hD hS => ?_)
      obtain ⟨bo_82, rfl⟩ := hq81
      exact pe_zret hx hb hr hlocks hK hP hD hS d_NLongNumber_setSum_85 (by rcases bo_82 with h9 | h9 <;> rw [h9] <;> rfl) ⟨bo_82, hI1_73, hu⟩
  · skip
    refine lv_aload_n hx hb d_NLongNumber_setSum_4 rfl (lv_at hl 0 rfl) ?_
    refine lv_aload_n hx hb d_NLongNumber_setSum_5 rfl (lv_at hl 1 rfl) ?_
    refine lv_aload_n hx hb d_NLongNumber_setSum_6 rfl (lv_at hl 1 rfl) ?_
    obtain ⟨sg_84, n_85, e83, c86⟩ := oc_5.of t_y (hI.1 y)
    refine pf_get (v := .int sg_84) (C := "BigRunner$LongNumber") (T := FT4) (N := 3) hx hb (hw4 hB _) (fun _ h9 => h9) hown hK hP (lo_in hL t_y (by decide)) e83 rfl 0 (by decide) (wd_186 hB _) rfl d_NLongNumber_setSum_7 ?_
    obtain ⟨sg_88, n_89, e87, c90⟩ := oc_5.of t_x (hI.1 x)
    refine pcc_v (va_runV (C := "BigRunner$LongNumber") (As := [.ref y, .int sg_84]) (rest := []) ⟨hx, hb, hml, hown, tb_nil⟩ (c_copy l g s.heap.size f x y sg_84 hL t_x t_y hI h1) ⟨(callB_of 2 (tb_one (wd_746 hB _)) tb_good1 rfl rfl rfl (wd_78 hB _) (wd_767 hB _) (by decide +kernel) ⟨Nat.le_of_ble_eq_true rfl, Nat.le_of_ble_eq_true rfl⟩), (wd_744 hB _), (wd_745 hB _)⟩ ⟨pe_bl, pg_recv (ci := 4) hK hP (lo_in hL t_x (by decide)) e87 rfl, pe_pre hB hK hP hD⟩ rfl rfl hl.1 rfl (lv_room (Nat.le_of_ble_eq_true rfl)) d_NLongNumber_setSum_10 ⟨Nat.le_of_ble_eq_true rfl, Nat.le_of_ble_eq_true rfl⟩) hS (fun f92 H locs hq93 hP hD hS => ?_)
    obtain ⟨hI1_94, hu1_95⟩ := hq93
    have hu := hu.tr hu1_95 (by decide)
    refine lv_goto (tgt := 81) hx hb d_NLongNumber_setSum_13 (by decide) ?_
    refine lv_aload_n hx hb d_NLongNumber_setSum_81 rfl (lv_at hl 0 rfl) ?_
    obtain ⟨sg_97, n_98, e96, c99⟩ := oc_5.of t_x (hI1_94.1 x)
    refine pcc_i (va_runV (C := "BigRunner$LongNumber") (As := []) (rest := []) ⟨hx, hb, hml, hown, tb_nil⟩ (c_fits l g H.size f92 x hL t_x hI1_94.1) ⟨(callB_of 0 (tb_one (wd_795 hB _)) tb_good1 rfl rfl rfl (wd_78 hB _) (wd_792 hB _) (by decide +kernel) ⟨Nat.le_of_ble_eq_true rfl, Nat.le_of_ble_eq_true rfl⟩), (wd_794 hB _), (wd_33 hB _)⟩ ⟨pe_bl, pg_recv (ci := 4) hK hP (lo_in hL t_x (by decide)) e96 rfl, pe_pre hB hK hP hD⟩ rfl rfl hl.1 rfl (lv_room (Nat.le_of_ble_eq_true rfl)) d_NLongNumber_setSum_82 ⟨Nat.le_of_ble_eq_true rfl, Nat.le_of_ble_eq_true rfl⟩) hS (fun r100 f101 H locs hq102 hP hD hS => ?_)
    obtain ⟨bo_103, rfl⟩ := hq102
    exact pe_zret hx hb hr hlocks hK hP hD hS d_NLongNumber_setSum_85 (by rcases bo_103 with h9 | h9 <;> rw [h9] <;> rfl) ⟨bo_103, hI1_94, hu⟩
