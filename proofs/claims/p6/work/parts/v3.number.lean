set_option maxHeartbeats 4000000 in
set_option maxRecDepth 100000 in
theorem v_limb (l : Launch) (g : Lay) (sz : Nat) (f : Nat → va_E) (x : Nat) (sgx : Int32) (nx : Nat) (dx : Nat → Int32) (i : Nat) (hL : LO g) (t_x : g.tg x = 5) (hI : OC g f) (eax : f x = .inr (4, [.int sgx, .int (nI nx), .ref (g.lk x 2)])) (ebx : f (g.lk x 2) = .inl (g.ac (g.lk x 2), 15, .inl dx)) (cbx : ∀ i, i < 15 → ∃ k, k < 1000000000 ∧ dx i = nI k) (hnx : nx ≤ 15) (hi : i < 2147483648) : Met l ⟨"BigRunner$LongNumber", "limb", "(I)I"⟩ [Cond.code ⟨"BigRunner$LongNumber", "limb", "(I)I"⟩ prog_5_method_12_code 2 (some .int)] ({ frames := 0, cells := 0, slots := 0, locals := 0 }) (va_Pc [.ref x, .int (nI i)] (pc_in g sz f)) (va_Qi (fun r f1 => (r = nI (lm dx nx i)) ∧ (f = f1)) (pc_out g sz) (pc_A g sz)) 0 0 (pc_A g sz) := by
  refine pe_ofW (cc := prog_5_method_12_code) (maxL := 2) (ret := (some .int)) (lv := [(0, .ref x), (1, .int (nI i))]) (by decide) (Nat.le_of_ble_eq_true rfl) rfl ?_
  intro p e s m args below meth c ls hx hb hr hml hlocks hown hB hP hK hD hsz hS hl
  subst hsz
  refine lv_iload_n hx hb d_NLongNumber_limb_0 rfl (lv_at hl 1 rfl) ?_
  refine lv_aload_n hx hb d_NLongNumber_limb_1 rfl (lv_at hl 0 rfl) ?_
  refine pf_get (v := .int (nI nx)) (C := "BigRunner$LongNumber") (T := FT4) (N := 3) hx hb (hw4 hB _) (fun _ h9 => h9) hown hK hP (lo_in hL t_x (by decide)) eax rfl 1 (by decide) (wd_190 hB _) rfl d_NLongNumber_limb_2 ?_
  refine lv_icmp_ge (tgt := 17) hx hb d_NLongNumber_limb_5 (by decide) (fun b1 => ?_) (fun b1 => ?_)
  · skip
    replace b1 := (nI_leI (a := nx) (b := i) (by omega) (by omega)).mp b1
    refine lv_iconst (v := nI 0) hx hb d_NLongNumber_limb_17 (by decide) ?_
    exact pe_iret hx hb hr hlocks hK hP hD hS d_NLongNumber_limb_18 ⟨(congrArg nI (show 0 = lm dx nx i by unfold lm; rw [if_neg (by omega)])), rfl⟩
  · skip
    replace b1 := mt (nI_leI (a := nx) (b := i) (by omega) (by omega)).mpr b1
    refine lv_aload_n hx hb d_NLongNumber_limb_8 rfl (lv_at hl 0 rfl) ?_
    refine pf_get (v := .ref (g.lk x 2)) (C := "BigRunner$LongNumber") (T := FT4) (N := 3) hx hb (hw4 hB _) (fun _ h9 => h9) hown hK hP (lo_in hL t_x (by decide)) eax rfl 2 (by decide) (wd_192 hB _) rfl d_NLongNumber_limb_9 ?_
    refine lv_iload_n hx hb d_NLongNumber_limb_12 rfl (lv_at hl 1 rfl) ?_
    refine pf_iald (i := i) hx hb hK hP (lo_in hL (lo_k5_2 hL _ t_x) (by decide)) ebx (lo_t23 hL _ (lo_k5_2 hL _ t_x)) (by omega) (by decide) d_NLongNumber_limb_13 ?_
    have hd2 := dg_lt cbx (j := i) (by omega)
    refine lv_topi (fun z_ hz_ => ?_)
    obtain rfl : z_ = nI (dg dx i) := hz_.trans (dg_eq cbx (by omega))
    refine lv_goto (tgt := 18) hx hb d_NLongNumber_limb_14 (by decide) ?_
    exact pe_iret hx hb hr hlocks hK hP hD hS d_NLongNumber_limb_18 ⟨(congrArg nI (show dg dx i = lm dx nx i by unfold lm; rw [if_pos (by omega)])), rfl⟩
set_option maxHeartbeats 4000000 in
set_option maxRecDepth 100000 in
theorem v_fits (l : Launch) (g : Lay) (sz : Nat) (f : Nat → va_E) (x : Nat) (sgx : Int32) (nx : Nat) (dx : Nat → Int32) (hL : LO g) (t_x : g.tg x = 5) (hI : OC g f) (eax : f x = .inr (4, [.int sgx, .int (nI nx), .ref (g.lk x 2)])) (ebx : f (g.lk x 2) = .inl (g.ac (g.lk x 2), 15, .inl dx)) (cbx : ∀ i, i < 15 → ∃ k, k < 1000000000 ∧ dx i = nI k) (hnx : nx ≤ 15) (htp : 0 < nx → dg dx (nx - 1) ≠ 0) : Met l ⟨"BigRunner$LongNumber", "fits", "()Z"⟩ [Cond.code ⟨"BigRunner$LongNumber", "fits", "()Z"⟩ prog_5_method_8_code 1 (some .boolean)] ({ frames := 0, cells := 0, slots := 0, locals := 0 }) (va_Pc [.ref x] (pc_in g sz f)) (va_Qi (fun r f1 => (r = nI 0 ∨ r = nI 1) ∧ (r = nI 1 → kv (dg dx) nx < T12) ∧ (r = nI 0 → T12 ≤ kv (dg dx) nx) ∧ (f = f1)) (pc_out g sz) (pc_A g sz)) 0 0 (pc_A g sz) := by
  refine pe_ofW (cc := prog_5_method_8_code) (maxL := 1) (ret := (some .boolean)) (lv := [(0, .ref x)]) (by decide) (Nat.le_of_ble_eq_true rfl) rfl ?_
  intro p e s m args below meth c ls hx hb hr hml hlocks hown hB hP hK hD hsz hS hl
  subst hsz
  refine lv_aload_n hx hb d_NLongNumber_fits_0 rfl (lv_at hl 0 rfl) ?_
  refine pf_get (v := .int (nI nx)) (C := "BigRunner$LongNumber") (T := FT4) (N := 3) hx hb (hw4 hB _) (fun _ h9 => h9) hown hK hP (lo_in hL t_x (by decide)) eax rfl 1 (by decide) (wd_190 hB _) rfl d_NLongNumber_fits_1 ?_
  refine lv_bipush (v := nI 13) hx hb d_NLongNumber_fits_4 (by decide) ?_
  refine lv_icmp_le (tgt := 31) hx hb d_NLongNumber_fits_6 (by decide) (fun b1 => ?_) (fun b1 => ?_)
  · skip
    replace b1 := (nI_leI (a := nx) (b := 13) (by omega) (by omega)).mp b1
    refine lv_iconst (v := nI 1) hx hb d_NLongNumber_fits_31 (by decide) ?_
    refine lv_goto (tgt := 36) hx hb d_NLongNumber_fits_32 (by decide) ?_
    exact pe_zret hx hb hr hlocks hK hP hD hS d_NLongNumber_fits_36 rfl ⟨(Or.inr rfl), (fun _ => by first | exact fit_1 cbx (by omega) | (have z : nx = 14 := (by omega); subst z; exact fit_2 cbx (by omega))), (fun z9 => absurd z9 (by decide)), rfl⟩
  · skip
    replace b1 := mt (nI_leI (a := nx) (b := 13) (by omega) (by omega)).mpr b1
    refine lv_aload_n hx hb d_NLongNumber_fits_9 rfl (lv_at hl 0 rfl) ?_
    refine pf_get (v := .int (nI nx)) (C := "BigRunner$LongNumber") (T := FT4) (N := 3) hx hb (hw4 hB _) (fun _ h9 => h9) hown hK hP (lo_in hL t_x (by decide)) eax rfl 1 (by decide) (wd_190 hB _) rfl d_NLongNumber_fits_10 ?_
    refine lv_bipush (v := nI 14) hx hb d_NLongNumber_fits_13 (by decide) ?_
    refine lv_icmp_ne (tgt := 35) hx hb d_NLongNumber_fits_15 (by decide) (fun b2 => ?_) (fun b2 => ?_)
    · skip
      replace b2 := mt (nI_eq (a := nx) (b := 14) (by omega) (by omega)).mpr b2
      refine lv_iconst (v := nI 0) hx hb d_NLongNumber_fits_35 (by decide) ?_
      exact pe_zret hx hb hr hlocks hK hP hD hS d_NLongNumber_fits_36 rfl ⟨(Or.inl rfl), (fun z9 => absurd z9 (by decide)), (fun _ => by first | (have z : nx = 14 := (by omega); subst z; exact fit_3 cbx (by omega)) | (have z : nx = 15 := (by omega); subst z; exact fit_4 (htp (by omega)))), rfl⟩
    · skip
      replace b2 := (nI_eq (a := nx) (b := 14) (by omega) (by omega)).mp b2
      refine lv_aload_n hx hb d_NLongNumber_fits_18 rfl (lv_at hl 0 rfl) ?_
      refine pf_get (v := .ref (g.lk x 2)) (C := "BigRunner$LongNumber") (T := FT4) (N := 3) hx hb (hw4 hB _) (fun _ h9 => h9) hown hK hP (lo_in hL t_x (by decide)) eax rfl 2 (by decide) (wd_192 hB _) rfl d_NLongNumber_fits_19 ?_
      refine lv_bipush (v := nI 13) hx hb d_NLongNumber_fits_22 (by decide) ?_
      refine pf_iald (i := 13) hx hb hK hP (lo_in hL (lo_k5_2 hL _ t_x) (by decide)) ebx (lo_t23 hL _ (lo_k5_2 hL _ t_x)) (by omega) (by decide) d_NLongNumber_fits_24 ?_
      have hd3 := dg_lt cbx (j := 13) (by omega)
      refine lv_topi (fun z_ hz_ => ?_)
      obtain rfl : z_ = nI (dg dx 13) := hz_.trans (dg_eq cbx (by omega))
      refine lv_sipush (v := nI 1000) hx hb d_NLongNumber_fits_25 (by decide) ?_
      refine lv_icmp_ge (tgt := 35) hx hb d_NLongNumber_fits_28 (by decide) (fun b4 => ?_) (fun b4 => ?_)
      · skip
        replace b4 := (nI_leI (a := 1000) (b := dg dx 13) (by omega) (by omega)).mp b4
        refine lv_iconst (v := nI 0) hx hb d_NLongNumber_fits_35 (by decide) ?_
        exact pe_zret hx hb hr hlocks hK hP hD hS d_NLongNumber_fits_36 rfl ⟨(Or.inl rfl), (fun z9 => absurd z9 (by decide)), (fun _ => by first | (have z : nx = 14 := (by omega); subst z; exact fit_3 cbx (by omega)) | (have z : nx = 15 := (by omega); subst z; exact fit_4 (htp (by omega)))), rfl⟩
      · skip
        replace b4 := mt (nI_leI (a := 1000) (b := dg dx 13) (by omega) (by omega)).mpr b4
        refine lv_iconst (v := nI 1) hx hb d_NLongNumber_fits_31 (by decide) ?_
        refine lv_goto (tgt := 36) hx hb d_NLongNumber_fits_32 (by decide) ?_
        exact pe_zret hx hb hr hlocks hK hP hD hS d_NLongNumber_fits_36 rfl ⟨(Or.inr rfl), (fun _ => by first | exact fit_1 cbx (by omega) | (have z : nx = 14 := (by omega); subst z; exact fit_2 cbx (by omega))), (fun z9 => absurd z9 (by decide)), rfl⟩
set_option maxHeartbeats 4000000 in
set_option maxRecDepth 100000 in
theorem v_finish (l : Launch) (g : Lay) (sz : Nat) (f : Nat → va_E) (x : Nat) (sgx : Int32) (nx : Nat) (dx : Nat → Int32) (n : Nat) (sg : Int32) (hL : LO g) (t_x : g.tg x = 5) (hI : IX g x f) (eax : f x = .inr (4, [.int sgx, .int (nI nx), .ref (g.lk x 2)])) (ebx : f (g.lk x 2) = .inl (g.ac (g.lk x 2), 15, .inl dx)) (cbx : ∀ i, i < 15 → ∃ k, k < 1000000000 ∧ dx i = nI k) (hn : n ≤ 15) (hnx : nx ≤ 15) (hs : FS sg (kv (dg dx) n)) : Met l ⟨"BigRunner$LongNumber", "finish", "(II)V"⟩ [Cond.code ⟨"BigRunner$LongNumber", "finish", "(II)V"⟩ prog_5_method_7_code 3 none] ({ frames := 1, cells := 0, slots := 0, locals := 40 }) (va_Pc [.ref x, .int (nI n), .int sg] (pc_in g sz f)) (va_Qv (fun f1 => (∃ (sg1 : Int32) (n1 : Nat), f1 x = .inr (4, [.int sg1, .int (nI n1), .ref (g.lk x 2)]) ∧ LNV sg1 n1 dx (sg.toInt * (kv (dg dx) n : Int))) ∧ (IV g f1) ∧ (∀ b, b ≠ x → f1 b = f b)) (pc_out g sz) (pc_A g sz)) 0 0 (pc_A g sz) := by
  refine pe_ofW (cc := prog_5_method_7_code) (maxL := 3) (ret := none) (lv := [(0, .ref x), (1, .int (nI n)), (2, .int sg)]) (by decide) (Nat.le_of_ble_eq_true rfl) rfl ?_
  intro p e s m args below meth c ls hx hb hr hml hlocks hown hB hP hK hD hsz hS hl
  subst hsz
  have hu : ∀ b, b ≠ x → f b = f b := fun _ _ => rfl
  refine lv_aload_n hx hb d_NLongNumber_finish_0 rfl (lv_at hl 0 rfl) ?_
  refine lv_iload_n hx hb d_NLongNumber_finish_1 rfl (lv_at hl 1 rfl) ?_
  refine lv_bipush (v := nI 15) hx hb d_NLongNumber_finish_2 (by decide) ?_
  refine va_mmin hx hb (hml.trans hl.1.symm) hown (wd_775 hB _) (wd_459 hB _) (wd_83 hB _) (wd_460 hB _) (Nat.le_of_ble_eq_true rfl) (Nat.le_of_ble_eq_true rfl) (Nat.le_of_ble_eq_true rfl) (Nat.le_of_ble_eq_true rfl) d_NLongNumber_finish_4 ?_
  refine lv_topi (fun z_ hz_ => ?_)
  obtain ⟨mn1, hmn1⟩ : ∃ z : Nat, z = min n 15 := ⟨_, rfl⟩
  obtain rfl : z_ = nI mn1 := by rw [hz_, hmn1]; exact mi_min (a := n) (b := 15) (by omega) (by omega)
  refine pf_put (v := .int (nI mn1)) (ty := .int) (fs' := [.int sgx, .int (nI mn1), .ref (g.lk x 2)]) (C := "BigRunner$LongNumber") (T := FT4) (N := 3) hx hb (hw4 hB _) (fun _ h9 => h9) TY4 ok4 nm4 hown hK hP hD hS (lo_in hL t_x (by decide)) eax rfl 1 (by decide) (wd_190 hB _) rfl (by decide +kernel) rfl rfl (Nat.le_of_ble_eq_true rfl) rfl d_NLongNumber_finish_7 (fun f2 H locs e3 k4 hP hD hS => ?_)
  have ebx := (k4 (g.lk x 2) (tg_ne (lo_k5_2 hL _ t_x) t_x (by decide))).trans ebx
  have hu : ∀ b, b ≠ x → f2 b = f b := fun b q0 => (k4 b q0).trans (hu b q0)
  have hk5 : ∀ b, b ≠ x → f2 b = f b := k4
  have hI6 := ix_5 hI hL t_x hk5 (⟨sgx, mn1, e3, (by omega)⟩)
  have lp7 : ∀ (k9 : Nat) (j : Nat) (f8 : Nat → va_E) (H : Heap) (locs : List Loc) (ls : Array Slot), (j < k9) → (j ≤ 15) → (kv (dg dx) j = kv (dg dx) n) → f8 x = .inr (4, [.int sgx, .int (nI j), .ref (g.lk x 2)]) → IX g x f8 → un [5] g f2 f8 → (∀ b, b ≠ x → f8 b = f b) → lv_has ls 3 [(0, .ref x), (1, .int (nI n)), (2, .int sg)] → va_P g.D vcl (va_pl g.LP f8) H → va_D (pc_A g s.heap.size) (va_pl g.LP f8) → va_S (pc_A g s.heap.size) s.heap H locs → W p l e ({ frames := 1, cells := 0, slots := 0, locals := 40 }) s m args below meth c H locs 0 0 (MQ below (va_Qv (fun f1 => (∃ (sg1 : Int32) (n1 : Nat), f1 x = .inr (4, [.int sg1, .int (nI n1), .ref (g.lk x 2)]) ∧ LNV sg1 n1 dx (sg.toInt * (kv (dg dx) n : Int))) ∧ (IV g f1) ∧ (∀ b, b ≠ x → f1 b = f b)) (pc_out g s.heap.size) (pc_A g s.heap.size)) args s 0 0 (pc_A g s.heap.size)) (F0 m 10 ls []) := by
    intro k9
    induction k9 with
    | zero => intros; exfalso; omega
    | succ k9 ih10 =>
      intro j f8 H locs ls hfu11 hj hv e12 hI13 hv14 hu hl hP hD hS
      have ebx := hv14.at (lo_k5_2 hL _ t_x) (by decide) ebx
      refine lv_aload_n hx hb d_NLongNumber_finish_10 rfl (lv_at hl 0 rfl) ?_
      refine pf_get (v := .int (nI j)) (C := "BigRunner$LongNumber") (T := FT4) (N := 3) hx hb (hw4 hB _) (fun _ h9 => h9) hown hK hP (lo_in hL t_x (by decide)) e12 rfl 1 (by decide) (wd_190 hB _) rfl d_NLongNumber_finish_11 ?_
      refine lv_if_le (tgt := 44) hx hb d_NLongNumber_finish_14 (by decide) (fun b15 => ?_) (fun b15 => ?_)
      · skip
        replace b15 := (nI_leI (a := j) (b := 0) (by omega) (by omega)).mp b15
        refine lv_aload_n hx hb d_NLongNumber_finish_44 rfl (lv_at hl 0 rfl) ?_
        refine lv_aload_n hx hb d_NLongNumber_finish_45 rfl (lv_at hl 0 rfl) ?_
        refine pf_get (v := .int (nI j)) (C := "BigRunner$LongNumber") (T := FT4) (N := 3) hx hb (hw4 hB _) (fun _ h9 => h9) hown hK hP (lo_in hL t_x (by decide)) e12 rfl 1 (by decide) (wd_190 hB _) rfl d_NLongNumber_finish_46 ?_
        refine lv_if_ne (tgt := 56) hx hb d_NLongNumber_finish_49 (by decide) (fun b16 => ?_) (fun b16 => ?_)
        · skip
          replace b16 := mt (nI_eq (a := j) (b := 0) (by omega) (by omega)).mpr b16
          refine lv_iload_n hx hb d_NLongNumber_finish_56 rfl (lv_at hl 2 rfl) ?_
          refine pf_put (v := .int sg) (ty := .int) (fs' := [.int sg, .int (nI j), .ref (g.lk x 2)]) (C := "BigRunner$LongNumber") (T := FT4) (N := 3) hx hb (hw4 hB _) (fun _ h9 => h9) TY4 ok4 nm4 hown hK hP hD hS (lo_in hL t_x (by decide)) e12 rfl 0 (by decide) (wd_186 hB _) rfl (by decide +kernel) rfl rfl (Nat.le_of_ble_eq_true rfl) rfl d_NLongNumber_finish_57 (fun f17 H locs e18 k19 hP hD hS => ?_)
          have ebx := (k19 (g.lk x 2) (tg_ne (lo_k5_2 hL _ t_x) t_x (by decide))).trans ebx
          have hu : ∀ b, b ≠ x → f17 b = f b := fun b q0 => (k19 b q0).trans (hu b q0)
          have hv14 := hv14.st k19 t_x (by decide)
          have hk20 : ∀ b, b ≠ x → f17 b = f8 b := k19
          have hI21 := ix_5 hI13 hL t_x hk20 (⟨sg, j, e18, (by omega)⟩)
          have hI22 := IX.iv hI21 (nr_mk e18 ebx (by omega) (fun q8 => by first | omega | exact dg_n0 (by omega)))
          exact pe_vret hx hb hr hlocks hK hP hD hS d_NLongNumber_finish_60 ⟨⟨_, _, e18, (by first | exact LNV_0 cbx (by omega) hv | exact LNV_p cbx (by omega) (by omega) hs hv (by omega) | (exfalso; omega))⟩, hI22, hu⟩
        · skip
          replace b16 := (nI_eq (a := j) (b := 0) (by omega) (by omega)).mp b16
          refine lv_iconst (v := nI 0) hx hb d_NLongNumber_finish_52 (by decide) ?_
          refine lv_goto (tgt := 57) hx hb d_NLongNumber_finish_53 (by decide) ?_
          refine pf_put (v := .int (nI 0)) (ty := .int) (fs' := [.int (nI 0), .int (nI j), .ref (g.lk x 2)]) (C := "BigRunner$LongNumber") (T := FT4) (N := 3) hx hb (hw4 hB _) (fun _ h9 => h9) TY4 ok4 nm4 hown hK hP hD hS (lo_in hL t_x (by decide)) e12 rfl 0 (by decide) (wd_186 hB _) rfl (by decide +kernel) rfl rfl (Nat.le_of_ble_eq_true rfl) rfl d_NLongNumber_finish_57 (fun f23 H locs e24 k25 hP hD hS => ?_)
          have ebx := (k25 (g.lk x 2) (tg_ne (lo_k5_2 hL _ t_x) t_x (by decide))).trans ebx
          have hu : ∀ b, b ≠ x → f23 b = f b := fun b q0 => (k25 b q0).trans (hu b q0)
          have hv14 := hv14.st k25 t_x (by decide)
          have hk26 : ∀ b, b ≠ x → f23 b = f8 b := k25
          have hI27 := ix_5 hI13 hL t_x hk26 (⟨((nI 0)), j, e24, (by omega)⟩)
          have hI28 := IX.iv hI27 (nr_mk e24 ebx (by omega) (fun q8 => by first | omega | exact dg_n0 (by omega)))
          exact pe_vret hx hb hr hlocks hK hP hD hS d_NLongNumber_finish_60 ⟨⟨_, _, e24, (by first | exact LNV_0 cbx (by omega) hv | exact LNV_p cbx (by omega) (by omega) hs hv (by omega) | (exfalso; omega))⟩, hI28, hu⟩
      · skip
        replace b15 := mt (nI_leI (a := j) (b := 0) (by omega) (by omega)).mpr b15
        refine lv_aload_n hx hb d_NLongNumber_finish_17 rfl (lv_at hl 0 rfl) ?_
        refine pf_get (v := .ref (g.lk x 2)) (C := "BigRunner$LongNumber") (T := FT4) (N := 3) hx hb (hw4 hB _) (fun _ h9 => h9) hown hK hP (lo_in hL t_x (by decide)) e12 rfl 2 (by decide) (wd_192 hB _) rfl d_NLongNumber_finish_18 ?_
        refine lv_aload_n hx hb d_NLongNumber_finish_21 rfl (lv_at hl 0 rfl) ?_
        refine pf_get (v := .int (nI j)) (C := "BigRunner$LongNumber") (T := FT4) (N := 3) hx hb (hw4 hB _) (fun _ h9 => h9) hown hK hP (lo_in hL t_x (by decide)) e12 rfl 1 (by decide) (wd_190 hB _) rfl d_NLongNumber_finish_22 ?_
        refine lv_iconst (v := nI 1) hx hb d_NLongNumber_finish_25 (by decide) ?_
        refine pf_isubN (x := j) (y := 1) hx hb (by omega) d_NLongNumber_finish_26 ?_
        refine pf_iald (i := j - 1) hx hb hK hP (lo_in hL (lo_k5_2 hL _ t_x) (by decide)) ebx (lo_t23 hL _ (lo_k5_2 hL _ t_x)) (by omega) (by decide) d_NLongNumber_finish_27 ?_
        have hd29 := dg_lt cbx (j := j - 1) (by omega)
        refine lv_topi (fun z_ hz_ => ?_)
        obtain rfl : z_ = nI (dg dx (j - 1)) := hz_.trans (dg_eq cbx (by omega))
        refine lv_if_ne (tgt := 44) hx hb d_NLongNumber_finish_28 (by decide) (fun b30 => ?_) (fun b30 => ?_)
        · skip
          replace b30 := mt (nI_eq (a := dg dx (j - 1)) (b := 0) (by omega) (by omega)).mpr b30
          refine lv_aload_n hx hb d_NLongNumber_finish_44 rfl (lv_at hl 0 rfl) ?_
          refine lv_aload_n hx hb d_NLongNumber_finish_45 rfl (lv_at hl 0 rfl) ?_
          refine pf_get (v := .int (nI j)) (C := "BigRunner$LongNumber") (T := FT4) (N := 3) hx hb (hw4 hB _) (fun _ h9 => h9) hown hK hP (lo_in hL t_x (by decide)) e12 rfl 1 (by decide) (wd_190 hB _) rfl d_NLongNumber_finish_46 ?_
          refine lv_if_ne (tgt := 56) hx hb d_NLongNumber_finish_49 (by decide) (fun b31 => ?_) (fun b31 => ?_)
          · skip
            replace b31 := mt (nI_eq (a := j) (b := 0) (by omega) (by omega)).mpr b31
            refine lv_iload_n hx hb d_NLongNumber_finish_56 rfl (lv_at hl 2 rfl) ?_
            refine pf_put (v := .int sg) (ty := .int) (fs' := [.int sg, .int (nI j), .ref (g.lk x 2)]) (C := "BigRunner$LongNumber") (T := FT4) (N := 3) hx hb (hw4 hB _) (fun _ h9 => h9) TY4 ok4 nm4 hown hK hP hD hS (lo_in hL t_x (by decide)) e12 rfl 0 (by decide) (wd_186 hB _) rfl (by decide +kernel) rfl rfl (Nat.le_of_ble_eq_true rfl) rfl d_NLongNumber_finish_57 (fun f32 H locs e33 k34 hP hD hS => ?_)
            have ebx := (k34 (g.lk x 2) (tg_ne (lo_k5_2 hL _ t_x) t_x (by decide))).trans ebx
            have hu : ∀ b, b ≠ x → f32 b = f b := fun b q0 => (k34 b q0).trans (hu b q0)
            have hv14 := hv14.st k34 t_x (by decide)
            have hk35 : ∀ b, b ≠ x → f32 b = f8 b := k34
            have hI36 := ix_5 hI13 hL t_x hk35 (⟨sg, j, e33, (by omega)⟩)
            have hI37 := IX.iv hI36 (nr_mk e33 ebx (by omega) (fun q8 => by first | omega | exact dg_n0 (by omega)))
            exact pe_vret hx hb hr hlocks hK hP hD hS d_NLongNumber_finish_60 ⟨⟨_, _, e33, (by first | exact LNV_0 cbx (by omega) hv | exact LNV_p cbx (by omega) (by omega) hs hv (by omega) | (exfalso; omega))⟩, hI37, hu⟩
          · skip
            replace b31 := (nI_eq (a := j) (b := 0) (by omega) (by omega)).mp b31
            refine lv_iconst (v := nI 0) hx hb d_NLongNumber_finish_52 (by decide) ?_
            refine lv_goto (tgt := 57) hx hb d_NLongNumber_finish_53 (by decide) ?_
            refine pf_put (v := .int (nI 0)) (ty := .int) (fs' := [.int (nI 0), .int (nI j), .ref (g.lk x 2)]) (C := "BigRunner$LongNumber") (T := FT4) (N := 3) hx hb (hw4 hB _) (fun _ h9 => h9) TY4 ok4 nm4 hown hK hP hD hS (lo_in hL t_x (by decide)) e12 rfl 0 (by decide) (wd_186 hB _) rfl (by decide +kernel) rfl rfl (Nat.le_of_ble_eq_true rfl) rfl d_NLongNumber_finish_57 (fun f38 H locs e39 k40 hP hD hS => ?_)
            have ebx := (k40 (g.lk x 2) (tg_ne (lo_k5_2 hL _ t_x) t_x (by decide))).trans ebx
            have hu : ∀ b, b ≠ x → f38 b = f b := fun b q0 => (k40 b q0).trans (hu b q0)
            have hv14 := hv14.st k40 t_x (by decide)
            have hk41 : ∀ b, b ≠ x → f38 b = f8 b := k40
            have hI42 := ix_5 hI13 hL t_x hk41 (⟨((nI 0)), j, e39, (by omega)⟩)
            have hI43 := IX.iv hI42 (nr_mk e39 ebx (by omega) (fun q8 => by first | omega | exact dg_n0 (by omega)))
            exact pe_vret hx hb hr hlocks hK hP hD hS d_NLongNumber_finish_60 ⟨⟨_, _, e39, (by first | exact LNV_0 cbx (by omega) hv | exact LNV_p cbx (by omega) (by omega) hs hv (by omega) | (exfalso; omega))⟩, hI43, hu⟩
        · skip
          replace b30 := (nI_eq (a := dg dx (j - 1)) (b := 0) (by omega) (by omega)).mp b30
          refine lv_aload_n hx hb d_NLongNumber_finish_31 rfl (lv_at hl 0 rfl) ?_
          refine lv_dup hx hb d_NLongNumber_finish_32 rfl ?_
          refine pf_get (v := .int (nI j)) (C := "BigRunner$LongNumber") (T := FT4) (N := 3) hx hb (hw4 hB _) (fun _ h9 => h9) hown hK hP (lo_in hL t_x (by decide)) e12 rfl 1 (by decide) (wd_190 hB _) rfl d_NLongNumber_finish_33 ?_
          refine lv_iconst (v := nI 1) hx hb d_NLongNumber_finish_36 (by decide) ?_
          refine pf_isubN (x := j) (y := 1) hx hb (by omega) d_NLongNumber_finish_37 ?_
          refine pf_put (v := .int (nI (j - 1))) (ty := .int) (fs' := [.int sgx, .int (nI (j - 1)), .ref (g.lk x 2)]) (C := "BigRunner$LongNumber") (T := FT4) (N := 3) hx hb (hw4 hB _) (fun _ h9 => h9) TY4 ok4 nm4 hown hK hP hD hS (lo_in hL t_x (by decide)) e12 rfl 1 (by decide) (wd_190 hB _) rfl (by decide +kernel) rfl rfl (Nat.le_of_ble_eq_true rfl) rfl d_NLongNumber_finish_38 (fun f44 H locs e45 k46 hP hD hS => ?_)
          have ebx := (k46 (g.lk x 2) (tg_ne (lo_k5_2 hL _ t_x) t_x (by decide))).trans ebx
          have hu : ∀ b, b ≠ x → f44 b = f b := fun b q0 => (k46 b q0).trans (hu b q0)
          have hv14 := hv14.st k46 t_x (by decide)
          have hk47 : ∀ b, b ≠ x → f44 b = f8 b := k46
          refine lv_goto (tgt := 10) hx hb d_NLongNumber_finish_41 (by decide) ?_
          have hI48 := ix_5 hI13 hL t_x hk47 (⟨sgx, (j - 1), e45, (by omega)⟩)
          exact ih10 (j - 1) f44 H locs ls (by omega) (by omega) ((kv_pz (by omega) (by omega)).trans hv) e45 hI48 hv14 hu hl hP hD hS
  exact lp7 (mn1 + 1) mn1 f2 H locs ls (by omega) (by omega) (congrArg (kv (dg dx)) (by omega)) e3 hI6 un.rf hu hl hP hD hS
set_option maxHeartbeats 4000000 in
set_option maxRecDepth 100000 in
theorem v_copy (l : Launch) (g : Lay) (sz : Nat) (f : Nat → va_E) (x : Nat) (y : Nat) (sgy : Int32) (ny : Nat) (dy : Nat → Int32) (vy : Int) (sg : Int32) (hL : LO g) (t_x : g.tg x = 5) (t_y : g.tg y = 5) (hI : IV g f) (eay : f y = .inr (4, [.int sgy, .int (nI ny), .ref (g.lk y 2)])) (eby : f (g.lk y 2) = .inl (g.ac (g.lk y 2), 15, .inl dy)) (hNy : LNV sgy ny dy vy) (hne : y ≠ x) (hs : LSg sg ny) : Met l ⟨"BigRunner$LongNumber", "copy", "(LBigRunner$LongNumber;I)V"⟩ [Cond.code ⟨"BigRunner$LongNumber", "copy", "(LBigRunner$LongNumber;I)V"⟩ prog_5_method_3_code 3 none] ({ frames := 1, cells := 0, slots := 0, locals := 60 }) (va_Pc [.ref x, .ref y, .int sg] (pc_in g sz f)) (va_Qv (fun f1 => (∃ (sg1 : Int32) (n1 : Nat) (h1 : Nat → Int32), f1 x = .inr (4, [.int sg1, .int (nI n1), .ref (g.lk x 2)]) ∧ f1 (g.lk x 2) = .inl (g.ac (g.lk x 2), 15, .inl h1) ∧ LNV sg1 n1 h1 (sg.toInt * (kv (dg dy) ny : Int))) ∧ (IV g f1) ∧ (∀ b, b ≠ x → b ≠ (g.lk x 2) → f1 b = f b)) (pc_out g sz) (pc_A g sz)) 0 0 (pc_A g sz) := by
  refine pe_ofW (cc := prog_5_method_3_code) (maxL := 3) (ret := none) (lv := [(0, .ref x), (1, .ref y), (2, .int sg)]) (by decide) (Nat.le_of_ble_eq_true rfl) rfl ?_
  intro p e s m args below meth c ls hx hb hr hml hlocks hown hB hP hK hD hsz hS hl
  subst hsz
  have hu : ∀ b, b ≠ x → b ≠ (g.lk x 2) → f b = f b := fun _ _ _  => rfl
  have cby : ∀ i, i < 15 → ∃ k, k < 1000000000 ∧ dy i = nI k := hNy.2.1
  have hny : ny ≤ 15 := hNy.1
  have hI1 := IV.ix hI x
  obtain ⟨sg_3, n_4, e2, c5⟩ := oc_5.of t_x (hI1.1 x)
  obtain ⟨h_7, e6, c8⟩ := oc_23.of (lo_k5_2 hL _ t_x) (hI1.1 (g.lk x 2))
  refine lv_aload_n hx hb d_NLongNumber_copy_0 rfl (lv_at hl 0 rfl) ?_
  refine lv_iload_n hx hb d_NLongNumber_copy_1 rfl (lv_at hl 2 rfl) ?_
  refine pf_put (v := .int sg) (ty := .int) (fs' := [.int sg, .int (nI n_4), .ref (g.lk x 2)]) (C := "BigRunner$LongNumber") (T := FT4) (N := 3) hx hb (hw4 hB _) (fun _ h9 => h9) TY4 ok4 nm4 hown hK hP hD hS (lo_in hL t_x (by decide)) e2 rfl 0 (by decide) (wd_186 hB _) rfl (by decide +kernel) rfl rfl (Nat.le_of_ble_eq_true rfl) rfl d_NLongNumber_copy_2 (fun f9 H locs e10 k11 hP hD hS => ?_)
  have eay := (k11 y hne).trans eay
  have eby := (k11 (g.lk y 2) (tg_ne (lo_k5_2 hL _ t_y) t_x (by decide))).trans eby
  have e6 := (k11 (g.lk x 2) (tg_ne (lo_k5_2 hL _ t_x) t_x (by decide))).trans e6
  have hu : ∀ b, b ≠ x → b ≠ (g.lk x 2) → f9 b = f b := fun b q0 q1 => (k11 b q0).trans (hu b q0 q1)
  have hk12 : ∀ b, b ≠ x → f9 b = f b := k11
  refine lv_aload_n hx hb d_NLongNumber_copy_5 rfl (lv_at hl 0 rfl) ?_
  refine lv_aload_n hx hb d_NLongNumber_copy_6 rfl (lv_at hl 1 rfl) ?_
  refine pf_get (v := .int (nI ny)) (C := "BigRunner$LongNumber") (T := FT4) (N := 3) hx hb (hw4 hB _) (fun _ h9 => h9) hown hK hP (lo_in hL t_y (by decide)) eay rfl 1 (by decide) (wd_190 hB _) rfl d_NLongNumber_copy_7 ?_
  refine pf_put (v := .int (nI ny)) (ty := .int) (fs' := [.int sg, .int (nI ny), .ref (g.lk x 2)]) (C := "BigRunner$LongNumber") (T := FT4) (N := 3) hx hb (hw4 hB _) (fun _ h9 => h9) TY4 ok4 nm4 hown hK hP hD hS (lo_in hL t_x (by decide)) e10 rfl 1 (by decide) (wd_190 hB _) rfl (by decide +kernel) rfl rfl (Nat.le_of_ble_eq_true rfl) rfl d_NLongNumber_copy_10 (fun f13 H locs e14 k15 hP hD hS => ?_)
  have eay := (k15 y hne).trans eay
  have eby := (k15 (g.lk y 2) (tg_ne (lo_k5_2 hL _ t_y) t_x (by decide))).trans eby
  have e6 := (k15 (g.lk x 2) (tg_ne (lo_k5_2 hL _ t_x) t_x (by decide))).trans e6
  have hu : ∀ b, b ≠ x → b ≠ (g.lk x 2) → f13 b = f b := fun b q0 q1 => (k15 b q0).trans (hu b q0 q1)
  have hk16 : ∀ b, b ≠ x → f13 b = f b := fun b q0 => (k15 b q0).trans (hk12 b q0)
  refine lv_aload_n hx hb d_NLongNumber_copy_13 rfl (lv_at hl 1 rfl) ?_
  refine pf_get (v := .ref (g.lk y 2)) (C := "BigRunner$LongNumber") (T := FT4) (N := 3) hx hb (hw4 hB _) (fun _ h9 => h9) hown hK hP (lo_in hL t_y (by decide)) eay rfl 2 (by decide) (wd_192 hB _) rfl d_NLongNumber_copy_14 ?_
  refine lv_iconst (v := nI 0) hx hb d_NLongNumber_copy_17 (by decide) ?_
  refine lv_aload_n hx hb d_NLongNumber_copy_18 rfl (lv_at hl 0 rfl) ?_
  refine pf_get (v := .ref (g.lk x 2)) (C := "BigRunner$LongNumber") (T := FT4) (N := 3) hx hb (hw4 hB _) (fun _ h9 => h9) hown hK hP (lo_in hL t_x (by decide)) e14 rfl 2 (by decide) (wd_192 hB _) rfl d_NLongNumber_copy_19 ?_
  refine lv_iconst (v := nI 0) hx hb d_NLongNumber_copy_22 (by decide) ?_
  refine lv_aload_n hx hb d_NLongNumber_copy_23 rfl (lv_at hl 1 rfl) ?_
  refine pf_get (v := .int (nI ny)) (C := "BigRunner$LongNumber") (T := FT4) (N := 3) hx hb (hw4 hB _) (fun _ h9 => h9) hown hK hP (lo_in hL t_y (by decide)) eay rfl 1 (by decide) (wd_190 hB _) rfl d_NLongNumber_copy_24 ?_
  have hI17 := ix_5 hI1 hL t_x hk16 (⟨sg, ny, e14, (by omega)⟩)
  refine pf_copyi (n := ny) (sp := 0) (dp := 0) hx hb (hml.trans hl.1.symm) hown (wd_747 hB _) (wd_749 hB _) (wd_748 hB _) (wd_90 hB _) hK hP hD hS (lo_in hL (lo_k5_2 hL _ t_y) (by decide)) (lo_in hL (lo_k5_2 hL _ t_x) (by decide)) eby e6 (lo_t23 hL _ (lo_k5_2 hL _ t_y)) (lo_t23 hL _ (lo_k5_2 hL _ t_x)) (by omega) (by omega) (by decide) (by decide) (Nat.le_of_ble_eq_true rfl) (Nat.le_of_ble_eq_true rfl) d_NLongNumber_copy_27 (fun f18 H locs e19 k20 hP hD hS => ?_)
  have eay := (k20 y (tg_ne t_y (lo_k5_2 hL _ t_x) (by decide))).trans eay
  have eby := (k20 (g.lk y 2) (fun q9 => hne (lo_inj5 hL _ _ t_y t_x q9))).trans eby
  have e14 := (k20 x (tg_ne t_x (lo_k5_2 hL _ t_x) (by decide))).trans e14
  have hu : ∀ b, b ≠ x → b ≠ (g.lk x 2) → f18 b = f b := fun b q0 q1 => (k20 b q1).trans (hu b q0 q1)
  have hk21 : ∀ b, b ≠ (g.lk x 2) → f18 b = f13 b := k20
  have c22 := lb_cpy (n0 := 15) (n1 := 15) (sp := 0) (dp := 0) (m := ny) cby c8 (by omega) (by omega)
  have hI23 := ix_23 hI17 hL t_x hk21 (⟨_, e19, c22⟩)
  have hI24 := IX.iv hI23 (nr_mk e14 e19 (by omega) (fun q8 => dg_n0 ((LNV_cpy hNy c8 hs).2.2.2.1 q8)))
  exact pe_vret hx hb hr hlocks hK hP hD hS d_NLongNumber_copy_30 ⟨⟨_, _, _, e14, e19, (LNV_cpy hNy c8 hs)⟩, hI24, hu⟩
set_option maxHeartbeats 4000000 in
set_option maxRecDepth 100000 in
theorem v_isFarther (l : Launch) (g : Lay) (sz : Nat) (f : Nat → va_E) (x : Nat) (sgx : Int32) (nx : Nat) (dx : Nat → Int32) (vx : Int) (y : Nat) (sgy : Int32) (ny : Nat) (dy : Nat → Int32) (vy : Int) (hL : LO g) (t_x : g.tg x = 5) (t_y : g.tg y = 5) (hI : OC g f) (eax : f x = .inr (4, [.int sgx, .int (nI nx), .ref (g.lk x 2)])) (ebx : f (g.lk x 2) = .inl (g.ac (g.lk x 2), 15, .inl dx)) (hNx : LNF sgx nx dx vx) (eay : f y = .inr (4, [.int sgy, .int (nI ny), .ref (g.lk y 2)])) (eby : f (g.lk y 2) = .inl (g.ac (g.lk y 2), 15, .inl dy)) (hNy : LNF sgy ny dy vy) : Met l ⟨"BigRunner$LongNumber", "isFarther", "(LBigRunner$LongNumber;LBigRunner$LongNumber;)Z"⟩ [Cond.code ⟨"BigRunner$LongNumber", "isFarther", "(LBigRunner$LongNumber;LBigRunner$LongNumber;)Z"⟩ prog_5_method_11_code 3 (some .boolean)] ({ frames := 0, cells := 0, slots := 0, locals := 0 }) (va_Pc [.ref x, .ref y] (pc_in g sz f)) (va_Qi (fun r f1 => (r = nI 0 ∨ r = nI 1) ∧ (r = nI 1 → kv (dg dy) ny ≤ kv (dg dx) nx) ∧ (r = nI 0 → kv (dg dx) nx ≤ kv (dg dy) ny) ∧ (f = f1)) (pc_out g sz) (pc_A g sz)) 0 0 (pc_A g sz) := by
  refine pe_ofW (cc := prog_5_method_11_code) (maxL := 3) (ret := (some .boolean)) (lv := [(0, .ref x), (1, .ref y)]) (by decide) (Nat.le_of_ble_eq_true rfl) rfl ?_
  intro p e s m args below meth c ls hx hb hr hml hlocks hown hB hP hK hD hsz hS hl
  subst hsz
  have cbx : ∀ i, i < 15 → ∃ k, k < 1000000000 ∧ dx i = nI k := hNx.1.2.1
  have hnx : nx ≤ 15 := hNx.1.1
  have hfx : nx ≤ 14 := LNF_14 hNx
  have cby : ∀ i, i < 15 → ∃ k, k < 1000000000 ∧ dy i = nI k := hNy.1.2.1
  have hny : ny ≤ 15 := hNy.1.1
  have hfy : ny ≤ 14 := LNF_14 hNy
  have htx := hNx.1.2.2.2.1
  have hty := hNy.1.2.2.2.1
  refine lv_aload_n hx hb d_NLongNumber_isFarther_0 rfl (lv_at hl 0 rfl) ?_
  refine pf_get (v := .int (nI nx)) (C := "BigRunner$LongNumber") (T := FT4) (N := 3) hx hb (hw4 hB _) (fun _ h9 => h9) hown hK hP (lo_in hL t_x (by decide)) eax rfl 1 (by decide) (wd_190 hB _) rfl d_NLongNumber_isFarther_1 ?_
  refine lv_aload_n hx hb d_NLongNumber_isFarther_4 rfl (lv_at hl 1 rfl) ?_
  refine pf_get (v := .int (nI ny)) (C := "BigRunner$LongNumber") (T := FT4) (N := 3) hx hb (hw4 hB _) (fun _ h9 => h9) hown hK hP (lo_in hL t_y (by decide)) eay rfl 1 (by decide) (wd_190 hB _) rfl d_NLongNumber_isFarther_5 ?_
  refine lv_icmp_eq (tgt := 28) hx hb d_NLongNumber_isFarther_8 (by decide) (fun b1 => ?_) (fun b1 => ?_)
  · skip
    replace b1 := (nI_eq (a := nx) (b := ny) (by omega) (by omega)).mp b1
    refine lv_aload_n hx hb d_NLongNumber_isFarther_28 rfl (lv_at hl 0 rfl) ?_
    refine pf_get (v := .int (nI nx)) (C := "BigRunner$LongNumber") (T := FT4) (N := 3) hx hb (hw4 hB _) (fun _ h9 => h9) hown hK hP (lo_in hL t_x (by decide)) eax rfl 1 (by decide) (wd_190 hB _) rfl d_NLongNumber_isFarther_29 ?_
    refine lv_iconst (v := nI 1) hx hb d_NLongNumber_isFarther_32 (by decide) ?_
    refine lv_isub hx hb d_NLongNumber_isFarther_33 ?_
    refine lv_istore_n (lv' := [(2, .int (nI nx - nI 1)), (0, .ref x), (1, .ref y)]) hx hb d_NLongNumber_isFarther_34 rfl hl (by decide) rfl (fun ls hl => ?_)
    have hxy : nx = ny := by omega
    have lp2 : ∀ (k4 : Nat) (j : Nat) (H : Heap) (locs : List Loc) (ls : Array Slot), (j < k4) → (j ≤ nx) → (∀ i, j ≤ i → i < nx → dg dx i = dg dy i) → lv_has ls 3 [(2, .int (nI j - nI 1)), (0, .ref x), (1, .ref y)] → va_P g.D vcl (va_pl g.LP f) H → va_D (pc_A g s.heap.size) (va_pl g.LP f) → va_S (pc_A g s.heap.size) s.heap H locs → W p l e ({ frames := 0, cells := 0, slots := 0, locals := 0 }) s m args below meth c H locs 0 0 (MQ below (va_Qi (fun r f1 => (r = nI 0 ∨ r = nI 1) ∧ (r = nI 1 → kv (dg dy) ny ≤ kv (dg dx) nx) ∧ (r = nI 0 → kv (dg dx) nx ≤ kv (dg dy) ny) ∧ (f = f1)) (pc_out g s.heap.size) (pc_A g s.heap.size)) args s 0 0 (pc_A g s.heap.size)) (F0 m 35 ls []) := by
      intro k4
      induction k4 with
      | zero => intros; exfalso; omega
      | succ k4 ih5 =>
        intro j H locs ls hfu6 hj hq hl hP hD hS
        cases j with
        | zero =>
          have hl : lv_has ls 3 [(2, .int (-1)), (0, .ref x), (1, .ref y)] := by rw [show nI 0 - nI 1 = (-1 : Int32) by decide] at hl; exact hl
          refine lv_iload_n hx hb d_NLongNumber_isFarther_35 rfl (lv_at hl 0 rfl) ?_
          refine lv_if_lt (tgt := 81) hx hb d_NLongNumber_isFarther_36 (by decide) (fun b9 => ?_) (fun b9 => ?_)
          · skip
            refine lv_iconst (v := nI 0) hx hb d_NLongNumber_isFarther_81 (by decide) ?_
            exact pe_zret hx hb hr hlocks hK hP hD hS d_NLongNumber_isFarther_82 rfl ⟨(Or.inl rfl), (fun z9 => absurd z9 (by decide)), (fun _ => by first | exact Nat.le_of_lt (kv_more (CB_lt cbx hnx) (by omega) (hty (by omega))) | (rw [← hxy]; exact Nat.le_of_lt (far_gt (j := j) (CB_lt cbx (by omega)) (by omega) (fun i q1 q2 => by have := hq i (by omega) q2; omega) (by omega))) | (rw [← hxy]; exact Nat.le_of_eq (kv_eq (fun i hi => by have := hq i (by omega) hi; omega))) | (exfalso; omega)), rfl⟩
          · skip
            exact absurd (by decide) b9
        | succ j =>
          have hl : lv_has ls 3 [(2, .int (nI j)), (0, .ref x), (1, .ref y)] := by rw [nI_pr1] at hl; exact hl
          refine lv_iload_n hx hb d_NLongNumber_isFarther_35 rfl (lv_at hl 0 rfl) ?_
          refine lv_if_lt (tgt := 81) hx hb d_NLongNumber_isFarther_36 (by decide) (fun b10 => ?_) (fun b10 => ?_)
          · skip
            replace b10 := (nI_ltI (a := j) (b := 0) (by omega) (by omega)).mp b10
            exfalso; omega
          · skip
            replace b10 := mt (nI_ltI (a := j) (b := 0) (by omega) (by omega)).mpr b10
            refine lv_aload_n hx hb d_NLongNumber_isFarther_39 rfl (lv_at hl 1 rfl) ?_
            refine pf_get (v := .ref (g.lk x 2)) (C := "BigRunner$LongNumber") (T := FT4) (N := 3) hx hb (hw4 hB _) (fun _ h9 => h9) hown hK hP (lo_in hL t_x (by decide)) eax rfl 2 (by decide) (wd_192 hB _) rfl d_NLongNumber_isFarther_40 ?_
            refine lv_iload_n hx hb d_NLongNumber_isFarther_43 rfl (lv_at hl 0 rfl) ?_
            refine pf_iald (i := j) hx hb hK hP (lo_in hL (lo_k5_2 hL _ t_x) (by decide)) ebx (lo_t23 hL _ (lo_k5_2 hL _ t_x)) (by omega) (by decide) d_NLongNumber_isFarther_44 ?_
            have hd11 := dg_lt cbx (j := j) (by omega)
            refine lv_topi (fun z_ hz_ => ?_)
            obtain rfl : z_ = nI (dg dx j) := hz_.trans (dg_eq cbx (by omega))
            refine lv_aload_n hx hb d_NLongNumber_isFarther_45 rfl (lv_at hl 2 rfl) ?_
            refine pf_get (v := .ref (g.lk y 2)) (C := "BigRunner$LongNumber") (T := FT4) (N := 3) hx hb (hw4 hB _) (fun _ h9 => h9) hown hK hP (lo_in hL t_y (by decide)) eay rfl 2 (by decide) (wd_192 hB _) rfl d_NLongNumber_isFarther_46 ?_
            refine lv_iload_n hx hb d_NLongNumber_isFarther_49 rfl (lv_at hl 0 rfl) ?_
            refine pf_iald (i := j) hx hb hK hP (lo_in hL (lo_k5_2 hL _ t_y) (by decide)) eby (lo_t23 hL _ (lo_k5_2 hL _ t_y)) (by omega) (by decide) d_NLongNumber_isFarther_50 ?_
            have hd12 := dg_lt cby (j := j) (by omega)
            refine lv_topi (fun z_ hz_ => ?_)
            obtain rfl : z_ = nI (dg dy j) := hz_.trans (dg_eq cby (by omega))
            refine lv_icmp_eq (tgt := 75) hx hb d_NLongNumber_isFarther_51 (by decide) (fun b13 => ?_) (fun b13 => ?_)
            · skip
              replace b13 := (nI_eq (a := dg dx j) (b := dg dy j) (by omega) (by omega)).mp b13
              refine lv_iinc (k := 0) (v := nI j - nI 1) (lv' := [(2, .int (nI j - nI 1)), (0, .ref x), (1, .ref y)]) hx hb d_NLongNumber_isFarther_75 hl rfl (by rw [Int32.sub_eq_add_neg]; rfl) (by decide) rfl (fun ls hl => ?_)
              refine lv_goto (tgt := 35) hx hb d_NLongNumber_isFarther_78 (by decide) ?_
              exact ih5 j H locs ls (by omega) (by omega) (fun i q1 q2 => by rcases Nat.lt_or_ge j i with q3 | q3; exact hq i (by omega) q2; obtain rfl : i = j := (by omega); omega) hl hP hD hS
            · skip
              replace b13 := mt (nI_eq (a := dg dx j) (b := dg dy j) (by omega) (by omega)).mpr b13
              refine lv_aload_n hx hb d_NLongNumber_isFarther_54 rfl (lv_at hl 1 rfl) ?_
              refine pf_get (v := .ref (g.lk x 2)) (C := "BigRunner$LongNumber") (T := FT4) (N := 3) hx hb (hw4 hB _) (fun _ h9 => h9) hown hK hP (lo_in hL t_x (by decide)) eax rfl 2 (by decide) (wd_192 hB _) rfl d_NLongNumber_isFarther_55 ?_
              refine lv_iload_n hx hb d_NLongNumber_isFarther_58 rfl (lv_at hl 0 rfl) ?_
              refine pf_iald (i := j) hx hb hK hP (lo_in hL (lo_k5_2 hL _ t_x) (by decide)) ebx (lo_t23 hL _ (lo_k5_2 hL _ t_x)) (by omega) (by decide) d_NLongNumber_isFarther_59 ?_
              have hd14 := dg_lt cbx (j := j) (by omega)
              refine lv_topi (fun z_ hz_ => ?_)
              obtain rfl : z_ = nI (dg dx j) := hz_.trans (dg_eq cbx (by omega))
              refine lv_aload_n hx hb d_NLongNumber_isFarther_60 rfl (lv_at hl 2 rfl) ?_
              refine pf_get (v := .ref (g.lk y 2)) (C := "BigRunner$LongNumber") (T := FT4) (N := 3) hx hb (hw4 hB _) (fun _ h9 => h9) hown hK hP (lo_in hL t_y (by decide)) eay rfl 2 (by decide) (wd_192 hB _) rfl d_NLongNumber_isFarther_61 ?_
              refine lv_iload_n hx hb d_NLongNumber_isFarther_64 rfl (lv_at hl 0 rfl) ?_
              refine pf_iald (i := j) hx hb hK hP (lo_in hL (lo_k5_2 hL _ t_y) (by decide)) eby (lo_t23 hL _ (lo_k5_2 hL _ t_y)) (by omega) (by decide) d_NLongNumber_isFarther_65 ?_
              have hd15 := dg_lt cby (j := j) (by omega)
              refine lv_topi (fun z_ hz_ => ?_)
              obtain rfl : z_ = nI (dg dy j) := hz_.trans (dg_eq cby (by omega))
              refine lv_icmp_le (tgt := 73) hx hb d_NLongNumber_isFarther_66 (by decide) (fun b16 => ?_) (fun b16 => ?_)
              · skip
                replace b16 := (nI_leI (a := dg dx j) (b := dg dy j) (by omega) (by omega)).mp b16
                refine lv_iconst (v := nI 0) hx hb d_NLongNumber_isFarther_73 (by decide) ?_
                exact pe_zret hx hb hr hlocks hK hP hD hS d_NLongNumber_isFarther_74 rfl ⟨(Or.inl rfl), (fun z9 => absurd z9 (by decide)), (fun _ => by first | exact Nat.le_of_lt (kv_more (CB_lt cbx hnx) (by omega) (hty (by omega))) | (rw [← hxy]; exact Nat.le_of_lt (far_gt (j := j) (CB_lt cbx (by omega)) (by omega) (fun i q1 q2 => by have := hq i (by omega) q2; omega) (by omega))) | (rw [← hxy]; exact Nat.le_of_eq (kv_eq (fun i hi => by have := hq i (by omega) hi; omega))) | (exfalso; omega)), rfl⟩
              · skip
                replace b16 := mt (nI_leI (a := dg dx j) (b := dg dy j) (by omega) (by omega)).mpr b16
                refine lv_iconst (v := nI 1) hx hb d_NLongNumber_isFarther_69 (by decide) ?_
                refine lv_goto (tgt := 74) hx hb d_NLongNumber_isFarther_70 (by decide) ?_
                exact pe_zret hx hb hr hlocks hK hP hD hS d_NLongNumber_isFarther_74 rfl ⟨(Or.inr rfl), (fun _ => by first | exact Nat.le_of_lt (kv_more (CB_lt cby hny) (by omega) (htx (by omega))) | (rw [← hxy]; exact Nat.le_of_lt (far_gt (j := j) (CB_lt cby (by omega)) (by omega) (fun i q1 q2 => by have := hq i (by omega) q2; omega) (by omega))) | (rw [← hxy]; exact Nat.le_of_eq (kv_eq (fun i hi => by have := hq i (by omega) hi; omega))) | (exfalso; omega)), (fun z9 => absurd z9 (by decide)), rfl⟩
    exact lp2 (nx + 1) nx s.heap [] ls (by omega) (by omega) (fun i q1 q2 => absurd q2 (by omega)) hl hP hD hS
  · skip
    replace b1 := mt (nI_eq (a := nx) (b := ny) (by omega) (by omega)).mpr b1
    refine lv_aload_n hx hb d_NLongNumber_isFarther_11 rfl (lv_at hl 0 rfl) ?_
    refine pf_get (v := .int (nI nx)) (C := "BigRunner$LongNumber") (T := FT4) (N := 3) hx hb (hw4 hB _) (fun _ h9 => h9) hown hK hP (lo_in hL t_x (by decide)) eax rfl 1 (by decide) (wd_190 hB _) rfl d_NLongNumber_isFarther_12 ?_
    refine lv_aload_n hx hb d_NLongNumber_isFarther_15 rfl (lv_at hl 1 rfl) ?_
    refine pf_get (v := .int (nI ny)) (C := "BigRunner$LongNumber") (T := FT4) (N := 3) hx hb (hw4 hB _) (fun _ h9 => h9) hown hK hP (lo_in hL t_y (by decide)) eay rfl 1 (by decide) (wd_190 hB _) rfl d_NLongNumber_isFarther_16 ?_
    refine lv_icmp_le (tgt := 26) hx hb d_NLongNumber_isFarther_19 (by decide) (fun b17 => ?_) (fun b17 => ?_)
    · skip
      replace b17 := (nI_leI (a := nx) (b := ny) (by omega) (by omega)).mp b17
      refine lv_iconst (v := nI 0) hx hb d_NLongNumber_isFarther_26 (by decide) ?_
      exact pe_zret hx hb hr hlocks hK hP hD hS d_NLongNumber_isFarther_27 rfl ⟨(Or.inl rfl), (fun z9 => absurd z9 (by decide)), (fun _ => by first | exact Nat.le_of_lt (kv_more (CB_lt cbx hnx) (by omega) (hty (by omega))) | (rw [← hxy]; exact Nat.le_of_lt (far_gt (j := j) (CB_lt cbx (by omega)) (by omega) (fun i q1 q2 => by have := hq i (by omega) q2; omega) (by omega))) | (rw [← hxy]; exact Nat.le_of_eq (kv_eq (fun i hi => by have := hq i (by omega) hi; omega))) | (exfalso; omega)), rfl⟩
    · skip
      replace b17 := mt (nI_leI (a := nx) (b := ny) (by omega) (by omega)).mpr b17
      refine lv_iconst (v := nI 1) hx hb d_NLongNumber_isFarther_22 (by decide) ?_
      refine lv_goto (tgt := 27) hx hb d_NLongNumber_isFarther_23 (by decide) ?_
      exact pe_zret hx hb hr hlocks hK hP hD hS d_NLongNumber_isFarther_27 rfl ⟨(Or.inr rfl), (fun _ => by first | exact Nat.le_of_lt (kv_more (CB_lt cby hny) (by omega) (htx (by omega))) | (rw [← hxy]; exact Nat.le_of_lt (far_gt (j := j) (CB_lt cby (by omega)) (by omega) (fun i q1 q2 => by have := hq i (by omega) q2; omega) (by omega))) | (rw [← hxy]; exact Nat.le_of_eq (kv_eq (fun i hi => by have := hq i (by omega) hi; omega))) | (exfalso; omega)), (fun z9 => absurd z9 (by decide)), rfl⟩
set_option maxHeartbeats 4000000 in
set_option maxRecDepth 100000 in
theorem v_addLimbs (l : Launch) (g : Lay) (sz : Nat) (f : Nat → va_E) (x : Nat) (y : Nat) (sgy : Int32) (ny : Nat) (dy : Nat → Int32) (vy : Int) (z : Nat) (sgz : Int32) (nz : Nat) (dz : Nat → Int32) (vz : Int) (sg : Int32) (hL : LO g) (t_x : g.tg x = 5) (t_y : g.tg y = 5) (t_z : g.tg z = 5) (hI : IV g f) (eay : f y = .inr (4, [.int sgy, .int (nI ny), .ref (g.lk y 2)])) (eby : f (g.lk y 2) = .inl (g.ac (g.lk y 2), 15, .inl dy)) (hNy : LNF sgy ny dy vy) (eaz : f z = .inr (4, [.int sgz, .int (nI nz), .ref (g.lk z 2)])) (ebz : f (g.lk z 2) = .inl (g.ac (g.lk z 2), 15, .inl dz)) (hNz : LNF sgz nz dz vz) (h1 : y ≠ x) (h2 : z ≠ x) (hsg : SGN sg) : Met l ⟨"BigRunner$LongNumber", "addLimbs", "(LBigRunner$LongNumber;LBigRunner$LongNumber;I)V"⟩ [Cond.code ⟨"BigRunner$LongNumber", "addLimbs", "(LBigRunner$LongNumber;LBigRunner$LongNumber;I)V"⟩ prog_5_method_13_code 8 none] ({ frames := 2, cells := 0, slots := 0, locals := 62 }) (va_Pc [.ref x, .ref y, .ref z, .int sg] (pc_in g sz f)) (va_Qv (fun f1 => (∃ (sg1 : Int32) (n1 : Nat) (h1 : Nat → Int32), f1 x = .inr (4, [.int sg1, .int (nI n1), .ref (g.lk x 2)]) ∧ f1 (g.lk x 2) = .inl (g.ac (g.lk x 2), 15, .inl h1) ∧ LNV sg1 n1 h1 (sg.toInt * ((kv (dg dy) ny + kv (dg dz) nz : Nat) : Int))) ∧ (IV g f1) ∧ (∀ b, b ≠ x → b ≠ (g.lk x 2) → f1 b = f b)) (pc_out g sz) (pc_A g sz)) 0 0 (pc_A g sz) := by
  refine pe_ofW (cc := prog_5_method_13_code) (maxL := 8) (ret := none) (lv := [(0, .ref x), (1, .ref y), (2, .ref z), (3, .int sg)]) (by decide) (Nat.le_of_ble_eq_true rfl) rfl ?_
  intro p e s m args below meth c ls hx hb hr hml hlocks hown hB hP hK hD hsz hS hl
  subst hsz
  have hu : ∀ b, b ≠ x → b ≠ (g.lk x 2) → f b = f b := fun _ _ _  => rfl
  have cby : ∀ i, i < 15 → ∃ k, k < 1000000000 ∧ dy i = nI k := hNy.1.2.1
  have hny : ny ≤ 15 := hNy.1.1
  have hfy : ny ≤ 14 := LNF_14 hNy
  have cbz : ∀ i, i < 15 → ∃ k, k < 1000000000 ∧ dz i = nI k := hNz.1.2.1
  have hnz : nz ≤ 15 := hNz.1.1
  have hfz : nz ≤ 14 := LNF_14 hNz
  obtain ⟨sg_2, n_3, e1, c4⟩ := oc_5.of t_x (hI.1 x)
  obtain ⟨h_6, e5, c7⟩ := oc_23.of (lo_k5_2 hL _ t_x) (hI.1 (g.lk x 2))
  have hI8 := IV.ix hI x
  refine lv_aload_n hx hb d_NLongNumber_addLimbs_0 rfl (lv_at hl 1 rfl) ?_
  refine pf_get (v := .int (nI ny)) (C := "BigRunner$LongNumber") (T := FT4) (N := 3) hx hb (hw4 hB _) (fun _ h9 => h9) hown hK hP (lo_in hL t_y (by decide)) eay rfl 1 (by decide) (wd_190 hB _) rfl d_NLongNumber_addLimbs_1 ?_
  refine lv_aload_n hx hb d_NLongNumber_addLimbs_4 rfl (lv_at hl 2 rfl) ?_
  refine pf_get (v := .int (nI nz)) (C := "BigRunner$LongNumber") (T := FT4) (N := 3) hx hb (hw4 hB _) (fun _ h9 => h9) hown hK hP (lo_in hL t_z (by decide)) eaz rfl 1 (by decide) (wd_190 hB _) rfl d_NLongNumber_addLimbs_5 ?_
  refine va_mmax hx hb (hml.trans hl.1.symm) hown (wd_772 hB _) (wd_773 hB _) (wd_83 hB _) (wd_774 hB _) (Nat.le_of_ble_eq_true rfl) (Nat.le_of_ble_eq_true rfl) (Nat.le_of_ble_eq_true rfl) (Nat.le_of_ble_eq_true rfl) d_NLongNumber_addLimbs_8 ?_
  refine lv_topi (fun z_ hz_ => ?_)
  obtain ⟨mn9, hmn9⟩ : ∃ z : Nat, z = max ny nz := ⟨_, rfl⟩
  obtain rfl : z_ = nI mn9 := by rw [hz_, hmn9]; exact mi_max (a := ny) (b := nz) (by omega) (by omega)
  refine lv_iconst (v := nI 1) hx hb d_NLongNumber_addLimbs_11 (by decide) ?_
  refine pf_iaddN (x := mn9) (y := 1) hx hb d_NLongNumber_addLimbs_12 ?_
  refine lv_bipush (v := nI 15) hx hb d_NLongNumber_addLimbs_13 (by decide) ?_
  refine va_mmin hx hb (hml.trans hl.1.symm) hown (wd_775 hB _) (wd_459 hB _) (wd_83 hB _) (wd_460 hB _) (Nat.le_of_ble_eq_true rfl) (Nat.le_of_ble_eq_true rfl) (Nat.le_of_ble_eq_true rfl) (Nat.le_of_ble_eq_true rfl) d_NLongNumber_addLimbs_15 ?_
  refine lv_topi (fun z_ hz_ => ?_)
  obtain ⟨mn10, hmn10⟩ : ∃ z : Nat, z = min (mn9 + 1) 15 := ⟨_, rfl⟩
  obtain rfl : z_ = nI mn10 := by rw [hz_, hmn10]; exact mi_min (a := mn9 + 1) (b := 15) (by omega) (by omega)
  refine lv_istore (lv' := [(4, .int (nI mn10)), (0, .ref x), (1, .ref y), (2, .ref z), (3, .int sg)]) hx hb d_NLongNumber_addLimbs_18 hl (by decide) rfl (fun ls hl => ?_)
  refine lv_iconst (v := nI 0) hx hb d_NLongNumber_addLimbs_20 (by decide) ?_
  refine lv_istore (lv' := [(5, .int (nI 0)), (4, .int (nI mn10)), (0, .ref x), (1, .ref y), (2, .ref z), (3, .int sg)]) hx hb d_NLongNumber_addLimbs_21 hl (by decide) rfl (fun ls hl => ?_)
  refine lv_iconst (v := nI 0) hx hb d_NLongNumber_addLimbs_23 (by decide) ?_
  refine lv_istore (lv' := [(6, .int (nI 0)), (5, .int (nI 0)), (4, .int (nI mn10)), (0, .ref x), (1, .ref y), (2, .ref z), (3, .int sg)]) hx hb d_NLongNumber_addLimbs_24 hl (by decide) rfl (fun ls hl => ?_)
  have lp11 : ∀ (k13 : Nat) (cy : Nat) (i : Nat) (h : Nat → Int32) (f12 : Nat → va_E) (H : Heap) (locs : List Loc) (ls : Array Slot), (mn10 < i + k13) → (cy ≤ 1) → (i ≤ mn10) → (∀ i, i < 15 → ∃ k, k < 1000000000 ∧ h i = nI k) → (kv (dg h) i + cy * 1000000000 ^ i = kv (lm dy ny) i + kv (lm dz nz) i) → f12 (g.lk x 2) = .inl (g.ac (g.lk x 2), 15, .inl (h)) → f12 (g.lk y 2) = .inl (g.ac (g.lk y 2), 15, .inl (dy)) → f12 (g.lk z 2) = .inl (g.ac (g.lk z 2), 15, .inl (dz)) → IX g x f12 → un [23] g f f12 → (∀ b, b ≠ x → b ≠ (g.lk x 2) → f12 b = f b) → lv_has ls 8 [(6, .int (nI i)), (5, .int (nI cy)), (4, .int (nI mn10)), (0, .ref x), (1, .ref y), (2, .ref z), (3, .int sg)] → va_P g.D vcl (va_pl g.LP f12) H → va_D (pc_A g s.heap.size) (va_pl g.LP f12) → va_S (pc_A g s.heap.size) s.heap H locs → W p l e ({ frames := 2, cells := 0, slots := 0, locals := 62 }) s m args below meth c H locs 0 0 (MQ below (va_Qv (fun f1 => (∃ (sg1 : Int32) (n1 : Nat) (h1 : Nat → Int32), f1 x = .inr (4, [.int sg1, .int (nI n1), .ref (g.lk x 2)]) ∧ f1 (g.lk x 2) = .inl (g.ac (g.lk x 2), 15, .inl h1) ∧ LNV sg1 n1 h1 (sg.toInt * ((kv (dg dy) ny + kv (dg dz) nz : Nat) : Int))) ∧ (IV g f1) ∧ (∀ b, b ≠ x → b ≠ (g.lk x 2) → f1 b = f b)) (pc_out g s.heap.size) (pc_A g s.heap.size)) args s 0 0 (pc_A g s.heap.size)) (F0 m 26 ls []) := by
    intro k13
    induction k13 with
    | zero => intros; exfalso; omega
    | succ k13 ih14 =>
      intro cy i h f12 H locs ls hfu15 hcy hi hc he e16 e17 e18 hI19 hv20 hu hl hP hD hS
      have eay := hv20.at t_y (by decide) eay
      have eaz := hv20.at t_z (by decide) eaz
      have e1 := hv20.at t_x (by decide) e1
      refine lv_iload hx hb d_NLongNumber_addLimbs_26 (lv_at hl 0 rfl) ?_
      refine lv_iload hx hb d_NLongNumber_addLimbs_28 (lv_at hl 2 rfl) ?_
      refine lv_icmp_ge (tgt := 86) hx hb d_NLongNumber_addLimbs_30 (by decide) (fun b21 => ?_) (fun b21 => ?_)
      · skip
        replace b21 := (nI_leI (a := mn10) (b := i) (by omega) (by omega)).mp b21
        refine lv_aload_n hx hb d_NLongNumber_addLimbs_86 rfl (lv_at hl 3 rfl) ?_
        refine lv_iload hx hb d_NLongNumber_addLimbs_87 (lv_at hl 2 rfl) ?_
        refine lv_iload_n hx hb d_NLongNumber_addLimbs_89 rfl (lv_at hl 6 rfl) ?_
        refine pcc_v (va_runV (C := "BigRunner$LongNumber") (As := [.int (nI mn10), .int sg]) (rest := []) ⟨hx, hb, hml, hown, tb_nil⟩ (v_finish l g H.size f12 x sg_2 n_3 h mn10 sg hL t_x hI19 e1 e16 hc (by omega) (by omega) (Or.inl hsg)) ⟨(callB_of 2 (tb_one (wd_784 hB _)) tb_good1 rfl rfl rfl (wd_78 hB _) (wd_781 hB _) (by decide +kernel) ⟨Nat.le_of_ble_eq_true rfl, Nat.le_of_ble_eq_true rfl⟩), (wd_782 hB _), (wd_783 hB _)⟩ ⟨pe_bl, pg_recv (ci := 4) hK hP (lo_in hL t_x (by decide)) e1 rfl, pe_pre hB hK hP hD⟩ rfl rfl hl.1 rfl (lv_room (Nat.le_of_ble_eq_true rfl)) d_NLongNumber_addLimbs_90 ⟨Nat.le_of_ble_eq_true rfl, Nat.le_of_ble_eq_true rfl⟩) hS (fun f23 H locs hq24 hP hD hS => ?_)
        obtain ⟨fi_25, hI1_26, hk1_27⟩ := hq24
        have hu : ∀ b, b ≠ x → b ≠ (g.lk x 2) → f23 b = f b := fun b q0 q1 => (hk1_27 b q0).trans (hu b q0 q1)
        have eay := (hk1_27 y h1).trans eay
        have eaz := (hk1_27 z h2).trans eaz
        have e16 := (hk1_27 (g.lk x 2) (tg_ne (lo_k5_2 hL _ t_x) t_x (by decide))).trans e16
        have e17 := (hk1_27 (g.lk y 2) (tg_ne (lo_k5_2 hL _ t_y) t_x (by decide))).trans e17
        have e18 := (hk1_27 (g.lk z 2) (tg_ne (lo_k5_2 hL _ t_z) t_x (by decide))).trans e18
        obtain ⟨sg28, nn29, e30, hN31⟩ := fi_25
        have hnn29 : nn29 ≤ 15 := hN31.1
        exact pe_vret hx hb hr hlocks hK hP hD hS d_NLongNumber_addLimbs_93 ⟨⟨_, _, _, e30, e16, (by have z9 := hN31; have y9 : i = mn10 := (by omega); rw [y9] at he; rw [al_end cby cbz hfy hfz (by omega) he] at z9; exact z9)⟩, hI1_26, hu⟩
      · skip
        replace b21 := mt (nI_leI (a := mn10) (b := i) (by omega) (by omega)).mpr b21
        refine lv_aload_n hx hb d_NLongNumber_addLimbs_33 rfl (lv_at hl 4 rfl) ?_
        refine lv_iload hx hb d_NLongNumber_addLimbs_34 (lv_at hl 0 rfl) ?_
        refine pcc_i (va_runV (C := "BigRunner$LongNumber") (As := [.int (nI i)]) (rest := []) ⟨hx, hb, hml, hown, tb_nil⟩ (v_limb l g H.size f12 y sgy ny dy i hL t_y hI19.1 eay e17 cby (by omega) (by omega)) ⟨(callB_of 1 (tb_one (wd_779 hB _)) tb_good1 rfl rfl rfl (wd_78 hB _) (wd_776 hB _) (by decide +kernel) ⟨Nat.le_of_ble_eq_true rfl, Nat.le_of_ble_eq_true rfl⟩), (wd_778 hB _), (wd_31 hB _)⟩ ⟨pe_bl, pg_recv (ci := 4) hK hP (lo_in hL t_y (by decide)) eay rfl, pe_pre hB hK hP hD⟩ rfl rfl hl.1 rfl (lv_room (Nat.le_of_ble_eq_true rfl)) d_NLongNumber_addLimbs_36 ⟨Nat.le_of_ble_eq_true rfl, Nat.le_of_ble_eq_true rfl⟩) hS (fun r32 f33 H locs hq34 hP hD hS => ?_)
        obtain ⟨qv_35, rfl⟩ := hq34
        subst qv_35
        have hm36 : lm dy ny i < 1000000000 := lm_lt cby (by omega) _
        refine lv_aload_n hx hb d_NLongNumber_addLimbs_39 rfl (lv_at hl 5 rfl) ?_
        refine lv_iload hx hb d_NLongNumber_addLimbs_40 (lv_at hl 0 rfl) ?_
        refine pcc_i (va_runV (C := "BigRunner$LongNumber") (As := [.int (nI i)]) (rest := [.int (nI (lm dy ny i))]) ⟨hx, hb, hml, hown, tb_nil⟩ (v_limb l g H.size f12 z sgz nz dz i hL t_z hI19.1 eaz e18 cbz (by omega) (by omega)) ⟨(callB_of 1 (tb_one (wd_779 hB _)) tb_good1 rfl rfl rfl (wd_78 hB _) (wd_776 hB _) (by decide +kernel) ⟨Nat.le_of_ble_eq_true rfl, Nat.le_of_ble_eq_true rfl⟩), (wd_778 hB _), (wd_31 hB _)⟩ ⟨pe_bl, pg_recv (ci := 4) hK hP (lo_in hL t_z (by decide)) eaz rfl, pe_pre hB hK hP hD⟩ rfl rfl hl.1 rfl (lv_room (Nat.le_of_ble_eq_true rfl)) d_NLongNumber_addLimbs_42 ⟨Nat.le_of_ble_eq_true rfl, Nat.le_of_ble_eq_true rfl⟩) hS (fun r37 f38 H locs hq39 hP hD hS => ?_)
        obtain ⟨qv_40, rfl⟩ := hq39
        subst qv_40
        have hm41 : lm dz nz i < 1000000000 := lm_lt cbz (by omega) _
        refine pf_iaddN (x := lm dy ny i) (y := lm dz nz i) hx hb d_NLongNumber_addLimbs_45 ?_
        refine lv_iload hx hb d_NLongNumber_addLimbs_46 (lv_at hl 1 rfl) ?_
        refine pf_iaddN (x := (lm dy ny i) + (lm dz nz i)) (y := cy) hx hb d_NLongNumber_addLimbs_48 ?_
        refine lv_istore (lv' := [(7, .int (nI (((lm dy ny i) + (lm dz nz i)) + cy))), (6, .int (nI i)), (5, .int (nI cy)), (4, .int (nI mn10)), (0, .ref x), (1, .ref y), (2, .ref z), (3, .int sg)]) hx hb d_NLongNumber_addLimbs_49 hl (by decide) rfl (fun ls hl => ?_)
        refine lv_iload hx hb d_NLongNumber_addLimbs_51 (lv_at hl 0 rfl) ?_
        refine lv_ldc (v := 1000000000) hx hb hown (wd_780 hB _) d_NLongNumber_addLimbs_53 ?_
        refine lv_topi (fun z_ hz_ => ?_)
        obtain rfl : z_ = nI 1000000000 := hz_
        refine lv_icmp_lt (tgt := 62) hx hb d_NLongNumber_addLimbs_55 (by decide) (fun b42 => ?_) (fun b42 => ?_)
        · skip
          replace b42 := (nI_ltI (a := ((lm dy ny i) + (lm dz nz i)) + cy) (b := 1000000000) (by omega) (by omega)).mp b42
          refine lv_iconst (v := nI 0) hx hb d_NLongNumber_addLimbs_62 (by decide) ?_
          refine lv_istore (lv' := [(5, .int (nI 0)), (7, .int (nI (((lm dy ny i) + (lm dz nz i)) + cy))), (6, .int (nI i)), (4, .int (nI mn10)), (0, .ref x), (1, .ref y), (2, .ref z), (3, .int sg)]) hx hb d_NLongNumber_addLimbs_63 hl (by decide) rfl (fun ls hl => ?_)
          refine lv_aload_n hx hb d_NLongNumber_addLimbs_65 rfl (lv_at hl 4 rfl) ?_
          refine pf_get (v := .ref (g.lk x 2)) (C := "BigRunner$LongNumber") (T := FT4) (N := 3) hx hb (hw4 hB _) (fun _ h9 => h9) hown hK hP (lo_in hL t_x (by decide)) e1 rfl 2 (by decide) (wd_192 hB _) rfl d_NLongNumber_addLimbs_66 ?_
          refine lv_iload hx hb d_NLongNumber_addLimbs_69 (lv_at hl 2 rfl) ?_
          refine lv_iload hx hb d_NLongNumber_addLimbs_71 (lv_at hl 1 rfl) ?_
          refine lv_iload hx hb d_NLongNumber_addLimbs_73 (lv_at hl 0 rfl) ?_
          refine lv_ldc (v := 1000000000) hx hb hown (wd_780 hB _) d_NLongNumber_addLimbs_75 ?_
          refine lv_topi (fun z_ hz_ => ?_)
          obtain rfl : z_ = nI 1000000000 := hz_
          refine pf_imulN (x := 0) (y := 1000000000) hx hb d_NLongNumber_addLimbs_77 ?_
          refine lv_topi (fun z_ hz_ => ?_)
          obtain rfl : z_ = nI 0 := hz_.trans (congrArg nI (Nat.zero_mul 1000000000))
          refine pf_isubN (x := ((lm dy ny i) + (lm dz nz i)) + cy) (y := 0) hx hb (by omega) d_NLongNumber_addLimbs_78 ?_
          refine pf_iast (i := i) hx hb hK hP hD hS (lo_in hL (lo_k5_2 hL _ t_x) (by decide)) e16 (lo_t23 hL _ (lo_k5_2 hL _ t_x)) (by omega) (by decide) d_NLongNumber_addLimbs_79 (fun f43 H locs e44 k45 hP hD hS => ?_)
          have eay := (k45 y (tg_ne t_y (lo_k5_2 hL _ t_x) (by decide))).trans eay
          have eaz := (k45 z (tg_ne t_z (lo_k5_2 hL _ t_x) (by decide))).trans eaz
          have e1 := (k45 x (tg_ne t_x (lo_k5_2 hL _ t_x) (by decide))).trans e1
          have e17 := (k45 (g.lk y 2) (fun q9 => h1 (lo_inj5 hL _ _ t_y t_x q9))).trans e17
          have e18 := (k45 (g.lk z 2) (fun q9 => h2 (lo_inj5 hL _ _ t_z t_x q9))).trans e18
          have hu : ∀ b, b ≠ x → b ≠ (g.lk x 2) → f43 b = f b := fun b q0 q1 => (k45 b q1).trans (hu b q0 q1)
          have hv20 := hv20.st k45 (lo_k5_2 hL _ t_x) (by decide)
          have hk46 : ∀ b, b ≠ (g.lk x 2) → f43 b = f12 b := k45
          have c47 := lb_upd (n := 15) (i := i) (v := (((lm dy ny i) + (lm dz nz i)) + cy) - 0) hc (by omega)
          refine lv_iinc (k := 2) (v := nI (i + 1)) (lv' := [(6, .int (nI (i + 1))), (5, .int (nI 0)), (7, .int (nI (((lm dy ny i) + (lm dz nz i)) + cy))), (4, .int (nI mn10)), (0, .ref x), (1, .ref y), (2, .ref z), (3, .int sg)]) hx hb d_NLongNumber_addLimbs_80 hl rfl (by rw [nI_succ]; rfl) (by decide) rfl (fun ls hl => ?_)
          refine lv_goto (tgt := 26) hx hb d_NLongNumber_addLimbs_83 (by decide) ?_
          have hI48 := ix_23 hI19 hL t_x hk46 (⟨_, e44, c47⟩)
          have hl : lv_has ls 8 [(6, .int (nI (i + 1))), (5, .int (nI 0)), (4, .int (nI mn10)), (0, .ref x), (1, .ref y), (2, .ref z), (3, .int sg)] := lv_sub hl [0, 1, 3, 4, 5, 6, 7] rfl
          exact ih14 0 (i + 1) (upd h i ((nI ((((lm dy ny i) + (lm dz nz i)) + cy) - 0)))) f43 H locs ls (by omega) (by omega) (by omega) c47 (al_2 (a := lm dy ny) (b := lm dz nz) he (by omega)) e44 e17 e18 hI48 hv20 hu hl hP hD hS
        · skip
          replace b42 := mt (nI_ltI (a := ((lm dy ny i) + (lm dz nz i)) + cy) (b := 1000000000) (by omega) (by omega)).mpr b42
          refine lv_iconst (v := nI 1) hx hb d_NLongNumber_addLimbs_58 (by decide) ?_
          refine lv_goto (tgt := 63) hx hb d_NLongNumber_addLimbs_59 (by decide) ?_
          refine lv_istore (lv' := [(5, .int (nI 1)), (7, .int (nI (((lm dy ny i) + (lm dz nz i)) + cy))), (6, .int (nI i)), (4, .int (nI mn10)), (0, .ref x), (1, .ref y), (2, .ref z), (3, .int sg)]) hx hb d_NLongNumber_addLimbs_63 hl (by decide) rfl (fun ls hl => ?_)
          refine lv_aload_n hx hb d_NLongNumber_addLimbs_65 rfl (lv_at hl 4 rfl) ?_
          refine pf_get (v := .ref (g.lk x 2)) (C := "BigRunner$LongNumber") (T := FT4) (N := 3) hx hb (hw4 hB _) (fun _ h9 => h9) hown hK hP (lo_in hL t_x (by decide)) e1 rfl 2 (by decide) (wd_192 hB _) rfl d_NLongNumber_addLimbs_66 ?_
          refine lv_iload hx hb d_NLongNumber_addLimbs_69 (lv_at hl 2 rfl) ?_
          refine lv_iload hx hb d_NLongNumber_addLimbs_71 (lv_at hl 1 rfl) ?_
          refine lv_iload hx hb d_NLongNumber_addLimbs_73 (lv_at hl 0 rfl) ?_
          refine lv_ldc (v := 1000000000) hx hb hown (wd_780 hB _) d_NLongNumber_addLimbs_75 ?_
          refine lv_topi (fun z_ hz_ => ?_)
          obtain rfl : z_ = nI 1000000000 := hz_
          refine pf_imulN (x := 1) (y := 1000000000) hx hb d_NLongNumber_addLimbs_77 ?_
          refine lv_topi (fun z_ hz_ => ?_)
          obtain rfl : z_ = nI 1000000000 := hz_.trans (congrArg nI (Nat.one_mul 1000000000))
          refine pf_isubN (x := ((lm dy ny i) + (lm dz nz i)) + cy) (y := 1000000000) hx hb (by omega) d_NLongNumber_addLimbs_78 ?_
          refine pf_iast (i := i) hx hb hK hP hD hS (lo_in hL (lo_k5_2 hL _ t_x) (by decide)) e16 (lo_t23 hL _ (lo_k5_2 hL _ t_x)) (by omega) (by decide) d_NLongNumber_addLimbs_79 (fun f49 H locs e50 k51 hP hD hS => ?_)
          have eay := (k51 y (tg_ne t_y (lo_k5_2 hL _ t_x) (by decide))).trans eay
          have eaz := (k51 z (tg_ne t_z (lo_k5_2 hL _ t_x) (by decide))).trans eaz
          have e1 := (k51 x (tg_ne t_x (lo_k5_2 hL _ t_x) (by decide))).trans e1
          have e17 := (k51 (g.lk y 2) (fun q9 => h1 (lo_inj5 hL _ _ t_y t_x q9))).trans e17
          have e18 := (k51 (g.lk z 2) (fun q9 => h2 (lo_inj5 hL _ _ t_z t_x q9))).trans e18
          have hu : ∀ b, b ≠ x → b ≠ (g.lk x 2) → f49 b = f b := fun b q0 q1 => (k51 b q1).trans (hu b q0 q1)
          have hv20 := hv20.st k51 (lo_k5_2 hL _ t_x) (by decide)
          have hk52 : ∀ b, b ≠ (g.lk x 2) → f49 b = f12 b := k51
          have c53 := lb_upd (n := 15) (i := i) (v := (((lm dy ny i) + (lm dz nz i)) + cy) - 1000000000) hc (by omega)
          refine lv_iinc (k := 2) (v := nI (i + 1)) (lv' := [(6, .int (nI (i + 1))), (5, .int (nI 1)), (7, .int (nI (((lm dy ny i) + (lm dz nz i)) + cy))), (4, .int (nI mn10)), (0, .ref x), (1, .ref y), (2, .ref z), (3, .int sg)]) hx hb d_NLongNumber_addLimbs_80 hl rfl (by rw [nI_succ]; rfl) (by decide) rfl (fun ls hl => ?_)
          refine lv_goto (tgt := 26) hx hb d_NLongNumber_addLimbs_83 (by decide) ?_
          have hI54 := ix_23 hI19 hL t_x hk52 (⟨_, e50, c53⟩)
          have hl : lv_has ls 8 [(6, .int (nI (i + 1))), (5, .int (nI 1)), (4, .int (nI mn10)), (0, .ref x), (1, .ref y), (2, .ref z), (3, .int sg)] := lv_sub hl [0, 1, 3, 4, 5, 6, 7] rfl
          exact ih14 1 (i + 1) (upd h i ((nI ((((lm dy ny i) + (lm dz nz i)) + cy) - 1000000000)))) f49 H locs ls (by omega) (by omega) (by omega) c53 (al_1 (a := lm dy ny) (b := lm dz nz) he (by omega) (by omega)) e50 e17 e18 hI54 hv20 hu hl hP hD hS
  exact lp11 (mn10 + 1) 0 0 h_6 f s.heap [] ls (by omega) (by omega) (by omega) c7 (by simp [kv]) e5 eby ebz hI8 un.rf hu hl hP hD hS
set_option maxHeartbeats 4000000 in
set_option maxRecDepth 100000 in
theorem v_subtractLimbs (l : Launch) (g : Lay) (sz : Nat) (f : Nat → va_E) (x : Nat) (y : Nat) (sgy : Int32) (ny : Nat) (dy : Nat → Int32) (vy : Int) (z : Nat) (sgz : Int32) (nz : Nat) (dz : Nat → Int32) (vz : Int) (sg : Int32) (hL : LO g) (t_x : g.tg x = 5) (t_y : g.tg y = 5) (t_z : g.tg z = 5) (hI : IV g f) (eay : f y = .inr (4, [.int sgy, .int (nI ny), .ref (g.lk y 2)])) (eby : f (g.lk y 2) = .inl (g.ac (g.lk y 2), 15, .inl dy)) (hNy : LNF sgy ny dy vy) (eaz : f z = .inr (4, [.int sgz, .int (nI nz), .ref (g.lk z 2)])) (ebz : f (g.lk z 2) = .inl (g.ac (g.lk z 2), 15, .inl dz)) (hNz : LNF sgz nz dz vz) (h1 : y ≠ x) (h2 : z ≠ x) (hsg : SGN sg) (hle : kv (dg dz) nz ≤ kv (dg dy) ny) : Met l ⟨"BigRunner$LongNumber", "subtractLimbs", "(LBigRunner$LongNumber;LBigRunner$LongNumber;I)V"⟩ [Cond.code ⟨"BigRunner$LongNumber", "subtractLimbs", "(LBigRunner$LongNumber;LBigRunner$LongNumber;I)V"⟩ prog_5_method_14_code 7 none] ({ frames := 2, cells := 0, slots := 0, locals := 62 }) (va_Pc [.ref x, .ref y, .ref z, .int sg] (pc_in g sz f)) (va_Qv (fun f1 => (∃ (sg1 : Int32) (n1 : Nat) (h1 : Nat → Int32), f1 x = .inr (4, [.int sg1, .int (nI n1), .ref (g.lk x 2)]) ∧ f1 (g.lk x 2) = .inl (g.ac (g.lk x 2), 15, .inl h1) ∧ LNV sg1 n1 h1 (sg.toInt * ((kv (dg dy) ny - kv (dg dz) nz : Nat) : Int))) ∧ (IV g f1) ∧ (∀ b, b ≠ x → b ≠ (g.lk x 2) → f1 b = f b)) (pc_out g sz) (pc_A g sz)) 0 0 (pc_A g sz) := by
  refine pe_ofW (cc := prog_5_method_14_code) (maxL := 7) (ret := none) (lv := [(0, .ref x), (1, .ref y), (2, .ref z), (3, .int sg)]) (by decide) (Nat.le_of_ble_eq_true rfl) rfl ?_
  intro p e s m args below meth c ls hx hb hr hml hlocks hown hB hP hK hD hsz hS hl
  subst hsz
  have hu : ∀ b, b ≠ x → b ≠ (g.lk x 2) → f b = f b := fun _ _ _  => rfl
  have cby : ∀ i, i < 15 → ∃ k, k < 1000000000 ∧ dy i = nI k := hNy.1.2.1
  have hny : ny ≤ 15 := hNy.1.1
  have hfy : ny ≤ 14 := LNF_14 hNy
  have cbz : ∀ i, i < 15 → ∃ k, k < 1000000000 ∧ dz i = nI k := hNz.1.2.1
  have hnz : nz ≤ 15 := hNz.1.1
  have hfz : nz ≤ 14 := LNF_14 hNz
  obtain ⟨sg_2, n_3, e1, c4⟩ := oc_5.of t_x (hI.1 x)
  obtain ⟨h_6, e5, c7⟩ := oc_23.of (lo_k5_2 hL _ t_x) (hI.1 (g.lk x 2))
  have hI8 := IV.ix hI x
  refine lv_iconst (v := nI 0) hx hb d_NLongNumber_subtractLimbs_0 (by decide) ?_
  refine lv_istore (lv' := [(4, .int (nI 0)), (0, .ref x), (1, .ref y), (2, .ref z), (3, .int sg)]) hx hb d_NLongNumber_subtractLimbs_1 hl (by decide) rfl (fun ls hl => ?_)
  refine lv_iconst (v := nI 0) hx hb d_NLongNumber_subtractLimbs_3 (by decide) ?_
  refine lv_istore (lv' := [(5, .int (nI 0)), (4, .int (nI 0)), (0, .ref x), (1, .ref y), (2, .ref z), (3, .int sg)]) hx hb d_NLongNumber_subtractLimbs_4 hl (by decide) rfl (fun ls hl => ?_)
  have lp9 : ∀ (k11 : Nat) (cy : Nat) (i : Nat) (h : Nat → Int32) (f10 : Nat → va_E) (H : Heap) (locs : List Loc) (ls : Array Slot), (ny < i + k11) → (cy ≤ 1) → (i ≤ ny) → (∀ i, i < 15 → ∃ k, k < 1000000000 ∧ h i = nI k) → (kv (dg h) i + kv (lm dz nz) i = kv (dg dy) i + cy * 1000000000 ^ i) → f10 (g.lk x 2) = .inl (g.ac (g.lk x 2), 15, .inl (h)) → f10 (g.lk y 2) = .inl (g.ac (g.lk y 2), 15, .inl (dy)) → f10 (g.lk z 2) = .inl (g.ac (g.lk z 2), 15, .inl (dz)) → IX g x f10 → un [23] g f f10 → (∀ b, b ≠ x → b ≠ (g.lk x 2) → f10 b = f b) → lv_has ls 7 [(5, .int (nI i)), (4, .int (nI cy)), (0, .ref x), (1, .ref y), (2, .ref z), (3, .int sg)] → va_P g.D vcl (va_pl g.LP f10) H → va_D (pc_A g s.heap.size) (va_pl g.LP f10) → va_S (pc_A g s.heap.size) s.heap H locs → W p l e ({ frames := 2, cells := 0, slots := 0, locals := 62 }) s m args below meth c H locs 0 0 (MQ below (va_Qv (fun f1 => (∃ (sg1 : Int32) (n1 : Nat) (h1 : Nat → Int32), f1 x = .inr (4, [.int sg1, .int (nI n1), .ref (g.lk x 2)]) ∧ f1 (g.lk x 2) = .inl (g.ac (g.lk x 2), 15, .inl h1) ∧ LNV sg1 n1 h1 (sg.toInt * ((kv (dg dy) ny - kv (dg dz) nz : Nat) : Int))) ∧ (IV g f1) ∧ (∀ b, b ≠ x → b ≠ (g.lk x 2) → f1 b = f b)) (pc_out g s.heap.size) (pc_A g s.heap.size)) args s 0 0 (pc_A g s.heap.size)) (F0 m 6 ls []) := by
    intro k11
    induction k11 with
    | zero => intros; exfalso; omega
    | succ k11 ih12 =>
      intro cy i h f10 H locs ls hfu13 hcy hi hc he e14 e15 e16 hI17 hv18 hu hl hP hD hS
      have eay := hv18.at t_y (by decide) eay
      have eaz := hv18.at t_z (by decide) eaz
      have e1 := hv18.at t_x (by decide) e1
      refine lv_iload hx hb d_NLongNumber_subtractLimbs_6 (lv_at hl 0 rfl) ?_
      refine lv_aload_n hx hb d_NLongNumber_subtractLimbs_8 rfl (lv_at hl 3 rfl) ?_
      refine pf_get (v := .int (nI ny)) (C := "BigRunner$LongNumber") (T := FT4) (N := 3) hx hb (hw4 hB _) (fun _ h9 => h9) hown hK hP (lo_in hL t_y (by decide)) eay rfl 1 (by decide) (wd_190 hB _) rfl d_NLongNumber_subtractLimbs_9 ?_
      refine lv_icmp_ge (tgt := 67) hx hb d_NLongNumber_subtractLimbs_12 (by decide) (fun b19 => ?_) (fun b19 => ?_)
      · skip
        replace b19 := (nI_leI (a := ny) (b := i) (by omega) (by omega)).mp b19
        refine lv_aload_n hx hb d_NLongNumber_subtractLimbs_67 rfl (lv_at hl 2 rfl) ?_
        refine lv_aload_n hx hb d_NLongNumber_subtractLimbs_68 rfl (lv_at hl 3 rfl) ?_
        refine pf_get (v := .int (nI ny)) (C := "BigRunner$LongNumber") (T := FT4) (N := 3) hx hb (hw4 hB _) (fun _ h9 => h9) hown hK hP (lo_in hL t_y (by decide)) eay rfl 1 (by decide) (wd_190 hB _) rfl d_NLongNumber_subtractLimbs_69 ?_
        refine lv_iload_n hx hb d_NLongNumber_subtractLimbs_72 rfl (lv_at hl 5 rfl) ?_
        refine pcc_v (va_runV (C := "BigRunner$LongNumber") (As := [.int (nI ny), .int sg]) (rest := []) ⟨hx, hb, hml, hown, tb_nil⟩ (v_finish l g H.size f10 x sg_2 n_3 h ny sg hL t_x hI17 e1 e14 hc (by omega) (by omega) (Or.inl hsg)) ⟨(callB_of 2 (tb_one (wd_784 hB _)) tb_good1 rfl rfl rfl (wd_78 hB _) (wd_781 hB _) (by decide +kernel) ⟨Nat.le_of_ble_eq_true rfl, Nat.le_of_ble_eq_true rfl⟩), (wd_782 hB _), (wd_783 hB _)⟩ ⟨pe_bl, pg_recv (ci := 4) hK hP (lo_in hL t_x (by decide)) e1 rfl, pe_pre hB hK hP hD⟩ rfl rfl hl.1 rfl (lv_room (Nat.le_of_ble_eq_true rfl)) d_NLongNumber_subtractLimbs_73 ⟨Nat.le_of_ble_eq_true rfl, Nat.le_of_ble_eq_true rfl⟩) hS (fun f21 H locs hq22 hP hD hS => ?_)
        obtain ⟨fi_23, hI1_24, hk1_25⟩ := hq22
        have hu : ∀ b, b ≠ x → b ≠ (g.lk x 2) → f21 b = f b := fun b q0 q1 => (hk1_25 b q0).trans (hu b q0 q1)
        have eay := (hk1_25 y h1).trans eay
        have eaz := (hk1_25 z h2).trans eaz
        have e14 := (hk1_25 (g.lk x 2) (tg_ne (lo_k5_2 hL _ t_x) t_x (by decide))).trans e14
        have e15 := (hk1_25 (g.lk y 2) (tg_ne (lo_k5_2 hL _ t_y) t_x (by decide))).trans e15
        have e16 := (hk1_25 (g.lk z 2) (tg_ne (lo_k5_2 hL _ t_z) t_x (by decide))).trans e16
        obtain ⟨sg26, nn27, e28, hN29⟩ := fi_23
        have hnn27 : nn27 ≤ 15 := hN29.1
        exact pe_vret hx hb hr hlocks hK hP hD hS d_NLongNumber_subtractLimbs_76 ⟨⟨_, _, _, e28, e14, (by have z9 := hN29; have y9 : i = ny := (by omega); rw [y9] at he; rw [sl_end hc cbz cby hny hnz hNz.1.2.2.2.1 hle he] at z9; exact z9)⟩, hI1_24, hu⟩
      · skip
        replace b19 := mt (nI_leI (a := ny) (b := i) (by omega) (by omega)).mpr b19
        refine lv_aload_n hx hb d_NLongNumber_subtractLimbs_15 rfl (lv_at hl 3 rfl) ?_
        refine pf_get (v := .ref (g.lk y 2)) (C := "BigRunner$LongNumber") (T := FT4) (N := 3) hx hb (hw4 hB _) (fun _ h9 => h9) hown hK hP (lo_in hL t_y (by decide)) eay rfl 2 (by decide) (wd_192 hB _) rfl d_NLongNumber_subtractLimbs_16 ?_
        refine lv_iload hx hb d_NLongNumber_subtractLimbs_19 (lv_at hl 0 rfl) ?_
        refine pf_iald (i := i) hx hb hK hP (lo_in hL (lo_k5_2 hL _ t_y) (by decide)) e15 (lo_t23 hL _ (lo_k5_2 hL _ t_y)) (by omega) (by decide) d_NLongNumber_subtractLimbs_21 ?_
        have hd30 := dg_lt cby (j := i) (by omega)
        refine lv_topi (fun z_ hz_ => ?_)
        obtain rfl : z_ = nI (dg dy i) := hz_.trans (dg_eq cby (by omega))
        refine lv_aload_n hx hb d_NLongNumber_subtractLimbs_22 rfl (lv_at hl 4 rfl) ?_
        refine lv_iload hx hb d_NLongNumber_subtractLimbs_23 (lv_at hl 0 rfl) ?_
        refine pcc_i (va_runV (C := "BigRunner$LongNumber") (As := [.int (nI i)]) (rest := [.int (nI (dg dy i))]) ⟨hx, hb, hml, hown, tb_nil⟩ (v_limb l g H.size f10 z sgz nz dz i hL t_z hI17.1 eaz e16 cbz (by omega) (by omega)) ⟨(callB_of 1 (tb_one (wd_779 hB _)) tb_good1 rfl rfl rfl (wd_78 hB _) (wd_776 hB _) (by decide +kernel) ⟨Nat.le_of_ble_eq_true rfl, Nat.le_of_ble_eq_true rfl⟩), (wd_778 hB _), (wd_31 hB _)⟩ ⟨pe_bl, pg_recv (ci := 4) hK hP (lo_in hL t_z (by decide)) eaz rfl, pe_pre hB hK hP hD⟩ rfl rfl hl.1 rfl (lv_room (Nat.le_of_ble_eq_true rfl)) d_NLongNumber_subtractLimbs_25 ⟨Nat.le_of_ble_eq_true rfl, Nat.le_of_ble_eq_true rfl⟩) hS (fun r31 f32 H locs hq33 hP hD hS => ?_)
        obtain ⟨qv_34, rfl⟩ := hq33
        subst qv_34
        have hm35 : lm dz nz i < 1000000000 := lm_lt cbz (by omega) _
        refine lv_isub hx hb d_NLongNumber_subtractLimbs_28 ?_
        refine lv_iload hx hb d_NLongNumber_subtractLimbs_29 (lv_at hl 1 rfl) ?_
        refine lv_isub hx hb d_NLongNumber_subtractLimbs_31 ?_
        rw [nI_ss]
        refine lv_istore (lv' := [(6, .int (nI (dg dy i) - nI ((lm dz nz i) + cy))), (5, .int (nI i)), (4, .int (nI cy)), (0, .ref x), (1, .ref y), (2, .ref z), (3, .int sg)]) hx hb d_NLongNumber_subtractLimbs_32 hl (by decide) rfl (fun ls hl => ?_)
        refine lv_iload hx hb d_NLongNumber_subtractLimbs_34 (lv_at hl 0 rfl) ?_
        refine lv_if_ge (tgt := 43) hx hb d_NLongNumber_subtractLimbs_36 (by decide) (fun b36 => ?_) (fun b36 => ?_)
        · skip
          replace b36 : ¬ (dg dy i) < ((lm dz nz i) + cy) := fun q9 => absurd ((nI_dlt (u := dg dy i) (m := (lm dz nz i) + cy) (by omega) (by omega)).mpr q9) (Int32.not_lt.mpr b36)
          refine lv_iconst (v := nI 0) hx hb d_NLongNumber_subtractLimbs_43 (by decide) ?_
          refine lv_istore (lv' := [(4, .int (nI 0)), (6, .int (nI (dg dy i) - nI ((lm dz nz i) + cy))), (5, .int (nI i)), (0, .ref x), (1, .ref y), (2, .ref z), (3, .int sg)]) hx hb d_NLongNumber_subtractLimbs_44 hl (by decide) rfl (fun ls hl => ?_)
          refine lv_aload_n hx hb d_NLongNumber_subtractLimbs_46 rfl (lv_at hl 3 rfl) ?_
          refine pf_get (v := .ref (g.lk x 2)) (C := "BigRunner$LongNumber") (T := FT4) (N := 3) hx hb (hw4 hB _) (fun _ h9 => h9) hown hK hP (lo_in hL t_x (by decide)) e1 rfl 2 (by decide) (wd_192 hB _) rfl d_NLongNumber_subtractLimbs_47 ?_
          refine lv_iload hx hb d_NLongNumber_subtractLimbs_50 (lv_at hl 2 rfl) ?_
          refine lv_iload hx hb d_NLongNumber_subtractLimbs_52 (lv_at hl 1 rfl) ?_
          refine lv_iload hx hb d_NLongNumber_subtractLimbs_54 (lv_at hl 0 rfl) ?_
          refine lv_ldc (v := 1000000000) hx hb hown (wd_780 hB _) d_NLongNumber_subtractLimbs_56 ?_
          refine lv_topi (fun z_ hz_ => ?_)
          obtain rfl : z_ = nI 1000000000 := hz_
          refine pf_imulN (x := 0) (y := 1000000000) hx hb d_NLongNumber_subtractLimbs_58 ?_
          refine lv_topi (fun z_ hz_ => ?_)
          obtain rfl : z_ = nI 0 := hz_.trans (congrArg nI (Nat.zero_mul 1000000000))
          refine lv_iadd hx hb d_NLongNumber_subtractLimbs_59 ?_
          rw [nI_dad (show ((lm dz nz i) + cy) ≤ (dg dy i) + 0 by omega)]
          refine pf_iast (i := i) hx hb hK hP hD hS (lo_in hL (lo_k5_2 hL _ t_x) (by decide)) e14 (lo_t23 hL _ (lo_k5_2 hL _ t_x)) (by omega) (by decide) d_NLongNumber_subtractLimbs_60 (fun f37 H locs e38 k39 hP hD hS => ?_)
          have eay := (k39 y (tg_ne t_y (lo_k5_2 hL _ t_x) (by decide))).trans eay
          have eaz := (k39 z (tg_ne t_z (lo_k5_2 hL _ t_x) (by decide))).trans eaz
          have e1 := (k39 x (tg_ne t_x (lo_k5_2 hL _ t_x) (by decide))).trans e1
          have e15 := (k39 (g.lk y 2) (fun q9 => h1 (lo_inj5 hL _ _ t_y t_x q9))).trans e15
          have e16 := (k39 (g.lk z 2) (fun q9 => h2 (lo_inj5 hL _ _ t_z t_x q9))).trans e16
          have hu : ∀ b, b ≠ x → b ≠ (g.lk x 2) → f37 b = f b := fun b q0 q1 => (k39 b q1).trans (hu b q0 q1)
          have hv18 := hv18.st k39 (lo_k5_2 hL _ t_x) (by decide)
          have hk40 : ∀ b, b ≠ (g.lk x 2) → f37 b = f10 b := k39
          have c41 := lb_upd (n := 15) (i := i) (v := (dg dy i) + 0 - ((lm dz nz i) + cy)) hc (by omega)
          refine lv_iinc (k := 2) (v := nI (i + 1)) (lv' := [(5, .int (nI (i + 1))), (4, .int (nI 0)), (6, .int (nI (dg dy i) - nI ((lm dz nz i) + cy))), (0, .ref x), (1, .ref y), (2, .ref z), (3, .int sg)]) hx hb d_NLongNumber_subtractLimbs_61 hl rfl (by rw [nI_succ]; rfl) (by decide) rfl (fun ls hl => ?_)
          refine lv_goto (tgt := 6) hx hb d_NLongNumber_subtractLimbs_64 (by decide) ?_
          have hI42 := ix_23 hI17 hL t_x hk40 (⟨_, e38, c41⟩)
          have hl : lv_has ls 7 [(5, .int (nI (i + 1))), (4, .int (nI 0)), (0, .ref x), (1, .ref y), (2, .ref z), (3, .int sg)] := lv_sub hl [0, 1, 3, 4, 5, 6] rfl
          exact ih12 0 (i + 1) (upd h i ((nI ((dg dy i) + 0 - ((lm dz nz i) + cy))))) f37 H locs ls (by omega) (by omega) (by omega) c41 (sl_2 (a := dg dy) (b := lm dz nz) he (by omega) (by omega)) e38 e15 e16 hI42 hv18 hu hl hP hD hS
        · skip
          replace b36 := ((nI_dlt (u := dg dy i) (m := (lm dz nz i) + cy) (by omega) (by omega)).mp (Int32.not_le.mp b36))
          refine lv_iconst (v := nI 1) hx hb d_NLongNumber_subtractLimbs_39 (by decide) ?_
          refine lv_goto (tgt := 44) hx hb d_NLongNumber_subtractLimbs_40 (by decide) ?_
          refine lv_istore (lv' := [(4, .int (nI 1)), (6, .int (nI (dg dy i) - nI ((lm dz nz i) + cy))), (5, .int (nI i)), (0, .ref x), (1, .ref y), (2, .ref z), (3, .int sg)]) hx hb d_NLongNumber_subtractLimbs_44 hl (by decide) rfl (fun ls hl => ?_)
          refine lv_aload_n hx hb d_NLongNumber_subtractLimbs_46 rfl (lv_at hl 3 rfl) ?_
          refine pf_get (v := .ref (g.lk x 2)) (C := "BigRunner$LongNumber") (T := FT4) (N := 3) hx hb (hw4 hB _) (fun _ h9 => h9) hown hK hP (lo_in hL t_x (by decide)) e1 rfl 2 (by decide) (wd_192 hB _) rfl d_NLongNumber_subtractLimbs_47 ?_
          refine lv_iload hx hb d_NLongNumber_subtractLimbs_50 (lv_at hl 2 rfl) ?_
          refine lv_iload hx hb d_NLongNumber_subtractLimbs_52 (lv_at hl 1 rfl) ?_
          refine lv_iload hx hb d_NLongNumber_subtractLimbs_54 (lv_at hl 0 rfl) ?_
          refine lv_ldc (v := 1000000000) hx hb hown (wd_780 hB _) d_NLongNumber_subtractLimbs_56 ?_
          refine lv_topi (fun z_ hz_ => ?_)
          obtain rfl : z_ = nI 1000000000 := hz_
          refine pf_imulN (x := 1) (y := 1000000000) hx hb d_NLongNumber_subtractLimbs_58 ?_
          refine lv_topi (fun z_ hz_ => ?_)
          obtain rfl : z_ = nI 1000000000 := hz_.trans (congrArg nI (Nat.one_mul 1000000000))
          refine lv_iadd hx hb d_NLongNumber_subtractLimbs_59 ?_
          rw [nI_dad (show ((lm dz nz i) + cy) ≤ (dg dy i) + 1000000000 by omega)]
          refine pf_iast (i := i) hx hb hK hP hD hS (lo_in hL (lo_k5_2 hL _ t_x) (by decide)) e14 (lo_t23 hL _ (lo_k5_2 hL _ t_x)) (by omega) (by decide) d_NLongNumber_subtractLimbs_60 (fun f43 H locs e44 k45 hP hD hS => ?_)
          have eay := (k45 y (tg_ne t_y (lo_k5_2 hL _ t_x) (by decide))).trans eay
          have eaz := (k45 z (tg_ne t_z (lo_k5_2 hL _ t_x) (by decide))).trans eaz
          have e1 := (k45 x (tg_ne t_x (lo_k5_2 hL _ t_x) (by decide))).trans e1
          have e15 := (k45 (g.lk y 2) (fun q9 => h1 (lo_inj5 hL _ _ t_y t_x q9))).trans e15
          have e16 := (k45 (g.lk z 2) (fun q9 => h2 (lo_inj5 hL _ _ t_z t_x q9))).trans e16
          have hu : ∀ b, b ≠ x → b ≠ (g.lk x 2) → f43 b = f b := fun b q0 q1 => (k45 b q1).trans (hu b q0 q1)
          have hv18 := hv18.st k45 (lo_k5_2 hL _ t_x) (by decide)
          have hk46 : ∀ b, b ≠ (g.lk x 2) → f43 b = f10 b := k45
          have c47 := lb_upd (n := 15) (i := i) (v := (dg dy i) + 1000000000 - ((lm dz nz i) + cy)) hc (by omega)
          refine lv_iinc (k := 2) (v := nI (i + 1)) (lv' := [(5, .int (nI (i + 1))), (4, .int (nI 1)), (6, .int (nI (dg dy i) - nI ((lm dz nz i) + cy))), (0, .ref x), (1, .ref y), (2, .ref z), (3, .int sg)]) hx hb d_NLongNumber_subtractLimbs_61 hl rfl (by rw [nI_succ]; rfl) (by decide) rfl (fun ls hl => ?_)
          refine lv_goto (tgt := 6) hx hb d_NLongNumber_subtractLimbs_64 (by decide) ?_
          have hI48 := ix_23 hI17 hL t_x hk46 (⟨_, e44, c47⟩)
          have hl : lv_has ls 7 [(5, .int (nI (i + 1))), (4, .int (nI 1)), (0, .ref x), (1, .ref y), (2, .ref z), (3, .int sg)] := lv_sub hl [0, 1, 3, 4, 5, 6] rfl
          exact ih12 1 (i + 1) (upd h i ((nI ((dg dy i) + 1000000000 - ((lm dz nz i) + cy))))) f43 H locs ls (by omega) (by omega) (by omega) c47 (sl_1 (a := dg dy) (b := lm dz nz) he (by omega) (by omega) (by omega) (by omega)) e44 e15 e16 hI48 hv18 hu hl hP hD hS
  exact lp9 (ny + 1) 0 0 h_6 f s.heap [] ls (by omega) (by omega) (by omega) c7 (by simp [kv]) e5 eby ebz hI8 un.rf hu hl hP hD hS
set_option maxHeartbeats 4000000 in
set_option maxRecDepth 100000 in
theorem v_setSum (l : Launch) (g : Lay) (sz : Nat) (f : Nat → va_E) (x : Nat) (y : Nat) (sgy : Int32) (ny : Nat) (dy : Nat → Int32) (vy : Int) (z : Nat) (sgz : Int32) (nz : Nat) (dz : Nat → Int32) (vz : Int) (sg : Int32) (hL : LO g) (t_x : g.tg x = 5) (t_y : g.tg y = 5) (t_z : g.tg z = 5) (hI : IV g f) (eay : f y = .inr (4, [.int sgy, .int (nI ny), .ref (g.lk y 2)])) (eby : f (g.lk y 2) = .inl (g.ac (g.lk y 2), 15, .inl dy)) (hNy : LNF sgy ny dy vy) (eaz : f z = .inr (4, [.int sgz, .int (nI nz), .ref (g.lk z 2)])) (ebz : f (g.lk z 2) = .inl (g.ac (g.lk z 2), 15, .inl dz)) (hNz : LNF sgz nz dz vz) (h1 : y ≠ x) (h2 : z ≠ x) (hs : LSg sg nz) : Met l ⟨"BigRunner$LongNumber", "setSum", "(LBigRunner$LongNumber;LBigRunner$LongNumber;I)Z"⟩ [Cond.code ⟨"BigRunner$LongNumber", "setSum", "(LBigRunner$LongNumber;LBigRunner$LongNumber;I)Z"⟩ prog_5_method_9_code 4 (some .boolean)] ({ frames := 3, cells := 0, slots := 0, locals := 89 }) (va_Pc [.ref x, .ref y, .ref z, .int sg] (pc_in g sz f)) (va_Qi (fun r f1 => (r = nI 0 ∨ r = nI 1) ∧ (∃ (sg1 : Int32) (n1 : Nat) (h1 : Nat → Int32), f1 x = .inr (4, [.int sg1, .int (nI n1), .ref (g.lk x 2)]) ∧ f1 (g.lk x 2) = .inl (g.ac (g.lk x 2), 15, .inl h1) ∧ LNV sg1 n1 h1 (vy + sg.toInt * (kv (dg dz) nz : Int))) ∧ (r = nI 1 → (vy + sg.toInt * (kv (dg dz) nz : Int)).natAbs < T12) ∧ (r = nI 0 → T12 ≤ (vy + sg.toInt * (kv (dg dz) nz : Int)).natAbs) ∧ (IV g f1) ∧ (∀ b, b ≠ x → b ≠ (g.lk x 2) → f1 b = f b)) (pc_out g sz) (pc_A g sz)) 0 0 (pc_A g sz) := by
  refine pe_ofW (cc := prog_5_method_9_code) (maxL := 4) (ret := (some .boolean)) (lv := [(0, .ref x), (1, .ref y), (2, .ref z), (3, .int sg)]) (by decide) (Nat.le_of_ble_eq_true rfl) rfl ?_
  intro p e s m args below meth c ls hx hb hr hml hlocks hown hB hP hK hD hsz hS hl
  subst hsz
  have hu : ∀ b, b ≠ x → b ≠ (g.lk x 2) → f b = f b := fun _ _ _  => rfl
  have cby : ∀ i, i < 15 → ∃ k, k < 1000000000 ∧ dy i = nI k := hNy.1.2.1
  have hny : ny ≤ 15 := hNy.1.1
  have hfy : ny ≤ 14 := LNF_14 hNy
  have cbz : ∀ i, i < 15 → ∃ k, k < 1000000000 ∧ dz i = nI k := hNz.1.2.1
  have hnz : nz ≤ 15 := hNz.1.1
  have hfz : nz ≤ 14 := LNF_14 hNz
  refine lv_iload_n hx hb d_NLongNumber_setSum_0 rfl (lv_at hl 3 rfl) ?_
  refine lv_if_ne (tgt := 16) hx hb d_NLongNumber_setSum_1 (by decide) (fun b1 => ?_) (fun b1 => ?_)
  · skip
    replace b1 : ¬ sg = nI 0 := b1
    refine lv_aload_n hx hb d_NLongNumber_setSum_16 rfl (lv_at hl 1 rfl) ?_
    refine pf_get (v := .int sgy) (C := "BigRunner$LongNumber") (T := FT4) (N := 3) hx hb (hw4 hB _) (fun _ h9 => h9) hown hK hP (lo_in hL t_y (by decide)) eay rfl 0 (by decide) (wd_186 hB _) rfl d_NLongNumber_setSum_17 ?_
    refine lv_if_ne (tgt := 32) hx hb d_NLongNumber_setSum_20 (by decide) (fun b2 => ?_) (fun b2 => ?_)
    · skip
      replace b2 : ¬ sgy = nI 0 := b2
      refine lv_aload_n hx hb d_NLongNumber_setSum_32 rfl (lv_at hl 1 rfl) ?_
      refine pf_get (v := .int sgy) (C := "BigRunner$LongNumber") (T := FT4) (N := 3) hx hb (hw4 hB _) (fun _ h9 => h9) hown hK hP (lo_in hL t_y (by decide)) eay rfl 0 (by decide) (wd_186 hB _) rfl d_NLongNumber_setSum_33 ?_
      refine lv_iload_n hx hb d_NLongNumber_setSum_36 rfl (lv_at hl 3 rfl) ?_
      refine lv_icmp_ne (tgt := 53) hx hb d_NLongNumber_setSum_37 (by decide) (fun b3 => ?_) (fun b3 => ?_)
      · skip
        refine lv_aload_n hx hb d_NLongNumber_setSum_53 rfl (lv_at hl 1 rfl) ?_
        refine lv_aload_n hx hb d_NLongNumber_setSum_54 rfl (lv_at hl 2 rfl) ?_
        refine pcc_i (va_runS (As := [.ref y, .ref z]) (rest := []) ⟨hx, hb, hml, hown, tb_nil⟩ (v_isFarther l g s.heap.size f y sgy ny dy vy z sgz nz dz vz hL t_y t_z hI.1 eay eby hNy eaz ebz hNz) ⟨(callB_of 2 (tb_one (wd_787 hB _)) tb_good1 rfl rfl rfl (wd_78 hB _) (wd_785 hB _) (by decide +kernel) ⟨Nat.le_of_ble_eq_true rfl, Nat.le_of_ble_eq_true rfl⟩), (wd_786 hB _)⟩ ⟨pe_bl, pe_pre hB hK hP hD⟩ rfl rfl hl.1 rfl (lv_room (Nat.le_of_ble_eq_true rfl)) d_NLongNumber_setSum_55 ⟨Nat.le_of_ble_eq_true rfl, Nat.le_of_ble_eq_true rfl⟩) hS (fun r4 f5 H locs hq6 hP hD hS => ?_)
        obtain ⟨bo_7, i1_8, i0_9, rfl⟩ := hq6
        refine lv_if_eq (tgt := 74) hx hb d_NLongNumber_setSum_58 (by decide) (fun b10 => ?_) (fun b10 => ?_)
        · skip
          have hr11 : r4 = nI 0 := b10
          have hi12 := i0_9 hr11
          refine lv_aload_n hx hb d_NLongNumber_setSum_74 rfl (lv_at hl 0 rfl) ?_
          refine lv_aload_n hx hb d_NLongNumber_setSum_75 rfl (lv_at hl 2 rfl) ?_
          refine lv_aload_n hx hb d_NLongNumber_setSum_76 rfl (lv_at hl 1 rfl) ?_
          refine lv_iload_n hx hb d_NLongNumber_setSum_77 rfl (lv_at hl 3 rfl) ?_
          obtain ⟨sg_14, n_15, e13, c16⟩ := oc_5.of t_x (hI.1 x)
          refine pcc_v (va_runV (C := "BigRunner$LongNumber") (As := [.ref z, .ref y, .int sg]) (rest := []) ⟨hx, hb, hml, hown, tb_nil⟩ (v_subtractLimbs l g H.size f x z sgz nz dz vz y sgy ny dy vy sg hL t_x t_z t_y hI eaz ebz hNz eay eby hNy h2 h1 (LS_SGN hs (by assumption)) (by assumption)) ⟨(callB_of 3 (tb_one (wd_791 hB _)) tb_good1 rfl rfl rfl (wd_78 hB _) (wd_788 hB _) (by decide +kernel) ⟨Nat.le_of_ble_eq_true rfl, Nat.le_of_ble_eq_true rfl⟩), (wd_790 hB _), (wd_32 hB _)⟩ ⟨pe_bl, pg_recv (ci := 4) hK hP (lo_in hL t_x (by decide)) e13 rfl, pe_pre hB hK hP hD⟩ rfl rfl hl.1 rfl (lv_room (Nat.le_of_ble_eq_true rfl)) d_NLongNumber_setSum_78 ⟨Nat.le_of_ble_eq_true rfl, Nat.le_of_ble_eq_true rfl⟩) hS (fun f18 H locs hq19 hP hD hS => ?_)
          obtain ⟨lv_20, hI1_21, hk1_22⟩ := hq19
          have hu : ∀ b, b ≠ x → b ≠ (g.lk x 2) → f18 b = f b := fun b q0 q1 => (hk1_22 b q0 q1).trans (hu b q0 q1)
          have eay := (hk1_22 y h1 (tg_ne t_y (lo_k5_2 hL _ t_x) (by decide))).trans eay
          have eby := (hk1_22 (g.lk y 2) (tg_ne (lo_k5_2 hL _ t_y) t_x (by decide)) (fun q9 => h1 (lo_inj5 hL _ _ t_y t_x q9))).trans eby
          have eaz := (hk1_22 z h2 (tg_ne t_z (lo_k5_2 hL _ t_x) (by decide))).trans eaz
          have ebz := (hk1_22 (g.lk z 2) (tg_ne (lo_k5_2 hL _ t_z) t_x (by decide)) (fun q9 => h2 (lo_inj5 hL _ _ t_z t_x q9))).trans ebz
          obtain ⟨sg23, nn24, dd25, e26, e27, hN28⟩ := lv_20
          have c29 : ∀ i, i < 15 → ∃ k, k < 1000000000 ∧ dd25 i = nI k := hN28.2.1
          have hnn24 : nn24 ≤ 15 := hN28.1
          refine lv_aload_n hx hb d_NLongNumber_setSum_81 rfl (lv_at hl 0 rfl) ?_
          have hNs : LNV sg23 nn24 dd25 (vy + sg.toInt * (kv (dg dz) nz : Int)) := LNV_cast hN28 (by first | exact ss_a hNy.1 (by assumption) | exact ss_b hNy.1 (by assumption) | exact ss_c hNy.1 (by assumption) | exact ss_d hNy.1 hs (by assumption) (by assumption) (by assumption) (by assumption) | exact ss_e hNy.1 hs (by assumption) (by assumption) (by assumption) (by assumption))
          refine pcc_i (va_runV (C := "BigRunner$LongNumber") (As := []) (rest := []) ⟨hx, hb, hml, hown, tb_nil⟩ (v_fits l g H.size f18 x sg23 nn24 dd25 hL t_x hI1_21.1 e26 e27 c29 (by omega) hNs.2.2.2.1) ⟨(callB_of 0 (tb_one (wd_795 hB _)) tb_good1 rfl rfl rfl (wd_78 hB _) (wd_792 hB _) (by decide +kernel) ⟨Nat.le_of_ble_eq_true rfl, Nat.le_of_ble_eq_true rfl⟩), (wd_794 hB _), (wd_33 hB _)⟩ ⟨pe_bl, pg_recv (ci := 4) hK hP (lo_in hL t_x (by decide)) e26 rfl, pe_pre hB hK hP hD⟩ rfl rfl hl.1 rfl (lv_room (Nat.le_of_ble_eq_true rfl)) d_NLongNumber_setSum_82 ⟨Nat.le_of_ble_eq_true rfl, Nat.le_of_ble_eq_true rfl⟩) hS (fun r30 f31 H locs hq32 hP hD hS => ?_)
          obtain ⟨bo_33, i1_34, i0_35, rfl⟩ := hq32
          exact pe_zret hx hb hr hlocks hK hP hD hS d_NLongNumber_setSum_85 (by rcases bo_33 with h9 | h9 <;> rw [h9] <;> rfl) ⟨bo_33, ⟨_, _, _, e26, e27, hNs⟩, (fun z9 => by rw [LNV_abs hNs]; exact i1_34 z9), (fun z9 => by rw [LNV_abs hNs]; exact i0_35 z9), hI1_21, hu⟩
        · skip
          have hr36 : r4 = nI 1 := (bl_1 bo_7 b10)
          have hi37 := i1_8 hr36
          refine lv_aload_n hx hb d_NLongNumber_setSum_61 rfl (lv_at hl 0 rfl) ?_
          refine lv_aload_n hx hb d_NLongNumber_setSum_62 rfl (lv_at hl 1 rfl) ?_
          refine lv_aload_n hx hb d_NLongNumber_setSum_63 rfl (lv_at hl 2 rfl) ?_
          refine lv_aload_n hx hb d_NLongNumber_setSum_64 rfl (lv_at hl 1 rfl) ?_
          refine pf_get (v := .int sgy) (C := "BigRunner$LongNumber") (T := FT4) (N := 3) hx hb (hw4 hB _) (fun _ h9 => h9) hown hK hP (lo_in hL t_y (by decide)) eay rfl 0 (by decide) (wd_186 hB _) rfl d_NLongNumber_setSum_65 ?_
          obtain ⟨sg_39, n_40, e38, c41⟩ := oc_5.of t_x (hI.1 x)
          refine pcc_v (va_runV (C := "BigRunner$LongNumber") (As := [.ref y, .ref z, .int sgy]) (rest := []) ⟨hx, hb, hml, hown, tb_nil⟩ (v_subtractLimbs l g H.size f x y sgy ny dy vy z sgz nz dz vz sgy hL t_x t_y t_z hI eay eby hNy eaz ebz hNz h1 h2 (LS_SGN hNy.1.2.2.1 (by assumption)) (by assumption)) ⟨(callB_of 3 (tb_one (wd_791 hB _)) tb_good1 rfl rfl rfl (wd_78 hB _) (wd_788 hB _) (by decide +kernel) ⟨Nat.le_of_ble_eq_true rfl, Nat.le_of_ble_eq_true rfl⟩), (wd_790 hB _), (wd_32 hB _)⟩ ⟨pe_bl, pg_recv (ci := 4) hK hP (lo_in hL t_x (by decide)) e38 rfl, pe_pre hB hK hP hD⟩ rfl rfl hl.1 rfl (lv_room (Nat.le_of_ble_eq_true rfl)) d_NLongNumber_setSum_68 ⟨Nat.le_of_ble_eq_true rfl, Nat.le_of_ble_eq_true rfl⟩) hS (fun f43 H locs hq44 hP hD hS => ?_)
          obtain ⟨lv_45, hI1_46, hk1_47⟩ := hq44
          have hu : ∀ b, b ≠ x → b ≠ (g.lk x 2) → f43 b = f b := fun b q0 q1 => (hk1_47 b q0 q1).trans (hu b q0 q1)
          have eay := (hk1_47 y h1 (tg_ne t_y (lo_k5_2 hL _ t_x) (by decide))).trans eay
          have eby := (hk1_47 (g.lk y 2) (tg_ne (lo_k5_2 hL _ t_y) t_x (by decide)) (fun q9 => h1 (lo_inj5 hL _ _ t_y t_x q9))).trans eby
          have eaz := (hk1_47 z h2 (tg_ne t_z (lo_k5_2 hL _ t_x) (by decide))).trans eaz
          have ebz := (hk1_47 (g.lk z 2) (tg_ne (lo_k5_2 hL _ t_z) t_x (by decide)) (fun q9 => h2 (lo_inj5 hL _ _ t_z t_x q9))).trans ebz
          obtain ⟨sg48, nn49, dd50, e51, e52, hN53⟩ := lv_45
          have c54 : ∀ i, i < 15 → ∃ k, k < 1000000000 ∧ dd50 i = nI k := hN53.2.1
          have hnn49 : nn49 ≤ 15 := hN53.1
          refine lv_goto (tgt := 81) hx hb d_NLongNumber_setSum_71 (by decide) ?_
          refine lv_aload_n hx hb d_NLongNumber_setSum_81 rfl (lv_at hl 0 rfl) ?_
          have hNs : LNV sg48 nn49 dd50 (vy + sg.toInt * (kv (dg dz) nz : Int)) := LNV_cast hN53 (by first | exact ss_a hNy.1 (by assumption) | exact ss_b hNy.1 (by assumption) | exact ss_c hNy.1 (by assumption) | exact ss_d hNy.1 hs (by assumption) (by assumption) (by assumption) (by assumption) | exact ss_e hNy.1 hs (by assumption) (by assumption) (by assumption) (by assumption))
          refine pcc_i (va_runV (C := "BigRunner$LongNumber") (As := []) (rest := []) ⟨hx, hb, hml, hown, tb_nil⟩ (v_fits l g H.size f43 x sg48 nn49 dd50 hL t_x hI1_46.1 e51 e52 c54 (by omega) hNs.2.2.2.1) ⟨(callB_of 0 (tb_one (wd_795 hB _)) tb_good1 rfl rfl rfl (wd_78 hB _) (wd_792 hB _) (by decide +kernel) ⟨Nat.le_of_ble_eq_true rfl, Nat.le_of_ble_eq_true rfl⟩), (wd_794 hB _), (wd_33 hB _)⟩ ⟨pe_bl, pg_recv (ci := 4) hK hP (lo_in hL t_x (by decide)) e51 rfl, pe_pre hB hK hP hD⟩ rfl rfl hl.1 rfl (lv_room (Nat.le_of_ble_eq_true rfl)) d_NLongNumber_setSum_82 ⟨Nat.le_of_ble_eq_true rfl, Nat.le_of_ble_eq_true rfl⟩) hS (fun r55 f56 H locs hq57 hP hD hS => ?_)
          obtain ⟨bo_58, i1_59, i0_60, rfl⟩ := hq57
          exact pe_zret hx hb hr hlocks hK hP hD hS d_NLongNumber_setSum_85 (by rcases bo_58 with h9 | h9 <;> rw [h9] <;> rfl) ⟨bo_58, ⟨_, _, _, e51, e52, hNs⟩, (fun z9 => by rw [LNV_abs hNs]; exact i1_59 z9), (fun z9 => by rw [LNV_abs hNs]; exact i0_60 z9), hI1_46, hu⟩
      · skip
        refine lv_aload_n hx hb d_NLongNumber_setSum_40 rfl (lv_at hl 0 rfl) ?_
        refine lv_aload_n hx hb d_NLongNumber_setSum_41 rfl (lv_at hl 1 rfl) ?_
        refine lv_aload_n hx hb d_NLongNumber_setSum_42 rfl (lv_at hl 2 rfl) ?_
        refine lv_aload_n hx hb d_NLongNumber_setSum_43 rfl (lv_at hl 1 rfl) ?_
        refine pf_get (v := .int sgy) (C := "BigRunner$LongNumber") (T := FT4) (N := 3) hx hb (hw4 hB _) (fun _ h9 => h9) hown hK hP (lo_in hL t_y (by decide)) eay rfl 0 (by decide) (wd_186 hB _) rfl d_NLongNumber_setSum_44 ?_
        obtain ⟨sg_62, n_63, e61, c64⟩ := oc_5.of t_x (hI.1 x)
        refine pcc_v (va_runV (C := "BigRunner$LongNumber") (As := [.ref y, .ref z, .int sgy]) (rest := []) ⟨hx, hb, hml, hown, tb_nil⟩ (v_addLimbs l g s.heap.size f x y sgy ny dy vy z sgz nz dz vz sgy hL t_x t_y t_z hI eay eby hNy eaz ebz hNz h1 h2 (LS_SGN hNy.1.2.2.1 (by assumption))) ⟨(callB_of 3 (tb_one (wd_771 hB _)) tb_good1 rfl rfl rfl (wd_78 hB _) (wd_768 hB _) (by decide +kernel) ⟨Nat.le_of_ble_eq_true rfl, Nat.le_of_ble_eq_true rfl⟩), (wd_770 hB _), (wd_30 hB _)⟩ ⟨pe_bl, pg_recv (ci := 4) hK hP (lo_in hL t_x (by decide)) e61 rfl, pe_pre hB hK hP hD⟩ rfl rfl hl.1 rfl (lv_room (Nat.le_of_ble_eq_true rfl)) d_NLongNumber_setSum_47 ⟨Nat.le_of_ble_eq_true rfl, Nat.le_of_ble_eq_true rfl⟩) hS (fun f66 H locs hq67 hP hD hS => ?_)
        obtain ⟨lv_68, hI1_69, hk1_70⟩ := hq67
        have hu : ∀ b, b ≠ x → b ≠ (g.lk x 2) → f66 b = f b := fun b q0 q1 => (hk1_70 b q0 q1).trans (hu b q0 q1)
        have eay := (hk1_70 y h1 (tg_ne t_y (lo_k5_2 hL _ t_x) (by decide))).trans eay
        have eby := (hk1_70 (g.lk y 2) (tg_ne (lo_k5_2 hL _ t_y) t_x (by decide)) (fun q9 => h1 (lo_inj5 hL _ _ t_y t_x q9))).trans eby
        have eaz := (hk1_70 z h2 (tg_ne t_z (lo_k5_2 hL _ t_x) (by decide))).trans eaz
        have ebz := (hk1_70 (g.lk z 2) (tg_ne (lo_k5_2 hL _ t_z) t_x (by decide)) (fun q9 => h2 (lo_inj5 hL _ _ t_z t_x q9))).trans ebz
        obtain ⟨sg71, nn72, dd73, e74, e75, hN76⟩ := lv_68
        have c77 : ∀ i, i < 15 → ∃ k, k < 1000000000 ∧ dd73 i = nI k := hN76.2.1
        have hnn72 : nn72 ≤ 15 := hN76.1
        refine lv_goto (tgt := 81) hx hb d_NLongNumber_setSum_50 (by decide) ?_
        refine lv_aload_n hx hb d_NLongNumber_setSum_81 rfl (lv_at hl 0 rfl) ?_
        have hNs : LNV sg71 nn72 dd73 (vy + sg.toInt * (kv (dg dz) nz : Int)) := LNV_cast hN76 (by first | exact ss_a hNy.1 (by assumption) | exact ss_b hNy.1 (by assumption) | exact ss_c hNy.1 (by assumption) | exact ss_d hNy.1 hs (by assumption) (by assumption) (by assumption) (by assumption) | exact ss_e hNy.1 hs (by assumption) (by assumption) (by assumption) (by assumption))
        refine pcc_i (va_runV (C := "BigRunner$LongNumber") (As := []) (rest := []) ⟨hx, hb, hml, hown, tb_nil⟩ (v_fits l g H.size f66 x sg71 nn72 dd73 hL t_x hI1_69.1 e74 e75 c77 (by omega) hNs.2.2.2.1) ⟨(callB_of 0 (tb_one (wd_795 hB _)) tb_good1 rfl rfl rfl (wd_78 hB _) (wd_792 hB _) (by decide +kernel) ⟨Nat.le_of_ble_eq_true rfl, Nat.le_of_ble_eq_true rfl⟩), (wd_794 hB _), (wd_33 hB _)⟩ ⟨pe_bl, pg_recv (ci := 4) hK hP (lo_in hL t_x (by decide)) e74 rfl, pe_pre hB hK hP hD⟩ rfl rfl hl.1 rfl (lv_room (Nat.le_of_ble_eq_true rfl)) d_NLongNumber_setSum_82 ⟨Nat.le_of_ble_eq_true rfl, Nat.le_of_ble_eq_true rfl⟩) hS (fun r78 f79 H locs hq80 hP hD hS => ?_)
        obtain ⟨bo_81, i1_82, i0_83, rfl⟩ := hq80
        exact pe_zret hx hb hr hlocks hK hP hD hS d_NLongNumber_setSum_85 (by rcases bo_81 with h9 | h9 <;> rw [h9] <;> rfl) ⟨bo_81, ⟨_, _, _, e74, e75, hNs⟩, (fun z9 => by rw [LNV_abs hNs]; exact i1_82 z9), (fun z9 => by rw [LNV_abs hNs]; exact i0_83 z9), hI1_69, hu⟩
    · skip
      replace b2 : sgy = nI 0 := b2
      refine lv_aload_n hx hb d_NLongNumber_setSum_23 rfl (lv_at hl 0 rfl) ?_
      refine lv_aload_n hx hb d_NLongNumber_setSum_24 rfl (lv_at hl 2 rfl) ?_
      refine lv_iload_n hx hb d_NLongNumber_setSum_25 rfl (lv_at hl 3 rfl) ?_
      obtain ⟨sg_85, n_86, e84, c87⟩ := oc_5.of t_x (hI.1 x)
      refine pcc_v (va_runV (C := "BigRunner$LongNumber") (As := [.ref z, .int sg]) (rest := []) ⟨hx, hb, hml, hown, tb_nil⟩ (v_copy l g s.heap.size f x z sgz nz dz vz sg hL t_x t_z hI eaz ebz hNz.1 h2 hs) ⟨(callB_of 2 (tb_one (wd_746 hB _)) tb_good1 rfl rfl rfl (wd_78 hB _) (wd_767 hB _) (by decide +kernel) ⟨Nat.le_of_ble_eq_true rfl, Nat.le_of_ble_eq_true rfl⟩), (wd_744 hB _), (wd_745 hB _)⟩ ⟨pe_bl, pg_recv (ci := 4) hK hP (lo_in hL t_x (by decide)) e84 rfl, pe_pre hB hK hP hD⟩ rfl rfl hl.1 rfl (lv_room (Nat.le_of_ble_eq_true rfl)) d_NLongNumber_setSum_26 ⟨Nat.le_of_ble_eq_true rfl, Nat.le_of_ble_eq_true rfl⟩) hS (fun f89 H locs hq90 hP hD hS => ?_)
      obtain ⟨lv_91, hI1_92, hk1_93⟩ := hq90
      have hu : ∀ b, b ≠ x → b ≠ (g.lk x 2) → f89 b = f b := fun b q0 q1 => (hk1_93 b q0 q1).trans (hu b q0 q1)
      have eay := (hk1_93 y h1 (tg_ne t_y (lo_k5_2 hL _ t_x) (by decide))).trans eay
      have eby := (hk1_93 (g.lk y 2) (tg_ne (lo_k5_2 hL _ t_y) t_x (by decide)) (fun q9 => h1 (lo_inj5 hL _ _ t_y t_x q9))).trans eby
      have eaz := (hk1_93 z h2 (tg_ne t_z (lo_k5_2 hL _ t_x) (by decide))).trans eaz
      have ebz := (hk1_93 (g.lk z 2) (tg_ne (lo_k5_2 hL _ t_z) t_x (by decide)) (fun q9 => h2 (lo_inj5 hL _ _ t_z t_x q9))).trans ebz
      obtain ⟨sg94, nn95, dd96, e97, e98, hN99⟩ := lv_91
      have c100 : ∀ i, i < 15 → ∃ k, k < 1000000000 ∧ dd96 i = nI k := hN99.2.1
      have hnn95 : nn95 ≤ 15 := hN99.1
      refine lv_goto (tgt := 81) hx hb d_NLongNumber_setSum_29 (by decide) ?_
      refine lv_aload_n hx hb d_NLongNumber_setSum_81 rfl (lv_at hl 0 rfl) ?_
      have hNs : LNV sg94 nn95 dd96 (vy + sg.toInt * (kv (dg dz) nz : Int)) := LNV_cast hN99 (by first | exact ss_a hNy.1 (by assumption) | exact ss_b hNy.1 (by assumption) | exact ss_c hNy.1 (by assumption) | exact ss_d hNy.1 hs (by assumption) (by assumption) (by assumption) (by assumption) | exact ss_e hNy.1 hs (by assumption) (by assumption) (by assumption) (by assumption))
      refine pcc_i (va_runV (C := "BigRunner$LongNumber") (As := []) (rest := []) ⟨hx, hb, hml, hown, tb_nil⟩ (v_fits l g H.size f89 x sg94 nn95 dd96 hL t_x hI1_92.1 e97 e98 c100 (by omega) hNs.2.2.2.1) ⟨(callB_of 0 (tb_one (wd_795 hB _)) tb_good1 rfl rfl rfl (wd_78 hB _) (wd_792 hB _) (by decide +kernel) ⟨Nat.le_of_ble_eq_true rfl, Nat.le_of_ble_eq_true rfl⟩), (wd_794 hB _), (wd_33 hB _)⟩ ⟨pe_bl, pg_recv (ci := 4) hK hP (lo_in hL t_x (by decide)) e97 rfl, pe_pre hB hK hP hD⟩ rfl rfl hl.1 rfl (lv_room (Nat.le_of_ble_eq_true rfl)) d_NLongNumber_setSum_82 ⟨Nat.le_of_ble_eq_true rfl, Nat.le_of_ble_eq_true rfl⟩) hS (fun r101 f102 H locs hq103 hP hD hS => ?_)
      obtain ⟨bo_104, i1_105, i0_106, rfl⟩ := hq103
      exact pe_zret hx hb hr hlocks hK hP hD hS d_NLongNumber_setSum_85 (by rcases bo_104 with h9 | h9 <;> rw [h9] <;> rfl) ⟨bo_104, ⟨_, _, _, e97, e98, hNs⟩, (fun z9 => by rw [LNV_abs hNs]; exact i1_105 z9), (fun z9 => by rw [LNV_abs hNs]; exact i0_106 z9), hI1_92, hu⟩
  · skip
    replace b1 : sg = nI 0 := b1
    refine lv_aload_n hx hb d_NLongNumber_setSum_4 rfl (lv_at hl 0 rfl) ?_
    refine lv_aload_n hx hb d_NLongNumber_setSum_5 rfl (lv_at hl 1 rfl) ?_
    refine lv_aload_n hx hb d_NLongNumber_setSum_6 rfl (lv_at hl 1 rfl) ?_
    refine pf_get (v := .int sgy) (C := "BigRunner$LongNumber") (T := FT4) (N := 3) hx hb (hw4 hB _) (fun _ h9 => h9) hown hK hP (lo_in hL t_y (by decide)) eay rfl 0 (by decide) (wd_186 hB _) rfl d_NLongNumber_setSum_7 ?_
    obtain ⟨sg_108, n_109, e107, c110⟩ := oc_5.of t_x (hI.1 x)
    refine pcc_v (va_runV (C := "BigRunner$LongNumber") (As := [.ref y, .int sgy]) (rest := []) ⟨hx, hb, hml, hown, tb_nil⟩ (v_copy l g s.heap.size f x y sgy ny dy vy sgy hL t_x t_y hI eay eby hNy.1 h1 hNy.1.2.2.1) ⟨(callB_of 2 (tb_one (wd_746 hB _)) tb_good1 rfl rfl rfl (wd_78 hB _) (wd_767 hB _) (by decide +kernel) ⟨Nat.le_of_ble_eq_true rfl, Nat.le_of_ble_eq_true rfl⟩), (wd_744 hB _), (wd_745 hB _)⟩ ⟨pe_bl, pg_recv (ci := 4) hK hP (lo_in hL t_x (by decide)) e107 rfl, pe_pre hB hK hP hD⟩ rfl rfl hl.1 rfl (lv_room (Nat.le_of_ble_eq_true rfl)) d_NLongNumber_setSum_10 ⟨Nat.le_of_ble_eq_true rfl, Nat.le_of_ble_eq_true rfl⟩) hS (fun f112 H locs hq113 hP hD hS => ?_)
    obtain ⟨lv_114, hI1_115, hk1_116⟩ := hq113
    have hu : ∀ b, b ≠ x → b ≠ (g.lk x 2) → f112 b = f b := fun b q0 q1 => (hk1_116 b q0 q1).trans (hu b q0 q1)
    have eay := (hk1_116 y h1 (tg_ne t_y (lo_k5_2 hL _ t_x) (by decide))).trans eay
    have eby := (hk1_116 (g.lk y 2) (tg_ne (lo_k5_2 hL _ t_y) t_x (by decide)) (fun q9 => h1 (lo_inj5 hL _ _ t_y t_x q9))).trans eby
    have eaz := (hk1_116 z h2 (tg_ne t_z (lo_k5_2 hL _ t_x) (by decide))).trans eaz
    have ebz := (hk1_116 (g.lk z 2) (tg_ne (lo_k5_2 hL _ t_z) t_x (by decide)) (fun q9 => h2 (lo_inj5 hL _ _ t_z t_x q9))).trans ebz
    obtain ⟨sg117, nn118, dd119, e120, e121, hN122⟩ := lv_114
    have c123 : ∀ i, i < 15 → ∃ k, k < 1000000000 ∧ dd119 i = nI k := hN122.2.1
    have hnn118 : nn118 ≤ 15 := hN122.1
    refine lv_goto (tgt := 81) hx hb d_NLongNumber_setSum_13 (by decide) ?_
    refine lv_aload_n hx hb d_NLongNumber_setSum_81 rfl (lv_at hl 0 rfl) ?_
    have hNs : LNV sg117 nn118 dd119 (vy + sg.toInt * (kv (dg dz) nz : Int)) := LNV_cast hN122 (by first | exact ss_a hNy.1 (by assumption) | exact ss_b hNy.1 (by assumption) | exact ss_c hNy.1 (by assumption) | exact ss_d hNy.1 hs (by assumption) (by assumption) (by assumption) (by assumption) | exact ss_e hNy.1 hs (by assumption) (by assumption) (by assumption) (by assumption))
    refine pcc_i (va_runV (C := "BigRunner$LongNumber") (As := []) (rest := []) ⟨hx, hb, hml, hown, tb_nil⟩ (v_fits l g H.size f112 x sg117 nn118 dd119 hL t_x hI1_115.1 e120 e121 c123 (by omega) hNs.2.2.2.1) ⟨(callB_of 0 (tb_one (wd_795 hB _)) tb_good1 rfl rfl rfl (wd_78 hB _) (wd_792 hB _) (by decide +kernel) ⟨Nat.le_of_ble_eq_true rfl, Nat.le_of_ble_eq_true rfl⟩), (wd_794 hB _), (wd_33 hB _)⟩ ⟨pe_bl, pg_recv (ci := 4) hK hP (lo_in hL t_x (by decide)) e120 rfl, pe_pre hB hK hP hD⟩ rfl rfl hl.1 rfl (lv_room (Nat.le_of_ble_eq_true rfl)) d_NLongNumber_setSum_82 ⟨Nat.le_of_ble_eq_true rfl, Nat.le_of_ble_eq_true rfl⟩) hS (fun r124 f125 H locs hq126 hP hD hS => ?_)
    obtain ⟨bo_127, i1_128, i0_129, rfl⟩ := hq126
    exact pe_zret hx hb hr hlocks hK hP hD hS d_NLongNumber_setSum_85 (by rcases bo_127 with h9 | h9 <;> rw [h9] <;> rfl) ⟨bo_127, ⟨_, _, _, e120, e121, hNs⟩, (fun z9 => by rw [LNV_abs hNs]; exact i1_128 z9), (fun z9 => by rw [LNV_abs hNs]; exact i0_129 z9), hI1_115, hu⟩

