set_option maxHeartbeats 4000000 in
set_option maxRecDepth 100000 in
theorem c_digits (l : Launch) (g : Lay) (sz : Nat) (f : Nat → va_E) (x : Nat) (hL : LO g) (t_x : g.tg x = 5) (hI : OC g f) : Met l ⟨"BigRunner$LongNumber", "digits", "()I"⟩ [Cond.code ⟨"BigRunner$LongNumber", "digits", "()I"⟩ prog_5_method_6_code 2 (some .int)] ({ frames := 0, cells := 0, slots := 0, locals := 0 }) (va_Pc [.ref x] (pt_in g sz f)) (va_Qi (fun r f1 => (f = f1)) (pc_out g sz) (pc_A g sz)) 0 0 (pc_A g sz) := by
  refine pt_ofM (cc := prog_5_method_6_code) (maxL := 2) (ret := (some .int)) (lv := [(0, .ref x)]) (by decide) (Nat.le_of_ble_eq_true rfl) rfl ?_
  intro p e s m args below meth c ls hx hb hr hml hlocks hown hB hP hK hD hsz hS hl hTZ
  subst hsz
  refine lv_aload_n hx hb d_NLongNumber_digits_0 rfl (lv_at hl 0 rfl) ?_
  obtain ⟨sg_2, n_3, e1, c4⟩ := oc_5.of t_x (hI x)
  refine pf_get (v := .int (nI n_3)) (C := "BigRunner$LongNumber") (T := FT4) (N := 3) hx hb (hw4 hB _) (fun _ h9 => h9) hown hK hP (lo_in hL t_x (by decide)) e1 rfl 1 (by decide) (wd_190 hB _) rfl d_NLongNumber_digits_1 ?_
  refine lv_if_ne (tgt := 9) hx hb d_NLongNumber_digits_4 (by decide) (fun b5 => ?_) (fun b5 => ?_)
  · skip
    replace b5 := mt (nI_eq (a := n_3) (b := 0) (by omega) (by omega)).mpr b5
    refine lv_iconst (v := nI 1) hx hb d_NLongNumber_digits_9 (by decide) ?_
    refine lv_istore_n (lv' := [(1, .int (nI 1)), (0, .ref x)]) hx hb d_NLongNumber_digits_10 rfl hl (by decide) rfl (fun ls hl => ?_)
    have lp6 : ∀ (k8 : Nat) (i : Nat) (H : Heap) (locs : List Loc) (ls : Array Slot), (9 < i + k8) → (i ≤ 9) → lv_has ls 2 [(1, .int (nI i)), (0, .ref x)] → va_P g.D vcl (va_pl g.LP f) H → va_D (pc_A g s.heap.size) (va_pl g.LP f) → va_S (pc_A g s.heap.size) s.heap H locs → W p l e ({ frames := 0, cells := 0, slots := 0, locals := 0 }) s m args below meth c H locs 0 0 (MQ below (va_Qi (fun r f1 => (f = f1)) (pc_out g s.heap.size) (pc_A g s.heap.size)) args s 0 0 (pc_A g s.heap.size)) (F0 m 11 ls []) := by
      intro k8
      induction k8 with
      | zero => intros; exfalso; omega
      | succ k8 ih9 =>
        intro i H locs ls hfu10 hi hl hP hD hS
        refine lv_iload_n hx hb d_NLongNumber_digits_11 rfl (lv_at hl 0 rfl) ?_
        refine lv_bipush (v := nI 9) hx hb d_NLongNumber_digits_12 (by decide) ?_
        refine lv_icmp_ge (tgt := 42) hx hb d_NLongNumber_digits_14 (by decide) (fun b13 => ?_) (fun b13 => ?_)
        · skip
          replace b13 := (nI_leI (a := 9) (b := i) (by omega) (by omega)).mp b13
          refine lv_aload_n hx hb d_NLongNumber_digits_42 rfl (lv_at hl 1 rfl) ?_
          refine pf_get (v := .int (nI n_3)) (C := "BigRunner$LongNumber") (T := FT4) (N := 3) hx hb (hw4 hB _) (fun _ h9 => h9) hown hK hP (lo_in hL t_x (by decide)) e1 rfl 1 (by decide) (wd_190 hB _) rfl d_NLongNumber_digits_43 ?_
          refine lv_iconst (v := nI 1) hx hb d_NLongNumber_digits_46 (by decide) ?_
          refine pf_isubN (x := n_3) (y := 1) hx hb (by omega) d_NLongNumber_digits_47 ?_
          refine lv_bipush (v := nI 9) hx hb d_NLongNumber_digits_48 (by decide) ?_
          refine pf_imulN (x := n_3 - 1) (y := 9) hx hb d_NLongNumber_digits_50 ?_
          refine lv_iload_n hx hb d_NLongNumber_digits_51 rfl (lv_at hl 0 rfl) ?_
          refine pf_iaddN (x := (n_3 - 1) * 9) (y := i) hx hb d_NLongNumber_digits_52 ?_
          exact pe_iret hx hb hr hlocks hK hP hD hS d_NLongNumber_digits_53 rfl
        · skip
          replace b13 := mt (nI_leI (a := 9) (b := i) (by omega) (by omega)).mpr b13
          refine lv_aload_n hx hb d_NLongNumber_digits_17 rfl (lv_at hl 1 rfl) ?_
          refine pf_get (v := .ref (g.lk x 2)) (C := "BigRunner$LongNumber") (T := FT4) (N := 3) hx hb (hw4 hB _) (fun _ h9 => h9) hown hK hP (lo_in hL t_x (by decide)) e1 rfl 2 (by decide) (wd_192 hB _) rfl d_NLongNumber_digits_18 ?_
          refine lv_aload_n hx hb d_NLongNumber_digits_21 rfl (lv_at hl 1 rfl) ?_
          refine pf_get (v := .int (nI n_3)) (C := "BigRunner$LongNumber") (T := FT4) (N := 3) hx hb (hw4 hB _) (fun _ h9 => h9) hown hK hP (lo_in hL t_x (by decide)) e1 rfl 1 (by decide) (wd_190 hB _) rfl d_NLongNumber_digits_22 ?_
          refine lv_iconst (v := nI 1) hx hb d_NLongNumber_digits_25 (by decide) ?_
          refine pf_isubN (x := n_3) (y := 1) hx hb (by omega) d_NLongNumber_digits_26 ?_
          obtain ⟨h_15, e14, c16⟩ := oc_23.of (lo_k5_2 hL _ t_x) (hI (g.lk x 2))
          refine pf_iald (i := n_3 - 1) hx hb hK hP (lo_in hL (lo_k5_2 hL _ t_x) (by decide)) e14 (lo_t23 hL _ (lo_k5_2 hL _ t_x)) (by omega) (by decide) d_NLongNumber_digits_27 ?_
          refine lv_topi (fun z_ hz_ => ?_)
          obtain ⟨li17, hli17, qli17⟩ := c16 (n_3 - 1) (by omega)
          obtain rfl : z_ = nI li17 := hz_.trans qli17
          obtain ⟨tP, p9, hp9, hZP, hTP⟩ := hTZ.2.2
          refine va_gets hx hb hZP hS hown (wd_926 hB _) (fun _ z => z) d_NLongNumber_digits_28 ?_
          refine lv_iload_n hx hb d_NLongNumber_digits_31 rfl (lv_at hl 0 rfl) ?_
          obtain ⟨pw18, hpw18⟩ : ∃ z : Nat, z = p9 i := ⟨_, rfl⟩
          have qpw18 := hp9 i (by omega)
          rw [← hpw18] at qpw18
          refine va_ti (v := .int (nI pw18)) hx hb hTP hS (vp_in_nI (by omega) (by decide)) (by rw [nI_clamp (by omega), hpw18]) d_NLongNumber_digits_32 ?_
          refine lv_icmp_lt (tgt := 42) hx hb d_NLongNumber_digits_33 (by decide) (fun b19 => ?_) (fun b19 => ?_)
          · skip
            replace b19 := (nI_ltI (a := li17) (b := pw18) (by omega) (by omega)).mp b19
            refine lv_aload_n hx hb d_NLongNumber_digits_42 rfl (lv_at hl 1 rfl) ?_
            refine pf_get (v := .int (nI n_3)) (C := "BigRunner$LongNumber") (T := FT4) (N := 3) hx hb (hw4 hB _) (fun _ h9 => h9) hown hK hP (lo_in hL t_x (by decide)) e1 rfl 1 (by decide) (wd_190 hB _) rfl d_NLongNumber_digits_43 ?_
            refine lv_iconst (v := nI 1) hx hb d_NLongNumber_digits_46 (by decide) ?_
            refine pf_isubN (x := n_3) (y := 1) hx hb (by omega) d_NLongNumber_digits_47 ?_
            refine lv_bipush (v := nI 9) hx hb d_NLongNumber_digits_48 (by decide) ?_
            refine pf_imulN (x := n_3 - 1) (y := 9) hx hb d_NLongNumber_digits_50 ?_
            refine lv_iload_n hx hb d_NLongNumber_digits_51 rfl (lv_at hl 0 rfl) ?_
            refine pf_iaddN (x := (n_3 - 1) * 9) (y := i) hx hb d_NLongNumber_digits_52 ?_
            exact pe_iret hx hb hr hlocks hK hP hD hS d_NLongNumber_digits_53 rfl
          · skip
            replace b19 := mt (nI_ltI (a := li17) (b := pw18) (by omega) (by omega)).mpr b19
            refine lv_iinc (k := 0) (v := nI (i + 1)) (lv' := [(1, .int (nI (i + 1))), (0, .ref x)]) hx hb d_NLongNumber_digits_36 hl rfl (by rw [nI_succ]; rfl) (by decide) rfl (fun ls hl => ?_)
            refine lv_goto (tgt := 11) hx hb d_NLongNumber_digits_39 (by decide) ?_
            exact ih9 (i + 1) H locs ls (by omega) (by omega) hl hP hD hS
    exact lp6 10 1 s.heap [] ls (by omega) (by omega) hl hP hD hS
  · skip
    replace b5 := (nI_eq (a := n_3) (b := 0) (by omega) (by omega)).mp b5
    refine lv_iconst (v := nI 1) hx hb d_NLongNumber_digits_7 (by decide) ?_
    exact pe_iret hx hb hr hlocks hK hP hD hS d_NLongNumber_digits_8 rfl
set_option maxHeartbeats 4000000 in
set_option maxRecDepth 100000 in
theorem c_tell (l : Launch) (g : Lay) (sz : Nat) (f : Nat → va_E) (x : Nat) (v : Int32) (hL : LO g) (t_x : g.tg x = 5) (hI : OC g f) : Met l ⟨"BigRunner$LongNumber", "tell", "(I)I"⟩ [Cond.code ⟨"BigRunner$LongNumber", "tell", "(I)I"⟩ prog_5_method_5_code 2 (some .int)] ({ frames := 1, cells := 0, slots := 0, locals := 21 }) (va_Pc [.ref x, .int v] (pt_in g sz f)) (va_Qi (fun r f1 => (f = f1)) (pc_out g sz) (pc_A g sz)) 0 0 (pc_A g sz) := by
  refine pt_ofM (cc := prog_5_method_5_code) (maxL := 2) (ret := (some .int)) (lv := [(0, .ref x), (1, .int v)]) (by decide) (Nat.le_of_ble_eq_true rfl) rfl ?_
  intro p e s m args below meth c ls hx hb hr hml hlocks hown hB hP hK hD hsz hS hl hTZ
  subst hsz
  refine lv_iload_n hx hb d_NLongNumber_tell_0 rfl (lv_at hl 1 rfl) ?_
  refine lv_iconst (v := (-1)) hx hb d_NLongNumber_tell_1 (by decide) ?_
  refine lv_icmp_ne (tgt := 10) hx hb d_NLongNumber_tell_2 (by decide) (fun b1 => ?_) (fun b1 => ?_)
  · skip
    refine lv_iload_n hx hb d_NLongNumber_tell_10 rfl (lv_at hl 1 rfl) ?_
    refine lv_bipush (v := (-2)) hx hb d_NLongNumber_tell_11 (by decide) ?_
    refine lv_icmp_ne (tgt := 21) hx hb d_NLongNumber_tell_13 (by decide) (fun b2 => ?_) (fun b2 => ?_)
    · skip
      refine lv_iload_n hx hb d_NLongNumber_tell_21 rfl (lv_at hl 1 rfl) ?_
      refine lv_if_lt (tgt := 36) hx hb d_NLongNumber_tell_22 (by decide) (fun b3 => ?_) (fun b3 => ?_)
      · skip
        refine lv_iconst (v := nI 0) hx hb d_NLongNumber_tell_36 (by decide) ?_
        refine lv_goto (tgt := 61) hx hb d_NLongNumber_tell_37 (by decide) ?_
        exact pe_iret hx hb hr hlocks hK hP hD hS d_NLongNumber_tell_61 rfl
      · skip
        obtain ⟨j, hj, rfl⟩ := nI_of b3
        refine lv_iload_n hx hb d_NLongNumber_tell_25 rfl (lv_at hl 1 rfl) ?_
        refine lv_bipush (v := nI 9) hx hb d_NLongNumber_tell_26 (by decide) ?_
        refine pf_idivN (x := j) (y := 9) hx hb (by omega) (by omega) (by omega) d_NLongNumber_tell_28 ?_
        refine lv_aload_n hx hb d_NLongNumber_tell_29 rfl (lv_at hl 0 rfl) ?_
        obtain ⟨sg_5, n_6, e4, c7⟩ := oc_5.of t_x (hI x)
        refine pf_get (v := .int (nI n_6)) (C := "BigRunner$LongNumber") (T := FT4) (N := 3) hx hb (hw4 hB _) (fun _ h9 => h9) hown hK hP (lo_in hL t_x (by decide)) e4 rfl 1 (by decide) (wd_190 hB _) rfl d_NLongNumber_tell_30 ?_
        refine lv_icmp_lt (tgt := 40) hx hb d_NLongNumber_tell_33 (by decide) (fun b8 => ?_) (fun b8 => ?_)
        · skip
          replace b8 := (nI_ltI (a := j / 9) (b := n_6) (by omega) (by omega)).mp b8
          refine lv_aload_n hx hb d_NLongNumber_tell_40 rfl (lv_at hl 0 rfl) ?_
          refine pf_get (v := .ref (g.lk x 2)) (C := "BigRunner$LongNumber") (T := FT4) (N := 3) hx hb (hw4 hB _) (fun _ h9 => h9) hown hK hP (lo_in hL t_x (by decide)) e4 rfl 2 (by decide) (wd_192 hB _) rfl d_NLongNumber_tell_41 ?_
          refine lv_iload_n hx hb d_NLongNumber_tell_44 rfl (lv_at hl 1 rfl) ?_
          refine lv_bipush (v := nI 9) hx hb d_NLongNumber_tell_45 (by decide) ?_
          refine pf_idivN (x := j) (y := 9) hx hb (by omega) (by omega) (by omega) d_NLongNumber_tell_47 ?_
          obtain ⟨h_10, e9, c11⟩ := oc_23.of (lo_k5_2 hL _ t_x) (hI (g.lk x 2))
          refine pf_iald (i := j / 9) hx hb hK hP (lo_in hL (lo_k5_2 hL _ t_x) (by decide)) e9 (lo_t23 hL _ (lo_k5_2 hL _ t_x)) (by omega) (by decide) d_NLongNumber_tell_48 ?_
          refine lv_topi (fun z_ hz_ => ?_)
          obtain ⟨li12, hli12, qli12⟩ := c11 (j / 9) (by omega)
          obtain rfl : z_ = nI li12 := hz_.trans qli12
          obtain ⟨tP, p9, hp9, hZP, hTP⟩ := hTZ.2.2
          refine va_gets hx hb hZP hS hown (wd_926 hB _) (fun _ z => z) d_NLongNumber_tell_49 ?_
          refine lv_iload_n hx hb d_NLongNumber_tell_52 rfl (lv_at hl 1 rfl) ?_
          refine lv_bipush (v := nI 9) hx hb d_NLongNumber_tell_53 (by decide) ?_
          refine pf_iremN (x := j) (y := 9) hx hb (by omega) (by omega) (by omega) d_NLongNumber_tell_55 ?_
          obtain ⟨pw13, hpw13⟩ : ∃ z : Nat, z = p9 (j % 9) := ⟨_, rfl⟩
          have qpw13 := hp9 (j % 9) (by omega)
          rw [← hpw13] at qpw13
          refine va_ti (v := .int (nI pw13)) hx hb hTP hS (vp_in_nI (by omega) (by decide)) (by rw [nI_clamp (by omega), hpw13]) d_NLongNumber_tell_56 ?_
          refine pf_idivN (x := li12) (y := pw13) hx hb (by omega) (by omega) (by omega) d_NLongNumber_tell_57 ?_
          have hm14 : li12 / pw13 ≤ li12 := Nat.div_le_self _ _
          refine lv_bipush (v := nI 10) hx hb d_NLongNumber_tell_58 (by decide) ?_
          refine pf_iremN (x := li12 / pw13) (y := 10) hx hb (by omega) (by omega) (by omega) d_NLongNumber_tell_60 ?_
          exact pe_iret hx hb hr hlocks hK hP hD hS d_NLongNumber_tell_61 rfl
        · skip
          replace b8 := mt (nI_ltI (a := j / 9) (b := n_6) (by omega) (by omega)).mpr b8
          refine lv_iconst (v := nI 0) hx hb d_NLongNumber_tell_36 (by decide) ?_
          refine lv_goto (tgt := 61) hx hb d_NLongNumber_tell_37 (by decide) ?_
          exact pe_iret hx hb hr hlocks hK hP hD hS d_NLongNumber_tell_61 rfl
    · skip
      refine lv_aload_n hx hb d_NLongNumber_tell_16 rfl (lv_at hl 0 rfl) ?_
      obtain ⟨sg_16, n_17, e15, c18⟩ := oc_5.of t_x (hI x)
      refine pcc_i (va_runV (C := "BigRunner$LongNumber") (As := []) (rest := []) ⟨hx, hb, hml, hown, tb_nil⟩ (c_digits l g s.heap.size f x hL t_x hI) ⟨(callB_of 0 (tb_one (wd_925 hB _)) tb_good1 rfl rfl rfl (wd_78 hB _) (wd_922 hB _) (by decide +kernel) ⟨Nat.le_of_ble_eq_true rfl, Nat.le_of_ble_eq_true rfl⟩), (wd_924 hB _), (wd_40 hB _)⟩ ⟨pt_bl, pg_recv (ci := 4) hK hP (lo_in hL t_x (by decide)) e15 rfl, pt_pre hTZ hS hB hK hP hD⟩ rfl rfl hl.1 rfl (lv_room (Nat.le_of_ble_eq_true rfl)) d_NLongNumber_tell_17 ⟨Nat.le_of_ble_eq_true rfl, Nat.le_of_ble_eq_true rfl⟩) hS (fun r19 f20 H locs hq21 hP hD hS => ?_)
      subst hq21
      exact pe_iret hx hb hr hlocks hK hP hD hS d_NLongNumber_tell_20 rfl
  · skip
    refine lv_aload_n hx hb d_NLongNumber_tell_5 rfl (lv_at hl 0 rfl) ?_
    obtain ⟨sg_23, n_24, e22, c25⟩ := oc_5.of t_x (hI x)
    refine pf_get (v := .int sg_23) (C := "BigRunner$LongNumber") (T := FT4) (N := 3) hx hb (hw4 hB _) (fun _ h9 => h9) hown hK hP (lo_in hL t_x (by decide)) e22 rfl 0 (by decide) (wd_186 hB _) rfl d_NLongNumber_tell_6 ?_
    exact pe_iret hx hb hr hlocks hK hP hD hS d_NLongNumber_tell_9 rfl
set_option maxHeartbeats 4000000 in
set_option maxRecDepth 100000 in
theorem c_bound (l : Launch) (g : Lay) (sz : Nat) (f : Nat → va_E) (B : Nat) (v : Int32) (gr : Int32) (hL : LO g) (t_B : g.tg B = 1) (hI : OC g f) (hLt : l.stackTraces = false) : tw_Met l ⟨"BigRunner", "bound", "(IZ)J"⟩ [Cond.code ⟨"BigRunner", "bound", "(IZ)J"⟩ prog_1_method_8_code 6 (some .long)] ({ frames := 6, cells := 1, slots := 6, locals := 120 }) (va_Pc [.ref B, .int v, .int gr] (pt_in g sz f)) (tq (fun v9 f1 => ∃ r, v9 = some (.long r) ∧ (f = f1)) (fun C9 f1 => (C9 = "java/lang/IndexOutOfBoundsException" ∨ C9 = "java/lang/UnsupportedOperationException") ∧ (f = f1)) g sz) 1 6 (pc_A g sz) := by
  refine pt_ofW (cc := prog_1_method_8_code) (maxL := 6) (ret := (some .long)) (lv := [(0, .ref B), (1, .int v), (2, .int gr)]) (by decide) (Nat.le_of_ble_eq_true rfl) rfl ?_
  intro p e s m args below meth c ls hx hb hr hml hlocks hown hB hP hK hD hsz hS hl hno hTZ
  subst hsz
  refine lv_aload_n hx hb d_B_bound_0 rfl (lv_at hl 0 rfl) ?_
  refine lv_iload_n hx hb d_B_bound_1 rfl (lv_at hl 1 rfl) ?_
  obtain ⟨n_2, ld_3, e1, c4, c5⟩ := oc_1.of t_B (hI B)
  refine pcc_i (va_runV (C := "BigRunner") (As := [.int v]) (rest := []) ⟨hx, hb, hml, hown, tb_nil⟩ (c_hasVar l g s.heap.size f B v hL t_B hI) ⟨(callB_of 1 (tb_one (wd_436 hB _)) tb_good1 rfl rfl rfl (wd_72 hB _) (wd_433 hB _) (by decide +kernel) ⟨Nat.le_of_ble_eq_true rfl, Nat.le_of_ble_eq_true rfl⟩), (wd_435 hB _), (wd_1 hB _)⟩ ⟨pe_bl, pg_recv (ci := 0) hK hP (lo_in hL t_B (by decide)) e1 rfl, pe_pre hB hK hP hD⟩ rfl rfl hl.1 rfl (lv_room (Nat.le_of_ble_eq_true rfl)) d_B_bound_2 ⟨Nat.le_of_ble_eq_true rfl, Nat.le_of_ble_eq_true rfl⟩) hS (fun r6 f7 H locs hq8 hP hD hS => ?_)
  obtain ⟨bo_9, i1_10, rfl⟩ := hq8
  refine lv_if_ne (tgt := 18) hx hb d_B_bound_5 (by decide) (fun b11 => ?_) (fun b11 => ?_)
  · skip
    have hr12 : r6 = nI 1 := (bl_1 bo_9 b11)
    have hi13 := i1_10 hr12
    obtain ⟨vk14, hvk14, rfl⟩ := hi13
    refine lv_aload_n hx hb d_B_bound_18 rfl (lv_at hl 0 rfl) ?_
    refine pf_get (v := .ref (g.lk B 3)) (C := "BigRunner") (T := FT0) (N := 5) hx hb (hw0 hB _) (fun _ h9 => h9) hown hK hP (lo_in hL t_B (by decide)) e1 rfl 3 (by decide) (wd_381 hB _) rfl d_B_bound_19 ?_
    obtain ⟨pr_16, ix_17, os_18, st_19, mo_20, lo_21, tr_22, e15, c23, c24, c25, c26, c27⟩ := oc_9.of (lo_k1_3 hL _ t_B) (hI (g.lk B 3))
    refine pf_get (v := .ref pr_16) (C := "BigRunner$Runner") (T := FT8) (N := 13) hx hb (hw8 hB _) (fun _ h9 => h9) hown hK hP (lo_in hL (lo_k1_3 hL _ t_B) (by decide)) e15 rfl 0 (by decide) (wd_331 hB _) rfl d_B_bound_22 ?_
    obtain ⟨sc_29, nc_30, e28, c31, c32⟩ := oc_7.of c23 (hI pr_16)
    refine pf_get (v := .ref (g.lk pr_16 4)) (C := "BigRunner$Program") (T := FT6) (N := 6) hx hb (hw6 hB _) (fun _ h9 => h9) hown hK hP (lo_in hL c23 (by decide)) e28 rfl 4 (by decide) (wd_255 hB _) rfl d_B_bound_25 ?_
    refine lv_iload_n hx hb d_B_bound_28 rfl (lv_at hl 1 rfl) ?_
    have e33 := oc_26.of (lo_k7_4 hL _ c23) (hI (g.lk pr_16 4))
    refine pf_aald (i := vk14) hx hb hK hP (lo_in hL (lo_k7_4 hL _ c23) (by decide)) e33 (lo_t26 hL _ (lo_k7_4 hL _ c23)) (by omega) (by decide) d_B_bound_29 ?_
    have t34 := lo_e26 hL _ (lo_k7_4 hL _ c23) vk14 (by omega)
    refine lv_astore_n (lv' := [(3, .ref (g.lk (g.lk pr_16 4) vk14)), (0, .ref B), (1, .int (nI vk14)), (2, .int gr)]) hx hb d_B_bound_30 rfl hl (by decide) rfl (fun ls hl => ?_)
    refine lv_iload_n hx hb d_B_bound_31 rfl (lv_at hl 3 rfl) ?_
    refine lv_if_eq (tgt := 42) hx hb d_B_bound_32 (by decide) (fun b35 => ?_) (fun b35 => ?_)
    · skip
      refine lv_aload_n hx hb d_B_bound_42 rfl (lv_at hl 0 rfl) ?_
      obtain ⟨lo_37, hi_38, e36⟩ := oc_3.of t34 (hI (g.lk (g.lk pr_16 4) vk14))
      refine pf_get (v := .long lo_37) (C := "BigRunner$Interval") (T := FT2) (N := 2) hx hb (hw2 hB _) (fun _ h9 => h9) hown hK hP (lo_in hL t34 (by decide)) e36 rfl 0 (by decide) (wd_128 hB _) rfl d_B_bound_43 ?_
      refine lv_lstore (lv' := [(4, .long lo_37), (3, .ref (g.lk (g.lk pr_16 4) vk14)), (0, .ref B), (1, .int (nI vk14)), (2, .int gr)]) hx hb d_B_bound_46 hl (by decide) rfl (fun ls hl => ?_)
      refine lv_lload hx hb d_B_bound_48 (lv_at hl 0 rfl) ?_
      refine pcc_i (va_runS (As := [.long lo_37]) (rest := []) ⟨hx, hb, hml, hown, tb_nil⟩ (c_isUnb l g H.size f lo_37 hL hI) ⟨(callB_of 1 (tb_one (wd_443 hB _)) tb_good1 rfl rfl rfl (wd_75 hB _) (wd_904 hB _) (by decide +kernel) ⟨Nat.le_of_ble_eq_true rfl, Nat.le_of_ble_eq_true rfl⟩), (wd_442 hB _)⟩ ⟨pe_bl, pe_pre hB hK hP hD⟩ rfl rfl hl.1 rfl (lv_room (Nat.le_of_ble_eq_true rfl)) d_B_bound_50 ⟨Nat.le_of_ble_eq_true rfl, Nat.le_of_ble_eq_true rfl⟩) hS (fun r39 f40 H locs hq41 hP hD hS => ?_)
      obtain ⟨bo_42, rfl⟩ := hq41
      refine lv_if_eq (tgt := 66) hx hb d_B_bound_53 (by decide) (fun b43 => ?_) (fun b43 => ?_)
      · skip
        have hr44 : r39 = nI 0 := b43
        refine lv_lload hx hb d_B_bound_66 (lv_at hl 0 rfl) ?_
        exact pt_lret hx hb hr hlocks hK hP hD hS d_B_bound_68 ⟨_, rfl, rfl⟩
      · skip
        have hr45 : r39 = nI 1 := (bl_1 bo_42 b43)
        exact pt_throw (own := "BigRunner") (cls := "java/lang/UnsupportedOperationException") (text := "UNBOUNDED") (names := ["java/lang/RuntimeException", "java/lang/Exception"]) hx hb (hl.1.trans hml.symm) hlocks hno hLt hown (by decide +kernel) (by decide +kernel) hB hTZ (fun U hB hH => ⟨(wd_864 hB _), (wd_865 hB _), (wd_93 hB _), (wd_905 hB _), oa_0 hB hH _⟩) hK hP hD hS d_B_bound_56 d_B_bound_59 d_B_bound_60 d_B_bound_62 d_B_bound_65 (Nat.le_of_ble_eq_true rfl) (Nat.le_of_ble_eq_true rfl) (Nat.le_of_ble_eq_true rfl) (Nat.le_of_ble_eq_true rfl) ⟨(Or.inr (rfl)), rfl⟩
    · skip
      refine lv_aload_n hx hb d_B_bound_35 rfl (lv_at hl 0 rfl) ?_
      obtain ⟨lo_47, hi_48, e46⟩ := oc_3.of t34 (hI (g.lk (g.lk pr_16 4) vk14))
      refine pf_get (v := .long hi_48) (C := "BigRunner$Interval") (T := FT2) (N := 2) hx hb (hw2 hB _) (fun _ h9 => h9) hown hK hP (lo_in hL t34 (by decide)) e46 rfl 1 (by decide) (wd_131 hB _) rfl d_B_bound_36 ?_
      refine lv_goto (tgt := 46) hx hb d_B_bound_39 (by decide) ?_
      refine lv_lstore (lv' := [(4, .long hi_48), (3, .ref (g.lk (g.lk pr_16 4) vk14)), (0, .ref B), (1, .int (nI vk14)), (2, .int gr)]) hx hb d_B_bound_46 hl (by decide) rfl (fun ls hl => ?_)
      refine lv_lload hx hb d_B_bound_48 (lv_at hl 0 rfl) ?_
      refine pcc_i (va_runS (As := [.long hi_48]) (rest := []) ⟨hx, hb, hml, hown, tb_nil⟩ (c_isUnb l g H.size f hi_48 hL hI) ⟨(callB_of 1 (tb_one (wd_443 hB _)) tb_good1 rfl rfl rfl (wd_75 hB _) (wd_904 hB _) (by decide +kernel) ⟨Nat.le_of_ble_eq_true rfl, Nat.le_of_ble_eq_true rfl⟩), (wd_442 hB _)⟩ ⟨pe_bl, pe_pre hB hK hP hD⟩ rfl rfl hl.1 rfl (lv_room (Nat.le_of_ble_eq_true rfl)) d_B_bound_50 ⟨Nat.le_of_ble_eq_true rfl, Nat.le_of_ble_eq_true rfl⟩) hS (fun r49 f50 H locs hq51 hP hD hS => ?_)
      obtain ⟨bo_52, rfl⟩ := hq51
      refine lv_if_eq (tgt := 66) hx hb d_B_bound_53 (by decide) (fun b53 => ?_) (fun b53 => ?_)
      · skip
        have hr54 : r49 = nI 0 := b53
        refine lv_lload hx hb d_B_bound_66 (lv_at hl 0 rfl) ?_
        exact pt_lret hx hb hr hlocks hK hP hD hS d_B_bound_68 ⟨_, rfl, rfl⟩
      · skip
        have hr55 : r49 = nI 1 := (bl_1 bo_52 b53)
        exact pt_throw (own := "BigRunner") (cls := "java/lang/UnsupportedOperationException") (text := "UNBOUNDED") (names := ["java/lang/RuntimeException", "java/lang/Exception"]) hx hb (hl.1.trans hml.symm) hlocks hno hLt hown (by decide +kernel) (by decide +kernel) hB hTZ (fun U hB hH => ⟨(wd_864 hB _), (wd_865 hB _), (wd_93 hB _), (wd_905 hB _), oa_0 hB hH _⟩) hK hP hD hS d_B_bound_56 d_B_bound_59 d_B_bound_60 d_B_bound_62 d_B_bound_65 (Nat.le_of_ble_eq_true rfl) (Nat.le_of_ble_eq_true rfl) (Nat.le_of_ble_eq_true rfl) (Nat.le_of_ble_eq_true rfl) ⟨(Or.inr (rfl)), rfl⟩
  · skip
    have hr56 : r6 = nI 0 := b11
    exact pt_throw (own := "BigRunner") (cls := "java/lang/IndexOutOfBoundsException") (text := "no such variable") (names := ["java/lang/RuntimeException", "java/lang/Exception"]) hx hb (hl.1.trans hml.symm) hlocks hno hLt hown (by decide +kernel) (by decide +kernel) hB hTZ (fun U hB hH => ⟨(wd_888 hB _), (wd_889 hB _), (wd_94 hB _), (wd_897 hB _), oa_1 hB hH _⟩) hK hP hD hS d_B_bound_8 d_B_bound_11 d_B_bound_12 d_B_bound_14 d_B_bound_17 (Nat.le_of_ble_eq_true rfl) (Nat.le_of_ble_eq_true rfl) (Nat.le_of_ble_eq_true rfl) (Nat.le_of_ble_eq_true rfl) ⟨(Or.inl rfl), rfl⟩
set_option maxHeartbeats 4000000 in
set_option maxRecDepth 100000 in
theorem c_output (l : Launch) (g : Lay) (sz : Nat) (f : Nat → va_E) (B : Nat) (v : Int32) (k9 : Int32) (hL : LO g) (t_B : g.tg B = 1) (hI : OC g f) (hLt : l.stackTraces = false) : tw_Met l ⟨"BigRunner", "output", "(II)I"⟩ [Cond.code ⟨"BigRunner", "output", "(II)I"⟩ prog_1_method_11_code 3 (some .int)] ({ frames := 6, cells := 1, slots := 6, locals := 120 }) (va_Pc [.ref B, .int v, .int k9] (pt_in g sz f)) (tq (fun v9 f1 => ∃ r, v9 = some (.int r) ∧ (f = f1)) (fun C9 f1 => (C9 = "java/lang/IndexOutOfBoundsException") ∧ (f = f1)) g sz) 1 6 (pc_A g sz) := by
  refine pt_ofW (cc := prog_1_method_11_code) (maxL := 3) (ret := (some .int)) (lv := [(0, .ref B), (1, .int v), (2, .int k9)]) (by decide) (Nat.le_of_ble_eq_true rfl) rfl ?_
  intro p e s m args below meth c ls hx hb hr hml hlocks hown hB hP hK hD hsz hS hl hno hTZ
  subst hsz
  refine lv_iload_n hx hb d_B_output_0 rfl (lv_at hl 1 rfl) ?_
  refine lv_if_lt (tgt := 21) hx hb d_B_output_1 (by decide) (fun b1 => ?_) (fun b1 => ?_)
  · skip
    exact pt_throw (own := "BigRunner") (cls := "java/lang/IndexOutOfBoundsException") (text := "no such output or part of it") (names := ["java/lang/RuntimeException", "java/lang/Exception"]) hx hb (hl.1.trans hml.symm) hlocks hno hLt hown (by decide +kernel) (by decide +kernel) hB hTZ (fun U hB hH => ⟨(wd_888 hB _), (wd_889 hB _), (wd_94 hB _), (wd_940 hB _), oa_1 hB hH _⟩) hK hP hD hS d_B_output_21 d_B_output_24 d_B_output_25 d_B_output_27 d_B_output_30 (Nat.le_of_ble_eq_true rfl) (Nat.le_of_ble_eq_true rfl) (Nat.le_of_ble_eq_true rfl) (Nat.le_of_ble_eq_true rfl) ⟨rfl, rfl⟩
  · skip
    obtain ⟨j9, hj9, rfl⟩ := nI_of b1
    refine lv_iload_n hx hb d_B_output_4 rfl (lv_at hl 1 rfl) ?_
    refine lv_aload_n hx hb d_B_output_5 rfl (lv_at hl 0 rfl) ?_
    obtain ⟨n_3, ld_4, e2, c5, c6⟩ := oc_1.of t_B (hI B)
    refine pf_get (v := .ref (g.lk B 3)) (C := "BigRunner") (T := FT0) (N := 5) hx hb (hw0 hB _) (fun _ h9 => h9) hown hK hP (lo_in hL t_B (by decide)) e2 rfl 3 (by decide) (wd_381 hB _) rfl d_B_output_6 ?_
    obtain ⟨pr_8, ix_9, os_10, st_11, mo_12, lo_13, tr_14, e7, c15, c16, c17, c18, c19⟩ := oc_9.of (lo_k1_3 hL _ t_B) (hI (g.lk B 3))
    refine pcc_i (va_runV (C := "BigRunner$Runner") (As := []) (rest := [.int (nI j9)]) ⟨hx, hb, hml, hown, tb_nil⟩ (c_keptOutputs l g s.heap.size f ((g.lk B 3)) pr_8 ix_9 os_10 st_11 mo_12 lo_13 tr_14 hL (lo_k1_3 hL _ t_B) c15 hI e7 (by omega) (by omega) (by omega) (by omega)) ⟨(callB_of 0 (tb_one (wd_938 hB _)) tb_good1 rfl rfl rfl (wd_79 hB _) (wd_935 hB _) (by decide +kernel) ⟨Nat.le_of_ble_eq_true rfl, Nat.le_of_ble_eq_true rfl⟩), (wd_936 hB _), (wd_937 hB _)⟩ ⟨pe_bl, pg_recv (ci := 8) hK hP (lo_in hL (lo_k1_3 hL _ t_B) (by decide)) e7 rfl, pe_pre hB hK hP hD⟩ rfl rfl hl.1 rfl (lv_room (Nat.le_of_ble_eq_true rfl)) d_B_output_9 ⟨Nat.le_of_ble_eq_true rfl, Nat.le_of_ble_eq_true rfl⟩) hS (fun r20 f21 H locs hq22 hP hD hS => ?_)
    obtain ⟨q3_23, rfl⟩ := hq22
    obtain ⟨kr24, hkr24_0, rfl⟩ := q3_23
    refine lv_icmp_ge (tgt := 21) hx hb d_B_output_12 (by decide) (fun b25 => ?_) (fun b25 => ?_)
    · skip
      replace b25 := (nI_leI (a := kr24) (b := j9) (by omega) (by omega)).mp b25
      exact pt_throw (own := "BigRunner") (cls := "java/lang/IndexOutOfBoundsException") (text := "no such output or part of it") (names := ["java/lang/RuntimeException", "java/lang/Exception"]) hx hb (hl.1.trans hml.symm) hlocks hno hLt hown (by decide +kernel) (by decide +kernel) hB hTZ (fun U hB hH => ⟨(wd_888 hB _), (wd_889 hB _), (wd_94 hB _), (wd_940 hB _), oa_1 hB hH _⟩) hK hP hD hS d_B_output_21 d_B_output_24 d_B_output_25 d_B_output_27 d_B_output_30 (Nat.le_of_ble_eq_true rfl) (Nat.le_of_ble_eq_true rfl) (Nat.le_of_ble_eq_true rfl) (Nat.le_of_ble_eq_true rfl) ⟨rfl, rfl⟩
    · skip
      replace b25 := mt (nI_leI (a := kr24) (b := j9) (by omega) (by omega)).mpr b25
      refine lv_iload_n hx hb d_B_output_15 rfl (lv_at hl 2 rfl) ?_
      refine lv_bipush (v := (-2)) hx hb d_B_output_16 (by decide) ?_
      refine lv_icmp_ge (tgt := 31) hx hb d_B_output_18 (by decide) (fun b26 => ?_) (fun b26 => ?_)
      · skip
        refine lv_aload_n hx hb d_B_output_31 rfl (lv_at hl 0 rfl) ?_
        refine pf_get (v := .ref (g.lk B 3)) (C := "BigRunner") (T := FT0) (N := 5) hx hb (hw0 hB _) (fun _ h9 => h9) hown hK hP (lo_in hL t_B (by decide)) e2 rfl 3 (by decide) (wd_381 hB _) rfl d_B_output_32 ?_
        refine pf_get (v := .ref (g.lk (g.lk B 3) 7)) (C := "BigRunner$Runner") (T := FT8) (N := 13) hx hb (hw8 hB _) (fun _ h9 => h9) hown hK hP (lo_in hL (lo_k1_3 hL _ t_B) (by decide)) e7 rfl 7 (by decide) (wd_340 hB _) rfl d_B_output_35 ?_
        refine lv_iload_n hx hb d_B_output_38 rfl (lv_at hl 1 rfl) ?_
        have e27 := oc_29.of (lo_k9_7 hL _ (lo_k1_3 hL _ t_B)) (hI (g.lk (g.lk B 3) 7))
        refine pf_aald (i := j9) hx hb hK hP (lo_in hL (lo_k9_7 hL _ (lo_k1_3 hL _ t_B)) (by decide)) e27 (lo_t29 hL _ (lo_k9_7 hL _ (lo_k1_3 hL _ t_B))) (by omega) (by decide) d_B_output_39 ?_
        have t28 := lo_e29 hL _ (lo_k9_7 hL _ (lo_k1_3 hL _ t_B)) j9 (by omega)
        refine lv_iload_n hx hb d_B_output_40 rfl (lv_at hl 2 rfl) ?_
        obtain ⟨sg_30, n_31, e29, c32⟩ := oc_5.of t28 (hI (g.lk (g.lk (g.lk B 3) 7) j9))
        refine pcc_i (va_runV (C := "BigRunner$LongNumber") (As := [.int k9]) (rest := []) ⟨hx, hb, hml, hown, tb_nil⟩ (c_tell l g H.size f ((g.lk (g.lk (g.lk B 3) 7) j9)) k9 hL t28 hI) ⟨(callB_of 1 (tb_one (wd_921 hB _)) tb_good1 rfl rfl rfl (wd_78 hB _) (wd_918 hB _) (by decide +kernel) ⟨Nat.le_of_ble_eq_true rfl, Nat.le_of_ble_eq_true rfl⟩), (wd_919 hB _), (wd_920 hB _)⟩ ⟨pt_bl, pg_recv (ci := 4) hK hP (lo_in hL t28 (by decide)) e29 rfl, pt_pre hTZ hS hB hK hP hD⟩ rfl rfl hl.1 rfl (lv_room (Nat.le_of_ble_eq_true rfl)) d_B_output_41 ⟨Nat.le_of_ble_eq_true rfl, Nat.le_of_ble_eq_true rfl⟩) hS (fun r33 f34 H locs hq35 hP hD hS => ?_)
        subst hq35
        exact pt_iret hx hb hr hlocks hK hP hD hS d_B_output_44 ⟨_, rfl, rfl⟩
      · skip
        exact pt_throw (own := "BigRunner") (cls := "java/lang/IndexOutOfBoundsException") (text := "no such output or part of it") (names := ["java/lang/RuntimeException", "java/lang/Exception"]) hx hb (hl.1.trans hml.symm) hlocks hno hLt hown (by decide +kernel) (by decide +kernel) hB hTZ (fun U hB hH => ⟨(wd_888 hB _), (wd_889 hB _), (wd_94 hB _), (wd_940 hB _), oa_1 hB hH _⟩) hK hP hD hS d_B_output_21 d_B_output_24 d_B_output_25 d_B_output_27 d_B_output_30 (Nat.le_of_ble_eq_true rfl) (Nat.le_of_ble_eq_true rfl) (Nat.le_of_ble_eq_true rfl) (Nat.le_of_ble_eq_true rfl) ⟨rfl, rfl⟩
