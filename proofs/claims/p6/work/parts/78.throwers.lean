set_option maxHeartbeats 4000000 in
set_option maxRecDepth 100000 in
theorem c_digits (l : Launch) (g : Lay) (sz : Nat) (f : Nat → va_E) (x : Nat) (hL : LO g) (t_x : g.tg x = 5) (hI : OC g f) : Met l ⟨"BigRunner$LongNumber", "digits", "()I"⟩ [Cond.code ⟨"BigRunner$LongNumber", "digits", "()I"⟩ prog_5_method_6_code 2 (some .int)] ({ frames := 0, cells := 0, slots := 0, locals := 0 }) (va_Pc [.ref x] (pt_in g sz f)) (va_Qi (fun r f1 => (f = f1)) (pc_out g sz) (pc_A g sz)) 0 0 (pc_A g sz) := by
  refine pt_ofM (cc := prog_5_method_6_code) (maxL := 2) (ret := (some .int)) (lv := [(0, .ref x)]) (by decide) (Nat.le_of_ble_eq_true rfl) rfl ?_
  intro p e s m args below meth c ls hx hb hr hml hlocks hown hB hP hK hD hsz hS hl hTZ
  subst hsz
  refine lv_aload_n hx hb d_NLongNumber_digits_0 rfl (lv_at hl 0 rfl) ?_
  obtain ⟨sg_2, n_3, e1, c4⟩ := oc_5.of t_x (hI x)
  refine pf_get (v := .int (nI n_3)) (C := "BigRunner$LongNumber") (T := FT4) (N := 3) hx hb (hw4 hB _) (fun _ h9 => h9) hown hK hP (lo_in hL t_x (by decide)) e1 rfl 1 (by decide) (wd_190 hB _) rfl d_NLongNumber_digits_1 ?_
  refine lv_if_ne (tgt := 9) hx hb d_NLongNumber_digits_4 (by decide) (fun b5 => ?_) (fun b5 => ?_)
  · skip
    replace b5 := mt (nI_eq (a := n_3) (b := 0) (by omega) (by omega)).mpr b5
    refine lv_iconst (v := nI 1) hx hb d_NLongNumber_digits_9 (by decide) ?_
    refine lv_istore_n (lv' := [(1, .int (nI 1)), (0, .ref x)]) hx hb d_NLongNumber_digits_10 rfl hl (by decide) rfl (fun ls hl => ?_)
    have lp6 : ∀ (k8 : Nat) (i : Nat) (H : Heap) (locs : List Loc) (ls : Array Slot), (9 < i + k8) → (i ≤ 9) → lv_has ls 2 [(1, .int (nI i)), (0, .ref x)] → va_P g.D vcl (va_pl g.LP f) H → va_D (pc_A g s.heap.size) (va_pl g.LP f) → va_S (pc_A g s.heap.size) s.heap H locs → W p l e ({ frames := 0, cells := 0, slots := 0, locals := 0 }) s m args below meth c H locs 0 0 (MQ below (va_Qi (fun r f1 => (f = f1)) (pc_out g s.heap.size) (pc_A g s.heap.size)) args s 0 0 (pc_A g s.heap.size)) (F0 m 11 ls []) := by
      intro k8
      induction k8 with
      | zero => intros; exfalso; omega
      | succ k8 ih9 =>
        intro i H locs ls hfu10 hi hl hP hD hS
        refine lv_iload_n hx hb d_NLongNumber_digits_11 rfl (lv_at hl 0 rfl) ?_
        refine lv_bipush (v := nI 9) hx hb d_NLongNumber_digits_12 (by decide) ?_
        refine lv_icmp_ge (tgt := 42) hx hb d_NLongNumber_digits_14 (by decide) (fun b13 => ?_) (fun b13 => ?_)
        · skip
          replace b13 := (nI_leI (a := 9) (b := i) (by omega) (by omega)).mp b13
          refine lv_aload_n hx hb d_NLongNumber_digits_42 rfl (lv_at hl 1 rfl) ?_
          refine pf_get (v := .int (nI n_3)) (C := "BigRunner$LongNumber") (T := FT4) (N := 3) hx hb (hw4 hB _) (fun _ h9 => h9) hown hK hP (lo_in hL t_x (by decide)) e1 rfl 1 (by decide) (wd_190 hB _) rfl d_NLongNumber_digits_43 ?_
          refine lv_iconst (v := nI 1) hx hb d_NLongNumber_digits_46 (by decide) ?_
          refine pf_isubN (x := n_3) (y := 1) hx hb (by omega) d_NLongNumber_digits_47 ?_
          refine lv_bipush (v := nI 9) hx hb d_NLongNumber_digits_48 (by decide) ?_
          refine pf_imulN (x := n_3 - 1) (y := 9) hx hb d_NLongNumber_digits_50 ?_
          refine lv_iload_n hx hb d_NLongNumber_digits_51 rfl (lv_at hl 0 rfl) ?_
          refine pf_iaddN (x := (n_3 - 1) * 9) (y := i) hx hb d_NLongNumber_digits_52 ?_
          exact pe_iret hx hb hr hlocks hK hP hD hS d_NLongNumber_digits_53 rfl
        · skip
          replace b13 := mt (nI_leI (a := 9) (b := i) (by omega) (by omega)).mpr b13
          refine lv_aload_n hx hb d_NLongNumber_digits_17 rfl (lv_at hl 1 rfl) ?_
          refine pf_get (v := .ref (g.lk x 2)) (C := "BigRunner$LongNumber") (T := FT4) (N := 3) hx hb (hw4 hB _) (fun _ h9 => h9) hown hK hP (lo_in hL t_x (by decide)) e1 rfl 2 (by decide) (wd_192 hB _) rfl d_NLongNumber_digits_18 ?_
          refine lv_aload_n hx hb d_NLongNumber_digits_21 rfl (lv_at hl 1 rfl) ?_
          refine pf_get (v := .int (nI n_3)) (C := "BigRunner$LongNumber") (T := FT4) (N := 3) hx hb (hw4 hB _) (fun _ h9 => h9) hown hK hP (lo_in hL t_x (by decide)) e1 rfl 1 (by decide) (wd_190 hB _) rfl d_NLongNumber_digits_22 ?_
          refine lv_iconst (v := nI 1) hx hb d_NLongNumber_digits_25 (by decide) ?_
          refine pf_isubN (x := n_3) (y := 1) hx hb (by omega) d_NLongNumber_digits_26 ?_
          obtain ⟨h_15, e14, c16⟩ := oc_23.of (lo_k5_2 hL _ t_x) (hI (g.lk x 2))
          refine pf_iald (i := n_3 - 1) hx hb hK hP (lo_in hL (lo_k5_2 hL _ t_x) (by decide)) e14 (lo_t23 hL _ (lo_k5_2 hL _ t_x)) (by omega) (by decide) d_NLongNumber_digits_27 ?_
          refine lv_topi (fun z_ hz_ => ?_)
          obtain ⟨li17, hli17, qli17⟩ := c16 (n_3 - 1) (by omega)
          obtain rfl : z_ = nI li17 := hz_.trans qli17
          obtain ⟨tP, p9, hp9, hZP, hTP⟩ := hTZ.2.2
          refine va_gets hx hb hZP hS hown (wd_926 hB _) (fun _ z => z) d_NLongNumber_digits_28 ?_
          refine lv_iload_n hx hb d_NLongNumber_digits_31 rfl (lv_at hl 0 rfl) ?_
          obtain ⟨pw18, hpw18⟩ : ∃ z : Nat, z = p9 i := ⟨_, rfl⟩
          have qpw18 := hp9 i (by omega)
          rw [← hpw18] at qpw18
          refine va_ti (v := .int (nI pw18)) hx hb hTP hS (vp_in_nI (by omega) (by decide)) (by rw [nI_clamp (by omega), hpw18]) d_NLongNumber_digits_32 ?_
          refine lv_icmp_lt (tgt := 42) hx hb d_NLongNumber_digits_33 (by decide) (fun b19 => ?_) (fun b19 => ?_)
          · skip
            replace b19 := (nI_ltI (a := li17) (b := pw18) (by omega) (by omega)).mp b19
            refine lv_aload_n hx hb d_NLongNumber_digits_42 rfl (lv_at hl 1 rfl) ?_
            refine pf_get (v := .int (nI n_3)) (C := "BigRunner$LongNumber") (T := FT4) (N := 3) hx hb (hw4 hB _) (fun _ h9 => h9) hown hK hP (lo_in hL t_x (by decide)) e1 rfl 1 (by decide) (wd_190 hB _) rfl d_NLongNumber_digits_43 ?_
            refine lv_iconst (v := nI 1) hx hb d_NLongNumber_digits_46 (by decide) ?_
            refine pf_isubN (x := n_3) (y := 1) hx hb (by omega) d_NLongNumber_digits_47 ?_
            refine lv_bipush (v := nI 9) hx hb d_NLongNumber_digits_48 (by decide) ?_
            refine pf_imulN (x := n_3 - 1) (y := 9) hx hb d_NLongNumber_digits_50 ?_
            refine lv_iload_n hx hb d_NLongNumber_digits_51 rfl (lv_at hl 0 rfl) ?_
            refine pf_iaddN (x := (n_3 - 1) * 9) (y := i) hx hb d_NLongNumber_digits_52 ?_
            exact pe_iret hx hb hr hlocks hK hP hD hS d_NLongNumber_digits_53 rfl
          · skip
            replace b19 := mt (nI_ltI (a := li17) (b := pw18) (by omega) (by omega)).mpr b19
            refine lv_iinc (k := 0) (v := nI (i + 1)) (lv' := [(1, .int (nI (i + 1))), (0, .ref x)]) hx hb d_NLongNumber_digits_36 hl rfl (by rw [nI_succ]; rfl) (by decide) rfl (fun ls hl => ?_)
            refine lv_goto (tgt := 11) hx hb d_NLongNumber_digits_39 (by decide) ?_
            exact ih9 (i + 1) H locs ls (by omega) (by omega) hl hP hD hS
    exact lp6 10 1 s.heap [] ls (by omega) (by omega) hl hP hD hS
  · skip
    replace b5 := (nI_eq (a := n_3) (b := 0) (by omega) (by omega)).mp b5
    refine lv_iconst (v := nI 1) hx hb d_NLongNumber_digits_7 (by decide) ?_
    exact pe_iret hx hb hr hlocks hK hP hD hS d_NLongNumber_digits_8 rfl
set_option maxHeartbeats 4000000 in
set_option maxRecDepth 100000 in
theorem c_tell (l : Launch) (g : Lay) (sz : Nat) (f : Nat → va_E) (x : Nat) (v : Int32) (hL : LO g) (t_x : g.tg x = 5) (hI : OC g f) : Met l ⟨"BigRunner$LongNumber", "tell", "(I)I"⟩ [Cond.code ⟨"BigRunner$LongNumber", "tell", "(I)I"⟩ prog_5_method_5_code 2 (some .int)] ({ frames := 1, cells := 0, slots := 0, locals := 21 }) (va_Pc [.ref x, .int v] (pt_in g sz f)) (va_Qi (fun r f1 => (f = f1)) (pc_out g sz) (pc_A g sz)) 0 0 (pc_A g sz) := by
  refine pt_ofM (cc := prog_5_method_5_code) (maxL := 2) (ret := (some .int)) (lv := [(0, .ref x), (1, .int v)]) (by decide) (Nat.le_of_ble_eq_true rfl) rfl ?_
  intro p e s m args below meth c ls hx hb hr hml hlocks hown hB hP hK hD hsz hS hl hTZ
  subst hsz
  refine lv_iload_n hx hb d_NLongNumber_tell_0 rfl (lv_at hl 1 rfl) ?_
  refine lv_iconst (v := (-1)) hx hb d_NLongNumber_tell_1 (by decide) ?_
  refine lv_icmp_ne (tgt := 10) hx hb d_NLongNumber_tell_2 (by decide) (fun b1 => ?_) (fun b1 => ?_)
  · skip
    refine lv_iload_n hx hb d_NLongNumber_tell_10 rfl (lv_at hl 1 rfl) ?_
    refine lv_bipush (v := (-2)) hx hb d_NLongNumber_tell_11 (by decide) ?_
    refine lv_icmp_ne (tgt := 21) hx hb d_NLongNumber_tell_13 (by decide) (fun b2 => ?_) (fun b2 => ?_)
    · skip
      refine lv_iload_n hx hb d_NLongNumber_tell_21 rfl (lv_at hl 1 rfl) ?_
      refine lv_if_lt (tgt := 36) hx hb d_NLongNumber_tell_22 (by decide) (fun b3 => ?_) (fun b3 => ?_)
      · skip
        refine lv_iconst (v := nI 0) hx hb d_NLongNumber_tell_36 (by decide) ?_
        refine lv_goto (tgt := 61) hx hb d_NLongNumber_tell_37 (by decide) ?_
        exact pe_iret hx hb hr hlocks hK hP hD hS d_NLongNumber_tell_61 rfl
      · skip
        obtain ⟨j, hj, rfl⟩ := nI_of b3
        refine lv_iload_n hx hb d_NLongNumber_tell_25 rfl (lv_at hl 1 rfl) ?_
        refine lv_bipush (v := nI 9) hx hb d_NLongNumber_tell_26 (by decide) ?_
        refine pf_idivN (x := j) (y := 9) hx hb (by omega) (by omega) (by omega) d_NLongNumber_tell_28 ?_
        refine lv_aload_n hx hb d_NLongNumber_tell_29 rfl (lv_at hl 0 rfl) ?_
        obtain ⟨sg_5, n_6, e4, c7⟩ := oc_5.of t_x (hI x)
        refine pf_get (v := .int (nI n_6)) (C := "BigRunner$LongNumber") (T := FT4) (N := 3) hx hb (hw4 hB _) (fun _ h9 => h9) hown hK hP (lo_in hL t_x (by decide)) e4 rfl 1 (by decide) (wd_190 hB _) rfl d_NLongNumber_tell_30 ?_
        refine lv_icmp_lt (tgt := 40) hx hb d_NLongNumber_tell_33 (by decide) (fun b8 => ?_) (fun b8 => ?_)
        · skip
          replace b8 := (nI_ltI (a := j / 9) (b := n_6) (by omega) (by omega)).mp b8
          refine lv_aload_n hx hb d_NLongNumber_tell_40 rfl (lv_at hl 0 rfl) ?_
          refine pf_get (v := .ref (g.lk x 2)) (C := "BigRunner$LongNumber") (T := FT4) (N := 3) hx hb (hw4 hB _) (fun _ h9 => h9) hown hK hP (lo_in hL t_x (by decide)) e4 rfl 2 (by decide) (wd_192 hB _) rfl d_NLongNumber_tell_41 ?_
          refine lv_iload_n hx hb d_NLongNumber_tell_44 rfl (lv_at hl 1 rfl) ?_
          refine lv_bipush (v := nI 9) hx hb d_NLongNumber_tell_45 (by decide) ?_
          refine pf_idivN (x := j) (y := 9) hx hb (by omega) (by omega) (by omega) d_NLongNumber_tell_47 ?_
          obtain ⟨h_10, e9, c11⟩ := oc_23.of (lo_k5_2 hL _ t_x) (hI (g.lk x 2))
          refine pf_iald (i := j / 9) hx hb hK hP (lo_in hL (lo_k5_2 hL _ t_x) (by decide)) e9 (lo_t23 hL _ (lo_k5_2 hL _ t_x)) (by omega) (by decide) d_NLongNumber_tell_48 ?_
          refine lv_topi (fun z_ hz_ => ?_)
          obtain ⟨li12, hli12, qli12⟩ := c11 (j / 9) (by omega)
          obtain rfl : z_ = nI li12 := hz_.trans qli12
          obtain ⟨tP, p9, hp9, hZP, hTP⟩ := hTZ.2.2
          refine va_gets hx hb hZP hS hown (wd_926 hB _) (fun _ z => z) d_NLongNumber_tell_49 ?_
          refine lv_iload_n hx hb d_NLongNumber_tell_52 rfl (lv_at hl 1 rfl) ?_
          refine lv_bipush (v := nI 9) hx hb d_NLongNumber_tell_53 (by decide) ?_
          refine pf_iremN (x := j) (y := 9) hx hb (by omega) (by omega) (by omega) d_NLongNumber_tell_55 ?_
          obtain ⟨pw13, hpw13⟩ : ∃ z : Nat, z = p9 (j % 9) := ⟨_, rfl⟩
          have qpw13 := hp9 (j % 9) (by omega)
          rw [← hpw13] at qpw13
          refine va_ti (v := .int (nI pw13)) hx hb hTP hS (vp_in_nI (by omega) (by decide)) (by rw [nI_clamp (by omega), hpw13]) d_NLongNumber_tell_56 ?_
          refine pf_idivN (x := li12) (y := pw13) hx hb (by omega) (by omega) (by omega) d_NLongNumber_tell_57 ?_
          have hm14 : li12 / pw13 ≤ li12 := Nat.div_le_self _ _
          refine lv_bipush (v := nI 10) hx hb d_NLongNumber_tell_58 (by decide) ?_
          refine pf_iremN (x := li12 / pw13) (y := 10) hx hb (by omega) (by omega) (by omega) d_NLongNumber_tell_60 ?_
          exact pe_iret hx hb hr hlocks hK hP hD hS d_NLongNumber_tell_61 rfl
        · skip
          replace b8 := mt (nI_ltI (a := j / 9) (b := n_6) (by omega) (by omega)).mpr b8
          refine lv_iconst (v := nI 0) hx hb d_NLongNumber_tell_36 (by decide) ?_
          refine lv_goto (tgt := 61) hx hb d_NLongNumber_tell_37 (by decide) ?_
          exact pe_iret hx hb hr hlocks hK hP hD hS d_NLongNumber_tell_61 rfl
    · skip
      refine lv_aload_n hx hb d_NLongNumber_tell_16 rfl (lv_at hl 0 rfl) ?_
      obtain ⟨sg_16, n_17, e15, c18⟩ := oc_5.of t_x (hI x)
      refine pcc_i (va_runV (C := "BigRunner$LongNumber") (As := []) (rest := []) ⟨hx, hb, hml, hown, tb_nil⟩ (c_digits l g s.heap.size f x hL t_x hI) ⟨(callB_of 0 (tb_one (wd_925 hB _)) tb_good1 rfl rfl rfl (wd_78 hB _) (wd_922 hB _) (by decide +kernel) ⟨Nat.le_of_ble_eq_true rfl, Nat.le_of_ble_eq_true rfl⟩), (wd_924 hB _), (wd_40 hB _)⟩ ⟨pt_bl, pg_recv (ci := 4) hK hP (lo_in hL t_x (by decide)) e15 rfl, pt_pre hTZ hS hB hK hP hD⟩ rfl rfl hl.1 rfl (lv_room (Nat.le_of_ble_eq_true rfl)) d_NLongNumber_tell_17 ⟨Nat.le_of_ble_eq_true rfl, Nat.le_of_ble_eq_true rfl⟩) hS (fun r19 f20 H locs hq21 hP hD hS => ?_)
      subst hq21
      exact pe_iret hx hb hr hlocks hK hP hD hS d_NLongNumber_tell_20 rfl
  · skip
    refine lv_aload_n hx hb d_NLongNumber_tell_5 rfl (lv_at hl 0 rfl) ?_
    obtain ⟨sg_23, n_24, e22, c25⟩ := oc_5.of t_x (hI x)
    refine pf_get (v := .int sg_23) (C := "BigRunner$LongNumber") (T := FT4) (N := 3) hx hb (hw4 hB _) (fun _ h9 => h9) hown hK hP (lo_in hL t_x (by decide)) e22 rfl 0 (by decide) (wd_186 hB _) rfl d_NLongNumber_tell_6 ?_
    exact pe_iret hx hb hr hlocks hK hP hD hS d_NLongNumber_tell_9 rfl
set_option maxHeartbeats 4000000 in
set_option maxRecDepth 100000 in
theorem c_bound (l : Launch) (g : Lay) (sz : Nat) (f : Nat → va_E) (B : Nat) (v : Int32) (gr : Int32) (hL : LO g) (t_B : g.tg B = 1) (hI : OC g f) (hLt : l.stackTraces = false) : tw_Met l ⟨"BigRunner", "bound", "(IZ)J"⟩ [Cond.code ⟨"BigRunner", "bound", "(IZ)J"⟩ prog_1_method_8_code 6 (some .long)] ({ frames := 6, cells := 1, slots := 6, locals := 120 }) (va_Pc [.ref B, .int v, .int gr] (pt_in g sz f)) (tq (fun v9 f1 => ∃ r, v9 = some (.long r) ∧ (f = f1)) (fun C9 f1 => (C9 = "java/lang/IndexOutOfBoundsException" ∨ C9 = "java/lang/UnsupportedOperationException") ∧ (f = f1)) g sz) 1 6 (pc_A g sz) := by
  refine pt_ofW (cc := prog_1_method_8_code) (maxL := 6) (ret := (some .long)) (lv := [(0, .ref B), (1, .int v), (2, .int gr)]) (by decide) (Nat.le_of_ble_eq_true rfl) rfl ?_
  intro p e s m args below meth c ls hx hb hr hml hlocks hown hB hP hK hD hsz hS hl hno hTZ
  subst hsz
  refine lv_aload_n hx hb d_B_bound_0 rfl (lv_at hl 0 rfl) ?_
  refine lv_iload_n hx hb d_B_bound_1 rfl (lv_at hl 1 rfl) ?_
  obtain ⟨n_2, ld_3, e1, c4, c5⟩ := oc_1.of t_B (hI B)
  refine pcc_i (va_runV (C := "BigRunner") (As := [.int v]) (rest := []) ⟨hx, hb, hml, hown, tb_nil⟩ (c_hasVar l g s.heap.size f B v hL t_B hI) ⟨(callB_of 1 (tb_one (wd_436 hB _)) tb_good1 rfl rfl rfl (wd_72 hB _) (wd_433 hB _) (by decide +kernel) ⟨Nat.le_of_ble_eq_true rfl, Nat.le_of_ble_eq_true rfl⟩), (wd_435 hB _), (wd_1 hB _)⟩ ⟨pe_bl, pg_recv (ci := 0) hK hP (lo_in hL t_B (by decide)) e1 rfl, pe_pre hB hK hP hD⟩ rfl rfl hl.1 rfl (lv_room (Nat.le_of_ble_eq_true rfl)) d_B_bound_2 ⟨Nat.le_of_ble_eq_true rfl, Nat.le_of_ble_eq_true rfl⟩) hS (fun r6 f7 H locs hq8 hP hD hS => ?_)
  obtain ⟨bo_9, i1_10, rfl⟩ := hq8
  refine lv_if_ne (tgt := 18) hx hb d_B_bound_5 (by decide) (fun b11 => ?_) (fun b11 => ?_)
  · skip
    have hr12 : r6 = nI 1 := (bl_1 bo_9 b11)
    have hi13 := i1_10 hr12
    obtain ⟨vk14, hvk14, rfl⟩ := hi13
    refine lv_aload_n hx hb d_B_bound_18 rfl (lv_at hl 0 rfl) ?_
    refine pf_get (v := .ref (g.lk B 3)) (C := "BigRunner") (T := FT0) (N := 5) hx hb (hw0 hB _) (fun _ h9 => h9) hown hK hP (lo_in hL t_B (by decide)) e1 rfl 3 (by decide) (wd_381 hB _) rfl d_B_bound_19 ?_
    obtain ⟨pr_16, ix_17, os_18, st_19, mo_20, lo_21, tr_22, e15, c23, c24, c25, c26, c27⟩ := oc_9.of (lo_k1_3 hL _ t_B) (hI (g.lk B 3))
    refine pf_get (v := .ref pr_16) (C := "BigRunner$Runner") (T := FT8) (N := 13) hx hb (hw8 hB _) (fun _ h9 => h9) hown hK hP (lo_in hL (lo_k1_3 hL _ t_B) (by decide)) e15 rfl 0 (by decide) (wd_331 hB _) rfl d_B_bound_22 ?_
    obtain ⟨sc_29, nc_30, e28, c31, c32⟩ := oc_7.of c23 (hI pr_16)
    refine pf_get (v := .ref (g.lk pr_16 4)) (C := "BigRunner$Program") (T := FT6) (N := 6) hx hb (hw6 hB _) (fun _ h9 => h9) hown hK hP (lo_in hL c23 (by decide)) e28 rfl 4 (by decide) (wd_255 hB _) rfl d_B_bound_25 ?_
    refine lv_iload_n hx hb d_B_bound_28 rfl (lv_at hl 1 rfl) ?_
    have e33 := oc_26.of (lo_k7_4 hL _ c23) (hI (g.lk pr_16 4))
    refine pf_aald (i := vk14) hx hb hK hP (lo_in hL (lo_k7_4 hL _ c23) (by decide)) e33 (lo_t26 hL _ (lo_k7_4 hL _ c23)) (by omega) (by decide) d_B_bound_29 ?_
    have t34 := lo_e26 hL _ (lo_k7_4 hL _ c23) vk14 (by omega)
    refine lv_astore_n (lv' := [(3, .ref (g.lk (g.lk pr_16 4) vk14)), (0, .ref B), (1, .int (nI vk14)), (2, .int gr)]) hx hb d_B_bound_30 rfl hl (by decide) rfl (fun ls hl => ?_)
    refine lv_iload_n hx hb d_B_bound_31 rfl (lv_at hl 3 rfl) ?_
    refine lv_if_eq (tgt := 42) hx hb d_B_bound_32 (by decide) (fun b35 => ?_) (fun b35 => ?_)
    · skip
      refine lv_aload_n hx hb d_B_bound_42 rfl (lv_at hl 0 rfl) ?_
      obtain ⟨lo_37, hi_38, e36⟩ := oc_3.of t34 (hI (g.lk (g.lk pr_16 4) vk14))
      refine pf_get (v := .long lo_37) (C := "BigRunner$Interval") (T := FT2) (N := 2) hx hb (hw2 hB _) (fun _ h9 => h9) hown hK hP (lo_in hL t34 (by decide)) e36 rfl 0 (by decide) (wd_128 hB _) rfl d_B_bound_43 ?_
      refine lv_lstore (lv' := [(4, .long lo_37), (3, .ref (g.lk (g.lk pr_16 4) vk14)), (0, .ref B), (1, .int (nI vk14)), (2, .int gr)]) hx hb d_B_bound_46 hl (by decide) rfl (fun ls hl => ?_)
      refine lv_lload hx hb d_B_bound_48 (lv_at hl 0 rfl) ?_
      refine pcc_i (va_runS (As := [.long lo_37]) (rest := []) ⟨hx, hb, hml, hown, tb_nil⟩ (c_isUnb l g H.size f lo_37 hL hI) ⟨(callB_of 1 (tb_one (wd_443 hB _)) tb_good1 rfl rfl rfl (wd_75 hB _) (wd_904 hB _) (by decide +kernel) ⟨Nat.le_of_ble_eq_true rfl, Nat.le_of_ble_eq_true rfl⟩), (wd_442 hB _)⟩ ⟨pe_bl, pe_pre hB hK hP hD⟩ rfl rfl hl.1 rfl (lv_room (Nat.le_of_ble_eq_true rfl)) d_B_bound_50 ⟨Nat.le_of_ble_eq_true rfl, Nat.le_of_ble_eq_true rfl⟩) hS (fun r39 f40 H locs hq41 hP hD hS => ?_)
      obtain ⟨bo_42, rfl⟩ := hq41
      refine lv_if_eq (tgt := 66) hx hb d_B_bound_53 (by decide) (fun b43 => ?_) (fun b43 => ?_)
      · skip
        have hr44 : r39 = nI 0 := b43
        refine lv_lload hx hb d_B_bound_66 (lv_at hl 0 rfl) ?_
        exact pt_lret hx hb hr hlocks hK hP hD hS d_B_bound_68 ⟨_, rfl, rfl⟩
      · skip
        have hr45 : r39 = nI 1 := (bl_1 bo_42 b43)
        exact pt_throw (own := "BigRunner") (cls := "java/lang/UnsupportedOperationException") (text := "UNBOUNDED") (names := ["java/lang/RuntimeException", "java/lang/Exception"]) hx hb (hl.1.trans hml.symm) hlocks hno hLt hown (by decide +kernel) (by decide +kernel) hB hTZ (fun U hB hH => ⟨(wd_864 hB _), (wd_865 hB _), (wd_93 hB _), (wd_905 hB _), oa_0 hB hH _⟩) hK hP hD hS d_B_bound_56 d_B_bound_59 d_B_bound_60 d_B_bound_62 d_B_bound_65 (Nat.le_of_ble_eq_true rfl) (Nat.le_of_ble_eq_true rfl) (Nat.le_of_ble_eq_true rfl) (Nat.le_of_ble_eq_true rfl) ⟨(Or.inr (rfl)), rfl⟩
    · skip
      refine lv_aload_n hx hb d_B_bound_35 rfl (lv_at hl 0 rfl) ?_
      obtain ⟨lo_47, hi_48, e46⟩ := oc_3.of t34 (hI (g.lk (g.lk pr_16 4) vk14))
      refine pf_get (v := .long hi_48) (C := "BigRunner$Interval") (T := FT2) (N := 2) hx hb (hw2 hB _) (fun _ h9 => h9) hown hK hP (lo_in hL t34 (by decide)) e46 rfl 1 (by decide) (wd_131 hB _) rfl d_B_bound_36 ?_
      refine lv_goto (tgt := 46) hx hb d_B_bound_39 (by decide) ?_
      refine lv_lstore (lv' := [(4, .long hi_48), (3, .ref (g.lk (g.lk pr_16 4) vk14)), (0, .ref B), (1, .int (nI vk14)), (2, .int gr)]) hx hb d_B_bound_46 hl (by decide) rfl (fun ls hl => ?_)
      refine lv_lload hx hb d_B_bound_48 (lv_at hl 0 rfl) ?_
      refine pcc_i (va_runS (As := [.long hi_48]) (rest := []) ⟨hx, hb, hml, hown, tb_nil⟩ (c_isUnb l g H.size f hi_48 hL hI) ⟨(callB_of 1 (tb_one (wd_443 hB _)) tb_good1 rfl rfl rfl (wd_75 hB _) (wd_904 hB _) (by decide +kernel) ⟨Nat.le_of_ble_eq_true rfl, Nat.le_of_ble_eq_true rfl⟩), (wd_442 hB _)⟩ ⟨pe_bl, pe_pre hB hK hP hD⟩ rfl rfl hl.1 rfl (lv_room (Nat.le_of_ble_eq_true rfl)) d_B_bound_50 ⟨Nat.le_of_ble_eq_true rfl, Nat.le_of_ble_eq_true rfl⟩) hS (fun r49 f50 H locs hq51 hP hD hS => ?_)
      obtain ⟨bo_52, rfl⟩ := hq51
      refine lv_if_eq (tgt := 66) hx hb d_B_bound_53 (by decide) (fun b53 => ?_) (fun b53 => ?_)
      · skip
        have hr54 : r49 = nI 0 := b53
        refine lv_lload hx hb d_B_bound_66 (lv_at hl 0 rfl) ?_
        exact pt_lret hx hb hr hlocks hK hP hD hS d_B_bound_68 ⟨_, rfl, rfl⟩
      · skip
        have hr55 : r49 = nI 1 := (bl_1 bo_52 b53)
        exact pt_throw (own := "BigRunner") (cls := "java/lang/UnsupportedOperationException") (text := "UNBOUNDED") (names := ["java/lang/RuntimeException", "java/lang/Exception"]) hx hb (hl.1.trans hml.symm) hlocks hno hLt hown (by decide +kernel) (by decide +kernel) hB hTZ (fun U hB hH => ⟨(wd_864 hB _), (wd_865 hB _), (wd_93 hB _), (wd_905 hB _), oa_0 hB hH _⟩) hK hP hD hS d_B_bound_56 d_B_bound_59 d_B_bound_60 d_B_bound_62 d_B_bound_65 (Nat.le_of_ble_eq_true rfl) (Nat.le_of_ble_eq_true rfl) (Nat.le_of_ble_eq_true rfl) (Nat.le_of_ble_eq_true rfl) ⟨(Or.inr (rfl)), rfl⟩
  · skip
    have hr56 : r6 = nI 0 := b11
    exact pt_throw (own := "BigRunner") (cls := "java/lang/IndexOutOfBoundsException") (text := "no such variable") (names := ["java/lang/RuntimeException", "java/lang/Exception"]) hx hb (hl.1.trans hml.symm) hlocks hno hLt hown (by decide +kernel) (by decide +kernel) hB hTZ (fun U hB hH => ⟨(wd_888 hB _), (wd_889 hB _), (wd_94 hB _), (wd_897 hB _), oa_1 hB hH _⟩) hK hP hD hS d_B_bound_8 d_B_bound_11 d_B_bound_12 d_B_bound_14 d_B_bound_17 (Nat.le_of_ble_eq_true rfl) (Nat.le_of_ble_eq_true rfl) (Nat.le_of_ble_eq_true rfl) (Nat.le_of_ble_eq_true rfl) ⟨(Or.inl rfl), rfl⟩
set_option maxHeartbeats 4000000 in
set_option maxRecDepth 100000 in
theorem c_variable (l : Launch) (g : Lay) (sz : Nat) (f : Nat → va_E) (B : Nat) (v : Int32) (k9 : Int32) (hL : LO g) (t_B : g.tg B = 1) (hI : IV g f) (hLt : l.stackTraces = false) : tw_Met l ⟨"BigRunner", "variable", "(II)I"⟩ [Cond.code ⟨"BigRunner", "variable", "(II)I"⟩ prog_1_method_10_code 3 (some .int)] ({ frames := 6, cells := 1, slots := 6, locals := 120 }) (va_Pc [.ref B, .int v, .int k9] (pt_in g sz f)) (tq (fun v9 f1 => ∃ r, v9 = some (.int r) ∧ (IV g f1) ∧ (un [5, 23] g f f1)) (fun C9 f1 => (C9 = "java/lang/IndexOutOfBoundsException") ∧ (IV g f1) ∧ (un [5, 23] g f f1)) g sz) 1 6 (pc_A g sz) := by
  refine pt_ofW (cc := prog_1_method_10_code) (maxL := 3) (ret := (some .int)) (lv := [(0, .ref B), (1, .int v), (2, .int k9)]) (by decide) (Nat.le_of_ble_eq_true rfl) rfl ?_
  intro p e s m args below meth c ls hx hb hr hml hlocks hown hB hP hK hD hsz hS hl hno hTZ
  subst hsz
  have hu : un [5, 23] g f f := un.rf
  refine lv_aload_n hx hb d_B_variable_0 rfl (lv_at hl 0 rfl) ?_
  refine lv_iload_n hx hb d_B_variable_1 rfl (lv_at hl 1 rfl) ?_
  obtain ⟨n_2, ld_3, e1, c4, c5⟩ := oc_1.of t_B (hI.1 B)
  refine pcc_i (va_runV (C := "BigRunner") (As := [.int v]) (rest := []) ⟨hx, hb, hml, hown, tb_nil⟩ (c_hasVar l g s.heap.size f B v hL t_B hI.1) ⟨(callB_of 1 (tb_one (wd_436 hB _)) tb_good1 rfl rfl rfl (wd_72 hB _) (wd_433 hB _) (by decide +kernel) ⟨Nat.le_of_ble_eq_true rfl, Nat.le_of_ble_eq_true rfl⟩), (wd_435 hB _), (wd_1 hB _)⟩ ⟨pe_bl, pg_recv (ci := 0) hK hP (lo_in hL t_B (by decide)) e1 rfl, pe_pre hB hK hP hD⟩ rfl rfl hl.1 rfl (lv_room (Nat.le_of_ble_eq_true rfl)) d_B_variable_2 ⟨Nat.le_of_ble_eq_true rfl, Nat.le_of_ble_eq_true rfl⟩) hS (fun r6 f7 H locs hq8 hP hD hS => ?_)
  obtain ⟨bo_9, i1_10, rfl⟩ := hq8
  refine lv_if_eq (tgt := 14) hx hb d_B_variable_5 (by decide) (fun b11 => ?_) (fun b11 => ?_)
  · skip
    have hr12 : r6 = nI 0 := b11
    exact pt_throw (own := "BigRunner") (cls := "java/lang/IndexOutOfBoundsException") (text := "no such variable or part of it") (names := ["java/lang/RuntimeException", "java/lang/Exception"]) hx hb (hl.1.trans hml.symm) hlocks hno hLt hown (by decide +kernel) (by decide +kernel) hB hTZ (fun U hB hH => ⟨(wd_888 hB _), (wd_889 hB _), (wd_94 hB _), (wd_913 hB _), oa_1 hB hH _⟩) hK hP hD hS d_B_variable_14 d_B_variable_17 d_B_variable_18 d_B_variable_20 d_B_variable_23 (Nat.le_of_ble_eq_true rfl) (Nat.le_of_ble_eq_true rfl) (Nat.le_of_ble_eq_true rfl) (Nat.le_of_ble_eq_true rfl) ⟨rfl, hI, hu⟩
  · skip
    have hr13 : r6 = nI 1 := (bl_1 bo_9 b11)
    have hi14 := i1_10 hr13
    obtain ⟨vk15, hvk15, rfl⟩ := hi14
    refine lv_iload_n hx hb d_B_variable_8 rfl (lv_at hl 2 rfl) ?_
    refine lv_bipush (v := (-2)) hx hb d_B_variable_9 (by decide) ?_
    refine lv_icmp_ge (tgt := 24) hx hb d_B_variable_11 (by decide) (fun b16 => ?_) (fun b16 => ?_)
    · skip
      refine lv_aload_n hx hb d_B_variable_24 rfl (lv_at hl 0 rfl) ?_
      refine pf_get (v := .ref (g.lk B 3)) (C := "BigRunner") (T := FT0) (N := 5) hx hb (hw0 hB _) (fun _ h9 => h9) hown hK hP (lo_in hL t_B (by decide)) e1 rfl 3 (by decide) (wd_381 hB _) rfl d_B_variable_25 ?_
      refine lv_iload_n hx hb d_B_variable_28 rfl (lv_at hl 1 rfl) ?_
      obtain ⟨pr_18, ix_19, os_20, st_21, mo_22, lo_23, tr_24, e17, c25, c26, c27, c28, c29⟩ := oc_9.of (lo_k1_3 hL _ t_B) (hI.1 (g.lk B 3))
      refine pcc_r (va_runV (C := "BigRunner$Runner") (As := [.int (nI vk15)]) (rest := []) ⟨hx, hb, hml, hown, tb_nil⟩ (c_valueOf l g H.size f ((g.lk B 3)) pr_18 ix_19 os_20 st_21 mo_22 lo_23 tr_24 vk15 hL (lo_k1_3 hL _ t_B) c25 hI e17 (by omega) (by omega) (by omega) (by omega) (by omega)) ⟨(callB_of 1 (tb_one (wd_917 hB _)) tb_good1 rfl rfl rfl (wd_79 hB _) (wd_914 hB _) (by decide +kernel) ⟨Nat.le_of_ble_eq_true rfl, Nat.le_of_ble_eq_true rfl⟩), (wd_915 hB _), (wd_916 hB _)⟩ ⟨pe_bl, pg_recv (ci := 8) hK hP (lo_in hL (lo_k1_3 hL _ t_B) (by decide)) e17 rfl, pe_pre hB hK hP hD⟩ rfl rfl hl.1 rfl (lv_room (Nat.le_of_ble_eq_true rfl)) d_B_variable_29 ⟨Nat.le_of_ble_eq_true rfl, Nat.le_of_ble_eq_true rfl⟩) hS (fun r30 f31 H locs hq32 hP hD hS => ?_)
      obtain ⟨rt_33, hI1_34, hu1_35⟩ := hq32
      have hu := hu.tr hu1_35 (by decide)
      have e1 := hu1_35.at t_B (by decide) e1
      have e17 := hu1_35.at (lo_k1_3 hL _ t_B) (by decide) e17
      refine lv_iload_n hx hb d_B_variable_32 rfl (lv_at hl 2 rfl) ?_
      obtain ⟨sg_37, n_38, e36, c39⟩ := oc_5.of rt_33 (hI1_34.1 r30)
      refine pcc_i (va_runV (C := "BigRunner$LongNumber") (As := [.int k9]) (rest := []) ⟨hx, hb, hml, hown, tb_nil⟩ (c_tell l g H.size f31 r30 k9 hL rt_33 hI1_34.1) ⟨(callB_of 1 (tb_one (wd_921 hB _)) tb_good1 rfl rfl rfl (wd_78 hB _) (wd_918 hB _) (by decide +kernel) ⟨Nat.le_of_ble_eq_true rfl, Nat.le_of_ble_eq_true rfl⟩), (wd_919 hB _), (wd_920 hB _)⟩ ⟨pt_bl, pg_recv (ci := 4) hK hP (lo_in hL rt_33 (by decide)) e36 rfl, pt_pre hTZ hS hB hK hP hD⟩ rfl rfl hl.1 rfl (lv_room (Nat.le_of_ble_eq_true rfl)) d_B_variable_33 ⟨Nat.le_of_ble_eq_true rfl, Nat.le_of_ble_eq_true rfl⟩) hS (fun r40 f41 H locs hq42 hP hD hS => ?_)
      subst hq42
      exact pt_iret hx hb hr hlocks hK hP hD hS d_B_variable_36 ⟨_, rfl, ⟨hI1_34, hu⟩⟩
    · skip
      exact pt_throw (own := "BigRunner") (cls := "java/lang/IndexOutOfBoundsException") (text := "no such variable or part of it") (names := ["java/lang/RuntimeException", "java/lang/Exception"]) hx hb (hl.1.trans hml.symm) hlocks hno hLt hown (by decide +kernel) (by decide +kernel) hB hTZ (fun U hB hH => ⟨(wd_888 hB _), (wd_889 hB _), (wd_94 hB _), (wd_913 hB _), oa_1 hB hH _⟩) hK hP hD hS d_B_variable_14 d_B_variable_17 d_B_variable_18 d_B_variable_20 d_B_variable_23 (Nat.le_of_ble_eq_true rfl) (Nat.le_of_ble_eq_true rfl) (Nat.le_of_ble_eq_true rfl) (Nat.le_of_ble_eq_true rfl) ⟨rfl, hI, hu⟩
set_option maxHeartbeats 4000000 in
set_option maxRecDepth 100000 in
theorem c_output (l : Launch) (g : Lay) (sz : Nat) (f : Nat → va_E) (B : Nat) (v : Int32) (k9 : Int32) (hL : LO g) (t_B : g.tg B = 1) (hI : OC g f) (hLt : l.stackTraces = false) : tw_Met l ⟨"BigRunner", "output", "(II)I"⟩ [Cond.code ⟨"BigRunner", "output", "(II)I"⟩ prog_1_method_11_code 3 (some .int)] ({ frames := 6, cells := 1, slots := 6, locals := 120 }) (va_Pc [.ref B, .int v, .int k9] (pt_in g sz f)) (tq (fun v9 f1 => ∃ r, v9 = some (.int r) ∧ (f = f1)) (fun C9 f1 => (C9 = "java/lang/IndexOutOfBoundsException") ∧ (f = f1)) g sz) 1 6 (pc_A g sz) := by
  refine pt_ofW (cc := prog_1_method_11_code) (maxL := 3) (ret := (some .int)) (lv := [(0, .ref B), (1, .int v), (2, .int k9)]) (by decide) (Nat.le_of_ble_eq_true rfl) rfl ?_
  intro p e s m args below meth c ls hx hb hr hml hlocks hown hB hP hK hD hsz hS hl hno hTZ
  subst hsz
  refine lv_iload_n hx hb d_B_output_0 rfl (lv_at hl 1 rfl) ?_
  refine lv_if_lt (tgt := 21) hx hb d_B_output_1 (by decide) (fun b1 => ?_) (fun b1 => ?_)
  · skip
    exact pt_throw (own := "BigRunner") (cls := "java/lang/IndexOutOfBoundsException") (text := "no such output or part of it") (names := ["java/lang/RuntimeException", "java/lang/Exception"]) hx hb (hl.1.trans hml.symm) hlocks hno hLt hown (by decide +kernel) (by decide +kernel) hB hTZ (fun U hB hH => ⟨(wd_888 hB _), (wd_889 hB _), (wd_94 hB _), (wd_940 hB _), oa_1 hB hH _⟩) hK hP hD hS d_B_output_21 d_B_output_24 d_B_output_25 d_B_output_27 d_B_output_30 (Nat.le_of_ble_eq_true rfl) (Nat.le_of_ble_eq_true rfl) (Nat.le_of_ble_eq_true rfl) (Nat.le_of_ble_eq_true rfl) ⟨rfl, rfl⟩
  · skip
    obtain ⟨j9, hj9, rfl⟩ := nI_of b1
    refine lv_iload_n hx hb d_B_output_4 rfl (lv_at hl 1 rfl) ?_
    refine lv_aload_n hx hb d_B_output_5 rfl (lv_at hl 0 rfl) ?_
    obtain ⟨n_3, ld_4, e2, c5, c6⟩ := oc_1.of t_B (hI B)
    refine pf_get (v := .ref (g.lk B 3)) (C := "BigRunner") (T := FT0) (N := 5) hx hb (hw0 hB _) (fun _ h9 => h9) hown hK hP (lo_in hL t_B (by decide)) e2 rfl 3 (by decide) (wd_381 hB _) rfl d_B_output_6 ?_
    obtain ⟨pr_8, ix_9, os_10, st_11, mo_12, lo_13, tr_14, e7, c15, c16, c17, c18, c19⟩ := oc_9.of (lo_k1_3 hL _ t_B) (hI (g.lk B 3))
    refine pcc_i (va_runV (C := "BigRunner$Runner") (As := []) (rest := [.int (nI j9)]) ⟨hx, hb, hml, hown, tb_nil⟩ (c_keptOutputs l g s.heap.size f ((g.lk B 3)) pr_8 ix_9 os_10 st_11 mo_12 lo_13 tr_14 hL (lo_k1_3 hL _ t_B) c15 hI e7 (by omega) (by omega) (by omega) (by omega)) ⟨(callB_of 0 (tb_one (wd_938 hB _)) tb_good1 rfl rfl rfl (wd_79 hB _) (wd_935 hB _) (by decide +kernel) ⟨Nat.le_of_ble_eq_true rfl, Nat.le_of_ble_eq_true rfl⟩), (wd_936 hB _), (wd_937 hB _)⟩ ⟨pe_bl, pg_recv (ci := 8) hK hP (lo_in hL (lo_k1_3 hL _ t_B) (by decide)) e7 rfl, pe_pre hB hK hP hD⟩ rfl rfl hl.1 rfl (lv_room (Nat.le_of_ble_eq_true rfl)) d_B_output_9 ⟨Nat.le_of_ble_eq_true rfl, Nat.le_of_ble_eq_true rfl⟩) hS (fun r20 f21 H locs hq22 hP hD hS => ?_)
    obtain ⟨q3_23, rfl⟩ := hq22
    obtain ⟨kr24, hkr24_0, rfl⟩ := q3_23
    refine lv_icmp_ge (tgt := 21) hx hb d_B_output_12 (by decide) (fun b25 => ?_) (fun b25 => ?_)
    · skip
      replace b25 := (nI_leI (a := kr24) (b := j9) (by omega) (by omega)).mp b25
      exact pt_throw (own := "BigRunner") (cls := "java/lang/IndexOutOfBoundsException") (text := "no such output or part of it") (names := ["java/lang/RuntimeException", "java/lang/Exception"]) hx hb (hl.1.trans hml.symm) hlocks hno hLt hown (by decide +kernel) (by decide +kernel) hB hTZ (fun U hB hH => ⟨(wd_888 hB _), (wd_889 hB _), (wd_94 hB _), (wd_940 hB _), oa_1 hB hH _⟩) hK hP hD hS d_B_output_21 d_B_output_24 d_B_output_25 d_B_output_27 d_B_output_30 (Nat.le_of_ble_eq_true rfl) (Nat.le_of_ble_eq_true rfl) (Nat.le_of_ble_eq_true rfl) (Nat.le_of_ble_eq_true rfl) ⟨rfl, rfl⟩
    · skip
      replace b25 := mt (nI_leI (a := kr24) (b := j9) (by omega) (by omega)).mpr b25
      refine lv_iload_n hx hb d_B_output_15 rfl (lv_at hl 2 rfl) ?_
      refine lv_bipush (v := (-2)) hx hb d_B_output_16 (by decide) ?_
      refine lv_icmp_ge (tgt := 31) hx hb d_B_output_18 (by decide) (fun b26 => ?_) (fun b26 => ?_)
      · skip
        refine lv_aload_n hx hb d_B_output_31 rfl (lv_at hl 0 rfl) ?_
        refine pf_get (v := .ref (g.lk B 3)) (C := "BigRunner") (T := FT0) (N := 5) hx hb (hw0 hB _) (fun _ h9 => h9) hown hK hP (lo_in hL t_B (by decide)) e2 rfl 3 (by decide) (wd_381 hB _) rfl d_B_output_32 ?_
        refine pf_get (v := .ref (g.lk (g.lk B 3) 7)) (C := "BigRunner$Runner") (T := FT8) (N := 13) hx hb (hw8 hB _) (fun _ h9 => h9) hown hK hP (lo_in hL (lo_k1_3 hL _ t_B) (by decide)) e7 rfl 7 (by decide) (wd_340 hB _) rfl d_B_output_35 ?_
        refine lv_iload_n hx hb d_B_output_38 rfl (lv_at hl 1 rfl) ?_
        have e27 := oc_29.of (lo_k9_7 hL _ (lo_k1_3 hL _ t_B)) (hI (g.lk (g.lk B 3) 7))
        refine pf_aald (i := j9) hx hb hK hP (lo_in hL (lo_k9_7 hL _ (lo_k1_3 hL _ t_B)) (by decide)) e27 (lo_t29 hL _ (lo_k9_7 hL _ (lo_k1_3 hL _ t_B))) (by omega) (by decide) d_B_output_39 ?_
        have t28 := lo_e29 hL _ (lo_k9_7 hL _ (lo_k1_3 hL _ t_B)) j9 (by omega)
        refine lv_iload_n hx hb d_B_output_40 rfl (lv_at hl 2 rfl) ?_
        obtain ⟨sg_30, n_31, e29, c32⟩ := oc_5.of t28 (hI (g.lk (g.lk (g.lk B 3) 7) j9))
        refine pcc_i (va_runV (C := "BigRunner$LongNumber") (As := [.int k9]) (rest := []) ⟨hx, hb, hml, hown, tb_nil⟩ (c_tell l g H.size f ((g.lk (g.lk (g.lk B 3) 7) j9)) k9 hL t28 hI) ⟨(callB_of 1 (tb_one (wd_921 hB _)) tb_good1 rfl rfl rfl (wd_78 hB _) (wd_918 hB _) (by decide +kernel) ⟨Nat.le_of_ble_eq_true rfl, Nat.le_of_ble_eq_true rfl⟩), (wd_919 hB _), (wd_920 hB _)⟩ ⟨pt_bl, pg_recv (ci := 4) hK hP (lo_in hL t28 (by decide)) e29 rfl, pt_pre hTZ hS hB hK hP hD⟩ rfl rfl hl.1 rfl (lv_room (Nat.le_of_ble_eq_true rfl)) d_B_output_41 ⟨Nat.le_of_ble_eq_true rfl, Nat.le_of_ble_eq_true rfl⟩) hS (fun r33 f34 H locs hq35 hP hD hS => ?_)
        subst hq35
        exact pt_iret hx hb hr hlocks hK hP hD hS d_B_output_44 ⟨_, rfl, rfl⟩
      · skip
        exact pt_throw (own := "BigRunner") (cls := "java/lang/IndexOutOfBoundsException") (text := "no such output or part of it") (names := ["java/lang/RuntimeException", "java/lang/Exception"]) hx hb (hl.1.trans hml.symm) hlocks hno hLt hown (by decide +kernel) (by decide +kernel) hB hTZ (fun U hB hH => ⟨(wd_888 hB _), (wd_889 hB _), (wd_94 hB _), (wd_940 hB _), oa_1 hB hH _⟩) hK hP hD hS d_B_output_21 d_B_output_24 d_B_output_25 d_B_output_27 d_B_output_30 (Nat.le_of_ble_eq_true rfl) (Nat.le_of_ble_eq_true rfl) (Nat.le_of_ble_eq_true rfl) (Nat.le_of_ble_eq_true rfl) ⟨rfl, rfl⟩
set_option maxHeartbeats 4000000 in
set_option maxRecDepth 100000 in
theorem c_load (l : Launch) (g : Lay) (sz : Nat) (f : Nat → va_E) (B : Nat) (n : Nat) (hT : Nat → Int32) (ld : Int32) (tx : Value) (ln0 : Nat) (ax0 : Nat) (PR : Nat) (pr : Nat) (ix : Nat) (os : Nat) (st : Nat) (mo : Int32) (lo : Int32) (tr : Nat) (sn : Nat) (nn : Nat) (hL : LO g) (t_B : g.tg B = 1) (t_PR : g.tg PR = 7) (t_pr : g.tg pr = 7) (hI : IV g f) (eB : f B = .inr (0, [.ref (g.lk B 0), .int (nI n), .ref (g.lk B 2), .ref (g.lk B 3), .int ld])) (hn : n ≤ 72) (hld : ld = nI 0 ∨ ld = nI 1) (eT : f (g.lk B 0) = .inl (g.ac (g.lk B 0), 72, .inl hT)) (cT : ∀ i, i < 72 → vp_nar .char (hT i) = hT i) (eR : f (g.lk B 2) = .inr (7, [tx, .int (nI ln0), .int (nI ax0), .ref PR])) (hl0 : ln0 ≤ 72) (ha0 : ax0 ≤ 72) (eX : f (g.lk B 3) = .inr (8, [.ref pr, .ref (g.lk (g.lk B 3) 1), .int (nI ix), .ref (g.lk (g.lk B 3) 3), .ref (g.lk (g.lk B 3) 4), .ref (g.lk (g.lk B 3) 5), .ref (g.lk (g.lk B 3) 6), .ref (g.lk (g.lk B 3) 7), .int (nI os), .int (nI st), .int mo, .int lo, .int (nI tr)])) (hix : ix ≤ 36) (hos : os ≤ st) (hst : st ≤ 3000) (htr : tr ≤ 3) (hPR : PR ≠ pr) (eP : f pr = .inr (6, [.ref (g.lk pr 0), .int (nI sn), .ref (g.lk pr 2), .int (nI nn), .ref (g.lk pr 4), .ref (g.lk pr 5)])) (hsn : sn ≤ 36) (hnn : nn ≤ 72) (hSG : SG g f pr 0 sn) (hnj : sn ≤ ix ∨ nj g f pr ix) (hLt : l.stackTraces = false) : tw_Met l ⟨"BigRunner", "load", "()I"⟩ [Cond.code ⟨"BigRunner", "load", "()I"⟩ prog_1_method_4_code 3 (some .int)] ({ frames := 1212, cells := 1, slots := 6, locals := 37044 }) (va_Pc [.ref B] (pt_in g sz f)) (tq (fun v9 f1 => ∃ r, v9 = some (.int r) ∧ (px_s (tk hT n) 400 1 1 0 = some n) ∧ (CJ g B f1 0 hT) ∧ (IV g f1) ∧ (un [1, 3, 5, 6, 7, 8, 9, 10, 23, 27] g f f1)) (fun C9 f1 => (C9 = "java/lang/IllegalArgumentException") ∧ (px_s (tk hT n) 400 1 1 0 ≠ some n) ∧ (CJ g B f1 n hT) ∧ (IV g f1) ∧ (un [1, 3, 5, 6, 7, 8, 9, 10, 23, 27] g f f1)) g sz) 1 6 (pc_A g sz) := by
  refine pt_ofW (cc := prog_1_method_4_code) (maxL := 3) (ret := (some .int)) (lv := [(0, .ref B)]) (by decide) (Nat.le_of_ble_eq_true rfl) rfl ?_
  intro p e s m args below meth c ls hx hb hr hml hlocks hown hB hP hK hD hsz hS hl hno hTZ
  subst hsz
  have hu : un [1, 3, 5, 6, 7, 8, 9, 10, 23, 27] g f f := un.rf
  refine lv_aload_n hx hb d_B_load_0 rfl (lv_at hl 0 rfl) ?_
  refine pf_get (v := .ref (g.lk B 2)) (C := "BigRunner") (T := FT0) (N := 5) hx hb (hw0 hB _) (fun _ h9 => h9) hown hK hP (lo_in hL t_B (by decide)) eB rfl 2 (by decide) (wd_380 hB _) rfl d_B_load_1 ?_
  refine lv_aload_n hx hb d_B_load_4 rfl (lv_at hl 0 rfl) ?_
  refine pf_get (v := .ref (g.lk B 0)) (C := "BigRunner") (T := FT0) (N := 5) hx hb (hw0 hB _) (fun _ h9 => h9) hown hK hP (lo_in hL t_B (by decide)) eB rfl 0 (by decide) (wd_378 hB _) rfl d_B_load_5 ?_
  refine lv_aload_n hx hb d_B_load_8 rfl (lv_at hl 0 rfl) ?_
  refine pf_get (v := .int (nI n)) (C := "BigRunner") (T := FT0) (N := 5) hx hb (hw0 hB _) (fun _ h9 => h9) hown hK hP (lo_in hL t_B (by decide)) eB rfl 1 (by decide) (wd_379 hB _) rfl d_B_load_9 ?_
  obtain ⟨sc_2, nc_3, e1, c4, c5⟩ := oc_7.of t_PR (hI.1 PR)
  refine pcc_i (va_runV (C := "BigRunner$Reader") (As := [.ref (g.lk B 0), .int (nI n)]) (rest := []) ⟨hx, hb, hml, hown, tb_nil⟩ (c_readsU l g s.heap.size f ((g.lk B 2)) ((g.lk B 0)) n PR hT tx ln0 ax0 sc_2 nc_3 pr hL (lo_k1_2 hL _ t_B) (lo_k1_0 hL _ t_B) t_PR t_pr hI eR eT cT (by omega) (by omega) (by omega) e1 (by omega) (by omega) hPR) ⟨(callB_of 2 (tb_one (wd_457 hB _)) tb_good1 rfl rfl rfl (wd_73 hB _) (wd_454 hB _) (by decide +kernel) ⟨Nat.le_of_ble_eq_true rfl, Nat.le_of_ble_eq_true rfl⟩), (wd_455 hB _), (wd_456 hB _)⟩ ⟨pe_bl, pg_recv (ci := 7) hK hP (lo_in hL (lo_k1_2 hL _ t_B) (by decide)) eR rfl, pe_pre hB hK hP hD⟩ rfl rfl hl.1 rfl (lv_room (Nat.le_of_ble_eq_true rfl)) d_B_load_12 ⟨Nat.le_of_ble_eq_true rfl, Nat.le_of_ble_eq_true rfl⟩) hS (fun r6 f7 H locs hq8 hP hD hS => ?_)
  obtain ⟨rs_9, fr_10, rd_11, hI1_12, hu1_13⟩ := hq8
  have hu := hu.tr hu1_13 (by decide)
  have eB := hu1_13.at t_B (by decide) eB
  have eT := hu1_13.at (lo_k1_0 hL _ t_B) (by decide) eT
  have eX := hu1_13.at (lo_k1_3 hL _ t_B) (by decide) eX
  have e25 := fr_10.1.trans eP
  rcases rs_9 with ⟨s1_14, n1_15, c16, c17, c18, c19, e20, e21, hsg22, hnj23, rfl⟩ | ⟨c24, rfl⟩
  · skip
    have hub : un [1, 3, 5, 6, 8, 9, 23, 27] g f7 f7 := un.rf
    refine lv_if_ne (tgt := 28) hx hb d_B_load_15 (by decide) (fun b26 => ?_) (fun b26 => ?_)
    · skip
      replace b26 := mt (nI_eq (a := 1) (b := 0) (by omega) (by omega)).mpr b26
      refine lv_aload_n hx hb d_B_load_28 rfl (lv_at hl 0 rfl) ?_
      refine pf_get (v := .ref (g.lk B 2)) (C := "BigRunner") (T := FT0) (N := 5) hx hb (hw0 hB _) (fun _ h9 => h9) hown hK hP (lo_in hL t_B (by decide)) eB rfl 2 (by decide) (wd_380 hB _) rfl d_B_load_29 ?_
      refine pf_get (v := .ref PR) (C := "BigRunner$Reader") (T := FT7) (N := 4) hx hb (hw7 hB _) (fun _ h9 => h9) hown hK hP (lo_in hL (lo_k1_2 hL _ t_B) (by decide)) e20 rfl 3 (by decide) (wd_274 hB _) rfl d_B_load_32 ?_
      refine lv_astore_n (lv' := [(1, .ref PR), (0, .ref B)]) hx hb d_B_load_35 rfl hl (by decide) rfl (fun ls hl => ?_)
      refine lv_aload_n hx hb d_B_load_36 rfl (lv_at hl 1 rfl) ?_
      refine pf_get (v := .ref (g.lk B 2)) (C := "BigRunner") (T := FT0) (N := 5) hx hb (hw0 hB _) (fun _ h9 => h9) hown hK hP (lo_in hL t_B (by decide)) eB rfl 2 (by decide) (wd_380 hB _) rfl d_B_load_37 ?_
      refine lv_aload_n hx hb d_B_load_40 rfl (lv_at hl 1 rfl) ?_
      refine pf_get (v := .ref (g.lk B 3)) (C := "BigRunner") (T := FT0) (N := 5) hx hb (hw0 hB _) (fun _ h9 => h9) hown hK hP (lo_in hL t_B (by decide)) eB rfl 3 (by decide) (wd_381 hB _) rfl d_B_load_41 ?_
      refine pf_get (v := .ref pr) (C := "BigRunner$Runner") (T := FT8) (N := 13) hx hb (hw8 hB _) (fun _ h9 => h9) hown hK hP (lo_in hL (lo_k1_3 hL _ t_B) (by decide)) eX rfl 0 (by decide) (wd_331 hB _) rfl d_B_load_44 ?_
      refine pf_put (v := .ref pr) (ty := (.object "BigRunner$Program")) (fs' := [.ref (g.lk B 0), .int (nI n), .int (nI n), .ref pr]) (C := "BigRunner$Reader") (T := FT7) (N := 4) hx hb (hw7 hB _) (fun _ h9 => h9) TY7 ok7 nm7 hown hK hP hD hS (lo_in hL (lo_k1_2 hL _ t_B) (by decide)) e20 rfl 3 (by decide) (wd_274 hB _) rfl (by decide +kernel) rfl rfl (Nat.le_of_ble_eq_true rfl) rfl d_B_load_47 (fun f27 H locs e28 k29 hP hD hS => ?_)
      have eB := (k29 B (tg_ne t_B (lo_k1_2 hL _ t_B) (by decide))).trans eB
      have eT := (k29 (g.lk B 0) (tg_ne (lo_k1_0 hL _ t_B) (lo_k1_2 hL _ t_B) (by decide))).trans eT
      have eX := (k29 (g.lk B 3) (tg_ne (lo_k1_3 hL _ t_B) (lo_k1_2 hL _ t_B) (by decide))).trans eX
      have e25 := (k29 pr (tg_ne t_pr (lo_k1_2 hL _ t_B) (by decide))).trans e25
      have e21 := (k29 PR (tg_ne t_PR (lo_k1_2 hL _ t_B) (by decide))).trans e21
      have hu := hu.st k29 (lo_k1_2 hL _ t_B) (by decide)
      have hub := hub.st k29 (lo_k1_2 hL _ t_B) (by decide)
      have hk30 : ∀ b, b ≠ (g.lk B 2) → f27 b = f7 b := k29
      refine lv_aload_n hx hb d_B_load_50 rfl (lv_at hl 0 rfl) ?_
      have hI31 := iv_1 hI1_12 hL (lo_k1_2 hL _ t_B) (by decide) hk30 (oc_8.mk (lo_k1_2 hL _ t_B) (⟨(.ref (g.lk B 0)), n, n, pr, e28, (by omega), (by omega), t_pr⟩))
      refine pcc_i (va_runV (C := "BigRunner$Program") (As := []) (rest := []) ⟨hx, hb, hml, hown, tb_nil⟩ (c_findIntervals l g H.size f27 PR s1_14 n1_15 hL t_PR hI31 e21 (by omega) (by omega) (SG_un hsg22 hL t_PR (by omega) hub (by decide))) ⟨(callB_of 0 (tb_one (wd_594 hB _)) tb_good1 rfl rfl rfl (wd_74 hB _) (wd_591 hB _) (by decide +kernel) ⟨Nat.le_of_ble_eq_true rfl, Nat.le_of_ble_eq_true rfl⟩), (wd_592 hB _), (wd_593 hB _)⟩ ⟨pe_bl, pg_recv (ci := 6) hK hP (lo_in hL t_PR (by decide)) e21 rfl, pe_pre hB hK hP hD⟩ rfl rfl hl.1 rfl (lv_room (Nat.le_of_ble_eq_true rfl)) d_B_load_51 ⟨Nat.le_of_ble_eq_true rfl, Nat.le_of_ble_eq_true rfl⟩) hS (fun r32 f33 H locs hq34 hP hD hS => ?_)
      obtain ⟨hI1_35, hu1_36⟩ := hq34
      have hu := hu.tr hu1_36 (by decide)
      have hub := hub.tr hu1_36 (by decide)
      have eB := hu1_36.at t_B (by decide) eB
      have eT := hu1_36.at (lo_k1_0 hL _ t_B) (by decide) eT
      have eX := hu1_36.at (lo_k1_3 hL _ t_B) (by decide) eX
      have e25 := hu1_36.at t_pr (by decide) e25
      have e21 := hu1_36.at t_PR (by decide) e21
      have e28 := hu1_36.at (lo_k1_2 hL _ t_B) (by decide) e28
      refine lv_istore_n (lv' := [(2, .int r32), (1, .ref PR), (0, .ref B)]) hx hb d_B_load_54 rfl hl (by decide) rfl (fun ls hl => ?_)
      refine lv_aload_n hx hb d_B_load_55 rfl (lv_at hl 2 rfl) ?_
      refine pf_get (v := .ref (g.lk B 3)) (C := "BigRunner") (T := FT0) (N := 5) hx hb (hw0 hB _) (fun _ h9 => h9) hown hK hP (lo_in hL t_B (by decide)) eB rfl 3 (by decide) (wd_381 hB _) rfl d_B_load_56 ?_
      refine lv_aload_n hx hb d_B_load_59 rfl (lv_at hl 1 rfl) ?_
      refine pcc_v (va_runV (C := "BigRunner$Runner") (As := [.ref PR]) (rest := []) ⟨hx, hb, hml, hown, tb_nil⟩ (c_begin l g H.size f33 ((g.lk B 3)) pr ix os st mo lo tr PR hL (lo_k1_3 hL _ t_B) t_pr t_PR hI1_35 eX (by omega) (by omega) (by omega) (by omega)) ⟨(callB_of 1 (tb_one (wd_676 hB _)) tb_good1 rfl rfl rfl (wd_79 hB _) (wd_673 hB _) (by decide +kernel) ⟨Nat.le_of_ble_eq_true rfl, Nat.le_of_ble_eq_true rfl⟩), (wd_674 hB _), (wd_675 hB _)⟩ ⟨pe_bl, pg_recv (ci := 8) hK hP (lo_in hL (lo_k1_3 hL _ t_B) (by decide)) eX rfl, pe_pre hB hK hP hD⟩ rfl rfl hl.1 rfl (lv_room (Nat.le_of_ble_eq_true rfl)) d_B_load_60 ⟨Nat.le_of_ble_eq_true rfl, Nat.le_of_ble_eq_true rfl⟩) hS (fun f38 H locs hq39 hP hD hS => ?_)
      obtain ⟨x1_40, hI1_41, hu1_42⟩ := hq39
      have hu := hu.tr hu1_42 (by decide)
      have hub := hub.tr hu1_42 (by decide)
      have eB := hu1_42.at t_B (by decide) eB
      have eT := hu1_42.at (lo_k1_0 hL _ t_B) (by decide) eT
      have e25 := hu1_42.at t_pr (by decide) e25
      have e21 := hu1_42.at t_PR (by decide) e21
      have e28 := hu1_42.at (lo_k1_2 hL _ t_B) (by decide) e28
      refine lv_aload_n hx hb d_B_load_63 rfl (lv_at hl 2 rfl) ?_
      refine lv_iconst (v := nI 1) hx hb d_B_load_64 (by decide) ?_
      refine pf_put (v := .int (nI 1)) (ty := .boolean) (fs' := [.ref (g.lk B 0), .int (nI n), .ref (g.lk B 2), .ref (g.lk B 3), .int (nI 1)]) (C := "BigRunner") (T := FT0) (N := 5) hx hb (hw0 hB _) (fun _ h9 => h9) TY0 ok0 nm0 hown hK hP hD hS (lo_in hL t_B (by decide)) eB rfl 4 (by decide) (wd_382 hB _) rfl (by decide +kernel) rfl rfl (Nat.le_of_ble_eq_true rfl) rfl d_B_load_65 (fun f43 H locs e44 k45 hP hD hS => ?_)
      have eT := (k45 (g.lk B 0) (tg_ne (lo_k1_0 hL _ t_B) t_B (by decide))).trans eT
      have e25 := (k45 pr (tg_ne t_pr t_B (by decide))).trans e25
      have e21 := (k45 PR (tg_ne t_PR t_B (by decide))).trans e21
      have e28 := (k45 (g.lk B 2) (tg_ne (lo_k1_2 hL _ t_B) t_B (by decide))).trans e28
      have x1_40 := (k45 (g.lk B 3) (tg_ne (lo_k1_3 hL _ t_B) t_B (by decide))).trans x1_40
      have hu := hu.st k45 t_B (by decide)
      have hub := hub.st k45 t_B (by decide)
      have hk46 : ∀ b, b ≠ B → f43 b = f38 b := k45
      refine lv_aload_n hx hb d_B_load_68 rfl (lv_at hl 2 rfl) ?_
      refine lv_iconst (v := nI 0) hx hb d_B_load_69 (by decide) ?_
      refine pf_put (v := .int (nI 0)) (ty := .int) (fs' := [.ref (g.lk B 0), .int (nI 0), .ref (g.lk B 2), .ref (g.lk B 3), .int (nI 1)]) (C := "BigRunner") (T := FT0) (N := 5) hx hb (hw0 hB _) (fun _ h9 => h9) TY0 ok0 nm0 hown hK hP hD hS (lo_in hL t_B (by decide)) e44 rfl 1 (by decide) (wd_379 hB _) rfl (by decide +kernel) rfl rfl (Nat.le_of_ble_eq_true rfl) rfl d_B_load_70 (fun f47 H locs e48 k49 hP hD hS => ?_)
      have eT := (k49 (g.lk B 0) (tg_ne (lo_k1_0 hL _ t_B) t_B (by decide))).trans eT
      have e25 := (k49 pr (tg_ne t_pr t_B (by decide))).trans e25
      have e21 := (k49 PR (tg_ne t_PR t_B (by decide))).trans e21
      have e28 := (k49 (g.lk B 2) (tg_ne (lo_k1_2 hL _ t_B) t_B (by decide))).trans e28
      have x1_40 := (k49 (g.lk B 3) (tg_ne (lo_k1_3 hL _ t_B) t_B (by decide))).trans x1_40
      have hu := hu.st k49 t_B (by decide)
      have hub := hub.st k49 t_B (by decide)
      have hk50 : ∀ b, b ≠ B → f47 b = f38 b := fun b q0 => (k49 b q0).trans (hk46 b q0)
      refine lv_iload_n hx hb d_B_load_73 rfl (lv_at hl 0 rfl) ?_
      have hI51 := iv_1 hI1_41 hL t_B (by decide) hk50 (oc_1.mk t_B (⟨0, ((nI 1)), e48, (by omega), (Or.inr rfl)⟩))
      exact pt_iret hx hb hr hlocks hK hP hD hS d_B_load_74 ⟨_, rfl, ⟨c19, ⟨(nI 1), (.ref (g.lk B 0)), n, n, pr, PR, 0, 0, 0, (nI 0), (nI 0), 0, s1_14, n1_15, t_pr, t_PR, e48, by omega, (Or.inr rfl), eT, cT, e28, by omega, by omega, x1_40, by omega, by omega, by omega, by omega, (Ne.symm hPR), e21, by omega, by omega, SG_un hsg22 hL t_PR (by omega) hub (by decide), (Or.inr (nj_un hnj23 hL t_PR (by omega) hub (by decide)))⟩, hI51, hu⟩⟩
    · skip
      replace b26 := (nI_eq (a := 1) (b := 0) (by omega) (by omega)).mp b26
      exfalso; omega
  · skip
    obtain ⟨tx_52, ln_53, ax_54, PR_55, c56, c57, c58, c59, e60⟩ := rd_11
    refine lv_if_ne (tgt := 28) hx hb d_B_load_15 (by decide) (fun b61 => ?_) (fun b61 => ?_)
    · skip
      replace b61 := mt (nI_eq (a := 0) (b := 0) (by omega) (by omega)).mpr b61
      exfalso; omega
    · skip
      replace b61 := (nI_eq (a := 0) (b := 0) (by omega) (by omega)).mp b61
      exact pt_throw (own := "BigRunner") (cls := "java/lang/IllegalArgumentException") (text := "the line is no PROGRAM") (names := ["java/lang/RuntimeException", "java/lang/Exception"]) hx hb (hl.1.trans hml.symm) hlocks hno hLt hown (by decide +kernel) (by decide +kernel) hB hTZ (fun U hB hH => ⟨(wd_521 hB _), (wd_522 hB _), (wd_87 hB _), (wd_564 hB _), oa_2 hB hH _⟩) hK hP hD hS d_B_load_18 d_B_load_21 d_B_load_22 d_B_load_24 d_B_load_27 (Nat.le_of_ble_eq_true rfl) (Nat.le_of_ble_eq_true rfl) (Nat.le_of_ble_eq_true rfl) (Nat.le_of_ble_eq_true rfl) ⟨rfl, c24, ⟨ld, (tx_52), ln_53, ax_54, PR_55, pr, ix, os, st, mo, lo, tr, sn, nn, c58, t_pr, eB, by omega, hld, eT, cT, e60, by omega, by omega, eX, by omega, by omega, by omega, by omega, c59, e25, by omega, by omega, SG_eq hSG (fun i _ q => fr_10.2 i (by omega)), (by rcases Nat.lt_or_ge ix sn with q | q; exact Or.inr (nj_eq (hnj.resolve_left (by omega)) (fr_10.2 ix (by omega))); exact Or.inl q)⟩, hI1_12, hu⟩
set_option maxHeartbeats 4000000 in
set_option maxRecDepth 100000 in
theorem c_run (l : Launch) (g : Lay) (sz : Nat) (f : Nat → va_E) (B : Nat) (n : Nat) (hT : Nat → Int32) (ld : Int32) (tx : Value) (ln0 : Nat) (ax0 : Nat) (PR : Nat) (pr : Nat) (ix : Nat) (os : Nat) (st : Nat) (mo : Int32) (lo : Int32) (tr : Nat) (sn : Nat) (nn : Nat) (k9 : Int32) (hL : LO g) (t_B : g.tg B = 1) (t_PR : g.tg PR = 7) (t_pr : g.tg pr = 7) (hI : IV g f) (eB : f B = .inr (0, [.ref (g.lk B 0), .int (nI n), .ref (g.lk B 2), .ref (g.lk B 3), .int ld])) (hn : n ≤ 72) (hld : ld = nI 0 ∨ ld = nI 1) (eT : f (g.lk B 0) = .inl (g.ac (g.lk B 0), 72, .inl hT)) (cT : ∀ i, i < 72 → vp_nar .char (hT i) = hT i) (eR : f (g.lk B 2) = .inr (7, [tx, .int (nI ln0), .int (nI ax0), .ref PR])) (hl0 : ln0 ≤ 72) (ha0 : ax0 ≤ 72) (eX : f (g.lk B 3) = .inr (8, [.ref pr, .ref (g.lk (g.lk B 3) 1), .int (nI ix), .ref (g.lk (g.lk B 3) 3), .ref (g.lk (g.lk B 3) 4), .ref (g.lk (g.lk B 3) 5), .ref (g.lk (g.lk B 3) 6), .ref (g.lk (g.lk B 3) 7), .int (nI os), .int (nI st), .int mo, .int lo, .int (nI tr)])) (hix : ix ≤ 36) (hos : os ≤ st) (hst : st ≤ 3000) (htr : tr ≤ 3) (hPR : PR ≠ pr) (eP : f pr = .inr (6, [.ref (g.lk pr 0), .int (nI sn), .ref (g.lk pr 2), .int (nI nn), .ref (g.lk pr 4), .ref (g.lk pr 5)])) (hsn : sn ≤ 36) (hnn : nn ≤ 72) (hSG : SG g f pr 0 sn) (hnj : sn ≤ ix ∨ nj g f pr ix) (hLt : l.stackTraces = false) : tw_Met l ⟨"BigRunner", "run", "(I)I"⟩ [Cond.code ⟨"BigRunner", "run", "(I)I"⟩ prog_1_method_6_code 3 (some .int)] ({ frames := 7, cells := 1, slots := 6, locals := 182 }) (va_Pc [.ref B, .int k9] (pt_in g sz f)) (tq (fun v9 f1 => ∃ r, v9 = some (.int r) ∧ (CJ g B f1 n hT) ∧ (IV g f1) ∧ (un [2, 4, 5, 6, 9, 22, 23, 27] g f f1)) (fun C9 f1 => (C9 = "java/lang/IllegalStateException" ∨ C9 = "java/lang/IllegalArgumentException" ∨ C9 = "java/lang/ArithmeticException" ∨ C9 = "java/lang/UnsupportedOperationException") ∧ (CJ g B f1 n hT) ∧ (IV g f1) ∧ (un [2, 4, 5, 6, 9, 22, 23, 27] g f f1)) g sz) 1 6 (pc_A g sz) := by
  refine pt_ofW (cc := prog_1_method_6_code) (maxL := 3) (ret := (some .int)) (lv := [(0, .ref B), (1, .int k9)]) (by decide) (Nat.le_of_ble_eq_true rfl) rfl ?_
  intro p e s m args below meth c ls hx hb hr hml hlocks hown hB hP hK hD hsz hS hl hno hTZ
  subst hsz
  have hu : un [2, 4, 5, 6, 9, 22, 23, 27] g f f := un.rf
  refine lv_aload_n hx hb d_B_run_0 rfl (lv_at hl 0 rfl) ?_
  refine pf_get (v := .int ld) (C := "BigRunner") (T := FT0) (N := 5) hx hb (hw0 hB _) (fun _ h9 => h9) hown hK hP (lo_in hL t_B (by decide)) eB rfl 4 (by decide) (wd_382 hB _) rfl d_B_run_1 ?_
  refine lv_if_eq (tgt := 27) hx hb d_B_run_4 (by decide) (fun b1 => ?_) (fun b1 => ?_)
  · skip
    have hr2 : ld = nI 0 := b1
    exact pt_throw (own := "BigRunner") (cls := "java/lang/IllegalStateException") (text := "no program is under way") (names := ["java/lang/RuntimeException", "java/lang/Exception"]) hx hb (hl.1.trans hml.symm) hlocks hno hLt hown (by decide +kernel) (by decide +kernel) hB hTZ (fun U hB hH => ⟨(wd_696 hB _), (wd_697 hB _), (wd_89 hB _), (wd_705 hB _), oa_3 hB hH _⟩) hK hP hD hS d_B_run_27 d_B_run_30 d_B_run_31 d_B_run_33 d_B_run_36 (Nat.le_of_ble_eq_true rfl) (Nat.le_of_ble_eq_true rfl) (Nat.le_of_ble_eq_true rfl) (Nat.le_of_ble_eq_true rfl) ⟨(Or.inl rfl), ⟨ld, (tx), ln0, ax0, PR, pr, ix, os, st, mo, lo, tr, sn, nn, t_PR, t_pr, eB, by omega, hld, eT, cT, eR, by omega, by omega, eX, by omega, by omega, by omega, by omega, hPR, eP, by omega, by omega, SG_un hSG hL t_pr hsn hu (by decide), hnj⟩, hI, hu⟩
  · skip
    have hr3 : ld = nI 1 := (bl_1 hld b1)
    refine lv_aload_n hx hb d_B_run_7 rfl (lv_at hl 0 rfl) ?_
    refine pf_get (v := .ref (g.lk B 3)) (C := "BigRunner") (T := FT0) (N := 5) hx hb (hw0 hB _) (fun _ h9 => h9) hown hK hP (lo_in hL t_B (by decide)) eB rfl 3 (by decide) (wd_381 hB _) rfl d_B_run_8 ?_
    refine pcc_i (va_runV (C := "BigRunner$Runner") (As := []) (rest := []) ⟨hx, hb, hml, hown, tb_nil⟩ (c_ended l g s.heap.size f ((g.lk B 3)) pr ix os st mo lo tr sn nn hL (lo_k1_3 hL _ t_B) t_pr hI.1 eX (by omega) (by omega) (by omega) (by omega) eP (by omega) (by omega)) ⟨(callB_of 0 (tb_one (wd_423 hB _)) tb_good1 rfl rfl rfl (wd_79 hB _) (wd_420 hB _) (by decide +kernel) ⟨Nat.le_of_ble_eq_true rfl, Nat.le_of_ble_eq_true rfl⟩), (wd_421 hB _), (wd_422 hB _)⟩ ⟨pe_bl, pg_recv (ci := 8) hK hP (lo_in hL (lo_k1_3 hL _ t_B) (by decide)) eX rfl, pe_pre hB hK hP hD⟩ rfl rfl hl.1 rfl (lv_room (Nat.le_of_ble_eq_true rfl)) d_B_run_11 ⟨Nat.le_of_ble_eq_true rfl, Nat.le_of_ble_eq_true rfl⟩) hS (fun r4 f5 H locs hq6 hP hD hS => ?_)
    obtain ⟨bo_7, i0_8, i1_9, rfl⟩ := hq6
    refine lv_if_ne (tgt := 27) hx hb d_B_run_14 (by decide) (fun b10 => ?_) (fun b10 => ?_)
    · skip
      have hr11 : r4 = nI 1 := (bl_1 bo_7 b10)
      have hi12 := i1_9 hr11
      exact pt_throw (own := "BigRunner") (cls := "java/lang/IllegalStateException") (text := "no program is under way") (names := ["java/lang/RuntimeException", "java/lang/Exception"]) hx hb (hl.1.trans hml.symm) hlocks hno hLt hown (by decide +kernel) (by decide +kernel) hB hTZ (fun U hB hH => ⟨(wd_696 hB _), (wd_697 hB _), (wd_89 hB _), (wd_705 hB _), oa_3 hB hH _⟩) hK hP hD hS d_B_run_27 d_B_run_30 d_B_run_31 d_B_run_33 d_B_run_36 (Nat.le_of_ble_eq_true rfl) (Nat.le_of_ble_eq_true rfl) (Nat.le_of_ble_eq_true rfl) (Nat.le_of_ble_eq_true rfl) ⟨(Or.inl rfl), ⟨ld, (tx), ln0, ax0, PR, pr, ix, os, st, mo, lo, tr, sn, nn, t_PR, t_pr, eB, by omega, hld, eT, cT, eR, by omega, by omega, eX, by omega, by omega, by omega, by omega, hPR, eP, by omega, by omega, SG_un hSG hL t_pr hsn hu (by decide), hnj⟩, hI, hu⟩
    · skip
      have hr13 : r4 = nI 0 := b10
      have hi14 := i0_8 hr13
      refine lv_aload_n hx hb d_B_run_17 rfl (lv_at hl 0 rfl) ?_
      refine pf_get (v := .ref (g.lk B 3)) (C := "BigRunner") (T := FT0) (N := 5) hx hb (hw0 hB _) (fun _ h9 => h9) hown hK hP (lo_in hL t_B (by decide)) eB rfl 3 (by decide) (wd_381 hB _) rfl d_B_run_18 ?_
      refine pf_get (v := .int (nI tr)) (C := "BigRunner$Runner") (T := FT8) (N := 13) hx hb (hw8 hB _) (fun _ h9 => h9) hown hK hP (lo_in hL (lo_k1_3 hL _ t_B) (by decide)) eX rfl 12 (by decide) (wd_350 hB _) rfl d_B_run_21 ?_
      refine lv_if_eq (tgt := 37) hx hb d_B_run_24 (by decide) (fun b15 => ?_) (fun b15 => ?_)
      · skip
        replace b15 := (nI_eq (a := tr) (b := 0) (by omega) (by omega)).mp b15
        refine lv_iload_n hx hb d_B_run_37 rfl (lv_at hl 1 rfl) ?_
        refine lv_iconst (v := nI 1) hx hb d_B_run_38 (by decide) ?_
        refine lv_icmp_lt (tgt := 49) hx hb d_B_run_39 (by decide) (fun b16 => ?_) (fun b16 => ?_)
        · skip
          exact pt_throw (own := "BigRunner") (cls := "java/lang/IllegalArgumentException") (text := "not 1 .. 200 steps") (names := ["java/lang/RuntimeException", "java/lang/Exception"]) hx hb (hl.1.trans hml.symm) hlocks hno hLt hown (by decide +kernel) (by decide +kernel) hB hTZ (fun U hB hH => ⟨(wd_521 hB _), (wd_522 hB _), (wd_87 hB _), (wd_712 hB _), oa_2 hB hH _⟩) hK hP hD hS d_B_run_49 d_B_run_52 d_B_run_53 d_B_run_55 d_B_run_58 (Nat.le_of_ble_eq_true rfl) (Nat.le_of_ble_eq_true rfl) (Nat.le_of_ble_eq_true rfl) (Nat.le_of_ble_eq_true rfl) ⟨(Or.inr (Or.inl rfl)), ⟨ld, (tx), ln0, ax0, PR, pr, ix, os, st, mo, lo, tr, sn, nn, t_PR, t_pr, eB, by omega, hld, eT, cT, eR, by omega, by omega, eX, by omega, by omega, by omega, by omega, hPR, eP, by omega, by omega, SG_un hSG hL t_pr hsn hu (by decide), hnj⟩, hI, hu⟩
        · skip
          have hk1 := b16
          refine lv_iload_n hx hb d_B_run_42 rfl (lv_at hl 1 rfl) ?_
          refine lv_sipush (v := nI 200) hx hb d_B_run_43 (by decide) ?_
          refine lv_icmp_le (tgt := 59) hx hb d_B_run_46 (by decide) (fun b17 => ?_) (fun b17 => ?_)
          · skip
            obtain ⟨j9, hj9, rfl⟩ := nI_of (x := k9) (fun z => hk1 (Int32.lt_trans z (by decide)))
            have hj2 := (nI_leI (a := j9) (b := 200) (by omega) (by decide)).mp b17
            refine lv_iconst (v := nI 0) hx hb d_B_run_59 (by decide) ?_
            refine lv_istore_n (lv' := [(2, .int (nI 0)), (0, .ref B), (1, .int (nI j9))]) hx hb d_B_run_60 rfl hl (by decide) rfl (fun ls hl => ?_)
            have lp18 : ∀ (k20 : Nat) (i : Nat) (ix2 : Nat) (os2 : Nat) (st2 : Nat) (mo2 : Int32) (lo2 : Int32) (tr2 : Nat) (f19 : Nat → va_E) (H : Heap) (locs : List Loc) (ls : Array Slot), (j9 < i + k20) → (i ≤ j9) → (ix2 ≤ 36) → (os2 ≤ st2) → (st2 ≤ 3000) → (tr2 ≤ 3) → (sn ≤ ix2 ∨ nj g f19 pr ix2) → f19 (g.lk B 3) = .inr (8, [.ref pr, .ref (g.lk (g.lk B 3) 1), .int (nI ix2), .ref (g.lk (g.lk B 3) 3), .ref (g.lk (g.lk B 3) 4), .ref (g.lk (g.lk B 3) 5), .ref (g.lk (g.lk B 3) 6), .ref (g.lk (g.lk B 3) 7), .int (nI os2), .int (nI st2), .int mo2, .int lo2, .int (nI tr2)]) → IV g f19 → un [2, 4, 5, 6, 9, 22, 23, 27] g f f19 → lv_has ls 3 [(2, .int (nI i)), (0, .ref B), (1, .int (nI j9))] → va_P g.D vcl (va_pl g.LP f19) H → va_D (pc_A g s.heap.size) (va_pl g.LP f19) → va_S (pc_A g s.heap.size) s.heap H locs → W p l e ({ frames := 7, cells := 1, slots := 6, locals := 182 }) s m args below meth c H locs 0 0 (tw_MQ below (tq (fun v9 f1 => ∃ r, v9 = some (.int r) ∧ (CJ g B f1 n hT) ∧ (IV g f1) ∧ (un [2, 4, 5, 6, 9, 22, 23, 27] g f f1)) (fun C9 f1 => (C9 = "java/lang/IllegalStateException" ∨ C9 = "java/lang/IllegalArgumentException" ∨ C9 = "java/lang/ArithmeticException" ∨ C9 = "java/lang/UnsupportedOperationException") ∧ (CJ g B f1 n hT) ∧ (IV g f1) ∧ (un [2, 4, 5, 6, 9, 22, 23, 27] g f f1)) g s.heap.size) args s 1 6 (pc_A g s.heap.size)) (F0 m 61 ls []) := by
              intro k20
              induction k20 with
              | zero => intros; exfalso; omega
              | succ k20 ih21 =>
                intro i ix2 os2 st2 mo2 lo2 tr2 f19 H locs ls hfu22 hi hix2 hos2 hst2 htr2 hnj2 e23 hI24 hv25 hl hP hD hS
                have eB := hv25.at t_B (by decide) eB
                have eT := hv25.at (lo_k1_0 hL _ t_B) (by decide) eT
                have eR := hv25.at (lo_k1_2 hL _ t_B) (by decide) eR
                have eP := hv25.at t_pr (by decide) eP
                have hu := hu.tr hv25 (by decide)
                refine lv_iload_n hx hb d_B_run_61 rfl (lv_at hl 0 rfl) ?_
                refine lv_iload_n hx hb d_B_run_62 rfl (lv_at hl 2 rfl) ?_
                refine lv_icmp_ge (tgt := 89) hx hb d_B_run_63 (by decide) (fun b26 => ?_) (fun b26 => ?_)
                · skip
                  replace b26 := (nI_leI (a := j9) (b := i) (by omega) (by omega)).mp b26
                  refine lv_aload_n hx hb d_B_run_89 rfl (lv_at hl 1 rfl) ?_
                  refine pf_get (v := .ref (g.lk B 3)) (C := "BigRunner") (T := FT0) (N := 5) hx hb (hw0 hB _) (fun _ h9 => h9) hown hK hP (lo_in hL t_B (by decide)) eB rfl 3 (by decide) (wd_381 hB _) rfl d_B_run_90 ?_
                  refine pf_get (v := .int (nI tr2)) (C := "BigRunner$Runner") (T := FT8) (N := 13) hx hb (hw8 hB _) (fun _ h9 => h9) hown hK hP (lo_in hL (lo_k1_3 hL _ t_B) (by decide)) e23 rfl 12 (by decide) (wd_350 hB _) rfl d_B_run_93 ?_
                  refine lv_iconst (v := nI 1) hx hb d_B_run_96 (by decide) ?_
                  refine lv_icmp_ne (tgt := 110) hx hb d_B_run_97 (by decide) (fun b27 => ?_) (fun b27 => ?_)
                  · skip
                    replace b27 := mt (nI_eq (a := tr2) (b := 1) (by omega) (by omega)).mpr b27
                    refine lv_aload_n hx hb d_B_run_110 rfl (lv_at hl 1 rfl) ?_
                    refine pf_get (v := .ref (g.lk B 3)) (C := "BigRunner") (T := FT0) (N := 5) hx hb (hw0 hB _) (fun _ h9 => h9) hown hK hP (lo_in hL t_B (by decide)) eB rfl 3 (by decide) (wd_381 hB _) rfl d_B_run_111 ?_
                    refine pf_get (v := .int (nI tr2)) (C := "BigRunner$Runner") (T := FT8) (N := 13) hx hb (hw8 hB _) (fun _ h9 => h9) hown hK hP (lo_in hL (lo_k1_3 hL _ t_B) (by decide)) e23 rfl 12 (by decide) (wd_350 hB _) rfl d_B_run_114 ?_
                    refine lv_if_eq (tgt := 130) hx hb d_B_run_117 (by decide) (fun b28 => ?_) (fun b28 => ?_)
                    · skip
                      replace b28 := (nI_eq (a := tr2) (b := 0) (by omega) (by omega)).mp b28
                      refine lv_iload_n hx hb d_B_run_130 rfl (lv_at hl 0 rfl) ?_
                      exact pt_iret hx hb hr hlocks hK hP hD hS d_B_run_131 ⟨_, rfl, ⟨⟨ld, (tx), ln0, ax0, PR, pr, ix2, os2, st2, mo2, lo2, tr2, sn, nn, t_PR, t_pr, eB, by omega, hld, eT, cT, eR, by omega, by omega, e23, by omega, by omega, by omega, by omega, hPR, eP, by omega, by omega, SG_un hSG hL t_pr hsn hu (by decide), hnj2⟩, hI24, hu⟩⟩
                    · skip
                      replace b28 := mt (nI_eq (a := tr2) (b := 0) (by omega) (by omega)).mpr b28
                      exact pt_throw (own := "BigRunner") (cls := "java/lang/UnsupportedOperationException") (text := "too many digits or steps") (names := ["java/lang/RuntimeException", "java/lang/Exception"]) hx hb (hl.1.trans hml.symm) hlocks hno hLt hown (by decide +kernel) (by decide +kernel) hB hTZ (fun U hB hH => ⟨(wd_864 hB _), (wd_865 hB _), (wd_93 hB _), (wd_873 hB _), oa_0 hB hH _⟩) hK hP hD hS d_B_run_120 d_B_run_123 d_B_run_124 d_B_run_126 d_B_run_129 (Nat.le_of_ble_eq_true rfl) (Nat.le_of_ble_eq_true rfl) (Nat.le_of_ble_eq_true rfl) (Nat.le_of_ble_eq_true rfl) ⟨(Or.inr (Or.inr (Or.inr (rfl)))), ⟨ld, (tx), ln0, ax0, PR, pr, ix2, os2, st2, mo2, lo2, tr2, sn, nn, t_PR, t_pr, eB, by omega, hld, eT, cT, eR, by omega, by omega, e23, by omega, by omega, by omega, by omega, hPR, eP, by omega, by omega, SG_un hSG hL t_pr hsn hu (by decide), hnj2⟩, hI24, hu⟩
                  · skip
                    replace b27 := (nI_eq (a := tr2) (b := 1) (by omega) (by omega)).mp b27
                    exact pt_throw (own := "BigRunner") (cls := "java/lang/ArithmeticException") (text := "a division by 0") (names := ["java/lang/RuntimeException", "java/lang/Exception"]) hx hb (hl.1.trans hml.symm) hlocks hno hLt hown (by decide +kernel) (by decide +kernel) hB hTZ (fun U hB hH => ⟨(wd_848 hB _), (wd_849 hB _), (wd_92 hB _), (wd_857 hB _), oa_4 hB hH _⟩) hK hP hD hS d_B_run_100 d_B_run_103 d_B_run_104 d_B_run_106 d_B_run_109 (Nat.le_of_ble_eq_true rfl) (Nat.le_of_ble_eq_true rfl) (Nat.le_of_ble_eq_true rfl) (Nat.le_of_ble_eq_true rfl) ⟨(Or.inr (Or.inr (Or.inl rfl))), ⟨ld, (tx), ln0, ax0, PR, pr, ix2, os2, st2, mo2, lo2, tr2, sn, nn, t_PR, t_pr, eB, by omega, hld, eT, cT, eR, by omega, by omega, e23, by omega, by omega, by omega, by omega, hPR, eP, by omega, by omega, SG_un hSG hL t_pr hsn hu (by decide), hnj2⟩, hI24, hu⟩
                · skip
                  replace b26 := mt (nI_leI (a := j9) (b := i) (by omega) (by omega)).mpr b26
                  refine lv_aload_n hx hb d_B_run_66 rfl (lv_at hl 1 rfl) ?_
                  refine pf_get (v := .ref (g.lk B 3)) (C := "BigRunner") (T := FT0) (N := 5) hx hb (hw0 hB _) (fun _ h9 => h9) hown hK hP (lo_in hL t_B (by decide)) eB rfl 3 (by decide) (wd_381 hB _) rfl d_B_run_67 ?_
                  refine pcc_i (va_runV (C := "BigRunner$Runner") (As := []) (rest := []) ⟨hx, hb, hml, hown, tb_nil⟩ (c_goesOn l g H.size f19 ((g.lk B 3)) pr ix2 os2 st2 mo2 lo2 tr2 sn nn hL (lo_k1_3 hL _ t_B) t_pr hI24.1 e23 (by omega) (by omega) (by omega) (by omega) eP (by omega) (by omega)) ⟨(callB_of 0 (tb_one (wd_716 hB _)) tb_good1 rfl rfl rfl (wd_79 hB _) (wd_713 hB _) (by decide +kernel) ⟨Nat.le_of_ble_eq_true rfl, Nat.le_of_ble_eq_true rfl⟩), (wd_714 hB _), (wd_715 hB _)⟩ ⟨pe_bl, pg_recv (ci := 8) hK hP (lo_in hL (lo_k1_3 hL _ t_B) (by decide)) e23 rfl, pe_pre hB hK hP hD⟩ rfl rfl hl.1 rfl (lv_room (Nat.le_of_ble_eq_true rfl)) d_B_run_70 ⟨Nat.le_of_ble_eq_true rfl, Nat.le_of_ble_eq_true rfl⟩) hS (fun r29 f30 H locs hq31 hP hD hS => ?_)
                  obtain ⟨bo_32, i1_33, rfl⟩ := hq31
                  refine lv_if_eq (tgt := 89) hx hb d_B_run_73 (by decide) (fun b34 => ?_) (fun b34 => ?_)
                  · skip
                    have hr35 : r29 = nI 0 := b34
                    refine lv_aload_n hx hb d_B_run_89 rfl (lv_at hl 1 rfl) ?_
                    refine pf_get (v := .ref (g.lk B 3)) (C := "BigRunner") (T := FT0) (N := 5) hx hb (hw0 hB _) (fun _ h9 => h9) hown hK hP (lo_in hL t_B (by decide)) eB rfl 3 (by decide) (wd_381 hB _) rfl d_B_run_90 ?_
                    refine pf_get (v := .int (nI tr2)) (C := "BigRunner$Runner") (T := FT8) (N := 13) hx hb (hw8 hB _) (fun _ h9 => h9) hown hK hP (lo_in hL (lo_k1_3 hL _ t_B) (by decide)) e23 rfl 12 (by decide) (wd_350 hB _) rfl d_B_run_93 ?_
                    refine lv_iconst (v := nI 1) hx hb d_B_run_96 (by decide) ?_
                    refine lv_icmp_ne (tgt := 110) hx hb d_B_run_97 (by decide) (fun b36 => ?_) (fun b36 => ?_)
                    · skip
                      replace b36 := mt (nI_eq (a := tr2) (b := 1) (by omega) (by omega)).mpr b36
                      refine lv_aload_n hx hb d_B_run_110 rfl (lv_at hl 1 rfl) ?_
                      refine pf_get (v := .ref (g.lk B 3)) (C := "BigRunner") (T := FT0) (N := 5) hx hb (hw0 hB _) (fun _ h9 => h9) hown hK hP (lo_in hL t_B (by decide)) eB rfl 3 (by decide) (wd_381 hB _) rfl d_B_run_111 ?_
                      refine pf_get (v := .int (nI tr2)) (C := "BigRunner$Runner") (T := FT8) (N := 13) hx hb (hw8 hB _) (fun _ h9 => h9) hown hK hP (lo_in hL (lo_k1_3 hL _ t_B) (by decide)) e23 rfl 12 (by decide) (wd_350 hB _) rfl d_B_run_114 ?_
                      refine lv_if_eq (tgt := 130) hx hb d_B_run_117 (by decide) (fun b37 => ?_) (fun b37 => ?_)
                      · skip
                        replace b37 := (nI_eq (a := tr2) (b := 0) (by omega) (by omega)).mp b37
                        refine lv_iload_n hx hb d_B_run_130 rfl (lv_at hl 0 rfl) ?_
                        exact pt_iret hx hb hr hlocks hK hP hD hS d_B_run_131 ⟨_, rfl, ⟨⟨ld, (tx), ln0, ax0, PR, pr, ix2, os2, st2, mo2, lo2, tr2, sn, nn, t_PR, t_pr, eB, by omega, hld, eT, cT, eR, by omega, by omega, e23, by omega, by omega, by omega, by omega, hPR, eP, by omega, by omega, SG_un hSG hL t_pr hsn hu (by decide), hnj2⟩, hI24, hu⟩⟩
                      · skip
                        replace b37 := mt (nI_eq (a := tr2) (b := 0) (by omega) (by omega)).mpr b37
                        exact pt_throw (own := "BigRunner") (cls := "java/lang/UnsupportedOperationException") (text := "too many digits or steps") (names := ["java/lang/RuntimeException", "java/lang/Exception"]) hx hb (hl.1.trans hml.symm) hlocks hno hLt hown (by decide +kernel) (by decide +kernel) hB hTZ (fun U hB hH => ⟨(wd_864 hB _), (wd_865 hB _), (wd_93 hB _), (wd_873 hB _), oa_0 hB hH _⟩) hK hP hD hS d_B_run_120 d_B_run_123 d_B_run_124 d_B_run_126 d_B_run_129 (Nat.le_of_ble_eq_true rfl) (Nat.le_of_ble_eq_true rfl) (Nat.le_of_ble_eq_true rfl) (Nat.le_of_ble_eq_true rfl) ⟨(Or.inr (Or.inr (Or.inr (rfl)))), ⟨ld, (tx), ln0, ax0, PR, pr, ix2, os2, st2, mo2, lo2, tr2, sn, nn, t_PR, t_pr, eB, by omega, hld, eT, cT, eR, by omega, by omega, e23, by omega, by omega, by omega, by omega, hPR, eP, by omega, by omega, SG_un hSG hL t_pr hsn hu (by decide), hnj2⟩, hI24, hu⟩
                    · skip
                      replace b36 := (nI_eq (a := tr2) (b := 1) (by omega) (by omega)).mp b36
                      exact pt_throw (own := "BigRunner") (cls := "java/lang/ArithmeticException") (text := "a division by 0") (names := ["java/lang/RuntimeException", "java/lang/Exception"]) hx hb (hl.1.trans hml.symm) hlocks hno hLt hown (by decide +kernel) (by decide +kernel) hB hTZ (fun U hB hH => ⟨(wd_848 hB _), (wd_849 hB _), (wd_92 hB _), (wd_857 hB _), oa_4 hB hH _⟩) hK hP hD hS d_B_run_100 d_B_run_103 d_B_run_104 d_B_run_106 d_B_run_109 (Nat.le_of_ble_eq_true rfl) (Nat.le_of_ble_eq_true rfl) (Nat.le_of_ble_eq_true rfl) (Nat.le_of_ble_eq_true rfl) ⟨(Or.inr (Or.inr (Or.inl rfl))), ⟨ld, (tx), ln0, ax0, PR, pr, ix2, os2, st2, mo2, lo2, tr2, sn, nn, t_PR, t_pr, eB, by omega, hld, eT, cT, eR, by omega, by omega, e23, by omega, by omega, by omega, by omega, hPR, eP, by omega, by omega, SG_un hSG hL t_pr hsn hu (by decide), hnj2⟩, hI24, hu⟩
                  · skip
                    have hr38 : r29 = nI 1 := (bl_1 bo_32 b34)
                    have hi39 := i1_33 hr38
                    refine lv_aload_n hx hb d_B_run_76 rfl (lv_at hl 1 rfl) ?_
                    refine pf_get (v := .ref (g.lk B 3)) (C := "BigRunner") (T := FT0) (N := 5) hx hb (hw0 hB _) (fun _ h9 => h9) hown hK hP (lo_in hL t_B (by decide)) eB rfl 3 (by decide) (wd_381 hB _) rfl d_B_run_77 ?_
                    refine pcc_v (va_runV (C := "BigRunner$Runner") (As := []) (rest := []) ⟨hx, hb, hml, hown, tb_nil⟩ (c_makeStep l g H.size f19 ((g.lk B 3)) pr ix2 os2 st2 mo2 lo2 tr2 sn nn hL (lo_k1_3 hL _ t_B) t_pr hI24 e23 (by omega) (by omega) (by omega) (by omega) eP (by omega) (by omega) (SG_un hSG hL t_pr hsn hu (by decide)) (by omega) (hnj2.resolve_left (by omega))) ⟨(callB_of 0 (tb_one (wd_721 hB _)) tb_good1 rfl rfl rfl (wd_79 hB _) (wd_718 hB _) (by decide +kernel) ⟨Nat.le_of_ble_eq_true rfl, Nat.le_of_ble_eq_true rfl⟩), (wd_719 hB _), (wd_720 hB _)⟩ ⟨pe_bl, pg_recv (ci := 8) hK hP (lo_in hL (lo_k1_3 hL _ t_B) (by decide)) e23 rfl, pe_pre hB hK hP hD⟩ rfl rfl hl.1 rfl (lv_room (Nat.le_of_ble_eq_true rfl)) d_B_run_80 ⟨Nat.le_of_ble_eq_true rfl, Nat.le_of_ble_eq_true rfl⟩) hS (fun f41 H locs hq42 hP hD hS => ?_)
                    obtain ⟨x1_43, hI1_44, hu1_45⟩ := hq42
                    have hu := hu.tr hu1_45 (by decide)
                    have hv25 := hv25.tr hu1_45 (by decide)
                    have eB := hu1_45.at t_B (by decide) eB
                    have eT := hu1_45.at (lo_k1_0 hL _ t_B) (by decide) eT
                    have eR := hu1_45.at (lo_k1_2 hL _ t_B) (by decide) eR
                    have eP := hu1_45.at t_pr (by decide) eP
                    obtain ⟨ix1_46, os1_47, st1_48, mo1_49, lo1_50, tr1_51, c52, c53, c54, c55, c56, e57⟩ := x1_43
                    refine lv_iinc (k := 0) (v := nI (i + 1)) (lv' := [(2, .int (nI (i + 1))), (0, .ref B), (1, .int (nI j9))]) hx hb d_B_run_83 hl rfl (by rw [nI_succ]; rfl) (by decide) rfl (fun ls hl => ?_)
                    refine lv_goto (tgt := 61) hx hb d_B_run_86 (by decide) ?_
                    exact ih21 (i + 1) ix1_46 os1_47 st1_48 mo1_49 lo1_50 tr1_51 f41 H locs ls (by omega) (by omega) (by omega) (by omega) (by omega) (by omega) c56 e57 hI1_44 hv25 hl hP hD hS
            exact lp18 (j9 + 1) 0 ix os st mo lo tr f H locs ls (by omega) (by omega) (by omega) (by omega) (by omega) (by omega) hnj eX hI un.rf hl hP hD hS
          · skip
            exact pt_throw (own := "BigRunner") (cls := "java/lang/IllegalArgumentException") (text := "not 1 .. 200 steps") (names := ["java/lang/RuntimeException", "java/lang/Exception"]) hx hb (hl.1.trans hml.symm) hlocks hno hLt hown (by decide +kernel) (by decide +kernel) hB hTZ (fun U hB hH => ⟨(wd_521 hB _), (wd_522 hB _), (wd_87 hB _), (wd_712 hB _), oa_2 hB hH _⟩) hK hP hD hS d_B_run_49 d_B_run_52 d_B_run_53 d_B_run_55 d_B_run_58 (Nat.le_of_ble_eq_true rfl) (Nat.le_of_ble_eq_true rfl) (Nat.le_of_ble_eq_true rfl) (Nat.le_of_ble_eq_true rfl) ⟨(Or.inr (Or.inl rfl)), ⟨ld, (tx), ln0, ax0, PR, pr, ix, os, st, mo, lo, tr, sn, nn, t_PR, t_pr, eB, by omega, hld, eT, cT, eR, by omega, by omega, eX, by omega, by omega, by omega, by omega, hPR, eP, by omega, by omega, SG_un hSG hL t_pr hsn hu (by decide), hnj⟩, hI, hu⟩
      · skip
        replace b15 := mt (nI_eq (a := tr) (b := 0) (by omega) (by omega)).mpr b15
        exact pt_throw (own := "BigRunner") (cls := "java/lang/IllegalStateException") (text := "no program is under way") (names := ["java/lang/RuntimeException", "java/lang/Exception"]) hx hb (hl.1.trans hml.symm) hlocks hno hLt hown (by decide +kernel) (by decide +kernel) hB hTZ (fun U hB hH => ⟨(wd_696 hB _), (wd_697 hB _), (wd_89 hB _), (wd_705 hB _), oa_3 hB hH _⟩) hK hP hD hS d_B_run_27 d_B_run_30 d_B_run_31 d_B_run_33 d_B_run_36 (Nat.le_of_ble_eq_true rfl) (Nat.le_of_ble_eq_true rfl) (Nat.le_of_ble_eq_true rfl) (Nat.le_of_ble_eq_true rfl) ⟨(Or.inl rfl), ⟨ld, (tx), ln0, ax0, PR, pr, ix, os, st, mo, lo, tr, sn, nn, t_PR, t_pr, eB, by omega, hld, eT, cT, eR, by omega, by omega, eX, by omega, by omega, by omega, by omega, hPR, eP, by omega, by omega, SG_un hSG hL t_pr hsn hu (by decide), hnj⟩, hI, hu⟩
