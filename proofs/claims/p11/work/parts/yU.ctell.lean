set_option maxHeartbeats 4000000 in
set_option maxRecDepth 100000 in
theorem v_digits (l : Launch) (g : Lay) (sz : Nat) (f : Nat → va_E) (x : Nat) (sgx : Int32) (nx : Nat) (dx : Nat → Int32) (vx : Int) (hL : LO g) (t_x : g.tg x = 5) (hI : OC g f) (eax : f x = .inr (4, [.int sgx, .int (nI nx), .ref (g.lk x 2)])) (ebx : f (g.lk x 2) = .inl (g.ac (g.lk x 2), 15, .inl dx)) (hNx : LNV sgx nx dx vx) : Met l ⟨"BigRunner$LongNumber", "digits", "()I"⟩ [Cond.code ⟨"BigRunner$LongNumber", "digits", "()I"⟩ prog_5_method_6_code 2 (some .int)] ({ frames := 0, cells := 0, slots := 0, locals := 0 }) (va_Pc [.ref x] (pt_in g sz f)) (va_Qi (fun r f1 => (∃ k, k ≤ 2000 ∧ DGT k vx.natAbs ∧ r = nI k) ∧ (f = f1)) (pc_out g sz) (pc_A g sz)) 0 0 (pc_A g sz) := by
  refine pt_ofM (cc := prog_5_method_6_code) (maxL := 2) (ret := (some .int)) (lv := [(0, .ref x)]) (by decide) (Nat.le_of_ble_eq_true rfl) rfl ?_
  intro p e s m args below meth c ls hx hb hr hml hlocks hown hB hP hK hD hsz hS hl hTZ
  subst hsz
  have cbx : ∀ i, i < 15 → ∃ k, k < 1000000000 ∧ dx i = nI k := hNx.2.1
  have hnx : nx ≤ 15 := hNx.1
  refine lv_aload_n hx hb d_NLongNumber_digits_0 rfl (lv_at hl 0 rfl) ?_
  refine pf_get (v := .int (nI nx)) (C := "BigRunner$LongNumber") (T := FT4) (N := 3) hx hb (hw4 hB _) (fun _ h9 => h9) hown hK hP (lo_in hL t_x (by decide)) eax rfl 1 (by decide) (wd_190 hB _) rfl d_NLongNumber_digits_1 ?_
  refine lv_if_ne (tgt := 9) hx hb d_NLongNumber_digits_4 (by decide) (fun b1 => ?_) (fun b1 => ?_)
  · skip
    replace b1 := mt (nI_eq (a := nx) (b := 0) (by omega) (by omega)).mpr b1
    refine lv_iconst (v := nI 1) hx hb d_NLongNumber_digits_9 (by decide) ?_
    refine lv_istore_n (lv' := [(1, .int (nI 1)), (0, .ref x)]) hx hb d_NLongNumber_digits_10 rfl hl (by decide) rfl (fun ls hl => ?_)
    have lp2 : ∀ (k4 : Nat) (i : Nat) (H : Heap) (locs : List Loc) (ls : Array Slot), (9 < i + k4) → (1 ≤ i) → (i ≤ 9) → (10 ^ (i - 1) ≤ dg dx (nx - 1)) → lv_has ls 2 [(1, .int (nI i)), (0, .ref x)] → va_P g.D vcl (va_pl g.LP f) H → va_D (pc_A g s.heap.size) (va_pl g.LP f) → va_S (pc_A g s.heap.size) s.heap H locs → W p l e ({ frames := 0, cells := 0, slots := 0, locals := 0 }) s m args below meth c H locs 0 0 (MQ below (va_Qi (fun r f1 => (∃ k, k ≤ 2000 ∧ DGT k vx.natAbs ∧ r = nI k) ∧ (f = f1)) (pc_out g s.heap.size) (pc_A g s.heap.size)) args s 0 0 (pc_A g s.heap.size)) (F0 m 11 ls []) := by
      intro k4
      induction k4 with
      | zero => intros; exfalso; omega
      | succ k4 ih5 =>
        intro i H locs ls hfu6 hi1 hi hpl hl hP hD hS
        refine lv_iload_n hx hb d_NLongNumber_digits_11 rfl (lv_at hl 0 rfl) ?_
        refine lv_bipush (v := nI 9) hx hb d_NLongNumber_digits_12 (by decide) ?_
        refine lv_icmp_ge (tgt := 42) hx hb d_NLongNumber_digits_14 (by decide) (fun b9 => ?_) (fun b9 => ?_)
        · skip
          replace b9 := (nI_leI (a := 9) (b := i) (by omega) (by omega)).mp b9
          refine lv_aload_n hx hb d_NLongNumber_digits_42 rfl (lv_at hl 1 rfl) ?_
          refine pf_get (v := .int (nI nx)) (C := "BigRunner$LongNumber") (T := FT4) (N := 3) hx hb (hw4 hB _) (fun _ h9 => h9) hown hK hP (lo_in hL t_x (by decide)) eax rfl 1 (by decide) (wd_190 hB _) rfl d_NLongNumber_digits_43 ?_
          refine lv_iconst (v := nI 1) hx hb d_NLongNumber_digits_46 (by decide) ?_
          refine pf_isubN (x := nx) (y := 1) hx hb (by omega) d_NLongNumber_digits_47 ?_
          refine lv_bipush (v := nI 9) hx hb d_NLongNumber_digits_48 (by decide) ?_
          refine pf_imulN (x := nx - 1) (y := 9) hx hb d_NLongNumber_digits_50 ?_
          refine lv_iload_n hx hb d_NLongNumber_digits_51 rfl (lv_at hl 0 rfl) ?_
          refine pf_iaddN (x := (nx - 1) * 9) (y := i) hx hb d_NLongNumber_digits_52 ?_
          exact pe_iret hx hb hr hlocks hK hP hD hS d_NLongNumber_digits_53 ⟨⟨_, by omega, dt9 hNx (by omega) (by omega) hpl (by first | omega | (rw [show i = 9 by omega]; exact CB_lt hNx.2.1 hNx.1 _ (by omega))), rfl⟩, rfl⟩
        · skip
          replace b9 := mt (nI_leI (a := 9) (b := i) (by omega) (by omega)).mpr b9
          refine lv_aload_n hx hb d_NLongNumber_digits_17 rfl (lv_at hl 1 rfl) ?_
          refine pf_get (v := .ref (g.lk x 2)) (C := "BigRunner$LongNumber") (T := FT4) (N := 3) hx hb (hw4 hB _) (fun _ h9 => h9) hown hK hP (lo_in hL t_x (by decide)) eax rfl 2 (by decide) (wd_192 hB _) rfl d_NLongNumber_digits_18 ?_
          refine lv_aload_n hx hb d_NLongNumber_digits_21 rfl (lv_at hl 1 rfl) ?_
          refine pf_get (v := .int (nI nx)) (C := "BigRunner$LongNumber") (T := FT4) (N := 3) hx hb (hw4 hB _) (fun _ h9 => h9) hown hK hP (lo_in hL t_x (by decide)) eax rfl 1 (by decide) (wd_190 hB _) rfl d_NLongNumber_digits_22 ?_
          refine lv_iconst (v := nI 1) hx hb d_NLongNumber_digits_25 (by decide) ?_
          refine pf_isubN (x := nx) (y := 1) hx hb (by omega) d_NLongNumber_digits_26 ?_
          refine pf_iald (i := nx - 1) hx hb hK hP (lo_in hL (lo_k5_2 hL _ t_x) (by decide)) ebx (lo_t23 hL _ (lo_k5_2 hL _ t_x)) (by omega) (by decide) d_NLongNumber_digits_27 ?_
          have hd10 := dg_lt cbx (j := nx - 1) (by omega)
          refine lv_topi (fun z_ hz_ => ?_)
          obtain rfl : z_ = nI (dg dx (nx - 1)) := hz_.trans (dg_eq cbx (by omega))
          obtain ⟨tP, p9, hp9, hZP, hTP⟩ := hTZ.2.2
          refine va_gets hx hb hZP hS hown (wd_926 hB _) (fun _ z => z) d_NLongNumber_digits_28 ?_
          refine lv_iload_n hx hb d_NLongNumber_digits_31 rfl (lv_at hl 0 rfl) ?_
          obtain ⟨pw11, hpw11⟩ : ∃ z : Nat, z = p9 i := ⟨_, rfl⟩
          have qpw11 := hp9 i (by omega)
          rw [← hpw11] at qpw11
          refine va_ti (v := .int (nI pw11)) hx hb hTP hS (vp_in_nI (by omega) (by decide)) (by rw [nI_clamp (by omega), hpw11]) d_NLongNumber_digits_32 ?_
          refine lv_icmp_lt (tgt := 42) hx hb d_NLongNumber_digits_33 (by decide) (fun b12 => ?_) (fun b12 => ?_)
          · skip
            replace b12 := (nI_ltI (a := dg dx (nx - 1)) (b := pw11) (by omega) (by omega)).mp b12
            refine lv_aload_n hx hb d_NLongNumber_digits_42 rfl (lv_at hl 1 rfl) ?_
            refine pf_get (v := .int (nI nx)) (C := "BigRunner$LongNumber") (T := FT4) (N := 3) hx hb (hw4 hB _) (fun _ h9 => h9) hown hK hP (lo_in hL t_x (by decide)) eax rfl 1 (by decide) (wd_190 hB _) rfl d_NLongNumber_digits_43 ?_
            refine lv_iconst (v := nI 1) hx hb d_NLongNumber_digits_46 (by decide) ?_
            refine pf_isubN (x := nx) (y := 1) hx hb (by omega) d_NLongNumber_digits_47 ?_
            refine lv_bipush (v := nI 9) hx hb d_NLongNumber_digits_48 (by decide) ?_
            refine pf_imulN (x := nx - 1) (y := 9) hx hb d_NLongNumber_digits_50 ?_
            refine lv_iload_n hx hb d_NLongNumber_digits_51 rfl (lv_at hl 0 rfl) ?_
            refine pf_iaddN (x := (nx - 1) * 9) (y := i) hx hb d_NLongNumber_digits_52 ?_
            exact pe_iret hx hb hr hlocks hK hP hD hS d_NLongNumber_digits_53 ⟨⟨_, by omega, dt9 hNx (by omega) (by omega) hpl (by first | omega | (rw [show i = 9 by omega]; exact CB_lt hNx.2.1 hNx.1 _ (by omega))), rfl⟩, rfl⟩
          · skip
            replace b12 := mt (nI_ltI (a := dg dx (nx - 1)) (b := pw11) (by omega) (by omega)).mpr b12
            refine lv_iinc (k := 0) (v := nI (i + 1)) (lv' := [(1, .int (nI (i + 1))), (0, .ref x)]) hx hb d_NLongNumber_digits_36 hl rfl (by rw [nI_succ]; rfl) (by decide) rfl (fun ls hl => ?_)
            refine lv_goto (tgt := 11) hx hb d_NLongNumber_digits_39 (by decide) ?_
            exact ih5 (i + 1) H locs ls (by omega) (by omega) (by omega) (by rw [Nat.add_sub_cancel]; omega) hl hP hD hS
    exact lp2 10 1 s.heap [] ls (by omega) (by omega) (by omega) (by show 1 ≤ dg dx (nx - 1); have z9 := hNx.2.2.2.1 (by omega); omega) hl hP hD hS
  · skip
    replace b1 := (nI_eq (a := nx) (b := 0) (by omega) (by omega)).mp b1
    refine lv_iconst (v := nI 1) hx hb d_NLongNumber_digits_7 (by decide) ?_
    exact pe_iret hx hb hr hlocks hK hP hD hS d_NLongNumber_digits_8 ⟨⟨1, by decide, Or.inl ⟨by rw [LNV_abs hNx, show nx = 0 by omega]; rfl, rfl⟩, rfl⟩, rfl⟩
set_option maxHeartbeats 4000000 in
set_option maxRecDepth 100000 in
theorem v_tell (l : Launch) (g : Lay) (sz : Nat) (f : Nat → va_E) (x : Nat) (sgx : Int32) (nx : Nat) (dx : Nat → Int32) (vx : Int) (v : Int32) (hL : LO g) (t_x : g.tg x = 5) (hI : OC g f) (eax : f x = .inr (4, [.int sgx, .int (nI nx), .ref (g.lk x 2)])) (ebx : f (g.lk x 2) = .inl (g.ac (g.lk x 2), 15, .inl dx)) (hNx : LNV sgx nx dx vx) (hk3 : -2 ≤ v) : Met l ⟨"BigRunner$LongNumber", "tell", "(I)I"⟩ [Cond.code ⟨"BigRunner$LongNumber", "tell", "(I)I"⟩ prog_5_method_5_code 2 (some .int)] ({ frames := 1, cells := 0, slots := 0, locals := 21 }) (va_Pc [.ref x, .int v] (pt_in g sz f)) (va_Qi (fun r f1 => (TQ vx v r) ∧ (f = f1)) (pc_out g sz) (pc_A g sz)) 0 0 (pc_A g sz) := by
  refine pt_ofM (cc := prog_5_method_5_code) (maxL := 2) (ret := (some .int)) (lv := [(0, .ref x), (1, .int v)]) (by decide) (Nat.le_of_ble_eq_true rfl) rfl ?_
  intro p e s m args below meth c ls hx hb hr hml hlocks hown hB hP hK hD hsz hS hl hTZ
  subst hsz
  have cbx : ∀ i, i < 15 → ∃ k, k < 1000000000 ∧ dx i = nI k := hNx.2.1
  have hnx : nx ≤ 15 := hNx.1
  refine lv_iload_n hx hb d_NLongNumber_tell_0 rfl (lv_at hl 1 rfl) ?_
  refine lv_iconst (v := (-1)) hx hb d_NLongNumber_tell_1 (by decide) ?_
  refine lv_icmp_ne (tgt := 10) hx hb d_NLongNumber_tell_2 (by decide) (fun b1 => ?_) (fun b1 => ?_)
  · skip
    have hk1 : v ≠ -1 := b1
    refine lv_iload_n hx hb d_NLongNumber_tell_10 rfl (lv_at hl 1 rfl) ?_
    refine lv_bipush (v := (-2)) hx hb d_NLongNumber_tell_11 (by decide) ?_
    refine lv_icmp_ne (tgt := 21) hx hb d_NLongNumber_tell_13 (by decide) (fun b2 => ?_) (fun b2 => ?_)
    · skip
      have hk2 : v ≠ -2 := b2
      refine lv_iload_n hx hb d_NLongNumber_tell_21 rfl (lv_at hl 1 rfl) ?_
      refine lv_if_lt (tgt := 36) hx hb d_NLongNumber_tell_22 (by decide) (fun b3 => ?_) (fun b3 => ?_)
      · skip
        exact absurd b3 (k_nn hk1 hk2 hk3)
      · skip
        obtain ⟨j, hj, rfl⟩ := nI_of b3
        refine lv_iload_n hx hb d_NLongNumber_tell_25 rfl (lv_at hl 1 rfl) ?_
        refine lv_bipush (v := nI 9) hx hb d_NLongNumber_tell_26 (by decide) ?_
        refine pf_idivN (x := j) (y := 9) hx hb (by omega) (by omega) (by omega) d_NLongNumber_tell_28 ?_
        refine lv_aload_n hx hb d_NLongNumber_tell_29 rfl (lv_at hl 0 rfl) ?_
        refine pf_get (v := .int (nI nx)) (C := "BigRunner$LongNumber") (T := FT4) (N := 3) hx hb (hw4 hB _) (fun _ h9 => h9) hown hK hP (lo_in hL t_x (by decide)) eax rfl 1 (by decide) (wd_190 hB _) rfl d_NLongNumber_tell_30 ?_
        refine lv_icmp_lt (tgt := 40) hx hb d_NLongNumber_tell_33 (by decide) (fun b4 => ?_) (fun b4 => ?_)
        · skip
          replace b4 := (nI_ltI (a := j / 9) (b := nx) (by omega) (by omega)).mp b4
          refine lv_aload_n hx hb d_NLongNumber_tell_40 rfl (lv_at hl 0 rfl) ?_
          refine pf_get (v := .ref (g.lk x 2)) (C := "BigRunner$LongNumber") (T := FT4) (N := 3) hx hb (hw4 hB _) (fun _ h9 => h9) hown hK hP (lo_in hL t_x (by decide)) eax rfl 2 (by decide) (wd_192 hB _) rfl d_NLongNumber_tell_41 ?_
          refine lv_iload_n hx hb d_NLongNumber_tell_44 rfl (lv_at hl 1 rfl) ?_
          refine lv_bipush (v := nI 9) hx hb d_NLongNumber_tell_45 (by decide) ?_
          refine pf_idivN (x := j) (y := 9) hx hb (by omega) (by omega) (by omega) d_NLongNumber_tell_47 ?_
          refine pf_iald (i := j / 9) hx hb hK hP (lo_in hL (lo_k5_2 hL _ t_x) (by decide)) ebx (lo_t23 hL _ (lo_k5_2 hL _ t_x)) (by omega) (by decide) d_NLongNumber_tell_48 ?_
          have hd5 := dg_lt cbx (j := j / 9) (by omega)
          refine lv_topi (fun z_ hz_ => ?_)
          obtain rfl : z_ = nI (dg dx (j / 9)) := hz_.trans (dg_eq cbx (by omega))
          obtain ⟨tP, p9, hp9, hZP, hTP⟩ := hTZ.2.2
          refine va_gets hx hb hZP hS hown (wd_926 hB _) (fun _ z => z) d_NLongNumber_tell_49 ?_
          refine lv_iload_n hx hb d_NLongNumber_tell_52 rfl (lv_at hl 1 rfl) ?_
          refine lv_bipush (v := nI 9) hx hb d_NLongNumber_tell_53 (by decide) ?_
          refine pf_iremN (x := j) (y := 9) hx hb (by omega) (by omega) (by omega) d_NLongNumber_tell_55 ?_
          obtain ⟨pw6, hpw6⟩ : ∃ z : Nat, z = p9 (j % 9) := ⟨_, rfl⟩
          have qpw6 := hp9 (j % 9) (by omega)
          rw [← hpw6] at qpw6
          refine va_ti (v := .int (nI pw6)) hx hb hTP hS (vp_in_nI (by omega) (by decide)) (by rw [nI_clamp (by omega), hpw6]) d_NLongNumber_tell_56 ?_
          refine pf_idivN (x := dg dx (j / 9)) (y := pw6) hx hb (by omega) (by omega) (by omega) d_NLongNumber_tell_57 ?_
          have hm7 : (dg dx (j / 9)) / pw6 ≤ dg dx (j / 9) := Nat.div_le_self _ _
          refine lv_bipush (v := nI 10) hx hb d_NLongNumber_tell_58 (by decide) ?_
          refine pf_iremN (x := (dg dx (j / 9)) / pw6) (y := 10) hx hb (by omega) (by omega) (by omega) d_NLongNumber_tell_60 ?_
          exact pe_iret hx hb hr hlocks hK hP hD hS d_NLongNumber_tell_61 ⟨(Or.inr (Or.inr ⟨j, by omega, rfl, congrArg nI (tl_k hNx (by omega) (by omega))⟩)), rfl⟩
        · skip
          replace b4 := mt (nI_ltI (a := j / 9) (b := nx) (by omega) (by omega)).mpr b4
          refine lv_iconst (v := nI 0) hx hb d_NLongNumber_tell_36 (by decide) ?_
          refine lv_goto (tgt := 61) hx hb d_NLongNumber_tell_37 (by decide) ?_
          exact pe_iret hx hb hr hlocks hK hP hD hS d_NLongNumber_tell_61 ⟨(Or.inr (Or.inr ⟨j, by omega, rfl, congrArg nI (tl_0 hNx (by omega))⟩)), rfl⟩
    · skip
      have hk2 : v = -2 := (by first | exact b2 | exact Classical.not_not.mp b2)
      refine lv_aload_n hx hb d_NLongNumber_tell_16 rfl (lv_at hl 0 rfl) ?_
      refine pcc_i (va_runV (C := "BigRunner$LongNumber") (As := []) (rest := []) ⟨hx, hb, hml, hown, tb_nil⟩ (v_digits l g s.heap.size f x sgx nx dx vx hL t_x hI eax ebx hNx) ⟨(callB_of 0 (tb_one (wd_925 hB _)) tb_good1 rfl rfl rfl (wd_78 hB _) (wd_922 hB _) (by decide +kernel) ⟨Nat.le_of_ble_eq_true rfl, Nat.le_of_ble_eq_true rfl⟩), (wd_924 hB _), (wd_40 hB _)⟩ ⟨pt_bl, pg_recv (ci := 4) hK hP (lo_in hL t_x (by decide)) eax rfl, pt_pre hTZ hS hB hK hP hD⟩ rfl rfl hl.1 rfl (lv_room (Nat.le_of_ble_eq_true rfl)) d_NLongNumber_tell_17 ⟨Nat.le_of_ble_eq_true rfl, Nat.le_of_ble_eq_true rfl⟩) hS (fun r8 f9 H locs hq10 hP hD hS => ?_)
      obtain ⟨dt_11, rfl⟩ := hq10
      obtain ⟨kr12, hkr12_0, hkr12_1, rfl⟩ := dt_11
      exact pe_iret hx hb hr hlocks hK hP hD hS d_NLongNumber_tell_20 ⟨(Or.inr (Or.inl ⟨hk2, kr12, hkr12_0, hkr12_1, rfl⟩)), rfl⟩
  · skip
    have hk1 : v = -1 := (by first | exact b1 | exact Classical.not_not.mp b1)
    refine lv_aload_n hx hb d_NLongNumber_tell_5 rfl (lv_at hl 0 rfl) ?_
    refine pf_get (v := .int sgx) (C := "BigRunner$LongNumber") (T := FT4) (N := 3) hx hb (hw4 hB _) (fun _ h9 => h9) hown hK hP (lo_in hL t_x (by decide)) eax rfl 0 (by decide) (wd_186 hB _) rfl d_NLongNumber_tell_6 ?_
    exact pe_iret hx hb hr hlocks hK hP hD hS d_NLongNumber_tell_9 ⟨(Or.inl ⟨hk1, LNV_sI hNx⟩), rfl⟩
set_option maxHeartbeats 4000000 in
set_option maxRecDepth 100000 in
theorem v_keptOutputs (l : Launch) (g : Lay) (sz : Nat) (f : Nat → va_E) (X : Nat) (pr : Nat) (ix : Nat) (os : Nat) (st : Nat) (mo : Int32) (lo : Int32) (tr : Nat) (hL : LO g) (t_X : g.tg X = 9) (t_pr : g.tg pr = 7) (hI : OC g f) (eX : f X = .inr (8, [.ref pr, .ref (g.lk X 1), .int (nI ix), .ref (g.lk X 3), .ref (g.lk X 4), .ref (g.lk X 5), .ref (g.lk X 6), .ref (g.lk X 7), .int (nI os), .int (nI st), .int mo, .int lo, .int (nI tr)])) (hix : ix ≤ 36) (hos : os ≤ st) (hst : st ≤ 3000) (htr : tr ≤ 3) : Met l ⟨"BigRunner$Runner", "keptOutputs", "()I"⟩ [Cond.code ⟨"BigRunner$Runner", "keptOutputs", "()I"⟩ prog_9_method_5_code 1 (some .int)] ({ frames := 1, cells := 0, slots := 0, locals := 40 }) (va_Pc [.ref X] (pc_in g sz f)) (va_Qi (fun r f1 => (∃ k, k ≤ 12 ∧ k ≤ os ∧ (k = 12 ∨ k = os) ∧ r = nI k) ∧ (f = f1)) (pc_out g sz) (pc_A g sz)) 0 0 (pc_A g sz) := by
  refine pe_ofW (cc := prog_9_method_5_code) (maxL := 1) (ret := (some .int)) (lv := [(0, .ref X)]) (by decide) (Nat.le_of_ble_eq_true rfl) rfl ?_
  intro p e s m args below meth c ls hx hb hr hml hlocks hown hB hP hK hD hsz hS hl
  subst hsz
  refine lv_aload_n hx hb d_NRunner_keptOutputs_0 rfl (lv_at hl 0 rfl) ?_
  refine pf_get (v := .int (nI os)) (C := "BigRunner$Runner") (T := FT8) (N := 13) hx hb (hw8 hB _) (fun _ h9 => h9) hown hK hP (lo_in hL t_X (by decide)) eX rfl 8 (by decide) (wd_341 hB _) rfl d_NRunner_keptOutputs_1 ?_
  refine lv_bipush (v := nI 12) hx hb d_NRunner_keptOutputs_4 (by decide) ?_
  refine va_mmin hx hb (hml.trans hl.1.symm) hown (wd_939 hB _) (wd_459 hB _) (wd_83 hB _) (wd_460 hB _) (Nat.le_of_ble_eq_true rfl) (Nat.le_of_ble_eq_true rfl) (Nat.le_of_ble_eq_true rfl) (Nat.le_of_ble_eq_true rfl) d_NRunner_keptOutputs_6 ?_
  refine lv_topi (fun z_ hz_ => ?_)
  obtain ⟨mn1, hmn1⟩ : ∃ z : Nat, z = min os 12 := ⟨_, rfl⟩
  obtain rfl : z_ = nI mn1 := by rw [hz_, hmn1]; exact mi_min (a := os) (b := 12) (by omega) (by omega)
  exact pe_iret hx hb hr hlocks hK hP hD hS d_NRunner_keptOutputs_9 ⟨⟨_, by omega, by omega, by omega, rfl⟩, rfl⟩
set_option maxHeartbeats 4000000 in
set_option maxRecDepth 100000 in
theorem v_variable2 (l : Launch) (g : Lay) (sz : Nat) (f : Nat → va_E) (B : Nat) (n : Nat) (hT : Nat → Int32) (ld : Int32) (tx : Value) (ln0 : Nat) (ax0 : Nat) (PR : Nat) (pr : Nat) (ix : Nat) (os : Nat) (st : Nat) (mo : Int32) (lo : Int32) (tr : Nat) (sn : Nat) (nn : Nat) (T : TT) (nb : Nat → Nat) (en : Nat → IVL) (L : List (Nat × Nat)) (s9 : PS) (v : Int32) (k9 : Int32) (hL : LO g) (t_B : g.tg B = 1) (t_PR : g.tg PR = 7) (t_pr : g.tg pr = 7) (hI : IV g f) (eB : f B = .inr (0, [.ref (g.lk B 0), .int (nI n), .ref (g.lk B 2), .ref (g.lk B 3), .int ld])) (hn : n ≤ 72) (hld : ld = nI 0 ∨ ld = nI 1) (eT : f (g.lk B 0) = .inl (g.ac (g.lk B 0), 72, .inl hT)) (cT : ∀ i, i < 72 → vp_nar .char (hT i) = hT i) (eR : f (g.lk B 2) = .inr (7, [tx, .int (nI ln0), .int (nI ax0), .ref PR])) (hl0 : ln0 ≤ 72) (ha0 : ax0 ≤ 72) (eX : f (g.lk B 3) = .inr (8, [.ref pr, .ref (g.lk (g.lk B 3) 1), .int (nI ix), .ref (g.lk (g.lk B 3) 3), .ref (g.lk (g.lk B 3) 4), .ref (g.lk (g.lk B 3) 5), .ref (g.lk (g.lk B 3) 6), .ref (g.lk (g.lk B 3) 7), .int (nI os), .int (nI st), .int mo, .int lo, .int (nI tr)])) (hix : ix ≤ 36) (hos : os ≤ st) (hst : st ≤ 3000) (htr : tr ≤ 3) (hPR : PR ≠ pr) (eP : f pr = .inr (6, [.ref (g.lk pr 0), .int (nI sn), .ref (g.lk pr 2), .int (nI nn), .ref (g.lk pr 4), .ref (g.lk pr 5)])) (hsn : sn ≤ 36) (hnn : nn ≤ 72) (hSG : SG g f pr 0 sn) (hnj : sn ≤ ix ∨ nj g f pr ix) (hi1 : OIN g f PR) (hi2 : OIN g f pr) (hld1 : ld = nI 1) (hPT : PT T nb sn nn en L) (hRS : RNS g f (g.lk B 3) pr T nb sn en ix os st tr s9) (hLt : l.stackTraces = false) : tw_Met l ⟨"BigRunner", "variable", "(II)I"⟩ [Cond.code ⟨"BigRunner", "variable", "(II)I"⟩ prog_1_method_10_code 3 (some .int)] ({ frames := 6, cells := 1, slots := 6, locals := 120 }) (va_Pc [.ref B, .int v, .int k9] (pt_in g sz f)) (tq (fun v9 f1 => ∃ r, v9 = some (.int r) ∧ (vok v = true ∧ -2 ≤ k9 ∧ TQ (s9.vr v.toNatClampNeg) k9 r) ∧ (CV g B f1 n hT (some L) s9) ∧ (IV g f1) ∧ (un [5, 23] g f f1)) (fun C9 f1 => (C9 = "java/lang/IndexOutOfBoundsException") ∧ (¬ (vok v = true ∧ -2 ≤ k9)) ∧ (CV g B f1 n hT (some L) s9) ∧ (IV g f1) ∧ (un [5, 23] g f f1)) g sz) 1 6 (pc_A g sz) := by
  refine pt_ofW (cc := prog_1_method_10_code) (maxL := 3) (ret := (some .int)) (lv := [(0, .ref B), (1, .int v), (2, .int k9)]) (by decide) (Nat.le_of_ble_eq_true rfl) rfl ?_
  intro p e s m args below meth c ls hx hb hr hml hlocks hown hB hP hK hD hsz hS hl hno hTZ
  subst hsz
  have hu : un [5, 23] g f f := un.rf
  subst hld1
  by_cases hvk : vok v = true
  · skip
    obtain ⟨j9, hj9, rfl⟩ := vok_k hvk
    refine lv_aload_n hx hb d_B_variable_0 rfl (lv_at hl 0 rfl) ?_
    refine lv_iload_n hx hb d_B_variable_1 rfl (lv_at hl 1 rfl) ?_
    refine pcc_i (va_runV (C := "BigRunner") (As := [.int (nI j9)]) (rest := []) ⟨hx, hb, hml, hown, tb_nil⟩ (c3_hasVarIn l g s.heap.size f B n ((nI 1)) j9 hL t_B hI.1 eB (Or.inr rfl) (by omega)) ⟨(callB_of 1 (tb_one (wd_436 hB _)) tb_good1 rfl rfl rfl (wd_72 hB _) (wd_433 hB _) (by decide +kernel) ⟨Nat.le_of_ble_eq_true rfl, Nat.le_of_ble_eq_true rfl⟩), (wd_435 hB _), (wd_1 hB _)⟩ ⟨pe_bl, pg_recv (ci := 0) hK hP (lo_in hL t_B (by decide)) eB rfl, pe_pre hB hK hP hD⟩ rfl rfl hl.1 rfl (lv_room (Nat.le_of_ble_eq_true rfl)) d_B_variable_2 ⟨Nat.le_of_ble_eq_true rfl, Nat.le_of_ble_eq_true rfl⟩) hS (fun r1 f2 H locs hq3 hP hD hS => ?_)
    obtain ⟨qv_4, rfl⟩ := hq3
    subst qv_4
    refine lv_if_eq (tgt := 14) hx hb d_B_variable_5 (by decide) (fun b5 => ?_) (fun b5 => ?_)
    · skip
      replace b5 := (nI_eq (a := 1) (b := 0) (by omega) (by omega)).mp b5
      exfalso; omega
    · skip
      replace b5 := mt (nI_eq (a := 1) (b := 0) (by omega) (by omega)).mpr b5
      refine lv_iload_n hx hb d_B_variable_8 rfl (lv_at hl 2 rfl) ?_
      refine lv_bipush (v := (-2)) hx hb d_B_variable_9 (by decide) ?_
      refine lv_icmp_ge (tgt := 24) hx hb d_B_variable_11 (by decide) (fun b6 => ?_) (fun b6 => ?_)
      · skip
        have hk29 := b6
        refine lv_aload_n hx hb d_B_variable_24 rfl (lv_at hl 0 rfl) ?_
        refine pf_get (v := .ref (g.lk B 3)) (C := "BigRunner") (T := FT0) (N := 5) hx hb (hw0 hB _) (fun _ h9 => h9) hown hK hP (lo_in hL t_B (by decide)) eB rfl 3 (by decide) (wd_381 hB _) rfl d_B_variable_25 ?_
        refine lv_iload_n hx hb d_B_variable_28 rfl (lv_at hl 1 rfl) ?_
        refine pcc_r (va_runV (C := "BigRunner$Runner") (As := [.int (nI j9)]) (rest := []) ⟨hx, hb, hml, hown, tb_nil⟩ (v_valueOf l g H.size f ((g.lk B 3)) pr ix os st mo lo tr j9 en s9.vr hL (lo_k1_3 hL _ t_B) t_pr hI eX (by omega) (by omega) (by omega) (by omega) (by omega) hRS.2.2.1 hRS.2.2.2.1 hRS.2.2.2.2.1) ⟨(callB_of 1 (tb_one (wd_917 hB _)) tb_good1 rfl rfl rfl (wd_79 hB _) (wd_914 hB _) (by decide +kernel) ⟨Nat.le_of_ble_eq_true rfl, Nat.le_of_ble_eq_true rfl⟩), (wd_915 hB _), (wd_916 hB _)⟩ ⟨pe_bl, pg_recv (ci := 8) hK hP (lo_in hL (lo_k1_3 hL _ t_B) (by decide)) eX rfl, pe_pre hB hK hP hD⟩ rfl rfl hl.1 rfl (lv_room (Nat.le_of_ble_eq_true rfl)) d_B_variable_29 ⟨Nat.le_of_ble_eq_true rfl, Nat.le_of_ble_eq_true rfl⟩) hS (fun r7 f8 H locs hq9 hP hD hS => ?_)
        obtain ⟨rt_10, rl_11, hI1_12, hk1_13⟩ := hq9
        have hu := hu.st2 hk1_13 (lo_k9_5 hL _ (lo_k1_3 hL _ t_B)) (lo_k5_2 hL _ (lo_k9_5 hL _ (lo_k1_3 hL _ t_B))) (by decide) (by decide)
        have eB := (hk1_13 B (tg_ne t_B (lo_k9_5 hL _ (lo_k1_3 hL _ t_B)) (by decide)) (tg_ne t_B (lo_k5_2 hL _ (lo_k9_5 hL _ (lo_k1_3 hL _ t_B))) (by decide))).trans eB
        have eT := (hk1_13 (g.lk B 0) (tg_ne (lo_k1_0 hL _ t_B) (lo_k9_5 hL _ (lo_k1_3 hL _ t_B)) (by decide)) (tg_ne (lo_k1_0 hL _ t_B) (lo_k5_2 hL _ (lo_k9_5 hL _ (lo_k1_3 hL _ t_B))) (by decide))).trans eT
        have eR := (hk1_13 (g.lk B 2) (tg_ne (lo_k1_2 hL _ t_B) (lo_k9_5 hL _ (lo_k1_3 hL _ t_B)) (by decide)) (tg_ne (lo_k1_2 hL _ t_B) (lo_k5_2 hL _ (lo_k9_5 hL _ (lo_k1_3 hL _ t_B))) (by decide))).trans eR
        have eX := (hk1_13 (g.lk B 3) (tg_ne (lo_k1_3 hL _ t_B) (lo_k9_5 hL _ (lo_k1_3 hL _ t_B)) (by decide)) (tg_ne (lo_k1_3 hL _ t_B) (lo_k5_2 hL _ (lo_k9_5 hL _ (lo_k1_3 hL _ t_B))) (by decide))).trans eX
        have eP := (hk1_13 pr (tg_ne t_pr (lo_k9_5 hL _ (lo_k1_3 hL _ t_B)) (by decide)) (tg_ne t_pr (lo_k5_2 hL _ (lo_k9_5 hL _ (lo_k1_3 hL _ t_B))) (by decide))).trans eP
        have hcv9 := CVS_sh hL (lo_k1_3 hL _ t_B) t_pr (show CVS g f (g.lk B 3) pr sn nn ix os st tr (nI 1) (some L) s9 from ⟨rfl, T, nb, en, hPT, hRS⟩) hk1_13
        obtain ⟨sg14, nn15, dd16, e17, e18, hN19⟩ := rl_11
        have c20 : ∀ i, i < 15 → ∃ k, k < 1000000000 ∧ dd16 i = nI k := hN19.2.1
        have hnn15 : nn15 ≤ 15 := hN19.1
        refine lv_iload_n hx hb d_B_variable_32 rfl (lv_at hl 2 rfl) ?_
        refine pcc_i (va_runV (C := "BigRunner$LongNumber") (As := [.int k9]) (rest := []) ⟨hx, hb, hml, hown, tb_nil⟩ (v_tell l g H.size f8 r7 sg14 nn15 dd16 (((s9.vr j9))) k9 hL rt_10 hI1_12.1 e17 e18 hN19 hk29) ⟨(callB_of 1 (tb_one (wd_921 hB _)) tb_good1 rfl rfl rfl (wd_78 hB _) (wd_918 hB _) (by decide +kernel) ⟨Nat.le_of_ble_eq_true rfl, Nat.le_of_ble_eq_true rfl⟩), (wd_919 hB _), (wd_920 hB _)⟩ ⟨pt_bl, pg_recv (ci := 4) hK hP (lo_in hL rt_10 (by decide)) e17 rfl, pt_pre hTZ hS hB hK hP hD⟩ rfl rfl hl.1 rfl (lv_room (Nat.le_of_ble_eq_true rfl)) d_B_variable_33 ⟨Nat.le_of_ble_eq_true rfl, Nat.le_of_ble_eq_true rfl⟩) hS (fun r21 f22 H locs hq23 hP hD hS => ?_)
        obtain ⟨tq_24, rfl⟩ := hq23
        exact pt_iret hx hb hr hlocks hK hP hD hS d_B_variable_36 ⟨_, rfl, ⟨⟨hvk, hk29, (by rw [nI_clamp (by omega)]; exact tq_24)⟩, ⟨(nI 1), (tx), ln0, ax0, PR, pr, ix, os, st, mo, lo, tr, sn, nn, t_PR, t_pr, eB, by omega, (Or.inr rfl), eT, cT, eR, by omega, by omega, eX, by omega, by omega, by omega, by omega, hPR, eP, by omega, by omega, SG_un hSG hL t_pr hsn hu (by decide), (by rcases Nat.lt_or_ge ix sn with q | q; exact Or.inr (nj_un (hnj.resolve_left (by omega)) hL t_pr (by omega) hu (by decide)); exact Or.inl q), hi1.un hL t_PR hu (by decide), hi2.un hL t_pr hu (by decide), hcv9⟩, hI1_12, hu⟩⟩
      · skip
        exact pt_throw (own := "BigRunner") (cls := "java/lang/IndexOutOfBoundsException") (text := "no such variable or part of it") (names := ["java/lang/RuntimeException", "java/lang/Exception"]) hx hb (hl.1.trans hml.symm) hlocks hno hLt hown (by decide +kernel) (by decide +kernel) hB hTZ (fun U hB hH => ⟨(wd_888 hB _), (wd_889 hB _), (wd_94 hB _), (wd_913 hB _), oa_1 hB hH _⟩) hK hP hD hS d_B_variable_14 d_B_variable_17 d_B_variable_18 d_B_variable_20 d_B_variable_23 (Nat.le_of_ble_eq_true rfl) (Nat.le_of_ble_eq_true rfl) (Nat.le_of_ble_eq_true rfl) (Nat.le_of_ble_eq_true rfl) ⟨rfl, (fun z9 => b6 z9.2), ⟨(nI 1), (tx), ln0, ax0, PR, pr, ix, os, st, mo, lo, tr, sn, nn, t_PR, t_pr, eB, by omega, (Or.inr rfl), eT, cT, eR, by omega, by omega, eX, by omega, by omega, by omega, by omega, hPR, eP, by omega, by omega, SG_un hSG hL t_pr hsn hu (by decide), (by rcases Nat.lt_or_ge ix sn with q | q; exact Or.inr (nj_un (hnj.resolve_left (by omega)) hL t_pr (by omega) hu (by decide)); exact Or.inl q), hi1.un hL t_PR hu (by decide), hi2.un hL t_pr hu (by decide), (show CVS g f (g.lk B 3) pr sn nn ix os st tr (nI 1) (some L) s9 from ⟨rfl, T, nb, en, hPT, hRS⟩)⟩, hI, hu⟩
  · skip
    have hvf := Bool.eq_false_iff.mpr hvk
    refine lv_aload_n hx hb d_B_variable_0 rfl (lv_at hl 0 rfl) ?_
    refine lv_iload_n hx hb d_B_variable_1 rfl (lv_at hl 1 rfl) ?_
    refine pcc_i (va_runV (C := "BigRunner") (As := [.int v]) (rest := []) ⟨hx, hb, hml, hown, tb_nil⟩ (c3_hasVarOut l g s.heap.size f B n ((nI 1)) v hL t_B hI.1 eB (Or.inr rfl) (Or.inl hvf)) ⟨(callB_of 1 (tb_one (wd_436 hB _)) tb_good1 rfl rfl rfl (wd_72 hB _) (wd_433 hB _) (by decide +kernel) ⟨Nat.le_of_ble_eq_true rfl, Nat.le_of_ble_eq_true rfl⟩), (wd_435 hB _), (wd_1 hB _)⟩ ⟨pe_bl, pg_recv (ci := 0) hK hP (lo_in hL t_B (by decide)) eB rfl, pe_pre hB hK hP hD⟩ rfl rfl hl.1 rfl (lv_room (Nat.le_of_ble_eq_true rfl)) d_B_variable_2 ⟨Nat.le_of_ble_eq_true rfl, Nat.le_of_ble_eq_true rfl⟩) hS (fun r25 f26 H locs hq27 hP hD hS => ?_)
    obtain ⟨qv_28, rfl⟩ := hq27
    subst qv_28
    refine lv_if_eq (tgt := 14) hx hb d_B_variable_5 (by decide) (fun b29 => ?_) (fun b29 => ?_)
    · skip
      replace b29 := (nI_eq (a := 0) (b := 0) (by omega) (by omega)).mp b29
      exact pt_throw (own := "BigRunner") (cls := "java/lang/IndexOutOfBoundsException") (text := "no such variable or part of it") (names := ["java/lang/RuntimeException", "java/lang/Exception"]) hx hb (hl.1.trans hml.symm) hlocks hno hLt hown (by decide +kernel) (by decide +kernel) hB hTZ (fun U hB hH => ⟨(wd_888 hB _), (wd_889 hB _), (wd_94 hB _), (wd_913 hB _), oa_1 hB hH _⟩) hK hP hD hS d_B_variable_14 d_B_variable_17 d_B_variable_18 d_B_variable_20 d_B_variable_23 (Nat.le_of_ble_eq_true rfl) (Nat.le_of_ble_eq_true rfl) (Nat.le_of_ble_eq_true rfl) (Nat.le_of_ble_eq_true rfl) ⟨rfl, (fun z9 => hvk z9.1), ⟨(nI 1), (tx), ln0, ax0, PR, pr, ix, os, st, mo, lo, tr, sn, nn, t_PR, t_pr, eB, by omega, (Or.inr rfl), eT, cT, eR, by omega, by omega, eX, by omega, by omega, by omega, by omega, hPR, eP, by omega, by omega, SG_un hSG hL t_pr hsn hu (by decide), (by rcases Nat.lt_or_ge ix sn with q | q; exact Or.inr (nj_un (hnj.resolve_left (by omega)) hL t_pr (by omega) hu (by decide)); exact Or.inl q), hi1.un hL t_PR hu (by decide), hi2.un hL t_pr hu (by decide), (show CVS g f (g.lk B 3) pr sn nn ix os st tr (nI 1) (some L) s9 from ⟨rfl, T, nb, en, hPT, hRS⟩)⟩, hI, hu⟩
    · skip
      replace b29 := mt (nI_eq (a := 0) (b := 0) (by omega) (by omega)).mpr b29
      exfalso; omega
set_option maxHeartbeats 4000000 in
set_option maxRecDepth 100000 in
theorem v_output2 (l : Launch) (g : Lay) (sz : Nat) (f : Nat → va_E) (B : Nat) (n : Nat) (hT : Nat → Int32) (ld : Int32) (tx : Value) (ln0 : Nat) (ax0 : Nat) (PR : Nat) (pr : Nat) (ix : Nat) (os : Nat) (st : Nat) (mo : Int32) (lo : Int32) (tr : Nat) (sn : Nat) (nn : Nat) (outs : List Int) (v : Int32) (k9 : Int32) (hL : LO g) (t_B : g.tg B = 1) (t_PR : g.tg PR = 7) (t_pr : g.tg pr = 7) (hI : IV g f) (eB : f B = .inr (0, [.ref (g.lk B 0), .int (nI n), .ref (g.lk B 2), .ref (g.lk B 3), .int ld])) (hn : n ≤ 72) (hld : ld = nI 0 ∨ ld = nI 1) (eT : f (g.lk B 0) = .inl (g.ac (g.lk B 0), 72, .inl hT)) (cT : ∀ i, i < 72 → vp_nar .char (hT i) = hT i) (eR : f (g.lk B 2) = .inr (7, [tx, .int (nI ln0), .int (nI ax0), .ref PR])) (hl0 : ln0 ≤ 72) (ha0 : ax0 ≤ 72) (eX : f (g.lk B 3) = .inr (8, [.ref pr, .ref (g.lk (g.lk B 3) 1), .int (nI ix), .ref (g.lk (g.lk B 3) 3), .ref (g.lk (g.lk B 3) 4), .ref (g.lk (g.lk B 3) 5), .ref (g.lk (g.lk B 3) 6), .ref (g.lk (g.lk B 3) 7), .int (nI os), .int (nI st), .int mo, .int lo, .int (nI tr)])) (hix : ix ≤ 36) (hos : os ≤ st) (hst : st ≤ 3000) (htr : tr ≤ 3) (hPR : PR ≠ pr) (eP : f pr = .inr (6, [.ref (g.lk pr 0), .int (nI sn), .ref (g.lk pr 2), .int (nI nn), .ref (g.lk pr 4), .ref (g.lk pr 5)])) (hsn : sn ≤ 36) (hnn : nn ≤ 72) (hSG : SG g f pr 0 sn) (hnj : sn ≤ ix ∨ nj g f pr ix) (hOU : OUTS g f (g.lk B 3) outs) (hos9 : os = outs.length) (hLt : l.stackTraces = false) : tw_Met l ⟨"BigRunner", "output", "(II)I"⟩ [Cond.code ⟨"BigRunner", "output", "(II)I"⟩ prog_1_method_11_code 3 (some .int)] ({ frames := 6, cells := 1, slots := 6, locals := 120 }) (va_Pc [.ref B, .int v, .int k9] (pt_in g sz f)) (tq (fun v9 f1 => ∃ r, v9 = some (.int r) ∧ (ook outs v k9 ∧ TQ (outs.getD v.toNatClampNeg 0) k9 r) ∧ (f = f1)) (fun C9 f1 => (C9 = "java/lang/IndexOutOfBoundsException") ∧ (¬ ook outs v k9) ∧ (f = f1)) g sz) 1 6 (pc_A g sz) := by
  refine pt_ofW (cc := prog_1_method_11_code) (maxL := 3) (ret := (some .int)) (lv := [(0, .ref B), (1, .int v), (2, .int k9)]) (by decide) (Nat.le_of_ble_eq_true rfl) rfl ?_
  intro p e s m args below meth c ls hx hb hr hml hlocks hown hB hP hK hD hsz hS hl hno hTZ
  subst hsz
  refine lv_iload_n hx hb d_B_output_0 rfl (lv_at hl 1 rfl) ?_
  refine lv_if_lt (tgt := 21) hx hb d_B_output_1 (by decide) (fun b1 => ?_) (fun b1 => ?_)
  · skip
    exact pt_throw (own := "BigRunner") (cls := "java/lang/IndexOutOfBoundsException") (text := "no such output or part of it") (names := ["java/lang/RuntimeException", "java/lang/Exception"]) hx hb (hl.1.trans hml.symm) hlocks hno hLt hown (by decide +kernel) (by decide +kernel) hB hTZ (fun U hB hH => ⟨(wd_888 hB _), (wd_889 hB _), (wd_94 hB _), (wd_940 hB _), oa_1 hB hH _⟩) hK hP hD hS d_B_output_21 d_B_output_24 d_B_output_25 d_B_output_27 d_B_output_30 (Nat.le_of_ble_eq_true rfl) (Nat.le_of_ble_eq_true rfl) (Nat.le_of_ble_eq_true rfl) (Nat.le_of_ble_eq_true rfl) ⟨rfl, (ook_n b1), rfl⟩
  · skip
    obtain ⟨j9, hj9, rfl⟩ := nI_of b1
    refine lv_iload_n hx hb d_B_output_4 rfl (lv_at hl 1 rfl) ?_
    refine lv_aload_n hx hb d_B_output_5 rfl (lv_at hl 0 rfl) ?_
    refine pf_get (v := .ref (g.lk B 3)) (C := "BigRunner") (T := FT0) (N := 5) hx hb (hw0 hB _) (fun _ h9 => h9) hown hK hP (lo_in hL t_B (by decide)) eB rfl 3 (by decide) (wd_381 hB _) rfl d_B_output_6 ?_
    refine pcc_i (va_runV (C := "BigRunner$Runner") (As := []) (rest := [.int (nI j9)]) ⟨hx, hb, hml, hown, tb_nil⟩ (v_keptOutputs l g s.heap.size f ((g.lk B 3)) pr ix os st mo lo tr hL (lo_k1_3 hL _ t_B) t_pr hI.1 eX (by omega) (by omega) (by omega) (by omega)) ⟨(callB_of 0 (tb_one (wd_938 hB _)) tb_good1 rfl rfl rfl (wd_79 hB _) (wd_935 hB _) (by decide +kernel) ⟨Nat.le_of_ble_eq_true rfl, Nat.le_of_ble_eq_true rfl⟩), (wd_936 hB _), (wd_937 hB _)⟩ ⟨pe_bl, pg_recv (ci := 8) hK hP (lo_in hL (lo_k1_3 hL _ t_B) (by decide)) eX rfl, pe_pre hB hK hP hD⟩ rfl rfl hl.1 rfl (lv_room (Nat.le_of_ble_eq_true rfl)) d_B_output_9 ⟨Nat.le_of_ble_eq_true rfl, Nat.le_of_ble_eq_true rfl⟩) hS (fun r2 f3 H locs hq4 hP hD hS => ?_)
    obtain ⟨q3_5, rfl⟩ := hq4
    obtain ⟨kr6, hkr6_0, hkr6_1, hkr6_2, rfl⟩ := q3_5
    refine lv_icmp_ge (tgt := 21) hx hb d_B_output_12 (by decide) (fun b7 => ?_) (fun b7 => ?_)
    · skip
      replace b7 := (nI_leI (a := kr6) (b := j9) (by omega) (by omega)).mp b7
      exact pt_throw (own := "BigRunner") (cls := "java/lang/IndexOutOfBoundsException") (text := "no such output or part of it") (names := ["java/lang/RuntimeException", "java/lang/Exception"]) hx hb (hl.1.trans hml.symm) hlocks hno hLt hown (by decide +kernel) (by decide +kernel) hB hTZ (fun U hB hH => ⟨(wd_888 hB _), (wd_889 hB _), (wd_94 hB _), (wd_940 hB _), oa_1 hB hH _⟩) hK hP hD hS d_B_output_21 d_B_output_24 d_B_output_25 d_B_output_27 d_B_output_30 (Nat.le_of_ble_eq_true rfl) (Nat.le_of_ble_eq_true rfl) (Nat.le_of_ble_eq_true rfl) (Nat.le_of_ble_eq_true rfl) ⟨rfl, (ook_l (by omega) (by omega)), rfl⟩
    · skip
      replace b7 := mt (nI_leI (a := kr6) (b := j9) (by omega) (by omega)).mpr b7
      refine lv_iload_n hx hb d_B_output_15 rfl (lv_at hl 2 rfl) ?_
      refine lv_bipush (v := (-2)) hx hb d_B_output_16 (by decide) ?_
      refine lv_icmp_ge (tgt := 31) hx hb d_B_output_18 (by decide) (fun b8 => ?_) (fun b8 => ?_)
      · skip
        have hk29 := b8
        obtain ⟨sg9, nn10, dd11, e12, e13, hN14⟩ := (hOU j9 (by omega) (by omega)).1
        have c15 : ∀ i, i < 15 → ∃ k, k < 1000000000 ∧ dd11 i = nI k := hN14.2.1
        have hnn10 : nn10 ≤ 15 := hN14.1
        refine lv_aload_n hx hb d_B_output_31 rfl (lv_at hl 0 rfl) ?_
        refine pf_get (v := .ref (g.lk B 3)) (C := "BigRunner") (T := FT0) (N := 5) hx hb (hw0 hB _) (fun _ h9 => h9) hown hK hP (lo_in hL t_B (by decide)) eB rfl 3 (by decide) (wd_381 hB _) rfl d_B_output_32 ?_
        refine pf_get (v := .ref (g.lk (g.lk B 3) 7)) (C := "BigRunner$Runner") (T := FT8) (N := 13) hx hb (hw8 hB _) (fun _ h9 => h9) hown hK hP (lo_in hL (lo_k1_3 hL _ t_B) (by decide)) eX rfl 7 (by decide) (wd_340 hB _) rfl d_B_output_35 ?_
        refine lv_iload_n hx hb d_B_output_38 rfl (lv_at hl 1 rfl) ?_
        have e16 := oc_29.of (lo_k9_7 hL _ (lo_k1_3 hL _ t_B)) (hI.1 (g.lk (g.lk B 3) 7))
        refine pf_aald (i := j9) hx hb hK hP (lo_in hL (lo_k9_7 hL _ (lo_k1_3 hL _ t_B)) (by decide)) e16 (lo_t29 hL _ (lo_k9_7 hL _ (lo_k1_3 hL _ t_B))) (by omega) (by decide) d_B_output_39 ?_
        have t17 := lo_e29 hL _ (lo_k9_7 hL _ (lo_k1_3 hL _ t_B)) j9 (by omega)
        refine lv_iload_n hx hb d_B_output_40 rfl (lv_at hl 2 rfl) ?_
        refine pcc_i (va_runV (C := "BigRunner$LongNumber") (As := [.int k9]) (rest := []) ⟨hx, hb, hml, hown, tb_nil⟩ (v_tell l g H.size f ((g.lk (g.lk (g.lk B 3) 7) j9)) sg9 nn10 dd11 (((outs.getD j9 0))) k9 hL t17 hI.1 e12 e13 hN14 hk29) ⟨(callB_of 1 (tb_one (wd_921 hB _)) tb_good1 rfl rfl rfl (wd_78 hB _) (wd_918 hB _) (by decide +kernel) ⟨Nat.le_of_ble_eq_true rfl, Nat.le_of_ble_eq_true rfl⟩), (wd_919 hB _), (wd_920 hB _)⟩ ⟨pt_bl, pg_recv (ci := 4) hK hP (lo_in hL t17 (by decide)) e12 rfl, pt_pre hTZ hS hB hK hP hD⟩ rfl rfl hl.1 rfl (lv_room (Nat.le_of_ble_eq_true rfl)) d_B_output_41 ⟨Nat.le_of_ble_eq_true rfl, Nat.le_of_ble_eq_true rfl⟩) hS (fun r18 f19 H locs hq20 hP hD hS => ?_)
        obtain ⟨tq_21, rfl⟩ := hq20
        exact pt_iret hx hb hr hlocks hK hP hD hS d_B_output_44 ⟨_, rfl, ⟨⟨⟨j9, by omega, by omega, rfl, hk29⟩, (by rw [nI_clamp (by omega)]; exact tq_21)⟩, rfl⟩⟩
      · skip
        exact pt_throw (own := "BigRunner") (cls := "java/lang/IndexOutOfBoundsException") (text := "no such output or part of it") (names := ["java/lang/RuntimeException", "java/lang/Exception"]) hx hb (hl.1.trans hml.symm) hlocks hno hLt hown (by decide +kernel) (by decide +kernel) hB hTZ (fun U hB hH => ⟨(wd_888 hB _), (wd_889 hB _), (wd_94 hB _), (wd_940 hB _), oa_1 hB hH _⟩) hK hP hD hS d_B_output_21 d_B_output_24 d_B_output_25 d_B_output_27 d_B_output_30 (Nat.le_of_ble_eq_true rfl) (Nat.le_of_ble_eq_true rfl) (Nat.le_of_ble_eq_true rfl) (Nat.le_of_ble_eq_true rfl) ⟨rfl, (ook_k b8), rfl⟩

