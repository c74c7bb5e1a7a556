set_option maxHeartbeats 4000000 in
set_option maxRecDepth 100000 in
theorem v_signum (l : Launch) (g : Lay) (sz : Nat) (f : Nat → va_E) (v : Int64) (hL : LO g) (hI : OC g f) (hm : -9223372036854775808 < v.toInt) : Met l ⟨"java/lang/Long", "signum", "(J)I"⟩ [Cond.code ⟨"java/lang/Long", "signum", "(J)I"⟩ prog_18_method_57_code 2 (some .int)] ({ frames := 0, cells := 0, slots := 0, locals := 0 }) (va_Pc [.long v] (pc_in g sz f)) (va_Qi (fun r f1 => (r = sgI v.toInt) ∧ (f = f1)) (pc_out g sz) (pc_A g sz)) 0 0 (pc_A g sz) := by
  refine pe_ofW (cc := prog_18_method_57_code) (maxL := 2) (ret := (some .int)) (lv := [(0, .long v)]) (by decide) (Nat.le_of_ble_eq_true rfl) rfl ?_
  intro p e s m args below meth c ls hx hb hr hml hlocks hown hB hP hK hD hsz hS hl
  subst hsz
  refine lv_lload_n hx hb d_Long_signum_0 rfl (lv_at hl 0 rfl) ?_
  refine lv_bipush (v := nI 63) hx hb d_Long_signum_1 (by decide) ?_
  refine lv_lshr hx hb d_Long_signum_3 rfl ?_
  refine lv_topl (fun lv1 hlv1 => ?_)
  refine lv_lload_n hx hb d_Long_signum_4 rfl (lv_at hl 0 rfl) ?_
  refine lv_lneg hx hb d_Long_signum_5 ?_
  refine lv_bipush (v := nI 63) hx hb d_Long_signum_6 (by decide) ?_
  refine lv_lushr hx hb d_Long_signum_8 rfl ?_
  refine lv_topl (fun lv2 hlv2 => ?_)
  refine lv_lor hx hb d_Long_signum_9 ?_
  refine lv_topl (fun lv3 hlv3 => ?_)
  refine lv_l2i hx hb d_Long_signum_10 rfl ?_
  exact pe_iret hx hb hr hlocks hK hP hD hS d_Long_signum_11 ⟨(sgm hlv1 hlv2 hlv3 hm), rfl⟩
set_option maxHeartbeats 4000000 in
set_option maxRecDepth 100000 in
theorem v_setTo (l : Launch) (g : Lay) (sz : Nat) (f : Nat → va_E) (x : Nat) (v : Int64) (hL : LO g) (t_x : g.tg x = 5) (hI : IV g f) (hm : -9223372036854775808 < v.toInt) : Met l ⟨"BigRunner$LongNumber", "setTo", "(J)V"⟩ [Cond.code ⟨"BigRunner$LongNumber", "setTo", "(J)V"⟩ prog_5_method_2_code 6 none] ({ frames := 1, cells := 0, slots := 0, locals := 40 }) (va_Pc [.ref x, .long v] (pc_in g sz f)) (va_Qv (fun f1 => (∃ (sg1 : Int32) (n1 : Nat) (h1 : Nat → Int32), f1 x = .inr (4, [.int sg1, .int (nI n1), .ref (g.lk x 2)]) ∧ f1 (g.lk x 2) = .inl (g.ac (g.lk x 2), 15, .inl h1) ∧ LNV sg1 n1 h1 (v.toInt)) ∧ (IV g f1) ∧ (∀ b, b ≠ x → b ≠ (g.lk x 2) → f1 b = f b)) (pc_out g sz) (pc_A g sz)) 0 0 (pc_A g sz) := by
  refine pe_ofW (cc := prog_5_method_2_code) (maxL := 6) (ret := none) (lv := [(0, .ref x), (1, .long v)]) (by decide) (Nat.le_of_ble_eq_true rfl) rfl ?_
  intro p e s m args below meth c ls hx hb hr hml hlocks hown hB hP hK hD hsz hS hl
  subst hsz
  have hu : ∀ b, b ≠ x → b ≠ (g.lk x 2) → f b = f b := fun _ _ _  => rfl
  obtain ⟨sg_2, n_3, e1, c4⟩ := oc_5.of t_x (hI.1 x)
  obtain ⟨h_6, e5, c7⟩ := oc_23.of (lo_k5_2 hL _ t_x) (hI.1 (g.lk x 2))
  have hI8 := IV.ix hI x
  refine lv_lload_n hx hb d_NLongNumber_setTo_0 rfl (lv_at hl 1 rfl) ?_
  refine va_mabs_long hx hb (hml.trans hl.1.symm) hown (wd_681 hB _) (wd_647 hB _) (wd_83 hB _) (wd_648 hB _) (Nat.le_of_ble_eq_true rfl) (Nat.le_of_ble_eq_true rfl) (Nat.le_of_ble_eq_true rfl) (Nat.le_of_ble_eq_true rfl) d_NLongNumber_setTo_1 ?_
  refine lv_topl (fun lv9 hlv9 => ?_)
  refine lv_lstore_n (lv' := [(3, .long lv9), (0, .ref x), (1, .long v)]) hx hb d_NLongNumber_setTo_4 rfl hl (by decide) rfl (fun ls hl => ?_)
  obtain ⟨hka, hq0⟩ := kA_n hm
  obtain ⟨q, hqv⟩ : ∃ q : Nat, q = v.toInt.natAbs := ⟨_, rfl⟩
  rw [← hqv] at hka hq0
  have hl : lv_has ls 6 [(3, .long (nL q)), (0, .ref x), (1, .long v)] := by rw [show lv9 = nL q from hlv9.trans hka] at hl; exact hl
  refine lv_aload_n hx hb d_NLongNumber_setTo_5 rfl (lv_at hl 1 rfl) ?_
  refine lv_lload_n hx hb d_NLongNumber_setTo_6 rfl (lv_at hl 2 rfl) ?_
  refine pcc_i (va_runS (As := [.long v]) (rest := [.ref x]) ⟨hx, hb, hml, hown, tb_nil⟩ (v_signum l g s.heap.size f v hL hI8.1 hm) ⟨(callB_of 1 (tb_one (wd_684 hB _)) tb_good1 rfl rfl rfl (wd_88 hB _) (wd_682 hB _) (by decide +kernel) ⟨Nat.le_of_ble_eq_true rfl, Nat.le_of_ble_eq_true rfl⟩), (wd_683 hB _)⟩ ⟨pe_bl, pe_pre hB hK hP hD⟩ rfl rfl hl.1 rfl (lv_room (Nat.le_of_ble_eq_true rfl)) d_NLongNumber_setTo_7 ⟨Nat.le_of_ble_eq_true rfl, Nat.le_of_ble_eq_true rfl⟩) hS (fun r10 f11 H locs hq12 hP hD hS => ?_)
  obtain ⟨qv_13, rfl⟩ := hq12
  subst qv_13
  refine pf_put (v := .int (sgI v.toInt)) (ty := .int) (fs' := [.int (sgI v.toInt), .int (nI n_3), .ref (g.lk x 2)]) (C := "BigRunner$LongNumber") (T := FT4) (N := 3) hx hb (hw4 hB _) (fun _ h9 => h9) TY4 ok4 nm4 hown hK hP hD hS (lo_in hL t_x (by decide)) e1 rfl 0 (by decide) (wd_186 hB _) rfl (by decide +kernel) rfl rfl (Nat.le_of_ble_eq_true rfl) rfl d_NLongNumber_setTo_10 (fun f14 H locs e15 k16 hP hD hS => ?_)
  have e5 := (k16 (g.lk x 2) (tg_ne (lo_k5_2 hL _ t_x) t_x (by decide))).trans e5
  have hu : ∀ b, b ≠ x → b ≠ (g.lk x 2) → f14 b = f b := fun b q0 q1 => (k16 b q0).trans (hu b q0 q1)
  have hk17 : ∀ b, b ≠ x → f14 b = f b := k16
  refine lv_aload_n hx hb d_NLongNumber_setTo_13 rfl (lv_at hl 1 rfl) ?_
  refine lv_iconst (v := nI 0) hx hb d_NLongNumber_setTo_14 (by decide) ?_
  refine pf_put (v := .int (nI 0)) (ty := .int) (fs' := [.int (sgI v.toInt), .int (nI 0), .ref (g.lk x 2)]) (C := "BigRunner$LongNumber") (T := FT4) (N := 3) hx hb (hw4 hB _) (fun _ h9 => h9) TY4 ok4 nm4 hown hK hP hD hS (lo_in hL t_x (by decide)) e15 rfl 1 (by decide) (wd_190 hB _) rfl (by decide +kernel) rfl rfl (Nat.le_of_ble_eq_true rfl) rfl d_NLongNumber_setTo_15 (fun f18 H locs e19 k20 hP hD hS => ?_)
  have e5 := (k20 (g.lk x 2) (tg_ne (lo_k5_2 hL _ t_x) t_x (by decide))).trans e5
  have hu : ∀ b, b ≠ x → b ≠ (g.lk x 2) → f18 b = f b := fun b q0 q1 => (k20 b q0).trans (hu b q0 q1)
  have hk21 : ∀ b, b ≠ x → f18 b = f b := fun b q0 => (k20 b q0).trans (hk17 b q0)
  refine lv_iconst (v := nI 0) hx hb d_NLongNumber_setTo_18 (by decide) ?_
  refine lv_istore (lv' := [(5, .int (nI 0)), (3, .long (nL q)), (0, .ref x), (1, .long v)]) hx hb d_NLongNumber_setTo_19 hl (by decide) rfl (fun ls hl => ?_)
  have hI22 := ix_5 hI8 hL t_x hk21 (⟨((sgI v.toInt)), 0, e19, (by omega)⟩)
  have lp23 : ∀ (k25 : Nat) (q : Nat) (i : Nat) (h : Nat → Int32) (f24 : Nat → va_E) (H : Heap) (locs : List Loc) (ls : Array Slot), (3 < i + k25) → ((i = 0 ∧ q < 9223372036854775808) ∨ (i = 1 ∧ q < 9223372037) ∨ (i = 2 ∧ q < 10) ∨ (i = 3 ∧ q = 0)) → (∀ i, i < 15 → ∃ k, k < 1000000000 ∧ h i = nI k) → (q = 0 → 0 < i → dg h (i - 1) ≠ 0) → (kv (dg h) i + q * 1000000000 ^ i = v.toInt.natAbs) → f24 x = .inr (4, [.int (sgI v.toInt), .int (nI i), .ref (g.lk x 2)]) → f24 (g.lk x 2) = .inl (g.ac (g.lk x 2), 15, .inl (h)) → IX g x f24 → un [5, 23] g f18 f24 → (∀ b, b ≠ x → b ≠ (g.lk x 2) → f24 b = f b) → lv_has ls 6 [(5, .int (nI i)), (3, .long (nL q)), (0, .ref x), (1, .long v)] → va_P g.D vcl (va_pl g.LP f24) H → va_D (pc_A g s.heap.size) (va_pl g.LP f24) → va_S (pc_A g s.heap.size) s.heap H locs → W p l e ({ frames := 1, cells := 0, slots := 0, locals := 40 }) s m args below meth c H locs 0 0 (MQ below (va_Qv (fun f1 => (∃ (sg1 : Int32) (n1 : Nat) (h1 : Nat → Int32), f1 x = .inr (4, [.int sg1, .int (nI n1), .ref (g.lk x 2)]) ∧ f1 (g.lk x 2) = .inl (g.ac (g.lk x 2), 15, .inl h1) ∧ LNV sg1 n1 h1 (v.toInt)) ∧ (IV g f1) ∧ (∀ b, b ≠ x → b ≠ (g.lk x 2) → f1 b = f b)) (pc_out g s.heap.size) (pc_A g s.heap.size)) args s 0 0 (pc_A g s.heap.size)) (F0 m 21 ls []) := by
    intro k25
    induction k25 with
    | zero => intros; exfalso; omega
    | succ k25 ih26 =>
      intro q i h f24 H locs ls hfu27 hq hc ht he e28 e29 hI30 hv31 hu hl hP hD hS
      refine lv_iload hx hb d_NLongNumber_setTo_21 (lv_at hl 0 rfl) ?_
      refine lv_bipush (v := nI 15) hx hb d_NLongNumber_setTo_23 (by decide) ?_
      refine lv_icmp_ge (tgt := 69) hx hb d_NLongNumber_setTo_25 (by decide) (fun b32 => ?_) (fun b32 => ?_)
      · skip
        replace b32 := (nI_leI (a := 15) (b := i) (by omega) (by omega)).mp b32
        have hI33 := IX.iv hI30 (nr_mk e28 e29 (by omega) (fun q8 => dg_n0 (ht (by omega) q8)))
        exact pe_vret hx hb hr hlocks hK hP hD hS d_NLongNumber_setTo_69 ⟨⟨_, _, _, e28, e29, (st_end hc (by omega) (by omega) he (fun z8 => ht (by omega) z8))⟩, hI33, hu⟩
      · skip
        replace b32 := mt (nI_leI (a := 15) (b := i) (by omega) (by omega)).mpr b32
        refine lv_lload_n hx hb d_NLongNumber_setTo_28 rfl (lv_at hl 1 rfl) ?_
        refine lv_lconst (v := nL 0) hx hb d_NLongNumber_setTo_29 (by decide) ?_
        refine W.lcmp hx hb d_NLongNumber_setTo_30 ?_
        refine lv_if_le (tgt := 69) hx hb d_NLongNumber_setTo_31 (by decide) (fun b34 => ?_) (fun b34 => ?_)
        · skip
          replace b34 := pl_le.mp b34
          replace b34 := (nL_le (a := q) (b := 0) (by omega) (by omega)).mp b34
          have hI35 := IX.iv hI30 (nr_mk e28 e29 (by omega) (fun q8 => dg_n0 (ht (by omega) q8)))
          exact pe_vret hx hb hr hlocks hK hP hD hS d_NLongNumber_setTo_69 ⟨⟨_, _, _, e28, e29, (st_end hc (by omega) (by omega) he (fun z8 => ht (by omega) z8))⟩, hI35, hu⟩
        · skip
          replace b34 := mt pl_le.mpr b34
          replace b34 := mt (nL_le (a := q) (b := 0) (by omega) (by omega)).mpr b34
          refine lv_aload_n hx hb d_NLongNumber_setTo_34 rfl (lv_at hl 2 rfl) ?_
          refine pf_get (v := .ref (g.lk x 2)) (C := "BigRunner$LongNumber") (T := FT4) (N := 3) hx hb (hw4 hB _) (fun _ h9 => h9) hown hK hP (lo_in hL t_x (by decide)) e28 rfl 2 (by decide) (wd_192 hB _) rfl d_NLongNumber_setTo_35 ?_
          refine lv_iload hx hb d_NLongNumber_setTo_38 (lv_at hl 0 rfl) ?_
          refine lv_lload_n hx hb d_NLongNumber_setTo_40 rfl (lv_at hl 1 rfl) ?_
          refine lv_ldc2 (v := 1000000000) hx hb hown (wd_685 hB _) d_NLongNumber_setTo_41 ?_
          refine lv_topl (fun z_ hz_ => ?_)
          obtain rfl : z_ = nL 1000000000 := hz_
          refine pf_lremN (x := q) (y := 1000000000) hx hb (by omega) (by omega) (by omega) d_NLongNumber_setTo_44 ?_
          refine pf_l2iN hx hb d_NLongNumber_setTo_45 ?_
          refine pf_iast (i := i) hx hb hK hP hD hS (lo_in hL (lo_k5_2 hL _ t_x) (by decide)) e29 (lo_t23 hL _ (lo_k5_2 hL _ t_x)) (by omega) (by decide) d_NLongNumber_setTo_46 (fun f36 H locs e37 k38 hP hD hS => ?_)
          have e28 := (k38 x (tg_ne t_x (lo_k5_2 hL _ t_x) (by decide))).trans e28
          have hu : ∀ b, b ≠ x → b ≠ (g.lk x 2) → f36 b = f b := fun b q0 q1 => (k38 b q1).trans (hu b q0 q1)
          have hv31 := hv31.st k38 (lo_k5_2 hL _ t_x) (by decide)
          have hk39 : ∀ b, b ≠ (g.lk x 2) → f36 b = f24 b := k38
          have c40 := lb_upd (n := 15) (i := i) (v := q % 1000000000) hc (by omega)
          refine lv_lload_n hx hb d_NLongNumber_setTo_47 rfl (lv_at hl 1 rfl) ?_
          refine lv_ldc2 (v := 1000000000) hx hb hown (wd_685 hB _) d_NLongNumber_setTo_48 ?_
          refine lv_topl (fun z_ hz_ => ?_)
          obtain rfl : z_ = nL 1000000000 := hz_
          refine pf_ldivN (x := q) (y := 1000000000) hx hb (by omega) (by omega) (by omega) d_NLongNumber_setTo_51 ?_
          refine lv_lstore_n (lv' := [(3, .long (nL (q / 1000000000))), (5, .int (nI i)), (0, .ref x), (1, .long v)]) hx hb d_NLongNumber_setTo_52 rfl hl (by decide) rfl (fun ls hl => ?_)
          refine lv_aload_n hx hb d_NLongNumber_setTo_53 rfl (lv_at hl 2 rfl) ?_
          refine lv_dup hx hb d_NLongNumber_setTo_54 rfl ?_
          refine pf_get (v := .int (nI i)) (C := "BigRunner$LongNumber") (T := FT4) (N := 3) hx hb (hw4 hB _) (fun _ h9 => h9) hown hK hP (lo_in hL t_x (by decide)) e28 rfl 1 (by decide) (wd_190 hB _) rfl d_NLongNumber_setTo_55 ?_
          refine lv_iconst (v := nI 1) hx hb d_NLongNumber_setTo_58 (by decide) ?_
          refine pf_iaddN (x := i) (y := 1) hx hb d_NLongNumber_setTo_59 ?_
          have hI41 := ix_23 hI30 hL t_x hk39 (⟨_, e37, c40⟩)
          refine pf_put (v := .int (nI (i + 1))) (ty := .int) (fs' := [.int (sgI v.toInt), .int (nI (i + 1)), .ref (g.lk x 2)]) (C := "BigRunner$LongNumber") (T := FT4) (N := 3) hx hb (hw4 hB _) (fun _ h9 => h9) TY4 ok4 nm4 hown hK hP hD hS (lo_in hL t_x (by decide)) e28 rfl 1 (by decide) (wd_190 hB _) rfl (by decide +kernel) rfl rfl (Nat.le_of_ble_eq_true rfl) rfl d_NLongNumber_setTo_60 (fun f42 H locs e43 k44 hP hD hS => ?_)
          have e37 := (k44 (g.lk x 2) (tg_ne (lo_k5_2 hL _ t_x) t_x (by decide))).trans e37
          have hu : ∀ b, b ≠ x → b ≠ (g.lk x 2) → f42 b = f b := fun b q0 q1 => (k44 b q0).trans (hu b q0 q1)
          have hv31 := hv31.st k44 t_x (by decide)
          have hk45 : ∀ b, b ≠ x → f42 b = f36 b := k44
          refine lv_iinc (k := 1) (v := nI (i + 1)) (lv' := [(5, .int (nI (i + 1))), (3, .long (nL (q / 1000000000))), (0, .ref x), (1, .long v)]) hx hb d_NLongNumber_setTo_63 hl rfl (by rw [nI_succ]; rfl) (by decide) rfl (fun ls hl => ?_)
          refine lv_goto (tgt := 21) hx hb d_NLongNumber_setTo_66 (by decide) ?_
          have hI46 := ix_5 hI41 hL t_x hk45 (⟨((sgI v.toInt)), (i + 1), e43, (by omega)⟩)
          exact ih26 (q / 1000000000) (i + 1) (upd h i ((nI (q % 1000000000)))) f42 H locs ls (by omega) (by omega) c40 (fun z1 _ => by rw [Nat.add_sub_cancel, dg_at (by omega)]; omega) (st_step he) e43 e37 hI46 hv31 hu hl hP hD hS
  exact lp23 4 q 0 h_6 f18 H locs ls (by omega) (Or.inl ⟨rfl, hq0⟩) c7 (fun _ z => absurd z (by omega)) (by rw [hqv]; simp [kv]) e19 e5 hI22 un.rf hu hl hP hD hS
set_option maxHeartbeats 4000000 in
set_option maxRecDepth 100000 in
theorem v_toMachine (l : Launch) (g : Lay) (sz : Nat) (f : Nat → va_E) (x : Nat) (sgx : Int32) (nx : Nat) (dx : Nat → Int32) (vx : Int) (hL : LO g) (t_x : g.tg x = 5) (hI : OC g f) (eax : f x = .inr (4, [.int sgx, .int (nI nx), .ref (g.lk x 2)])) (ebx : f (g.lk x 2) = .inl (g.ac (g.lk x 2), 15, .inl dx)) (hNx : LNV sgx nx dx vx) (hb9 : vx.natAbs ≤ 1152921504606846976) : Met l ⟨"BigRunner$LongNumber", "toMachine", "()J"⟩ [Cond.code ⟨"BigRunner$LongNumber", "toMachine", "()J"⟩ prog_5_method_4_code 4 (some .long)] ({ frames := 0, cells := 0, slots := 0, locals := 0 }) (va_Pc [.ref x] (pc_in g sz f)) (va_Ql (fun r f1 => (r.toInt = vx) ∧ (f = f1)) (pc_out g sz) (pc_A g sz)) 0 0 (pc_A g sz) := by
  refine pe_ofW (cc := prog_5_method_4_code) (maxL := 4) (ret := (some .long)) (lv := [(0, .ref x)]) (by decide) (Nat.le_of_ble_eq_true rfl) rfl ?_
  intro p e s m args below meth c ls hx hb hr hml hlocks hown hB hP hK hD hsz hS hl
  subst hsz
  have cbx : ∀ i, i < 15 → ∃ k, k < 1000000000 ∧ dx i = nI k := hNx.2.1
  have hnx : nx ≤ 15 := hNx.1
  refine lv_lconst (v := nL 0) hx hb d_NLongNumber_toMachine_0 (by decide) ?_
  refine lv_lstore_n (lv' := [(1, .long (nL 0)), (0, .ref x)]) hx hb d_NLongNumber_toMachine_1 rfl hl (by decide) rfl (fun ls hl => ?_)
  refine lv_aload_n hx hb d_NLongNumber_toMachine_2 rfl (lv_at hl 1 rfl) ?_
  refine pf_get (v := .int (nI nx)) (C := "BigRunner$LongNumber") (T := FT4) (N := 3) hx hb (hw4 hB _) (fun _ h9 => h9) hown hK hP (lo_in hL t_x (by decide)) eax rfl 1 (by decide) (wd_190 hB _) rfl d_NLongNumber_toMachine_3 ?_
  refine lv_iconst (v := nI 1) hx hb d_NLongNumber_toMachine_6 (by decide) ?_
  refine lv_isub hx hb d_NLongNumber_toMachine_7 ?_
  refine lv_istore_n (lv' := [(3, .int (nI nx - nI 1)), (1, .long (nL 0)), (0, .ref x)]) hx hb d_NLongNumber_toMachine_8 rfl hl (by decide) rfl (fun ls hl => ?_)
  have lp1 : ∀ (k3 : Nat) (q : Nat) (j : Nat) (H : Heap) (locs : List Loc) (ls : Array Slot), (j < k3) → (j ≤ nx) → (q * 1000000000 ^ j + kv (dg dx) j = vx.natAbs) → lv_has ls 4 [(3, .int (nI j - nI 1)), (1, .long (nL q)), (0, .ref x)] → va_P g.D vcl (va_pl g.LP f) H → va_D (pc_A g s.heap.size) (va_pl g.LP f) → va_S (pc_A g s.heap.size) s.heap H locs → W p l e ({ frames := 0, cells := 0, slots := 0, locals := 0 }) s m args below meth c H locs 0 0 (MQ below (va_Ql (fun r f1 => (r.toInt = vx) ∧ (f = f1)) (pc_out g s.heap.size) (pc_A g s.heap.size)) args s 0 0 (pc_A g s.heap.size)) (F0 m 9 ls []) := by
    intro k3
    induction k3 with
    | zero => intros; exfalso; omega
    | succ k3 ih4 =>
      intro q j H locs ls hfu5 hj he hl hP hD hS
      cases j with
      | zero =>
        have hl : lv_has ls 4 [(3, .int (-1)), (1, .long (nL q)), (0, .ref x)] := by rw [show nI 0 - nI 1 = (-1 : Int32) by decide] at hl; exact hl
        refine lv_iload_n hx hb d_NLongNumber_toMachine_9 rfl (lv_at hl 0 rfl) ?_
        refine lv_if_lt (tgt := 33) hx hb d_NLongNumber_toMachine_10 (by decide) (fun b8 => ?_) (fun b8 => ?_)
        · skip
          refine lv_aload_n hx hb d_NLongNumber_toMachine_33 rfl (lv_at hl 2 rfl) ?_
          refine pf_get (v := .int sgx) (C := "BigRunner$LongNumber") (T := FT4) (N := 3) hx hb (hw4 hB _) (fun _ h9 => h9) hown hK hP (lo_in hL t_x (by decide)) eax rfl 0 (by decide) (wd_186 hB _) rfl d_NLongNumber_toMachine_34 ?_
          refine lv_if_ge (tgt := 45) hx hb d_NLongNumber_toMachine_37 (by decide) (fun b9 => ?_) (fun b9 => ?_)
          · skip
            refine lv_lload_n hx hb d_NLongNumber_toMachine_45 rfl (lv_at hl 1 rfl) ?_
            exact pe_lret hx hb hr hlocks hK hP hD hS d_NLongNumber_toMachine_46 ⟨((tm_end hNx hb9 he).2 (by first | assumption | exact Int32.not_le.mp (by assumption) | exact Int32.not_lt.mpr (by assumption))), rfl⟩
          · skip
            refine lv_lload_n hx hb d_NLongNumber_toMachine_40 rfl (lv_at hl 1 rfl) ?_
            refine lv_lneg hx hb d_NLongNumber_toMachine_41 ?_
            refine lv_goto (tgt := 46) hx hb d_NLongNumber_toMachine_42 (by decide) ?_
            exact pe_lret hx hb hr hlocks hK hP hD hS d_NLongNumber_toMachine_46 ⟨((tm_end hNx hb9 he).1 (by first | assumption | exact Int32.not_le.mp (by assumption) | exact Int32.not_lt.mpr (by assumption))), rfl⟩
        · skip
          exact absurd (by decide) b8
      | succ j =>
        have hl : lv_has ls 4 [(3, .int (nI j)), (1, .long (nL q)), (0, .ref x)] := by rw [nI_pr1] at hl; exact hl
        have hqle := tm_le he
        have he1 := tm_step he
        have hqle1 := tm_le he1
        refine lv_iload_n hx hb d_NLongNumber_toMachine_9 rfl (lv_at hl 0 rfl) ?_
        refine lv_if_lt (tgt := 33) hx hb d_NLongNumber_toMachine_10 (by decide) (fun b10 => ?_) (fun b10 => ?_)
        · skip
          replace b10 := (nI_ltI (a := j) (b := 0) (by omega) (by omega)).mp b10
          exfalso; omega
        · skip
          replace b10 := mt (nI_ltI (a := j) (b := 0) (by omega) (by omega)).mpr b10
          refine lv_lload_n hx hb d_NLongNumber_toMachine_13 rfl (lv_at hl 1 rfl) ?_
          refine lv_ldc2 (v := 1000000000) hx hb hown (wd_685 hB _) d_NLongNumber_toMachine_14 ?_
          refine lv_topl (fun z_ hz_ => ?_)
          obtain rfl : z_ = nL 1000000000 := hz_
          refine pf_lmulN (x := q) (y := 1000000000) hx hb d_NLongNumber_toMachine_17 ?_
          refine lv_aload_n hx hb d_NLongNumber_toMachine_18 rfl (lv_at hl 2 rfl) ?_
          refine pf_get (v := .ref (g.lk x 2)) (C := "BigRunner$LongNumber") (T := FT4) (N := 3) hx hb (hw4 hB _) (fun _ h9 => h9) hown hK hP (lo_in hL t_x (by decide)) eax rfl 2 (by decide) (wd_192 hB _) rfl d_NLongNumber_toMachine_19 ?_
          refine lv_iload_n hx hb d_NLongNumber_toMachine_22 rfl (lv_at hl 0 rfl) ?_
          refine pf_iald (i := j) hx hb hK hP (lo_in hL (lo_k5_2 hL _ t_x) (by decide)) ebx (lo_t23 hL _ (lo_k5_2 hL _ t_x)) (by omega) (by decide) d_NLongNumber_toMachine_23 ?_
          have hd11 := dg_lt cbx (j := j) (by omega)
          refine lv_topi (fun z_ hz_ => ?_)
          obtain rfl : z_ = nI (dg dx j) := hz_.trans (dg_eq cbx (by omega))
          refine pf_i2lN hx hb (by omega) d_NLongNumber_toMachine_24 ?_
          refine pf_laddN (x := q * 1000000000) (y := dg dx j) hx hb d_NLongNumber_toMachine_25 ?_
          refine lv_lstore_n (lv' := [(1, .long (nL ((q * 1000000000) + (dg dx j)))), (3, .int (nI j)), (0, .ref x)]) hx hb d_NLongNumber_toMachine_26 rfl hl (by decide) rfl (fun ls hl => ?_)
          refine lv_iinc (k := 1) (v := nI j - nI 1) (lv' := [(3, .int (nI j - nI 1)), (1, .long (nL ((q * 1000000000) + (dg dx j)))), (0, .ref x)]) hx hb d_NLongNumber_toMachine_27 hl rfl (by rw [Int32.sub_eq_add_neg]; rfl) (by decide) rfl (fun ls hl => ?_)
          refine lv_goto (tgt := 9) hx hb d_NLongNumber_toMachine_30 (by decide) ?_
          exact ih4 ((q * 1000000000) + (dg dx j)) j H locs ls (by omega) (by omega) he1 hl hP hD hS
  exact lp1 (nx + 1) 0 nx s.heap [] ls (by omega) (by omega) (by rw [LNV_abs hNx]; omega) hl hP hD hS
set_option maxHeartbeats 4000000 in
set_option maxRecDepth 100000 in
theorem v_fill (l : Launch) (g : Lay) (sz : Nat) (f : Nat → va_E) (x : Nat) (hL : LO g) (t_x : g.tg x = 5) (hI : IX g x f) : Met l ⟨"java/util/Arrays", "fill", "([II)V"⟩ [Cond.code ⟨"java/util/Arrays", "fill", "([II)V"⟩ prog_25_method_103_code 4 none] ({ frames := 0, cells := 0, slots := 0, locals := 0 }) (va_Pc [.ref (g.lk x 2), .int (nI 0)] (pc_in g sz f)) (va_Qv (fun f1 => (∃ h1 : Nat → Int32, f1 (g.lk x 2) = .inl (g.ac (g.lk x 2), 15, .inl h1) ∧ (∀ i, i < 15 → ∃ k, k < 1000000000 ∧ h1 i = nI k) ∧ ∀ k, k < 15 → dg h1 k = 0) ∧ (IX g x f1) ∧ (∀ b, b ≠ (g.lk x 2) → f1 b = f b)) (pc_out g sz) (pc_A g sz)) 0 0 (pc_A g sz) := by
  refine pe_ofW (cc := prog_25_method_103_code) (maxL := 4) (ret := none) (lv := [(0, .ref (g.lk x 2)), (1, .int (nI 0))]) (by decide) (Nat.le_of_ble_eq_true rfl) rfl ?_
  intro p e s m args below meth c ls hx hb hr hml hlocks hown hB hP hK hD hsz hS hl
  subst hsz
  have hu : ∀ b, b ≠ (g.lk x 2) → f b = f b := fun _ _ => rfl
  obtain ⟨h_2, e1, c3⟩ := oc_23.of (lo_k5_2 hL _ t_x) (hI.1 (g.lk x 2))
  refine lv_iconst (v := nI 0) hx hb d_javautilArrays_fill_0 (by decide) ?_
  refine lv_istore_n (lv' := [(2, .int (nI 0)), (0, .ref (g.lk x 2)), (1, .int (nI 0))]) hx hb d_javautilArrays_fill_1 rfl hl (by decide) rfl (fun ls hl => ?_)
  refine lv_aload_n hx hb d_javautilArrays_fill_2 rfl (lv_at hl 1 rfl) ?_
  refine pf_alen (n := 15) hx hb hK hP (lo_in hL (lo_k5_2 hL _ t_x) (by decide)) e1 rfl (lo_t23 hL _ (lo_k5_2 hL _ t_x)) d_javautilArrays_fill_3 ?_
  refine lv_istore_n (lv' := [(3, .int (nI 15)), (2, .int (nI 0)), (0, .ref (g.lk x 2)), (1, .int (nI 0))]) hx hb d_javautilArrays_fill_4 rfl hl (by decide) rfl (fun ls hl => ?_)
  have lp4 : ∀ (k6 : Nat) (i : Nat) (h : Nat → Int32) (f5 : Nat → va_E) (H : Heap) (locs : List Loc) (ls : Array Slot), (15 < i + k6) → (i ≤ 15) → (∀ i, i < 15 → ∃ k, k < 1000000000 ∧ h i = nI k) → (∀ k, k < i → dg h k = 0) → f5 (g.lk x 2) = .inl (g.ac (g.lk x 2), 15, .inl (h)) → IX g x f5 → un [23] g f f5 → (∀ b, b ≠ (g.lk x 2) → f5 b = f b) → lv_has ls 4 [(3, .int (nI 15)), (2, .int (nI i)), (0, .ref (g.lk x 2)), (1, .int (nI 0))] → va_P g.D vcl (va_pl g.LP f5) H → va_D (pc_A g s.heap.size) (va_pl g.LP f5) → va_S (pc_A g s.heap.size) s.heap H locs → W p l e ({ frames := 0, cells := 0, slots := 0, locals := 0 }) s m args below meth c H locs 0 0 (MQ below (va_Qv (fun f1 => (∃ h1 : Nat → Int32, f1 (g.lk x 2) = .inl (g.ac (g.lk x 2), 15, .inl h1) ∧ (∀ i, i < 15 → ∃ k, k < 1000000000 ∧ h1 i = nI k) ∧ ∀ k, k < 15 → dg h1 k = 0) ∧ (IX g x f1) ∧ (∀ b, b ≠ (g.lk x 2) → f1 b = f b)) (pc_out g s.heap.size) (pc_A g s.heap.size)) args s 0 0 (pc_A g s.heap.size)) (F0 m 5 ls []) := by
    intro k6
    induction k6 with
    | zero => intros; exfalso; omega
    | succ k6 ih7 =>
      intro i h f5 H locs ls hfu8 hi hc hz e9 hI10 hv11 hu hl hP hD hS
      refine lv_iload_n hx hb d_javautilArrays_fill_5 rfl (lv_at hl 1 rfl) ?_
      refine lv_iload_n hx hb d_javautilArrays_fill_6 rfl (lv_at hl 0 rfl) ?_
      refine lv_icmp_ge (tgt := 20) hx hb d_javautilArrays_fill_7 (by decide) (fun b12 => ?_) (fun b12 => ?_)
      · skip
        replace b12 := (nI_leI (a := 15) (b := i) (by omega) (by omega)).mp b12
        exact pe_vret hx hb hr hlocks hK hP hD hS d_javautilArrays_fill_20 ⟨⟨_, e9, hc, fun k hk => hz k (by omega)⟩, hI10, hu⟩
      · skip
        replace b12 := mt (nI_leI (a := 15) (b := i) (by omega) (by omega)).mpr b12
        refine lv_aload_n hx hb d_javautilArrays_fill_10 rfl (lv_at hl 2 rfl) ?_
        refine lv_iload_n hx hb d_javautilArrays_fill_11 rfl (lv_at hl 1 rfl) ?_
        refine lv_iload_n hx hb d_javautilArrays_fill_12 rfl (lv_at hl 3 rfl) ?_
        refine pf_iast (i := i) hx hb hK hP hD hS (lo_in hL (lo_k5_2 hL _ t_x) (by decide)) e9 (lo_t23 hL _ (lo_k5_2 hL _ t_x)) (by omega) (by decide) d_javautilArrays_fill_13 (fun f13 H locs e14 k15 hP hD hS => ?_)
        have hu : ∀ b, b ≠ (g.lk x 2) → f13 b = f b := fun b q0 => (k15 b q0).trans (hu b q0)
        have hv11 := hv11.st k15 (lo_k5_2 hL _ t_x) (by decide)
        have hk16 : ∀ b, b ≠ (g.lk x 2) → f13 b = f5 b := k15
        have c17 := lb_upd (n := 15) (i := i) (v := 0) hc (by omega)
        refine lv_iinc (k := 1) (v := nI (i + 1)) (lv' := [(2, .int (nI (i + 1))), (3, .int (nI 15)), (0, .ref (g.lk x 2)), (1, .int (nI 0))]) hx hb d_javautilArrays_fill_14 hl rfl (by rw [nI_succ]; rfl) (by decide) rfl (fun ls hl => ?_)
        refine lv_goto (tgt := 5) hx hb d_javautilArrays_fill_17 (by decide) ?_
        have hI18 := ix_23 hI10 hL t_x hk16 (⟨_, e14, c17⟩)
        have hl : lv_has ls 4 [(3, .int (nI 15)), (2, .int (nI (i + 1))), (0, .ref (g.lk x 2)), (1, .int (nI 0))] := lv_sub hl [1, 0, 2, 3] rfl
        exact ih7 (i + 1) (upd h i ((nI 0))) f13 H locs ls (by omega) (by omega) c17 (fun k hk => by rcases Nat.lt_or_ge k i with q3 | q3; rw [dg_ne (by omega)]; exact hz k q3; obtain rfl : k = i := (by omega); exact dg_at (by decide)) e14 hI18 hv11 hu hl hP hD hS
  exact lp4 16 0 h_2 f s.heap [] ls (by omega) (by omega) c3 (fun k hk => absurd hk (by omega)) e1 hI un.rf hu hl hP hD hS
set_option maxHeartbeats 4000000 in
set_option maxRecDepth 100000 in
theorem v_setProduct (l : Launch) (g : Lay) (sz : Nat) (f : Nat → va_E) (x : Nat) (y : Nat) (sgy : Int32) (ny : Nat) (dy : Nat → Int32) (vy : Int) (z : Nat) (sgz : Int32) (nz : Nat) (dz : Nat → Int32) (vz : Int) (hL : LO g) (t_x : g.tg x = 5) (t_y : g.tg y = 5) (t_z : g.tg z = 5) (hI : IV g f) (eay : f y = .inr (4, [.int sgy, .int (nI ny), .ref (g.lk y 2)])) (eby : f (g.lk y 2) = .inl (g.ac (g.lk y 2), 15, .inl dy)) (hNy : LNF sgy ny dy vy) (eaz : f z = .inr (4, [.int sgz, .int (nI nz), .ref (g.lk z 2)])) (ebz : f (g.lk z 2) = .inl (g.ac (g.lk z 2), 15, .inl dz)) (hNz : LNF sgz nz dz vz) (h1 : y ≠ x) (h2 : z ≠ x) : Met l ⟨"BigRunner$LongNumber", "setProduct", "(LBigRunner$LongNumber;LBigRunner$LongNumber;)Z"⟩ [Cond.code ⟨"BigRunner$LongNumber", "setProduct", "(LBigRunner$LongNumber;LBigRunner$LongNumber;)Z"⟩ prog_5_method_10_code 10 (some .boolean)] ({ frames := 2, cells := 0, slots := 0, locals := 62 }) (va_Pc [.ref x, .ref y, .ref z] (pc_in g sz f)) (va_Qi (fun r f1 => (r = nI 0 ∨ r = nI 1) ∧ (r = nI 1 → LVF g f1 x (vy * vz)) ∧ (r = nI 0 → T12 ≤ (vy * vz).natAbs) ∧ (IV g f1) ∧ (∀ b, b ≠ x → b ≠ (g.lk x 2) → f1 b = f b)) (pc_out g sz) (pc_A g sz)) 0 0 (pc_A g sz) := by
  refine pe_ofW (cc := prog_5_method_10_code) (maxL := 10) (ret := (some .boolean)) (lv := [(0, .ref x), (1, .ref y), (2, .ref z)]) (by decide) (Nat.le_of_ble_eq_true rfl) rfl ?_
  intro p e s m args below meth c ls hx hb hr hml hlocks hown hB hP hK hD hsz hS hl
  subst hsz
  have hu : ∀ b, b ≠ x → b ≠ (g.lk x 2) → f b = f b := fun _ _ _  => rfl
  have cby : ∀ i, i < 15 → ∃ k, k < 1000000000 ∧ dy i = nI k := hNy.1.2.1
  have hny : ny ≤ 15 := hNy.1.1
  have hfy : ny ≤ 14 := LNF_14 hNy
  have cbz : ∀ i, i < 15 → ∃ k, k < 1000000000 ∧ dz i = nI k := hNz.1.2.1
  have hnz : nz ≤ 15 := hNz.1.1
  have hfz : nz ≤ 14 := LNF_14 hNz
  refine lv_aload_n hx hb d_NLongNumber_setProduct_0 rfl (lv_at hl 1 rfl) ?_
  refine pf_get (v := .int (nI ny)) (C := "BigRunner$LongNumber") (T := FT4) (N := 3) hx hb (hw4 hB _) (fun _ h9 => h9) hown hK hP (lo_in hL t_y (by decide)) eay rfl 1 (by decide) (wd_190 hB _) rfl d_NLongNumber_setProduct_1 ?_
  refine lv_aload_n hx hb d_NLongNumber_setProduct_4 rfl (lv_at hl 2 rfl) ?_
  refine pf_get (v := .int (nI nz)) (C := "BigRunner$LongNumber") (T := FT4) (N := 3) hx hb (hw4 hB _) (fun _ h9 => h9) hown hK hP (lo_in hL t_z (by decide)) eaz rfl 1 (by decide) (wd_190 hB _) rfl d_NLongNumber_setProduct_5 ?_
  refine pf_iaddN (x := ny) (y := nz) hx hb d_NLongNumber_setProduct_8 ?_
  refine lv_istore_n (lv' := [(3, .int (nI (ny + nz))), (0, .ref x), (1, .ref y), (2, .ref z)]) hx hb d_NLongNumber_setProduct_9 rfl hl (by decide) rfl (fun ls hl => ?_)
  refine lv_iload_n hx hb d_NLongNumber_setProduct_10 rfl (lv_at hl 0 rfl) ?_
  refine lv_bipush (v := nI 15) hx hb d_NLongNumber_setProduct_11 (by decide) ?_
  refine lv_icmp_le (tgt := 18) hx hb d_NLongNumber_setProduct_13 (by decide) (fun b1 => ?_) (fun b1 => ?_)
  · skip
    replace b1 := (nI_leI (a := ny + nz) (b := 15) (by omega) (by omega)).mp b1
    obtain ⟨sg_3, n_4, e2, c5⟩ := oc_5.of t_x (hI.1 x)
    obtain ⟨h_7, e6, c8⟩ := oc_23.of (lo_k5_2 hL _ t_x) (hI.1 (g.lk x 2))
    have hI9 := IV.ix hI x
    refine lv_aload_n hx hb d_NLongNumber_setProduct_18 rfl (lv_at hl 1 rfl) ?_
    refine pf_get (v := .ref (g.lk x 2)) (C := "BigRunner$LongNumber") (T := FT4) (N := 3) hx hb (hw4 hB _) (fun _ h9 => h9) hown hK hP (lo_in hL t_x (by decide)) e2 rfl 2 (by decide) (wd_192 hB _) rfl d_NLongNumber_setProduct_19 ?_
    refine lv_iconst (v := nI 0) hx hb d_NLongNumber_setProduct_22 (by decide) ?_
    refine pcc_v (va_runS (As := [.ref (g.lk x 2), .int (nI 0)]) (rest := []) ⟨hx, hb, hml, hown, tb_nil⟩ (v_fill l g s.heap.size f x hL t_x hI9) ⟨(callB_of 2 (tb_one (wd_802 hB _)) tb_good1 rfl rfl rfl (wd_91 hB _) (wd_800 hB _) (by decide +kernel) ⟨Nat.le_of_ble_eq_true rfl, Nat.le_of_ble_eq_true rfl⟩), (wd_801 hB _)⟩ ⟨pe_bl, pe_pre hB hK hP hD⟩ rfl rfl hl.1 rfl (lv_room (Nat.le_of_ble_eq_true rfl)) d_NLongNumber_setProduct_23 ⟨Nat.le_of_ble_eq_true rfl, Nat.le_of_ble_eq_true rfl⟩) hS (fun f11 H locs hq12 hP hD hS => ?_)
    obtain ⟨fl_13, hI1_14, hk1_15⟩ := hq12
    have hu : ∀ b, b ≠ x → b ≠ (g.lk x 2) → f11 b = f b := fun b q0 q1 => (hk1_15 b q1).trans (hu b q0 q1)
    have eay := (hk1_15 y (tg_ne t_y (lo_k5_2 hL _ t_x) (by decide))).trans eay
    have eby := (hk1_15 (g.lk y 2) (fun q9 => h1 (lo_inj5 hL _ _ t_y t_x q9))).trans eby
    have eaz := (hk1_15 z (tg_ne t_z (lo_k5_2 hL _ t_x) (by decide))).trans eaz
    have ebz := (hk1_15 (g.lk z 2) (fun q9 => h2 (lo_inj5 hL _ _ t_z t_x q9))).trans ebz
    have e2 := (hk1_15 x (tg_ne t_x (lo_k5_2 hL _ t_x) (by decide))).trans e2
    obtain ⟨dd16, e17, c18, hz19⟩ := fl_13
    refine lv_iconst (v := nI 0) hx hb d_NLongNumber_setProduct_26 (by decide) ?_
    refine lv_istore (lv' := [(4, .int (nI 0)), (3, .int (nI (ny + nz))), (0, .ref x), (1, .ref y), (2, .ref z)]) hx hb d_NLongNumber_setProduct_27 hl (by decide) rfl (fun ls hl => ?_)
    have lp20 : ∀ (k22 : Nat) (i : Nat) (h : Nat → Int32) (f21 : Nat → va_E) (H : Heap) (locs : List Loc) (ls : Array Slot), (ny < i + k22) → (i ≤ ny) → (∀ i, i < 15 → ∃ k, k < 1000000000 ∧ h i = nI k) → (kv (dg h) (i + nz) = kv (dg dy) i * kv (dg dz) nz) → f21 (g.lk x 2) = .inl (g.ac (g.lk x 2), 15, .inl (h)) → f21 (g.lk y 2) = .inl (g.ac (g.lk y 2), 15, .inl (dy)) → f21 (g.lk z 2) = .inl (g.ac (g.lk z 2), 15, .inl (dz)) → IX g x f21 → un [23] g f11 f21 → (∀ b, b ≠ x → b ≠ (g.lk x 2) → f21 b = f b) → lv_has ls 10 [(4, .int (nI i)), (3, .int (nI (ny + nz))), (0, .ref x), (1, .ref y), (2, .ref z)] → va_P g.D vcl (va_pl g.LP f21) H → va_D (pc_A g s.heap.size) (va_pl g.LP f21) → va_S (pc_A g s.heap.size) s.heap H locs → W p l e ({ frames := 2, cells := 0, slots := 0, locals := 62 }) s m args below meth c H locs 0 0 (MQ below (va_Qi (fun r f1 => (r = nI 0 ∨ r = nI 1) ∧ (r = nI 1 → LVF g f1 x (vy * vz)) ∧ (r = nI 0 → T12 ≤ (vy * vz).natAbs) ∧ (IV g f1) ∧ (∀ b, b ≠ x → b ≠ (g.lk x 2) → f1 b = f b)) (pc_out g s.heap.size) (pc_A g s.heap.size)) args s 0 0 (pc_A g s.heap.size)) (F0 m 29 ls []) := by
      intro k22
      induction k22 with
      | zero => intros; exfalso; omega
      | succ k22 ih23 =>
        intro i h f21 H locs ls hfu24 hi hc he e25 e26 e27 hI28 hv29 hu hl hP hD hS
        have eay := hv29.at t_y (by decide) eay
        have eaz := hv29.at t_z (by decide) eaz
        have e2 := hv29.at t_x (by decide) e2
        refine lv_iload hx hb d_NLongNumber_setProduct_29 (lv_at hl 0 rfl) ?_
        refine lv_aload_n hx hb d_NLongNumber_setProduct_31 rfl (lv_at hl 3 rfl) ?_
        refine pf_get (v := .int (nI ny)) (C := "BigRunner$LongNumber") (T := FT4) (N := 3) hx hb (hw4 hB _) (fun _ h9 => h9) hown hK hP (lo_in hL t_y (by decide)) eay rfl 1 (by decide) (wd_190 hB _) rfl d_NLongNumber_setProduct_32 ?_
        refine lv_icmp_ge (tgt := 143) hx hb d_NLongNumber_setProduct_35 (by decide) (fun b30 => ?_) (fun b30 => ?_)
        · skip
          replace b30 := (nI_leI (a := ny) (b := i) (by omega) (by omega)).mp b30
          refine lv_aload_n hx hb d_NLongNumber_setProduct_143 rfl (lv_at hl 2 rfl) ?_
          refine lv_iload_n hx hb d_NLongNumber_setProduct_144 rfl (lv_at hl 1 rfl) ?_
          refine lv_aload_n hx hb d_NLongNumber_setProduct_145 rfl (lv_at hl 3 rfl) ?_
          refine pf_get (v := .int sgy) (C := "BigRunner$LongNumber") (T := FT4) (N := 3) hx hb (hw4 hB _) (fun _ h9 => h9) hown hK hP (lo_in hL t_y (by decide)) eay rfl 0 (by decide) (wd_186 hB _) rfl d_NLongNumber_setProduct_146 ?_
          refine lv_aload_n hx hb d_NLongNumber_setProduct_149 rfl (lv_at hl 4 rfl) ?_
          refine pf_get (v := .int sgz) (C := "BigRunner$LongNumber") (T := FT4) (N := 3) hx hb (hw4 hB _) (fun _ h9 => h9) hown hK hP (lo_in hL t_z (by decide)) eaz rfl 0 (by decide) (wd_186 hB _) rfl d_NLongNumber_setProduct_150 ?_
          refine lv_imul hx hb d_NLongNumber_setProduct_153 ?_
          refine pcc_v (va_runV (C := "BigRunner$LongNumber") (As := [.int (nI (ny + nz)), .int (sgy * sgz)]) (rest := []) ⟨hx, hb, hml, hown, tb_nil⟩ (v_finish l g H.size f21 x sg_3 n_4 h ((ny + nz)) ((sgy * sgz)) hL t_x hI28 e2 e25 hc (by omega) (by omega) (by have y9 : i = ny := (by omega); rw [y9] at he; rw [he]; exact (LS_mul hNy.1.2.2.1 hNz.1.2.2.1 _ _).1)) ⟨(callB_of 2 (tb_one (wd_784 hB _)) tb_good1 rfl rfl rfl (wd_78 hB _) (wd_781 hB _) (by decide +kernel) ⟨Nat.le_of_ble_eq_true rfl, Nat.le_of_ble_eq_true rfl⟩), (wd_782 hB _), (wd_783 hB _)⟩ ⟨pe_bl, pg_recv (ci := 4) hK hP (lo_in hL t_x (by decide)) e2 rfl, pe_pre hB hK hP hD⟩ rfl rfl hl.1 rfl (lv_room (Nat.le_of_ble_eq_true rfl)) d_NLongNumber_setProduct_154 ⟨Nat.le_of_ble_eq_true rfl, Nat.le_of_ble_eq_true rfl⟩) hS (fun f32 H locs hq33 hP hD hS => ?_)
          obtain ⟨fi_34, hI1_35, hk1_36⟩ := hq33
          have hu : ∀ b, b ≠ x → b ≠ (g.lk x 2) → f32 b = f b := fun b q0 q1 => (hk1_36 b q0).trans (hu b q0 q1)
          have eay := (hk1_36 y h1).trans eay
          have eaz := (hk1_36 z h2).trans eaz
          have e25 := (hk1_36 (g.lk x 2) (tg_ne (lo_k5_2 hL _ t_x) t_x (by decide))).trans e25
          have e26 := (hk1_36 (g.lk y 2) (tg_ne (lo_k5_2 hL _ t_y) t_x (by decide))).trans e26
          have e27 := (hk1_36 (g.lk z 2) (tg_ne (lo_k5_2 hL _ t_z) t_x (by decide))).trans e27
          obtain ⟨sg37, nn38, e39, hN40⟩ := fi_34
          have hnn38 : nn38 ≤ 15 := hN40.1
          have hNs : LNV sg37 nn38 h (vy * vz) := LNV_cast hN40 (by have y9 : i = ny := (by omega); rw [y9] at he; rw [he, (LS_mul hNy.1.2.2.1 hNz.1.2.2.1 (dg dy) (dg dz)).2, hNy.1.2.2.2.2, hNz.1.2.2.2.2, Int.natCast_mul]; ac_rfl)
          refine lv_aload_n hx hb d_NLongNumber_setProduct_157 rfl (lv_at hl 2 rfl) ?_
          refine pcc_i (va_runV (C := "BigRunner$LongNumber") (As := []) (rest := []) ⟨hx, hb, hml, hown, tb_nil⟩ (v_fits l g H.size f32 x sg37 nn38 h hL t_x hI1_35.1 e39 e25 hc (by omega) hNs.2.2.2.1) ⟨(callB_of 0 (tb_one (wd_795 hB _)) tb_good1 rfl rfl rfl (wd_78 hB _) (wd_792 hB _) (by decide +kernel) ⟨Nat.le_of_ble_eq_true rfl, Nat.le_of_ble_eq_true rfl⟩), (wd_794 hB _), (wd_33 hB _)⟩ ⟨pe_bl, pg_recv (ci := 4) hK hP (lo_in hL t_x (by decide)) e39 rfl, pe_pre hB hK hP hD⟩ rfl rfl hl.1 rfl (lv_room (Nat.le_of_ble_eq_true rfl)) d_NLongNumber_setProduct_158 ⟨Nat.le_of_ble_eq_true rfl, Nat.le_of_ble_eq_true rfl⟩) hS (fun r41 f42 H locs hq43 hP hD hS => ?_)
          obtain ⟨bo_44, i1_45, i0_46, rfl⟩ := hq43
          exact pe_zret hx hb hr hlocks hK hP hD hS d_NLongNumber_setProduct_161 (by rcases bo_44 with h9 | h9 <;> rw [h9] <;> rfl) ⟨bo_44, (fun z9 => ⟨⟨_, _, _, e39, e25, hNs⟩, by rw [LNV_abs hNs]; exact i1_45 z9⟩), (fun z9 => by rw [LNV_abs hNs]; exact i0_46 z9), hI1_35, hu⟩
        · skip
          replace b30 := mt (nI_leI (a := ny) (b := i) (by omega) (by omega)).mpr b30
          refine lv_aload_n hx hb d_NLongNumber_setProduct_38 rfl (lv_at hl 3 rfl) ?_
          refine pf_get (v := .ref (g.lk y 2)) (C := "BigRunner$LongNumber") (T := FT4) (N := 3) hx hb (hw4 hB _) (fun _ h9 => h9) hown hK hP (lo_in hL t_y (by decide)) eay rfl 2 (by decide) (wd_192 hB _) rfl d_NLongNumber_setProduct_39 ?_
          refine lv_iload hx hb d_NLongNumber_setProduct_42 (lv_at hl 0 rfl) ?_
          refine pf_iald (i := i) hx hb hK hP (lo_in hL (lo_k5_2 hL _ t_y) (by decide)) e26 (lo_t23 hL _ (lo_k5_2 hL _ t_y)) (by omega) (by decide) d_NLongNumber_setProduct_44 ?_
          have hd47 := dg_lt cby (j := i) (by omega)
          refine lv_topi (fun z_ hz_ => ?_)
          obtain rfl : z_ = nI (dg dy i) := hz_.trans (dg_eq cby (by omega))
          refine pf_i2lN hx hb (by omega) d_NLongNumber_setProduct_45 ?_
          refine lv_lstore (lv' := [(5, .long (nL (dg dy i))), (4, .int (nI i)), (3, .int (nI (ny + nz))), (0, .ref x), (1, .ref y), (2, .ref z)]) hx hb d_NLongNumber_setProduct_46 hl (by decide) rfl (fun ls hl => ?_)
          refine lv_lconst (v := nL 0) hx hb d_NLongNumber_setProduct_48 (by decide) ?_
          refine lv_lstore (lv' := [(7, .long (nL 0)), (5, .long (nL (dg dy i))), (4, .int (nI i)), (3, .int (nI (ny + nz))), (0, .ref x), (1, .ref y), (2, .ref z)]) hx hb d_NLongNumber_setProduct_49 hl (by decide) rfl (fun ls hl => ?_)
          refine lv_iconst (v := nI 0) hx hb d_NLongNumber_setProduct_51 (by decide) ?_
          refine lv_istore (lv' := [(9, .int (nI 0)), (7, .long (nL 0)), (5, .long (nL (dg dy i))), (4, .int (nI i)), (3, .int (nI (ny + nz))), (0, .ref x), (1, .ref y), (2, .ref z)]) hx hb d_NLongNumber_setProduct_52 hl (by decide) rfl (fun ls hl => ?_)
          have lp48 : ∀ (k50 : Nat) (cy : Nat) (j : Nat) (hh2 : Nat → Int32) (f49 : Nat → va_E) (H : Heap) (locs : List Loc) (ls : Array Slot), (nz < j + k50) → (cy < 1000000000) → (j ≤ nz) → (∀ i, i < 15 → ∃ k, k < 1000000000 ∧ hh2 i = nI k) → (kv (dg hh2) (i + nz) + cy * 1000000000 ^ (i + j) = kv (dg h) (i + nz) + dg dy i * kv (dg dz) j * 1000000000 ^ i) → f49 (g.lk x 2) = .inl (g.ac (g.lk x 2), 15, .inl (hh2)) → f49 (g.lk y 2) = .inl (g.ac (g.lk y 2), 15, .inl (dy)) → f49 (g.lk z 2) = .inl (g.ac (g.lk z 2), 15, .inl (dz)) → IX g x f49 → un [23] g f21 f49 → (∀ b, b ≠ x → b ≠ (g.lk x 2) → f49 b = f b) → lv_has ls 10 [(9, .int (nI j)), (7, .long (nL cy)), (5, .long (nL (dg dy i))), (4, .int (nI i)), (3, .int (nI (ny + nz))), (0, .ref x), (1, .ref y), (2, .ref z)] → va_P g.D vcl (va_pl g.LP f49) H → va_D (pc_A g s.heap.size) (va_pl g.LP f49) → va_S (pc_A g s.heap.size) s.heap H locs → W p l e ({ frames := 2, cells := 0, slots := 0, locals := 62 }) s m args below meth c H locs 0 0 (MQ below (va_Qi (fun r f1 => (r = nI 0 ∨ r = nI 1) ∧ (r = nI 1 → LVF g f1 x (vy * vz)) ∧ (r = nI 0 → T12 ≤ (vy * vz).natAbs) ∧ (IV g f1) ∧ (∀ b, b ≠ x → b ≠ (g.lk x 2) → f1 b = f b)) (pc_out g s.heap.size) (pc_A g s.heap.size)) args s 0 0 (pc_A g s.heap.size)) (F0 m 54 ls []) := by
            intro k50
            induction k50 with
            | zero => intros; exfalso; omega
            | succ k50 ih51 =>
              intro cy j hh2 f49 H locs ls hfu52 hcy hj hc2 hee e53 e54 e55 hI56 hv57 hu hl hP hD hS
              have eay := hv57.at t_y (by decide) eay
              have eaz := hv57.at t_z (by decide) eaz
              have e2 := hv57.at t_x (by decide) e2
              have hv29 := hv29.tr hv57 (by decide)
              refine lv_iload hx hb d_NLongNumber_setProduct_54 (lv_at hl 0 rfl) ?_
              refine lv_aload_n hx hb d_NLongNumber_setProduct_56 rfl (lv_at hl 7 rfl) ?_
              refine pf_get (v := .int (nI nz)) (C := "BigRunner$LongNumber") (T := FT4) (N := 3) hx hb (hw4 hB _) (fun _ h9 => h9) hown hK hP (lo_in hL t_z (by decide)) eaz rfl 1 (by decide) (wd_190 hB _) rfl d_NLongNumber_setProduct_57 ?_
              refine lv_icmp_ge (tgt := 122) hx hb d_NLongNumber_setProduct_60 (by decide) (fun b58 => ?_) (fun b58 => ?_)
              · skip
                replace b58 := (nI_leI (a := nz) (b := j) (by omega) (by omega)).mp b58
                refine lv_aload_n hx hb d_NLongNumber_setProduct_122 rfl (lv_at hl 5 rfl) ?_
                refine pf_get (v := .ref (g.lk x 2)) (C := "BigRunner$LongNumber") (T := FT4) (N := 3) hx hb (hw4 hB _) (fun _ h9 => h9) hown hK hP (lo_in hL t_x (by decide)) e2 rfl 2 (by decide) (wd_192 hB _) rfl d_NLongNumber_setProduct_123 ?_
                refine lv_iload hx hb d_NLongNumber_setProduct_126 (lv_at hl 3 rfl) ?_
                refine lv_aload_n hx hb d_NLongNumber_setProduct_128 rfl (lv_at hl 7 rfl) ?_
                refine pf_get (v := .int (nI nz)) (C := "BigRunner$LongNumber") (T := FT4) (N := 3) hx hb (hw4 hB _) (fun _ h9 => h9) hown hK hP (lo_in hL t_z (by decide)) eaz rfl 1 (by decide) (wd_190 hB _) rfl d_NLongNumber_setProduct_129 ?_
                refine pf_iaddN (x := i) (y := nz) hx hb d_NLongNumber_setProduct_132 ?_
                refine lv_lload hx hb d_NLongNumber_setProduct_133 (lv_at hl 1 rfl) ?_
                refine pf_l2iN hx hb d_NLongNumber_setProduct_135 ?_
                refine pf_iast (i := i + nz) hx hb hK hP hD hS (lo_in hL (lo_k5_2 hL _ t_x) (by decide)) e53 (lo_t23 hL _ (lo_k5_2 hL _ t_x)) (by omega) (by decide) d_NLongNumber_setProduct_136 (fun f59 H locs e60 k61 hP hD hS => ?_)
                have eay := (k61 y (tg_ne t_y (lo_k5_2 hL _ t_x) (by decide))).trans eay
                have eaz := (k61 z (tg_ne t_z (lo_k5_2 hL _ t_x) (by decide))).trans eaz
                have e2 := (k61 x (tg_ne t_x (lo_k5_2 hL _ t_x) (by decide))).trans e2
                have e54 := (k61 (g.lk y 2) (fun q9 => h1 (lo_inj5 hL _ _ t_y t_x q9))).trans e54
                have e55 := (k61 (g.lk z 2) (fun q9 => h2 (lo_inj5 hL _ _ t_z t_x q9))).trans e55
                have hu : ∀ b, b ≠ x → b ≠ (g.lk x 2) → f59 b = f b := fun b q0 q1 => (k61 b q1).trans (hu b q0 q1)
                have hv29 := hv29.st k61 (lo_k5_2 hL _ t_x) (by decide)
                have hv57 := hv57.st k61 (lo_k5_2 hL _ t_x) (by decide)
                have hk62 : ∀ b, b ≠ (g.lk x 2) → f59 b = f49 b := k61
                have c63 := lb_upd (n := 15) (i := i + nz) (v := cy) hc2 (by omega)
                refine lv_iinc (k := 3) (v := nI (i + 1)) (lv' := [(4, .int (nI (i + 1))), (9, .int (nI j)), (7, .long (nL cy)), (5, .long (nL (dg dy i))), (3, .int (nI (ny + nz))), (0, .ref x), (1, .ref y), (2, .ref z)]) hx hb d_NLongNumber_setProduct_137 hl rfl (by rw [nI_succ]; rfl) (by decide) rfl (fun ls hl => ?_)
                refine lv_goto (tgt := 29) hx hb d_NLongNumber_setProduct_140 (by decide) ?_
                have hI64 := ix_23 hI56 hL t_x hk62 (⟨_, e60, c63⟩)
                have hl : lv_has ls 10 [(4, .int (nI (i + 1))), (3, .int (nI (ny + nz))), (0, .ref x), (1, .ref y), (2, .ref z)] := lv_sub hl [0, 4, 5, 6, 7] rfl
                exact ih23 (i + 1) (upd hh2 (i + nz) ((nI cy))) f59 H locs ls (by omega) (by omega) c63 (sp_out (by omega) he (by have y9 : j = nz := (by omega); rw [y9] at hee; exact hee)) e60 e54 e55 hI64 hv29 hu hl hP hD hS
              · skip
                replace b58 := mt (nI_leI (a := nz) (b := j) (by omega) (by omega)).mpr b58
                refine lv_lload hx hb d_NLongNumber_setProduct_63 (lv_at hl 1 rfl) ?_
                refine lv_aload_n hx hb d_NLongNumber_setProduct_65 rfl (lv_at hl 5 rfl) ?_
                refine pf_get (v := .ref (g.lk x 2)) (C := "BigRunner$LongNumber") (T := FT4) (N := 3) hx hb (hw4 hB _) (fun _ h9 => h9) hown hK hP (lo_in hL t_x (by decide)) e2 rfl 2 (by decide) (wd_192 hB _) rfl d_NLongNumber_setProduct_66 ?_
                refine lv_iload hx hb d_NLongNumber_setProduct_69 (lv_at hl 3 rfl) ?_
                refine lv_iload hx hb d_NLongNumber_setProduct_71 (lv_at hl 0 rfl) ?_
                refine pf_iaddN (x := i) (y := j) hx hb d_NLongNumber_setProduct_73 ?_
                refine pf_iald (i := i + j) hx hb hK hP (lo_in hL (lo_k5_2 hL _ t_x) (by decide)) e53 (lo_t23 hL _ (lo_k5_2 hL _ t_x)) (by omega) (by decide) d_NLongNumber_setProduct_74 ?_
                have hd65 := dg_lt hc2 (j := i + j) (by omega)
                refine lv_topi (fun z_ hz_ => ?_)
                obtain rfl : z_ = nI (dg hh2 (i + j)) := hz_.trans (dg_eq hc2 (by omega))
                refine pf_i2lN hx hb (by omega) d_NLongNumber_setProduct_75 ?_
                refine lv_lload hx hb d_NLongNumber_setProduct_76 (lv_at hl 2 rfl) ?_
                refine lv_aload_n hx hb d_NLongNumber_setProduct_78 rfl (lv_at hl 7 rfl) ?_
                refine pf_get (v := .ref (g.lk z 2)) (C := "BigRunner$LongNumber") (T := FT4) (N := 3) hx hb (hw4 hB _) (fun _ h9 => h9) hown hK hP (lo_in hL t_z (by decide)) eaz rfl 2 (by decide) (wd_192 hB _) rfl d_NLongNumber_setProduct_79 ?_
                refine lv_iload hx hb d_NLongNumber_setProduct_82 (lv_at hl 0 rfl) ?_
                refine pf_iald (i := j) hx hb hK hP (lo_in hL (lo_k5_2 hL _ t_z) (by decide)) e55 (lo_t23 hL _ (lo_k5_2 hL _ t_z)) (by omega) (by decide) d_NLongNumber_setProduct_84 ?_
                have hd66 := dg_lt cbz (j := j) (by omega)
                refine lv_topi (fun z_ hz_ => ?_)
                obtain rfl : z_ = nI (dg dz j) := hz_.trans (dg_eq cbz (by omega))
                refine pf_i2lN hx hb (by omega) d_NLongNumber_setProduct_85 ?_
                refine pf_lmulN (x := dg dy i) (y := dg dz j) hx hb d_NLongNumber_setProduct_86 ?_
                have hm67 : (dg dy i) * (dg dz j) ≤ 999999999 * 999999999 := Nat.mul_le_mul (by omega) (by omega)
                refine pf_laddN (x := dg hh2 (i + j)) (y := (dg dy i) * (dg dz j)) hx hb d_NLongNumber_setProduct_87 ?_
                refine pf_laddN (x := cy) (y := (dg hh2 (i + j)) + ((dg dy i) * (dg dz j))) hx hb d_NLongNumber_setProduct_88 ?_
                refine lv_lstore (lv' := [(7, .long (nL (cy + ((dg hh2 (i + j)) + ((dg dy i) * (dg dz j)))))), (9, .int (nI j)), (5, .long (nL (dg dy i))), (4, .int (nI i)), (3, .int (nI (ny + nz))), (0, .ref x), (1, .ref y), (2, .ref z)]) hx hb d_NLongNumber_setProduct_89 hl (by decide) rfl (fun ls hl => ?_)
                refine lv_aload_n hx hb d_NLongNumber_setProduct_91 rfl (lv_at hl 5 rfl) ?_
                refine pf_get (v := .ref (g.lk x 2)) (C := "BigRunner$LongNumber") (T := FT4) (N := 3) hx hb (hw4 hB _) (fun _ h9 => h9) hown hK hP (lo_in hL t_x (by decide)) e2 rfl 2 (by decide) (wd_192 hB _) rfl d_NLongNumber_setProduct_92 ?_
                refine lv_iload hx hb d_NLongNumber_setProduct_95 (lv_at hl 3 rfl) ?_
                refine lv_iload hx hb d_NLongNumber_setProduct_97 (lv_at hl 1 rfl) ?_
                refine pf_iaddN (x := i) (y := j) hx hb d_NLongNumber_setProduct_99 ?_
                refine lv_lload hx hb d_NLongNumber_setProduct_100 (lv_at hl 0 rfl) ?_
                refine lv_ldc2 (v := 1000000000) hx hb hown (wd_685 hB _) d_NLongNumber_setProduct_102 ?_
                refine lv_topl (fun z_ hz_ => ?_)
                obtain rfl : z_ = nL 1000000000 := hz_
                refine pf_lremN (x := cy + ((dg hh2 (i + j)) + ((dg dy i) * (dg dz j)))) (y := 1000000000) hx hb (by omega) (by omega) (by omega) d_NLongNumber_setProduct_105 ?_
                refine pf_l2iN hx hb d_NLongNumber_setProduct_106 ?_
                refine pf_iast (i := i + j) hx hb hK hP hD hS (lo_in hL (lo_k5_2 hL _ t_x) (by decide)) e53 (lo_t23 hL _ (lo_k5_2 hL _ t_x)) (by omega) (by decide) d_NLongNumber_setProduct_107 (fun f68 H locs e69 k70 hP hD hS => ?_)
                have eay := (k70 y (tg_ne t_y (lo_k5_2 hL _ t_x) (by decide))).trans eay
                have eaz := (k70 z (tg_ne t_z (lo_k5_2 hL _ t_x) (by decide))).trans eaz
                have e2 := (k70 x (tg_ne t_x (lo_k5_2 hL _ t_x) (by decide))).trans e2
                have e54 := (k70 (g.lk y 2) (fun q9 => h1 (lo_inj5 hL _ _ t_y t_x q9))).trans e54
                have e55 := (k70 (g.lk z 2) (fun q9 => h2 (lo_inj5 hL _ _ t_z t_x q9))).trans e55
                have hu : ∀ b, b ≠ x → b ≠ (g.lk x 2) → f68 b = f b := fun b q0 q1 => (k70 b q1).trans (hu b q0 q1)
                have hv29 := hv29.st k70 (lo_k5_2 hL _ t_x) (by decide)
                have hv57 := hv57.st k70 (lo_k5_2 hL _ t_x) (by decide)
                have hk71 : ∀ b, b ≠ (g.lk x 2) → f68 b = f49 b := k70
                have c72 := lb_upd (n := 15) (i := i + j) (v := (cy + ((dg hh2 (i + j)) + ((dg dy i) * (dg dz j)))) % 1000000000) hc2 (by omega)
                refine lv_lload hx hb d_NLongNumber_setProduct_108 (lv_at hl 0 rfl) ?_
                refine lv_ldc2 (v := 1000000000) hx hb hown (wd_685 hB _) d_NLongNumber_setProduct_110 ?_
                refine lv_topl (fun z_ hz_ => ?_)
                obtain rfl : z_ = nL 1000000000 := hz_
                refine pf_ldivN (x := cy + ((dg hh2 (i + j)) + ((dg dy i) * (dg dz j)))) (y := 1000000000) hx hb (by omega) (by omega) (by omega) d_NLongNumber_setProduct_113 ?_
                refine lv_lstore (lv' := [(7, .long (nL ((cy + ((dg hh2 (i + j)) + ((dg dy i) * (dg dz j)))) / 1000000000))), (9, .int (nI j)), (5, .long (nL (dg dy i))), (4, .int (nI i)), (3, .int (nI (ny + nz))), (0, .ref x), (1, .ref y), (2, .ref z)]) hx hb d_NLongNumber_setProduct_114 hl (by decide) rfl (fun ls hl => ?_)
                refine lv_iinc (k := 1) (v := nI (j + 1)) (lv' := [(9, .int (nI (j + 1))), (7, .long (nL ((cy + ((dg hh2 (i + j)) + ((dg dy i) * (dg dz j)))) / 1000000000))), (5, .long (nL (dg dy i))), (4, .int (nI i)), (3, .int (nI (ny + nz))), (0, .ref x), (1, .ref y), (2, .ref z)]) hx hb d_NLongNumber_setProduct_116 hl rfl (by rw [nI_succ]; rfl) (by decide) rfl (fun ls hl => ?_)
                refine lv_goto (tgt := 54) hx hb d_NLongNumber_setProduct_119 (by decide) ?_
                have hI73 := ix_23 hI56 hL t_x hk71 (⟨_, e69, c72⟩)
                exact ih51 ((cy + ((dg hh2 (i + j)) + ((dg dy i) * (dg dz j)))) / 1000000000) (j + 1) (upd hh2 (i + j) ((nI ((cy + ((dg hh2 (i + j)) + ((dg dy i) * (dg dz j)))) % 1000000000)))) f68 H locs ls (by omega) (by omega) (by omega) c72 (sp_step (by omega) hee) e69 e54 e55 hI73 hv57 hu hl hP hD hS
          exact lp48 (nz + 1) 0 0 h f21 H locs ls (by omega) (by omega) (by omega) hc (by simp [kv]) e25 e26 e27 hI28 un.rf hu hl hP hD hS
    exact lp20 (ny + 1) 0 dd16 f11 H locs ls (by omega) (by omega) c18 (by rw [kv_z (fun k hk => hz19 k (by omega))]; simp [kv]) e17 eby ebz hI1_14 un.rf hu hl hP hD hS
  · skip
    replace b1 := mt (nI_leI (a := ny + nz) (b := 15) (by omega) (by omega)).mpr b1
    refine lv_iconst (v := nI 0) hx hb d_NLongNumber_setProduct_16 (by decide) ?_
    exact pe_zret hx hb hr hlocks hK hP hD hS d_NLongNumber_setProduct_17 rfl ⟨(Or.inl rfl), (fun z9 => absurd z9 (by decide)), (fun _ => sp_big hNy.1 hNz.1 (by omega)), hI, hu⟩

