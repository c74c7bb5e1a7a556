set_option maxHeartbeats 4000000 in
set_option maxRecDepth 100000 in
theorem c_signum (l : Launch) (g : Lay) (sz : Nat) (f : Nat → va_E) (v : Int64) (hL : LO g) (hI : OC g f) : Met l ⟨"java/lang/Long", "signum", "(J)I"⟩ [Cond.code ⟨"java/lang/Long", "signum", "(J)I"⟩ prog_18_method_57_code 2 (some .int)] ({ frames := 0, cells := 0, slots := 0, locals := 0 }) (va_Pc [.long v] (pc_in g sz f)) (va_Qi (fun r f1 => (f = f1)) (pc_out g sz) (pc_A g sz)) 0 0 (pc_A g sz) := by
  refine pe_ofW (cc := prog_18_method_57_code) (maxL := 2) (ret := (some .int)) (lv := [(0, .long v)]) (by decide) (Nat.le_of_ble_eq_true rfl) rfl ?_
  intro p e s m args below meth c ls hx hb hr hml hlocks hown hB hP hK hD hsz hS hl
  subst hsz
  refine lv_lload_n hx hb d_Long_signum_0 rfl (lv_at hl 0 rfl) ?_
  refine lv_bipush (v := nI 63) hx hb d_Long_signum_1 (by decide) ?_
  refine lv_lshr hx hb d_Long_signum_3 rfl ?_
  refine lv_topl (fun lv1 hlv1 => ?_)
  refine lv_lload_n hx hb d_Long_signum_4 rfl (lv_at hl 0 rfl) ?_
  refine lv_lneg hx hb d_Long_signum_5 ?_
  refine lv_bipush (v := nI 63) hx hb d_Long_signum_6 (by decide) ?_
  refine lv_lushr hx hb d_Long_signum_8 rfl ?_
  refine lv_topl (fun lv2 hlv2 => ?_)
  refine lv_lor hx hb d_Long_signum_9 ?_
  refine lv_topl (fun lv3 hlv3 => ?_)
  refine lv_l2i hx hb d_Long_signum_10 rfl ?_
  exact pe_iret hx hb hr hlocks hK hP hD hS d_Long_signum_11 rfl
set_option maxHeartbeats 4000000 in
set_option maxRecDepth 100000 in
theorem c_fill (l : Launch) (g : Lay) (sz : Nat) (f : Nat → va_E) (x : Nat) (hL : LO g) (t_x : g.tg x = 5) (hI : IX g x f) : Met l ⟨"java/util/Arrays", "fill", "([II)V"⟩ [Cond.code ⟨"java/util/Arrays", "fill", "([II)V"⟩ prog_25_method_103_code 4 none] ({ frames := 0, cells := 0, slots := 0, locals := 0 }) (va_Pc [.ref (g.lk x 2), .int (nI 0)] (pc_in g sz f)) (va_Qv (fun f1 => (IX g x f1) ∧ (un [23] g f f1)) (pc_out g sz) (pc_A g sz)) 0 0 (pc_A g sz) := by
  refine pe_ofW (cc := prog_25_method_103_code) (maxL := 4) (ret := none) (lv := [(0, .ref (g.lk x 2)), (1, .int (nI 0))]) (by decide) (Nat.le_of_ble_eq_true rfl) rfl ?_
  intro p e s m args below meth c ls hx hb hr hml hlocks hown hB hP hK hD hsz hS hl
  subst hsz
  have hu : un [23] g f f := un.rf
  refine lv_iconst (v := nI 0) hx hb d_javautilArrays_fill_0 (by decide) ?_
  refine lv_istore_n (lv' := [(2, .int (nI 0)), (0, .ref (g.lk x 2)), (1, .int (nI 0))]) hx hb d_javautilArrays_fill_1 rfl hl (by decide) rfl (fun ls hl => ?_)
  refine lv_aload_n hx hb d_javautilArrays_fill_2 rfl (lv_at hl 1 rfl) ?_
  obtain ⟨h_2, e1, c3⟩ := oc_23.of (lo_k5_2 hL _ t_x) (hI.1 (g.lk x 2))
  refine pf_alen (n := 15) hx hb hK hP (lo_in hL (lo_k5_2 hL _ t_x) (by decide)) e1 rfl (lo_t23 hL _ (lo_k5_2 hL _ t_x)) d_javautilArrays_fill_3 ?_
  refine lv_istore_n (lv' := [(3, .int (nI 15)), (2, .int (nI 0)), (0, .ref (g.lk x 2)), (1, .int (nI 0))]) hx hb d_javautilArrays_fill_4 rfl hl (by decide) rfl (fun ls hl => ?_)
  have lp4 : ∀ (k6 : Nat) (i : Nat) (f5 : Nat → va_E) (H : Heap) (locs : List Loc) (ls : Array Slot), (15 < i + k6) → (i ≤ 15) → IX g x f5 → un [23] g f f5 → lv_has ls 4 [(3, .int (nI 15)), (2, .int (nI i)), (0, .ref (g.lk x 2)), (1, .int (nI 0))] → va_P g.D vcl (va_pl g.LP f5) H → va_D (pc_A g s.heap.size) (va_pl g.LP f5) → va_S (pc_A g s.heap.size) s.heap H locs → W p l e ({ frames := 0, cells := 0, slots := 0, locals := 0 }) s m args below meth c H locs 0 0 (MQ below (va_Qv (fun f1 => (IX g x f1) ∧ (un [23] g f f1)) (pc_out g s.heap.size) (pc_A g s.heap.size)) args s 0 0 (pc_A g s.heap.size)) (F0 m 5 ls []) := by
    intro k6
    induction k6 with
    | zero => intros; exfalso; omega
    | succ k6 ih7 =>
      intro i f5 H locs ls hfu8 hi hI9 hv10 hl hP hD hS
      have hu := hu.tr hv10 (by decide)
      refine lv_iload_n hx hb d_javautilArrays_fill_5 rfl (lv_at hl 1 rfl) ?_
      refine lv_iload_n hx hb d_javautilArrays_fill_6 rfl (lv_at hl 0 rfl) ?_
      refine lv_icmp_ge (tgt := 20) hx hb d_javautilArrays_fill_7 (by decide) (fun b11 => ?_) (fun b11 => ?_)
      · skip
        replace b11 := (nI_leI (a := 15) (b := i) (by omega) (by omega)).mp b11
        exact pe_vret hx hb hr hlocks hK hP hD hS d_javautilArrays_fill_20 ⟨hI9, hu⟩
      · skip
        replace b11 := mt (nI_leI (a := 15) (b := i) (by omega) (by omega)).mpr b11
        refine lv_aload_n hx hb d_javautilArrays_fill_10 rfl (lv_at hl 2 rfl) ?_
        refine lv_iload_n hx hb d_javautilArrays_fill_11 rfl (lv_at hl 1 rfl) ?_
        refine lv_iload_n hx hb d_javautilArrays_fill_12 rfl (lv_at hl 3 rfl) ?_
        obtain ⟨h_13, e12, c14⟩ := oc_23.of (lo_k5_2 hL _ t_x) (hI9.1 (g.lk x 2))
        refine pf_iast (i := i) hx hb hK hP hD hS (lo_in hL (lo_k5_2 hL _ t_x) (by decide)) e12 (lo_t23 hL _ (lo_k5_2 hL _ t_x)) (by omega) (by decide) d_javautilArrays_fill_13 (fun f15 H locs e16 k17 hP hD hS => ?_)
        have hu := hu.st k17 (lo_k5_2 hL _ t_x) (by decide)
        have hv10 := hv10.st k17 (lo_k5_2 hL _ t_x) (by decide)
        have hk18 : ∀ b, b ≠ (g.lk x 2) → f15 b = f5 b := k17
        have c19 := lb_upd (n := 15) (i := i) (v := 0) c14 (by omega)
        refine lv_iinc (k := 1) (v := nI (i + 1)) (lv' := [(2, .int (nI (i + 1))), (3, .int (nI 15)), (0, .ref (g.lk x 2)), (1, .int (nI 0))]) hx hb d_javautilArrays_fill_14 hl rfl (by rw [nI_succ]; rfl) (by decide) rfl (fun ls hl => ?_)
        refine lv_goto (tgt := 5) hx hb d_javautilArrays_fill_17 (by decide) ?_
        have hI20 := ix_23 hI9 hL t_x hk18 (⟨_, e16, c19⟩)
        have hl : lv_has ls 4 [(3, .int (nI 15)), (2, .int (nI (i + 1))), (0, .ref (g.lk x 2)), (1, .int (nI 0))] := lv_sub hl [1, 0, 2, 3] rfl
        exact ih7 (i + 1) f15 H locs ls (by omega) (by omega) hI20 hv10 hl hP hD hS
  exact lp4 16 0 f s.heap [] ls (by omega) (by omega) hI un.rf hl hP hD hS
set_option maxHeartbeats 4000000 in
set_option maxRecDepth 100000 in
theorem c_setTo (l : Launch) (g : Lay) (sz : Nat) (f : Nat → va_E) (x : Nat) (v : Int64) (hL : LO g) (t_x : g.tg x = 5) (hI : IV g f) : Met l ⟨"BigRunner$LongNumber", "setTo", "(J)V"⟩ [Cond.code ⟨"BigRunner$LongNumber", "setTo", "(J)V"⟩ prog_5_method_2_code 6 none] ({ frames := 1, cells := 0, slots := 0, locals := 40 }) (va_Pc [.ref x, .long v] (pc_in g sz f)) (va_Qv (fun f1 => (IV g f1) ∧ (un [5, 23] g f f1)) (pc_out g sz) (pc_A g sz)) 0 0 (pc_A g sz) := by
  refine pe_ofW (cc := prog_5_method_2_code) (maxL := 6) (ret := none) (lv := [(0, .ref x), (1, .long v)]) (by decide) (Nat.le_of_ble_eq_true rfl) rfl ?_
  intro p e s m args below meth c ls hx hb hr hml hlocks hown hB hP hK hD hsz hS hl
  subst hsz
  have hu : un [5, 23] g f f := un.rf
  have hI1 := IV.ix hI x
  refine lv_lload_n hx hb d_NLongNumber_setTo_0 rfl (lv_at hl 1 rfl) ?_
  refine va_mabs_long hx hb (hml.trans hl.1.symm) hown (wd_681 hB _) (wd_647 hB _) (wd_83 hB _) (wd_648 hB _) (Nat.le_of_ble_eq_true rfl) (Nat.le_of_ble_eq_true rfl) (Nat.le_of_ble_eq_true rfl) (Nat.le_of_ble_eq_true rfl) d_NLongNumber_setTo_1 ?_
  refine lv_topl (fun lv2 hlv2 => ?_)
  refine lv_lstore_n (lv' := [(3, .long lv2), (0, .ref x), (1, .long v)]) hx hb d_NLongNumber_setTo_4 rfl hl (by decide) rfl (fun ls hl => ?_)
  refine lv_aload_n hx hb d_NLongNumber_setTo_5 rfl (lv_at hl 1 rfl) ?_
  refine lv_lload_n hx hb d_NLongNumber_setTo_6 rfl (lv_at hl 2 rfl) ?_
  refine pcc_i (va_runS (As := [.long v]) (rest := [.ref x]) ⟨hx, hb, hml, hown, tb_nil⟩ (c_signum l g s.heap.size f v hL hI1.1) ⟨(callB_of 1 (tb_one (wd_684 hB _)) tb_good1 rfl rfl rfl (wd_88 hB _) (wd_682 hB _) (by decide +kernel) ⟨Nat.le_of_ble_eq_true rfl, Nat.le_of_ble_eq_true rfl⟩), (wd_683 hB _)⟩ ⟨pe_bl, pe_pre hB hK hP hD⟩ rfl rfl hl.1 rfl (lv_room (Nat.le_of_ble_eq_true rfl)) d_NLongNumber_setTo_7 ⟨Nat.le_of_ble_eq_true rfl, Nat.le_of_ble_eq_true rfl⟩) hS (fun r3 f4 H locs hq5 hP hD hS => ?_)
  subst hq5
  obtain ⟨sg_7, n_8, e6, c9⟩ := oc_5.of t_x (hI1.1 x)
  refine pf_put (v := .int r3) (ty := .int) (fs' := [.int r3, .int (nI n_8), .ref (g.lk x 2)]) (C := "BigRunner$LongNumber") (T := FT4) (N := 3) hx hb (hw4 hB _) (fun _ h9 => h9) TY4 ok4 nm4 hown hK hP hD hS (lo_in hL t_x (by decide)) e6 rfl 0 (by decide) (wd_186 hB _) rfl (by decide +kernel) rfl rfl (Nat.le_of_ble_eq_true rfl) rfl d_NLongNumber_setTo_10 (fun f10 H locs e11 k12 hP hD hS => ?_)
  have hu := hu.st k12 t_x (by decide)
  have hk13 : ∀ b, b ≠ x → f10 b = f b := k12
  refine lv_aload_n hx hb d_NLongNumber_setTo_13 rfl (lv_at hl 1 rfl) ?_
  refine lv_iconst (v := nI 0) hx hb d_NLongNumber_setTo_14 (by decide) ?_
  refine pf_put (v := .int (nI 0)) (ty := .int) (fs' := [.int r3, .int (nI 0), .ref (g.lk x 2)]) (C := "BigRunner$LongNumber") (T := FT4) (N := 3) hx hb (hw4 hB _) (fun _ h9 => h9) TY4 ok4 nm4 hown hK hP hD hS (lo_in hL t_x (by decide)) e11 rfl 1 (by decide) (wd_190 hB _) rfl (by decide +kernel) rfl rfl (Nat.le_of_ble_eq_true rfl) rfl d_NLongNumber_setTo_15 (fun f14 H locs e15 k16 hP hD hS => ?_)
  have hu := hu.st k16 t_x (by decide)
  have hk17 : ∀ b, b ≠ x → f14 b = f b := fun b q0 => (k16 b q0).trans (hk13 b q0)
  refine lv_iconst (v := nI 0) hx hb d_NLongNumber_setTo_18 (by decide) ?_
  refine lv_istore (lv' := [(5, .int (nI 0)), (3, .long lv2), (0, .ref x), (1, .long v)]) hx hb d_NLongNumber_setTo_19 hl (by decide) rfl (fun ls hl => ?_)
  have hI18 := ix_5 hI1 hL t_x hk17 (⟨r3, 0, e15, (by omega)⟩)
  obtain ⟨h_20, e19, c21⟩ := oc_23.of (lo_k5_2 hL _ t_x) (hI18.1 (g.lk x 2))
  by_cases hz : lv2 < 0
  · skip
    refine lv_iload hx hb d_NLongNumber_setTo_21 (lv_at hl 0 rfl) ?_
    refine lv_bipush (v := nI 15) hx hb d_NLongNumber_setTo_23 (by decide) ?_
    refine lv_icmp_ge (tgt := 69) hx hb d_NLongNumber_setTo_25 (by decide) (fun b22 => ?_) (fun b22 => ?_)
    · skip
      replace b22 := (nI_leI (a := 15) (b := 0) (by omega) (by omega)).mp b22
      exfalso; omega
    · skip
      replace b22 := mt (nI_leI (a := 15) (b := 0) (by omega) (by omega)).mpr b22
      refine lv_lload_n hx hb d_NLongNumber_setTo_28 rfl (lv_at hl 1 rfl) ?_
      refine lv_lconst (v := nL 0) hx hb d_NLongNumber_setTo_29 (by decide) ?_
      refine W.lcmp hx hb d_NLongNumber_setTo_30 ?_
      refine lv_if_le (tgt := 69) hx hb d_NLongNumber_setTo_31 (by decide) (fun b23 => ?_) (fun b23 => ?_)
      · skip
        replace b23 := pl_le.mp b23
        have hI24 := IX.iv hI18 (nr_mk e15 e19 (by omega) (fun q8 => by first | omega | exact ht (by omega) q8))
        exact pe_vret hx hb hr hlocks hK hP hD hS d_NLongNumber_setTo_69 ⟨hI24, hu⟩
      · skip
        replace b23 := mt pl_le.mpr b23
        exact absurd (Int64.le_of_lt hz) b23
  · skip
    obtain ⟨q, hq0, rfl⟩ := nL_of hz
    have lp25 : ∀ (k27 : Nat) (q : Nat) (i : Nat) (h : Nat → Int32) (f26 : Nat → va_E) (H : Heap) (locs : List Loc) (ls : Array Slot), (3 < i + k27) → ((i = 0 ∧ q < 9223372036854775808) ∨ (i = 1 ∧ q < 9223372037) ∨ (i = 2 ∧ q < 10) ∨ (i = 3 ∧ q = 0)) → (∀ i, i < 15 → ∃ k, k < 1000000000 ∧ h i = nI k) → (q = 0 → 0 < i → h (i - 1) ≠ nI 0) → f26 x = .inr (4, [.int r3, .int (nI i), .ref (g.lk x 2)]) → f26 (g.lk x 2) = .inl (g.ac (g.lk x 2), 15, .inl (h)) → IX g x f26 → un [5, 23] g f14 f26 → lv_has ls 6 [(5, .int (nI i)), (3, .long (nL q)), (0, .ref x), (1, .long v)] → va_P g.D vcl (va_pl g.LP f26) H → va_D (pc_A g s.heap.size) (va_pl g.LP f26) → va_S (pc_A g s.heap.size) s.heap H locs → W p l e ({ frames := 1, cells := 0, slots := 0, locals := 40 }) s m args below meth c H locs 0 0 (MQ below (va_Qv (fun f1 => (IV g f1) ∧ (un [5, 23] g f f1)) (pc_out g s.heap.size) (pc_A g s.heap.size)) args s 0 0 (pc_A g s.heap.size)) (F0 m 21 ls []) := by
      intro k27
      induction k27 with
      | zero => intros; exfalso; omega
      | succ k27 ih28 =>
        intro q i h f26 H locs ls hfu29 hq hc ht e30 e31 hI32 hv33 hl hP hD hS
        have hu := hu.tr hv33 (by decide)
        refine lv_iload hx hb d_NLongNumber_setTo_21 (lv_at hl 0 rfl) ?_
        refine lv_bipush (v := nI 15) hx hb d_NLongNumber_setTo_23 (by decide) ?_
        refine lv_icmp_ge (tgt := 69) hx hb d_NLongNumber_setTo_25 (by decide) (fun b34 => ?_) (fun b34 => ?_)
        · skip
          replace b34 := (nI_leI (a := 15) (b := i) (by omega) (by omega)).mp b34
          have hI35 := IX.iv hI32 (nr_mk e30 e31 (by omega) (fun q8 => by first | omega | exact ht (by omega) q8))
          exact pe_vret hx hb hr hlocks hK hP hD hS d_NLongNumber_setTo_69 ⟨hI35, hu⟩
        · skip
          replace b34 := mt (nI_leI (a := 15) (b := i) (by omega) (by omega)).mpr b34
          refine lv_lload_n hx hb d_NLongNumber_setTo_28 rfl (lv_at hl 1 rfl) ?_
          refine lv_lconst (v := nL 0) hx hb d_NLongNumber_setTo_29 (by decide) ?_
          refine W.lcmp hx hb d_NLongNumber_setTo_30 ?_
          refine lv_if_le (tgt := 69) hx hb d_NLongNumber_setTo_31 (by decide) (fun b36 => ?_) (fun b36 => ?_)
          · skip
            replace b36 := pl_le.mp b36
            replace b36 := (nL_le (a := q) (b := 0) (by omega) (by omega)).mp b36
            have hI37 := IX.iv hI32 (nr_mk e30 e31 (by omega) (fun q8 => by first | omega | exact ht (by omega) q8))
            exact pe_vret hx hb hr hlocks hK hP hD hS d_NLongNumber_setTo_69 ⟨hI37, hu⟩
          · skip
            replace b36 := mt pl_le.mpr b36
            replace b36 := mt (nL_le (a := q) (b := 0) (by omega) (by omega)).mpr b36
            refine lv_aload_n hx hb d_NLongNumber_setTo_34 rfl (lv_at hl 2 rfl) ?_
            refine pf_get (v := .ref (g.lk x 2)) (C := "BigRunner$LongNumber") (T := FT4) (N := 3) hx hb (hw4 hB _) (fun _ h9 => h9) hown hK hP (lo_in hL t_x (by decide)) e30 rfl 2 (by decide) (wd_192 hB _) rfl d_NLongNumber_setTo_35 ?_
            refine lv_iload hx hb d_NLongNumber_setTo_38 (lv_at hl 0 rfl) ?_
            refine lv_lload_n hx hb d_NLongNumber_setTo_40 rfl (lv_at hl 1 rfl) ?_
            refine lv_ldc2 (v := 1000000000) hx hb hown (wd_685 hB _) d_NLongNumber_setTo_41 ?_
            refine lv_topl (fun z_ hz_ => ?_)
            obtain rfl : z_ = nL 1000000000 := hz_
            refine pf_lremN (x := q) (y := 1000000000) hx hb (by omega) (by omega) (by omega) d_NLongNumber_setTo_44 ?_
            refine pf_l2iN hx hb d_NLongNumber_setTo_45 ?_
            refine pf_iast (i := i) hx hb hK hP hD hS (lo_in hL (lo_k5_2 hL _ t_x) (by decide)) e31 (lo_t23 hL _ (lo_k5_2 hL _ t_x)) (by omega) (by decide) d_NLongNumber_setTo_46 (fun f38 H locs e39 k40 hP hD hS => ?_)
            have e30 := (k40 x (tg_ne t_x (lo_k5_2 hL _ t_x) (by decide))).trans e30
            have hu := hu.st k40 (lo_k5_2 hL _ t_x) (by decide)
            have hv33 := hv33.st k40 (lo_k5_2 hL _ t_x) (by decide)
            have hk41 : ∀ b, b ≠ (g.lk x 2) → f38 b = f26 b := k40
            have c42 := lb_upd (n := 15) (i := i) (v := q % 1000000000) hc (by omega)
            refine lv_lload_n hx hb d_NLongNumber_setTo_47 rfl (lv_at hl 1 rfl) ?_
            refine lv_ldc2 (v := 1000000000) hx hb hown (wd_685 hB _) d_NLongNumber_setTo_48 ?_
            refine lv_topl (fun z_ hz_ => ?_)
            obtain rfl : z_ = nL 1000000000 := hz_
            refine pf_ldivN (x := q) (y := 1000000000) hx hb (by omega) (by omega) (by omega) d_NLongNumber_setTo_51 ?_
            refine lv_lstore_n (lv' := [(3, .long (nL (q / 1000000000))), (5, .int (nI i)), (0, .ref x), (1, .long v)]) hx hb d_NLongNumber_setTo_52 rfl hl (by decide) rfl (fun ls hl => ?_)
            refine lv_aload_n hx hb d_NLongNumber_setTo_53 rfl (lv_at hl 2 rfl) ?_
            refine lv_dup hx hb d_NLongNumber_setTo_54 rfl ?_
            refine pf_get (v := .int (nI i)) (C := "BigRunner$LongNumber") (T := FT4) (N := 3) hx hb (hw4 hB _) (fun _ h9 => h9) hown hK hP (lo_in hL t_x (by decide)) e30 rfl 1 (by decide) (wd_190 hB _) rfl d_NLongNumber_setTo_55 ?_
            refine lv_iconst (v := nI 1) hx hb d_NLongNumber_setTo_58 (by decide) ?_
            refine pf_iaddN (x := i) (y := 1) hx hb d_NLongNumber_setTo_59 ?_
            have hI43 := ix_23 hI32 hL t_x hk41 (⟨_, e39, c42⟩)
            refine pf_put (v := .int (nI (i + 1))) (ty := .int) (fs' := [.int r3, .int (nI (i + 1)), .ref (g.lk x 2)]) (C := "BigRunner$LongNumber") (T := FT4) (N := 3) hx hb (hw4 hB _) (fun _ h9 => h9) TY4 ok4 nm4 hown hK hP hD hS (lo_in hL t_x (by decide)) e30 rfl 1 (by decide) (wd_190 hB _) rfl (by decide +kernel) rfl rfl (Nat.le_of_ble_eq_true rfl) rfl d_NLongNumber_setTo_60 (fun f44 H locs e45 k46 hP hD hS => ?_)
            have e39 := (k46 (g.lk x 2) (tg_ne (lo_k5_2 hL _ t_x) t_x (by decide))).trans e39
            have hu := hu.st k46 t_x (by decide)
            have hv33 := hv33.st k46 t_x (by decide)
            have hk47 : ∀ b, b ≠ x → f44 b = f38 b := k46
            refine lv_iinc (k := 1) (v := nI (i + 1)) (lv' := [(5, .int (nI (i + 1))), (3, .long (nL (q / 1000000000))), (0, .ref x), (1, .long v)]) hx hb d_NLongNumber_setTo_63 hl rfl (by rw [nI_succ]; rfl) (by decide) rfl (fun ls hl => ?_)
            refine lv_goto (tgt := 21) hx hb d_NLongNumber_setTo_66 (by decide) ?_
            have hI48 := ix_5 hI43 hL t_x hk47 (⟨r3, (i + 1), e45, (by omega)⟩)
            exact ih28 (q / 1000000000) (i + 1) (upd h i ((nI (q % 1000000000)))) f44 H locs ls (by omega) (by omega) c42 (fun z1 _ => by rw [Nat.add_sub_cancel, upd_at]; exact fun z2 => absurd ((nI_eq (a := q % 1000000000) (b := 0) (by omega) (by omega)).mp z2) (by omega)) e45 e39 hI48 hv33 hl hP hD hS
    exact lp25 4 q 0 h_20 f14 H locs ls (by omega) (Or.inl ⟨rfl, hq0⟩) c21 (fun _ z => absurd z (by omega)) e15 e19 hI18 un.rf hl hP hD hS
set_option maxHeartbeats 4000000 in
set_option maxRecDepth 100000 in
theorem c_setProduct (l : Launch) (g : Lay) (sz : Nat) (f : Nat → va_E) (x : Nat) (y : Nat) (z : Nat) (hL : LO g) (t_x : g.tg x = 5) (t_y : g.tg y = 5) (t_z : g.tg z = 5) (hI : IV g f) (h1 : y ≠ x) (h2 : z ≠ x) : Met l ⟨"BigRunner$LongNumber", "setProduct", "(LBigRunner$LongNumber;LBigRunner$LongNumber;)Z"⟩ [Cond.code ⟨"BigRunner$LongNumber", "setProduct", "(LBigRunner$LongNumber;LBigRunner$LongNumber;)Z"⟩ prog_5_method_10_code 10 (some .boolean)] ({ frames := 2, cells := 0, slots := 0, locals := 62 }) (va_Pc [.ref x, .ref y, .ref z] (pc_in g sz f)) (va_Qi (fun r f1 => (r = nI 0 ∨ r = nI 1) ∧ (IV g f1) ∧ (un [5, 23] g f f1)) (pc_out g sz) (pc_A g sz)) 0 0 (pc_A g sz) := by
  refine pe_ofW (cc := prog_5_method_10_code) (maxL := 10) (ret := (some .boolean)) (lv := [(0, .ref x), (1, .ref y), (2, .ref z)]) (by decide) (Nat.le_of_ble_eq_true rfl) rfl ?_
  intro p e s m args below meth c ls hx hb hr hml hlocks hown hB hP hK hD hsz hS hl
  subst hsz
  have hu : un [5, 23] g f f := un.rf
  refine lv_aload_n hx hb d_NLongNumber_setProduct_0 rfl (lv_at hl 1 rfl) ?_
  obtain ⟨sg_2, n_3, e1, c4⟩ := oc_5.of t_y (hI.1 y)
  refine pf_get (v := .int (nI n_3)) (C := "BigRunner$LongNumber") (T := FT4) (N := 3) hx hb (hw4 hB _) (fun _ h9 => h9) hown hK hP (lo_in hL t_y (by decide)) e1 rfl 1 (by decide) (wd_190 hB _) rfl d_NLongNumber_setProduct_1 ?_
  refine lv_aload_n hx hb d_NLongNumber_setProduct_4 rfl (lv_at hl 2 rfl) ?_
  obtain ⟨sg_6, n_7, e5, c8⟩ := oc_5.of t_z (hI.1 z)
  refine pf_get (v := .int (nI n_7)) (C := "BigRunner$LongNumber") (T := FT4) (N := 3) hx hb (hw4 hB _) (fun _ h9 => h9) hown hK hP (lo_in hL t_z (by decide)) e5 rfl 1 (by decide) (wd_190 hB _) rfl d_NLongNumber_setProduct_5 ?_
  refine pf_iaddN (x := n_3) (y := n_7) hx hb d_NLongNumber_setProduct_8 ?_
  refine lv_istore_n (lv' := [(3, .int (nI (n_3 + n_7))), (0, .ref x), (1, .ref y), (2, .ref z)]) hx hb d_NLongNumber_setProduct_9 rfl hl (by decide) rfl (fun ls hl => ?_)
  refine lv_iload_n hx hb d_NLongNumber_setProduct_10 rfl (lv_at hl 0 rfl) ?_
  refine lv_bipush (v := nI 15) hx hb d_NLongNumber_setProduct_11 (by decide) ?_
  refine lv_icmp_le (tgt := 18) hx hb d_NLongNumber_setProduct_13 (by decide) (fun b9 => ?_) (fun b9 => ?_)
  · skip
    replace b9 := (nI_leI (a := n_3 + n_7) (b := 15) (by omega) (by omega)).mp b9
    have hI10 := IV.ix hI x
    refine lv_aload_n hx hb d_NLongNumber_setProduct_18 rfl (lv_at hl 1 rfl) ?_
    obtain ⟨sg_12, n_13, e11, c14⟩ := oc_5.of t_x (hI10.1 x)
    refine pf_get (v := .ref (g.lk x 2)) (C := "BigRunner$LongNumber") (T := FT4) (N := 3) hx hb (hw4 hB _) (fun _ h9 => h9) hown hK hP (lo_in hL t_x (by decide)) e11 rfl 2 (by decide) (wd_192 hB _) rfl d_NLongNumber_setProduct_19 ?_
    refine lv_iconst (v := nI 0) hx hb d_NLongNumber_setProduct_22 (by decide) ?_
    refine pcc_v (va_runS (As := [.ref (g.lk x 2), .int (nI 0)]) (rest := []) ⟨hx, hb, hml, hown, tb_nil⟩ (c_fill l g s.heap.size f x hL t_x hI10) ⟨(callB_of 2 (tb_one (wd_802 hB _)) tb_good1 rfl rfl rfl (wd_91 hB _) (wd_800 hB _) (by decide +kernel) ⟨Nat.le_of_ble_eq_true rfl, Nat.le_of_ble_eq_true rfl⟩), (wd_801 hB _)⟩ ⟨pe_bl, pe_pre hB hK hP hD⟩ rfl rfl hl.1 rfl (lv_room (Nat.le_of_ble_eq_true rfl)) d_NLongNumber_setProduct_23 ⟨Nat.le_of_ble_eq_true rfl, Nat.le_of_ble_eq_true rfl⟩) hS (fun f16 H locs hq17 hP hD hS => ?_)
    obtain ⟨hI1_18, hu1_19⟩ := hq17
    have hu := hu.tr hu1_19 (by decide)
    have e1 := hu1_19.at t_y (by decide) e1
    have e5 := hu1_19.at t_z (by decide) e5
    have e11 := hu1_19.at t_x (by decide) e11
    refine lv_iconst (v := nI 0) hx hb d_NLongNumber_setProduct_26 (by decide) ?_
    refine lv_istore (lv' := [(4, .int (nI 0)), (3, .int (nI (n_3 + n_7))), (0, .ref x), (1, .ref y), (2, .ref z)]) hx hb d_NLongNumber_setProduct_27 hl (by decide) rfl (fun ls hl => ?_)
    have lp20 : ∀ (k22 : Nat) (i : Nat) (f21 : Nat → va_E) (H : Heap) (locs : List Loc) (ls : Array Slot), (n_3 < i + k22) → (i ≤ n_3) → IX g x f21 → un [23] g f16 f21 → lv_has ls 10 [(4, .int (nI i)), (3, .int (nI (n_3 + n_7))), (0, .ref x), (1, .ref y), (2, .ref z)] → va_P g.D vcl (va_pl g.LP f21) H → va_D (pc_A g s.heap.size) (va_pl g.LP f21) → va_S (pc_A g s.heap.size) s.heap H locs → W p l e ({ frames := 2, cells := 0, slots := 0, locals := 62 }) s m args below meth c H locs 0 0 (MQ below (va_Qi (fun r f1 => (r = nI 0 ∨ r = nI 1) ∧ (IV g f1) ∧ (un [5, 23] g f f1)) (pc_out g s.heap.size) (pc_A g s.heap.size)) args s 0 0 (pc_A g s.heap.size)) (F0 m 29 ls []) := by
      intro k22
      induction k22 with
      | zero => intros; exfalso; omega
      | succ k22 ih23 =>
        intro i f21 H locs ls hfu24 hi hI25 hv26 hl hP hD hS
        have e1 := hv26.at t_y (by decide) e1
        have e5 := hv26.at t_z (by decide) e5
        have e11 := hv26.at t_x (by decide) e11
        have hu := hu.tr hv26 (by decide)
        refine lv_iload hx hb d_NLongNumber_setProduct_29 (lv_at hl 0 rfl) ?_
        refine lv_aload_n hx hb d_NLongNumber_setProduct_31 rfl (lv_at hl 3 rfl) ?_
        refine pf_get (v := .int (nI n_3)) (C := "BigRunner$LongNumber") (T := FT4) (N := 3) hx hb (hw4 hB _) (fun _ h9 => h9) hown hK hP (lo_in hL t_y (by decide)) e1 rfl 1 (by decide) (wd_190 hB _) rfl d_NLongNumber_setProduct_32 ?_
        refine lv_icmp_ge (tgt := 143) hx hb d_NLongNumber_setProduct_35 (by decide) (fun b27 => ?_) (fun b27 => ?_)
        · skip
          replace b27 := (nI_leI (a := n_3) (b := i) (by omega) (by omega)).mp b27
          refine lv_aload_n hx hb d_NLongNumber_setProduct_143 rfl (lv_at hl 2 rfl) ?_
          refine lv_iload_n hx hb d_NLongNumber_setProduct_144 rfl (lv_at hl 1 rfl) ?_
          refine lv_aload_n hx hb d_NLongNumber_setProduct_145 rfl (lv_at hl 3 rfl) ?_
          refine pf_get (v := .int sg_2) (C := "BigRunner$LongNumber") (T := FT4) (N := 3) hx hb (hw4 hB _) (fun _ h9 => h9) hown hK hP (lo_in hL t_y (by decide)) e1 rfl 0 (by decide) (wd_186 hB _) rfl d_NLongNumber_setProduct_146 ?_
          refine lv_aload_n hx hb d_NLongNumber_setProduct_149 rfl (lv_at hl 4 rfl) ?_
          refine pf_get (v := .int sg_6) (C := "BigRunner$LongNumber") (T := FT4) (N := 3) hx hb (hw4 hB _) (fun _ h9 => h9) hown hK hP (lo_in hL t_z (by decide)) e5 rfl 0 (by decide) (wd_186 hB _) rfl d_NLongNumber_setProduct_150 ?_
          refine lv_imul hx hb d_NLongNumber_setProduct_153 ?_
          refine pcc_v (va_runV (C := "BigRunner$LongNumber") (As := [.int (nI (n_3 + n_7)), .int (sg_2 * sg_6)]) (rest := []) ⟨hx, hb, hml, hown, tb_nil⟩ (c_finish l g H.size f21 x ((n_3 + n_7)) ((sg_2 * sg_6)) hL t_x hI25 (by omega)) ⟨(callB_of 2 (tb_one (wd_784 hB _)) tb_good1 rfl rfl rfl (wd_78 hB _) (wd_781 hB _) (by decide +kernel) ⟨Nat.le_of_ble_eq_true rfl, Nat.le_of_ble_eq_true rfl⟩), (wd_782 hB _), (wd_783 hB _)⟩ ⟨pe_bl, pg_recv (ci := 4) hK hP (lo_in hL t_x (by decide)) e11 rfl, pe_pre hB hK hP hD⟩ rfl rfl hl.1 rfl (lv_room (Nat.le_of_ble_eq_true rfl)) d_NLongNumber_setProduct_154 ⟨Nat.le_of_ble_eq_true rfl, Nat.le_of_ble_eq_true rfl⟩) hS (fun f29 H locs hq30 hP hD hS => ?_)
          obtain ⟨hI1_31, hu1_32⟩ := hq30
          have hu := hu.tr hu1_32 (by decide)
          refine lv_aload_n hx hb d_NLongNumber_setProduct_157 rfl (lv_at hl 2 rfl) ?_
          obtain ⟨sg_34, n_35, e33, c36⟩ := oc_5.of t_x (hI1_31.1 x)
          refine pcc_i (va_runV (C := "BigRunner$LongNumber") (As := []) (rest := []) ⟨hx, hb, hml, hown, tb_nil⟩ (c_fits l g H.size f29 x hL t_x hI1_31.1) ⟨(callB_of 0 (tb_one (wd_795 hB _)) tb_good1 rfl rfl rfl (wd_78 hB _) (wd_792 hB _) (by decide +kernel) ⟨Nat.le_of_ble_eq_true rfl, Nat.le_of_ble_eq_true rfl⟩), (wd_794 hB _), (wd_33 hB _)⟩ ⟨pe_bl, pg_recv (ci := 4) hK hP (lo_in hL t_x (by decide)) e33 rfl, pe_pre hB hK hP hD⟩ rfl rfl hl.1 rfl (lv_room (Nat.le_of_ble_eq_true rfl)) d_NLongNumber_setProduct_158 ⟨Nat.le_of_ble_eq_true rfl, Nat.le_of_ble_eq_true rfl⟩) hS (fun r37 f38 H locs hq39 hP hD hS => ?_)
          obtain ⟨bo_40, rfl⟩ := hq39
          exact pe_zret hx hb hr hlocks hK hP hD hS d_NLongNumber_setProduct_161 (by rcases bo_40 with h9 | h9 <;> rw [h9] <;> rfl) ⟨bo_40, hI1_31, hu⟩
        · skip
          replace b27 := mt (nI_leI (a := n_3) (b := i) (by omega) (by omega)).mpr b27
          refine lv_aload_n hx hb d_NLongNumber_setProduct_38 rfl (lv_at hl 3 rfl) ?_
          refine pf_get (v := .ref (g.lk y 2)) (C := "BigRunner$LongNumber") (T := FT4) (N := 3) hx hb (hw4 hB _) (fun _ h9 => h9) hown hK hP (lo_in hL t_y (by decide)) e1 rfl 2 (by decide) (wd_192 hB _) rfl d_NLongNumber_setProduct_39 ?_
          refine lv_iload hx hb d_NLongNumber_setProduct_42 (lv_at hl 0 rfl) ?_
          obtain ⟨h_42, e41, c43⟩ := oc_23.of (lo_k5_2 hL _ t_y) (hI25.1 (g.lk y 2))
          refine pf_iald (i := i) hx hb hK hP (lo_in hL (lo_k5_2 hL _ t_y) (by decide)) e41 (lo_t23 hL _ (lo_k5_2 hL _ t_y)) (by omega) (by decide) d_NLongNumber_setProduct_44 ?_
          refine lv_topi (fun z_ hz_ => ?_)
          obtain ⟨li44, hli44, qli44⟩ := c43 i (by omega)
          obtain rfl : z_ = nI li44 := hz_.trans qli44
          refine pf_i2lN hx hb (by omega) d_NLongNumber_setProduct_45 ?_
          refine lv_lstore (lv' := [(5, .long (nL li44)), (4, .int (nI i)), (3, .int (nI (n_3 + n_7))), (0, .ref x), (1, .ref y), (2, .ref z)]) hx hb d_NLongNumber_setProduct_46 hl (by decide) rfl (fun ls hl => ?_)
          refine lv_lconst (v := nL 0) hx hb d_NLongNumber_setProduct_48 (by decide) ?_
          refine lv_lstore (lv' := [(7, .long (nL 0)), (5, .long (nL li44)), (4, .int (nI i)), (3, .int (nI (n_3 + n_7))), (0, .ref x), (1, .ref y), (2, .ref z)]) hx hb d_NLongNumber_setProduct_49 hl (by decide) rfl (fun ls hl => ?_)
          refine lv_iconst (v := nI 0) hx hb d_NLongNumber_setProduct_51 (by decide) ?_
          refine lv_istore (lv' := [(9, .int (nI 0)), (7, .long (nL 0)), (5, .long (nL li44)), (4, .int (nI i)), (3, .int (nI (n_3 + n_7))), (0, .ref x), (1, .ref y), (2, .ref z)]) hx hb d_NLongNumber_setProduct_52 hl (by decide) rfl (fun ls hl => ?_)
          have lp45 : ∀ (k47 : Nat) (cy : Nat) (j : Nat) (f46 : Nat → va_E) (H : Heap) (locs : List Loc) (ls : Array Slot), (n_7 < j + k47) → (cy < 1000000000) → (j ≤ n_7) → IX g x f46 → un [23] g f21 f46 → lv_has ls 10 [(9, .int (nI j)), (7, .long (nL cy)), (5, .long (nL li44)), (4, .int (nI i)), (3, .int (nI (n_3 + n_7))), (0, .ref x), (1, .ref y), (2, .ref z)] → va_P g.D vcl (va_pl g.LP f46) H → va_D (pc_A g s.heap.size) (va_pl g.LP f46) → va_S (pc_A g s.heap.size) s.heap H locs → W p l e ({ frames := 2, cells := 0, slots := 0, locals := 62 }) s m args below meth c H locs 0 0 (MQ below (va_Qi (fun r f1 => (r = nI 0 ∨ r = nI 1) ∧ (IV g f1) ∧ (un [5, 23] g f f1)) (pc_out g s.heap.size) (pc_A g s.heap.size)) args s 0 0 (pc_A g s.heap.size)) (F0 m 54 ls []) := by
            intro k47
            induction k47 with
            | zero => intros; exfalso; omega
            | succ k47 ih48 =>
              intro cy j f46 H locs ls hfu49 hcy hj hI50 hv51 hl hP hD hS
              have e1 := hv51.at t_y (by decide) e1
              have e5 := hv51.at t_z (by decide) e5
              have e11 := hv51.at t_x (by decide) e11
              have hu := hu.tr hv51 (by decide)
              have hv26 := hv26.tr hv51 (by decide)
              refine lv_iload hx hb d_NLongNumber_setProduct_54 (lv_at hl 0 rfl) ?_
              refine lv_aload_n hx hb d_NLongNumber_setProduct_56 rfl (lv_at hl 7 rfl) ?_
              refine pf_get (v := .int (nI n_7)) (C := "BigRunner$LongNumber") (T := FT4) (N := 3) hx hb (hw4 hB _) (fun _ h9 => h9) hown hK hP (lo_in hL t_z (by decide)) e5 rfl 1 (by decide) (wd_190 hB _) rfl d_NLongNumber_setProduct_57 ?_
              refine lv_icmp_ge (tgt := 122) hx hb d_NLongNumber_setProduct_60 (by decide) (fun b52 => ?_) (fun b52 => ?_)
              · skip
                replace b52 := (nI_leI (a := n_7) (b := j) (by omega) (by omega)).mp b52
                refine lv_aload_n hx hb d_NLongNumber_setProduct_122 rfl (lv_at hl 5 rfl) ?_
                refine pf_get (v := .ref (g.lk x 2)) (C := "BigRunner$LongNumber") (T := FT4) (N := 3) hx hb (hw4 hB _) (fun _ h9 => h9) hown hK hP (lo_in hL t_x (by decide)) e11 rfl 2 (by decide) (wd_192 hB _) rfl d_NLongNumber_setProduct_123 ?_
                refine lv_iload hx hb d_NLongNumber_setProduct_126 (lv_at hl 3 rfl) ?_
                refine lv_aload_n hx hb d_NLongNumber_setProduct_128 rfl (lv_at hl 7 rfl) ?_
                refine pf_get (v := .int (nI n_7)) (C := "BigRunner$LongNumber") (T := FT4) (N := 3) hx hb (hw4 hB _) (fun _ h9 => h9) hown hK hP (lo_in hL t_z (by decide)) e5 rfl 1 (by decide) (wd_190 hB _) rfl d_NLongNumber_setProduct_129 ?_
                refine pf_iaddN (x := i) (y := n_7) hx hb d_NLongNumber_setProduct_132 ?_
                refine lv_lload hx hb d_NLongNumber_setProduct_133 (lv_at hl 1 rfl) ?_
                refine pf_l2iN hx hb d_NLongNumber_setProduct_135 ?_
                obtain ⟨h_54, e53, c55⟩ := oc_23.of (lo_k5_2 hL _ t_x) (hI50.1 (g.lk x 2))
                refine pf_iast (i := i + n_7) hx hb hK hP hD hS (lo_in hL (lo_k5_2 hL _ t_x) (by decide)) e53 (lo_t23 hL _ (lo_k5_2 hL _ t_x)) (by omega) (by decide) d_NLongNumber_setProduct_136 (fun f56 H locs e57 k58 hP hD hS => ?_)
                have e1 := (k58 y (tg_ne t_y (lo_k5_2 hL _ t_x) (by decide))).trans e1
                have e5 := (k58 z (tg_ne t_z (lo_k5_2 hL _ t_x) (by decide))).trans e5
                have e11 := (k58 x (tg_ne t_x (lo_k5_2 hL _ t_x) (by decide))).trans e11
                have hu := hu.st k58 (lo_k5_2 hL _ t_x) (by decide)
                have hv26 := hv26.st k58 (lo_k5_2 hL _ t_x) (by decide)
                have hv51 := hv51.st k58 (lo_k5_2 hL _ t_x) (by decide)
                have hk59 : ∀ b, b ≠ (g.lk x 2) → f56 b = f46 b := k58
                have c60 := lb_upd (n := 15) (i := i + n_7) (v := cy) c55 (by omega)
                refine lv_iinc (k := 3) (v := nI (i + 1)) (lv' := [(4, .int (nI (i + 1))), (9, .int (nI j)), (7, .long (nL cy)), (5, .long (nL li44)), (3, .int (nI (n_3 + n_7))), (0, .ref x), (1, .ref y), (2, .ref z)]) hx hb d_NLongNumber_setProduct_137 hl rfl (by rw [nI_succ]; rfl) (by decide) rfl (fun ls hl => ?_)
                refine lv_goto (tgt := 29) hx hb d_NLongNumber_setProduct_140 (by decide) ?_
                have hI61 := ix_23 hI50 hL t_x hk59 (⟨_, e57, c60⟩)
                have hl : lv_has ls 10 [(4, .int (nI (i + 1))), (3, .int (nI (n_3 + n_7))), (0, .ref x), (1, .ref y), (2, .ref z)] := lv_sub hl [0, 4, 5, 6, 7] rfl
                exact ih23 (i + 1) f56 H locs ls (by omega) (by omega) hI61 hv26 hl hP hD hS
              · skip
                replace b52 := mt (nI_leI (a := n_7) (b := j) (by omega) (by omega)).mpr b52
                refine lv_lload hx hb d_NLongNumber_setProduct_63 (lv_at hl 1 rfl) ?_
                refine lv_aload_n hx hb d_NLongNumber_setProduct_65 rfl (lv_at hl 5 rfl) ?_
                refine pf_get (v := .ref (g.lk x 2)) (C := "BigRunner$LongNumber") (T := FT4) (N := 3) hx hb (hw4 hB _) (fun _ h9 => h9) hown hK hP (lo_in hL t_x (by decide)) e11 rfl 2 (by decide) (wd_192 hB _) rfl d_NLongNumber_setProduct_66 ?_
                refine lv_iload hx hb d_NLongNumber_setProduct_69 (lv_at hl 3 rfl) ?_
                refine lv_iload hx hb d_NLongNumber_setProduct_71 (lv_at hl 0 rfl) ?_
                refine pf_iaddN (x := i) (y := j) hx hb d_NLongNumber_setProduct_73 ?_
                obtain ⟨h_63, e62, c64⟩ := oc_23.of (lo_k5_2 hL _ t_x) (hI50.1 (g.lk x 2))
                refine pf_iald (i := i + j) hx hb hK hP (lo_in hL (lo_k5_2 hL _ t_x) (by decide)) e62 (lo_t23 hL _ (lo_k5_2 hL _ t_x)) (by omega) (by decide) d_NLongNumber_setProduct_74 ?_
                refine lv_topi (fun z_ hz_ => ?_)
                obtain ⟨li65, hli65, qli65⟩ := c64 (i + j) (by omega)
                obtain rfl : z_ = nI li65 := hz_.trans qli65
                refine pf_i2lN hx hb (by omega) d_NLongNumber_setProduct_75 ?_
                refine lv_lload hx hb d_NLongNumber_setProduct_76 (lv_at hl 2 rfl) ?_
                refine lv_aload_n hx hb d_NLongNumber_setProduct_78 rfl (lv_at hl 7 rfl) ?_
                refine pf_get (v := .ref (g.lk z 2)) (C := "BigRunner$LongNumber") (T := FT4) (N := 3) hx hb (hw4 hB _) (fun _ h9 => h9) hown hK hP (lo_in hL t_z (by decide)) e5 rfl 2 (by decide) (wd_192 hB _) rfl d_NLongNumber_setProduct_79 ?_
                refine lv_iload hx hb d_NLongNumber_setProduct_82 (lv_at hl 0 rfl) ?_
                obtain ⟨h_67, e66, c68⟩ := oc_23.of (lo_k5_2 hL _ t_z) (hI50.1 (g.lk z 2))
                refine pf_iald (i := j) hx hb hK hP (lo_in hL (lo_k5_2 hL _ t_z) (by decide)) e66 (lo_t23 hL _ (lo_k5_2 hL _ t_z)) (by omega) (by decide) d_NLongNumber_setProduct_84 ?_
                refine lv_topi (fun z_ hz_ => ?_)
                obtain ⟨li69, hli69, qli69⟩ := c68 j (by omega)
                obtain rfl : z_ = nI li69 := hz_.trans qli69
                refine pf_i2lN hx hb (by omega) d_NLongNumber_setProduct_85 ?_
                refine pf_lmulN (x := li44) (y := li69) hx hb d_NLongNumber_setProduct_86 ?_
                have hm70 : li44 * li69 ≤ 999999999 * 999999999 := Nat.mul_le_mul (by omega) (by omega)
                refine pf_laddN (x := li65) (y := li44 * li69) hx hb d_NLongNumber_setProduct_87 ?_
                refine pf_laddN (x := cy) (y := li65 + (li44 * li69)) hx hb d_NLongNumber_setProduct_88 ?_
                refine lv_lstore (lv' := [(7, .long (nL (cy + (li65 + (li44 * li69))))), (9, .int (nI j)), (5, .long (nL li44)), (4, .int (nI i)), (3, .int (nI (n_3 + n_7))), (0, .ref x), (1, .ref y), (2, .ref z)]) hx hb d_NLongNumber_setProduct_89 hl (by decide) rfl (fun ls hl => ?_)
                refine lv_aload_n hx hb d_NLongNumber_setProduct_91 rfl (lv_at hl 5 rfl) ?_
                refine pf_get (v := .ref (g.lk x 2)) (C := "BigRunner$LongNumber") (T := FT4) (N := 3) hx hb (hw4 hB _) (fun _ h9 => h9) hown hK hP (lo_in hL t_x (by decide)) e11 rfl 2 (by decide) (wd_192 hB _) rfl d_NLongNumber_setProduct_92 ?_
                refine lv_iload hx hb d_NLongNumber_setProduct_95 (lv_at hl 3 rfl) ?_
                refine lv_iload hx hb d_NLongNumber_setProduct_97 (lv_at hl 1 rfl) ?_
                refine pf_iaddN (x := i) (y := j) hx hb d_NLongNumber_setProduct_99 ?_
                refine lv_lload hx hb d_NLongNumber_setProduct_100 (lv_at hl 0 rfl) ?_
                refine lv_ldc2 (v := 1000000000) hx hb hown (wd_685 hB _) d_NLongNumber_setProduct_102 ?_
                refine lv_topl (fun z_ hz_ => ?_)
                obtain rfl : z_ = nL 1000000000 := hz_
                refine pf_lremN (x := cy + (li65 + (li44 * li69))) (y := 1000000000) hx hb (by omega) (by omega) (by omega) d_NLongNumber_setProduct_105 ?_
                refine pf_l2iN hx hb d_NLongNumber_setProduct_106 ?_
                refine pf_iast (i := i + j) hx hb hK hP hD hS (lo_in hL (lo_k5_2 hL _ t_x) (by decide)) e62 (lo_t23 hL _ (lo_k5_2 hL _ t_x)) (by omega) (by decide) d_NLongNumber_setProduct_107 (fun f71 H locs e72 k73 hP hD hS => ?_)
                have e1 := (k73 y (tg_ne t_y (lo_k5_2 hL _ t_x) (by decide))).trans e1
                have e5 := (k73 z (tg_ne t_z (lo_k5_2 hL _ t_x) (by decide))).trans e5
                have e11 := (k73 x (tg_ne t_x (lo_k5_2 hL _ t_x) (by decide))).trans e11
                have e66 := (k73 (g.lk z 2) (fun q9 => h2 (lo_inj5 hL _ _ t_z t_x q9))).trans e66
                have hu := hu.st k73 (lo_k5_2 hL _ t_x) (by decide)
                have hv26 := hv26.st k73 (lo_k5_2 hL _ t_x) (by decide)
                have hv51 := hv51.st k73 (lo_k5_2 hL _ t_x) (by decide)
                have hk74 : ∀ b, b ≠ (g.lk x 2) → f71 b = f46 b := k73
                have c75 := lb_upd (n := 15) (i := i + j) (v := (cy + (li65 + (li44 * li69))) % 1000000000) c64 (by omega)
                refine lv_lload hx hb d_NLongNumber_setProduct_108 (lv_at hl 0 rfl) ?_
                refine lv_ldc2 (v := 1000000000) hx hb hown (wd_685 hB _) d_NLongNumber_setProduct_110 ?_
                refine lv_topl (fun z_ hz_ => ?_)
                obtain rfl : z_ = nL 1000000000 := hz_
                refine pf_ldivN (x := cy + (li65 + (li44 * li69))) (y := 1000000000) hx hb (by omega) (by omega) (by omega) d_NLongNumber_setProduct_113 ?_
                refine lv_lstore (lv' := [(7, .long (nL ((cy + (li65 + (li44 * li69))) / 1000000000))), (9, .int (nI j)), (5, .long (nL li44)), (4, .int (nI i)), (3, .int (nI (n_3 + n_7))), (0, .ref x), (1, .ref y), (2, .ref z)]) hx hb d_NLongNumber_setProduct_114 hl (by decide) rfl (fun ls hl => ?_)
                refine lv_iinc (k := 1) (v := nI (j + 1)) (lv' := [(9, .int (nI (j + 1))), (7, .long (nL ((cy + (li65 + (li44 * li69))) / 1000000000))), (5, .long (nL li44)), (4, .int (nI i)), (3, .int (nI (n_3 + n_7))), (0, .ref x), (1, .ref y), (2, .ref z)]) hx hb d_NLongNumber_setProduct_116 hl rfl (by rw [nI_succ]; rfl) (by decide) rfl (fun ls hl => ?_)
                refine lv_goto (tgt := 54) hx hb d_NLongNumber_setProduct_119 (by decide) ?_
                have hI76 := ix_23 hI50 hL t_x hk74 (⟨_, e72, c75⟩)
                exact ih48 ((cy + (li65 + (li44 * li69))) / 1000000000) (j + 1) f71 H locs ls (by omega) (by omega) (by omega) hI76 hv51 hl hP hD hS
          exact lp45 (n_7 + 1) 0 0 f21 H locs ls (by omega) (by omega) (by omega) hI25 un.rf hl hP hD hS
    exact lp20 (n_3 + 1) 0 f16 H locs ls (by omega) (by omega) hI1_18 un.rf hl hP hD hS
  · skip
    replace b9 := mt (nI_leI (a := n_3 + n_7) (b := 15) (by omega) (by omega)).mpr b9
    refine lv_iconst (v := nI 0) hx hb d_NLongNumber_setProduct_16 (by decide) ?_
    exact pe_zret hx hb hr hlocks hK hP hD hS d_NLongNumber_setProduct_17 rfl ⟨(Or.inl rfl), hI, hu⟩
set_option maxHeartbeats 4000000 in
set_option maxRecDepth 100000 in
theorem c_widened (l : Launch) (g : Lay) (sz : Nat) (f : Nat → va_E) (x : Nat) (hL : LO g) (t_x : g.tg x = 6) (hI : IV g f) : Met l ⟨"BigRunner$Node", "widened", "()LBigRunner$LongNumber;"⟩ [Cond.code ⟨"BigRunner$Node", "widened", "()LBigRunner$LongNumber;"⟩ prog_6_method_2_code 1 (some (.object "BigRunner$LongNumber"))] ({ frames := 2, cells := 0, slots := 0, locals := 65 }) (va_Pc [.ref x] (pc_in g sz f)) (va_Qr (fun _ => True) (pc_outr g sz (fun f1 ra => (ra = g.lk x 6) ∧ (IV g f1) ∧ (un [5, 23] g f f1))) (pc_A g sz)) 0 0 (pc_A g sz) := by
  refine pe_ofW (cc := prog_6_method_2_code) (maxL := 1) (ret := (some (.object "BigRunner$LongNumber"))) (lv := [(0, .ref x)]) (by decide) (Nat.le_of_ble_eq_true rfl) rfl ?_
  intro p e s m args below meth c ls hx hb hr hml hlocks hown hB hP hK hD hsz hS hl
  subst hsz
  have hu : un [5, 23] g f f := un.rf
  refine lv_aload_n hx hb d_NNode_widened_0 rfl (lv_at hl 0 rfl) ?_
  obtain ⟨kd_2, le_3, ri_4, sm_5, mv_6, e1, c7, c8, c9, c10, c11, c12⟩ := oc_6.of t_x (hI.1 x)
  refine pf_get (v := .int sm_5) (C := "BigRunner$Node") (T := FT5) (N := 7) hx hb (hw5 hB _) (fun _ h9 => h9) hown hK hP (lo_in hL t_x (by decide)) e1 rfl 4 (by decide) (wd_216 hB _) rfl d_NNode_widened_1 ?_
  refine lv_if_eq (tgt := 18) hx hb d_NNode_widened_4 (by decide) (fun b13 => ?_) (fun b13 => ?_)
  · skip
    have hr14 : sm_5 = nI 0 := b13
    refine lv_aload_n hx hb d_NNode_widened_18 rfl (lv_at hl 0 rfl) ?_
    refine pf_get (v := .ref (g.lk x 6)) (C := "BigRunner$Node") (T := FT5) (N := 7) hx hb (hw5 hB _) (fun _ h9 => h9) hown hK hP (lo_in hL t_x (by decide)) e1 rfl 6 (by decide) (wd_223 hB _) rfl d_NNode_widened_19 ?_
    exact pe_aret hx hb hr hlocks hK hP hD hS d_NNode_widened_22 ⟨rfl, hI, hu⟩
  · skip
    have hr15 : sm_5 = nI 1 := (bl_1 c11 b13)
    refine lv_aload_n hx hb d_NNode_widened_7 rfl (lv_at hl 0 rfl) ?_
    refine pf_get (v := .ref (g.lk x 6)) (C := "BigRunner$Node") (T := FT5) (N := 7) hx hb (hw5 hB _) (fun _ h9 => h9) hown hK hP (lo_in hL t_x (by decide)) e1 rfl 6 (by decide) (wd_223 hB _) rfl d_NNode_widened_8 ?_
    refine lv_aload_n hx hb d_NNode_widened_11 rfl (lv_at hl 0 rfl) ?_
    refine pf_get (v := .long mv_6) (C := "BigRunner$Node") (T := FT5) (N := 7) hx hb (hw5 hB _) (fun _ h9 => h9) hown hK hP (lo_in hL t_x (by decide)) e1 rfl 5 (by decide) (wd_219 hB _) rfl d_NNode_widened_12 ?_
    obtain ⟨sg_17, n_18, e16, c19⟩ := oc_5.of (lo_k6_6 hL _ t_x) (hI.1 (g.lk x 6))
    refine pcc_v (va_runV (C := "BigRunner$LongNumber") (As := [.long mv_6]) (rest := []) ⟨hx, hb, hml, hown, tb_nil⟩ (c_setTo l g s.heap.size f ((g.lk x 6)) mv_6 hL (lo_k6_6 hL _ t_x) hI) ⟨(callB_of 1 (tb_one (wd_680 hB _)) tb_good1 rfl rfl rfl (wd_78 hB _) (wd_762 hB _) (by decide +kernel) ⟨Nat.le_of_ble_eq_true rfl, Nat.le_of_ble_eq_true rfl⟩), (wd_678 hB _), (wd_679 hB _)⟩ ⟨pe_bl, pg_recv (ci := 4) hK hP (lo_in hL (lo_k6_6 hL _ t_x) (by decide)) e16 rfl, pe_pre hB hK hP hD⟩ rfl rfl hl.1 rfl (lv_room (Nat.le_of_ble_eq_true rfl)) d_NNode_widened_15 ⟨Nat.le_of_ble_eq_true rfl, Nat.le_of_ble_eq_true rfl⟩) hS (fun f21 H locs hq22 hP hD hS => ?_)
    obtain ⟨hI1_23, hu1_24⟩ := hq22
    have hu := hu.tr hu1_24 (by decide)
    have e1 := hu1_24.at t_x (by decide) e1
    refine lv_aload_n hx hb d_NNode_widened_18 rfl (lv_at hl 0 rfl) ?_
    refine pf_get (v := .ref (g.lk x 6)) (C := "BigRunner$Node") (T := FT5) (N := 7) hx hb (hw5 hB _) (fun _ h9 => h9) hown hK hP (lo_in hL t_x (by decide)) e1 rfl 6 (by decide) (wd_223 hB _) rfl d_NNode_widened_19 ?_
    exact pe_aret hx hb hr hlocks hK hP hD hS d_NNode_widened_22 ⟨rfl, hI1_23, hu⟩
set_option maxHeartbeats 4000000 in
set_option maxRecDepth 100000 in
theorem c_nsign (l : Launch) (g : Lay) (sz : Nat) (f : Nat → va_E) (x : Nat) (hL : LO g) (t_x : g.tg x = 6) (hI : OC g f) : Met l ⟨"BigRunner$Node", "sign", "()I"⟩ [Cond.code ⟨"BigRunner$Node", "sign", "()I"⟩ prog_6_method_3_code 1 (some .int)] ({ frames := 1, cells := 0, slots := 0, locals := 21 }) (va_Pc [.ref x] (pc_in g sz f)) (va_Qi (fun r f1 => (f = f1)) (pc_out g sz) (pc_A g sz)) 0 0 (pc_A g sz) := by
  refine pe_ofW (cc := prog_6_method_3_code) (maxL := 1) (ret := (some .int)) (lv := [(0, .ref x)]) (by decide) (Nat.le_of_ble_eq_true rfl) rfl ?_
  intro p e s m args below meth c ls hx hb hr hml hlocks hown hB hP hK hD hsz hS hl
  subst hsz
  refine lv_aload_n hx hb d_NNode_sign_0 rfl (lv_at hl 0 rfl) ?_
  obtain ⟨kd_2, le_3, ri_4, sm_5, mv_6, e1, c7, c8, c9, c10, c11, c12⟩ := oc_6.of t_x (hI x)
  refine pf_get (v := .int sm_5) (C := "BigRunner$Node") (T := FT5) (N := 7) hx hb (hw5 hB _) (fun _ h9 => h9) hown hK hP (lo_in hL t_x (by decide)) e1 rfl 4 (by decide) (wd_216 hB _) rfl d_NNode_sign_1 ?_
  refine lv_if_eq (tgt := 17) hx hb d_NNode_sign_4 (by decide) (fun b13 => ?_) (fun b13 => ?_)
  · skip
    have hr14 : sm_5 = nI 0 := b13
    refine lv_aload_n hx hb d_NNode_sign_17 rfl (lv_at hl 0 rfl) ?_
    refine pf_get (v := .ref (g.lk x 6)) (C := "BigRunner$Node") (T := FT5) (N := 7) hx hb (hw5 hB _) (fun _ h9 => h9) hown hK hP (lo_in hL t_x (by decide)) e1 rfl 6 (by decide) (wd_223 hB _) rfl d_NNode_sign_18 ?_
    obtain ⟨sg_16, n_17, e15, c18⟩ := oc_5.of (lo_k6_6 hL _ t_x) (hI (g.lk x 6))
    refine pf_get (v := .int sg_16) (C := "BigRunner$LongNumber") (T := FT4) (N := 3) hx hb (hw4 hB _) (fun _ h9 => h9) hown hK hP (lo_in hL (lo_k6_6 hL _ t_x) (by decide)) e15 rfl 0 (by decide) (wd_188 hB _) rfl d_NNode_sign_21 ?_
    exact pe_iret hx hb hr hlocks hK hP hD hS d_NNode_sign_24 rfl
  · skip
    have hr19 : sm_5 = nI 1 := (bl_1 c11 b13)
    refine lv_aload_n hx hb d_NNode_sign_7 rfl (lv_at hl 0 rfl) ?_
    refine pf_get (v := .long mv_6) (C := "BigRunner$Node") (T := FT5) (N := 7) hx hb (hw5 hB _) (fun _ h9 => h9) hown hK hP (lo_in hL t_x (by decide)) e1 rfl 5 (by decide) (wd_219 hB _) rfl d_NNode_sign_8 ?_
    refine pcc_i (va_runS (As := [.long mv_6]) (rest := []) ⟨hx, hb, hml, hown, tb_nil⟩ (c_signum l g s.heap.size f mv_6 hL hI) ⟨(callB_of 1 (tb_one (wd_684 hB _)) tb_good1 rfl rfl rfl (wd_88 hB _) (wd_847 hB _) (by decide +kernel) ⟨Nat.le_of_ble_eq_true rfl, Nat.le_of_ble_eq_true rfl⟩), (wd_683 hB _)⟩ ⟨pe_bl, pe_pre hB hK hP hD⟩ rfl rfl hl.1 rfl (lv_room (Nat.le_of_ble_eq_true rfl)) d_NNode_sign_11 ⟨Nat.le_of_ble_eq_true rfl, Nat.le_of_ble_eq_true rfl⟩) hS (fun r20 f21 H locs hq22 hP hD hS => ?_)
    subst hq22
    refine lv_goto (tgt := 24) hx hb d_NNode_sign_14 (by decide) ?_
    exact pe_iret hx hb hr hlocks hK hP hD hS d_NNode_sign_24 rfl
