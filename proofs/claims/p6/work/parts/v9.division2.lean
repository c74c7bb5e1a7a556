set_option maxHeartbeats 4000000 in
set_option maxRecDepth 100000 in
theorem v_putBack (l : Launch) (g : Lay) (sz : Nat) (f : Nat → va_E) (D : Nat) (pl : Nat) (n : Nat) (hU : Nat → Int32) (hV : Nat → Int32) (z : Nat) (hL : LO g) (t_D : g.tg D = 4) (hI : IX g z f) (ed : f D = .inr (3, [.ref (g.lk D 0), .ref (g.lk D 1), .int (nI n)])) (eU : f (g.lk D 0) = .inl (g.ac (g.lk D 0), 16, .inl hU)) (cU : ∀ i, i < 16 → ∃ k, k < 1000000000 ∧ hU i = nI k) (eV : f (g.lk D 1) = .inl (g.ac (g.lk D 1), 16, .inl hV)) (cV : ∀ i, i < 16 → ∃ k, k < 1000000000 ∧ hV i = nI k) (hp : pl + n ≤ 15) : Met l ⟨"BigRunner$LongDivision", "putBack", "(I)V"⟩ [Cond.code ⟨"BigRunner$LongDivision", "putBack", "(I)V"⟩ prog_4_method_7_code 5 none] ({ frames := 0, cells := 0, slots := 0, locals := 0 }) (va_Pc [.ref D, .int (nI pl)] (pc_in g sz f)) (va_Qv (fun f1 => (∃ h1 : Nat → Int32, f1 (g.lk D 0) = .inl (g.ac (g.lk D 0), 16, .inl h1) ∧ (∀ i, i < 16 → ∃ k, k < 1000000000 ∧ h1 i = nI k) ∧ (∀ j, ¬ (pl ≤ j ∧ j < pl + n) → h1 j = hU j) ∧ ∃ k, k ≤ 1 ∧ kv (fun i => dg h1 (pl + i)) n + k * 1000000000 ^ n = kv (fun i => dg hU (pl + i)) n + kv (dg hV) n) ∧ (IX g z f1) ∧ (∀ b, b ≠ (g.lk D 0) → f1 b = f b)) (pc_out g sz) (pc_A g sz)) 0 0 (pc_A g sz) := by
  refine pe_ofW (cc := prog_4_method_7_code) (maxL := 5) (ret := none) (lv := [(0, .ref D), (1, .int (nI pl))]) (by decide) (Nat.le_of_ble_eq_true rfl) rfl ?_
  intro p e s m args below meth c ls hx hb hr hml hlocks hown hB hP hK hD hsz hS hl
  subst hsz
  have hu : ∀ b, b ≠ (g.lk D 0) → f b = f b := fun _ _ => rfl
  refine lv_iconst (v := nI 0) hx hb d_NLongDivision_putBack_0 (by decide) ?_
  refine lv_istore_n (lv' := [(2, .int (nI 0)), (0, .ref D), (1, .int (nI pl))]) hx hb d_NLongDivision_putBack_1 rfl hl (by decide) rfl (fun ls hl => ?_)
  refine lv_iconst (v := nI 0) hx hb d_NLongDivision_putBack_2 (by decide) ?_
  refine lv_istore_n (lv' := [(3, .int (nI 0)), (2, .int (nI 0)), (0, .ref D), (1, .int (nI pl))]) hx hb d_NLongDivision_putBack_3 rfl hl (by decide) rfl (fun ls hl => ?_)
  have lp1 : ∀ (k3 : Nat) (cy : Nat) (i : Nat) (h : Nat → Int32) (f2 : Nat → va_E) (H : Heap) (locs : List Loc) (ls : Array Slot), (n < i + k3) → (cy ≤ 1) → (i ≤ n) → (∀ i, i < 16 → ∃ k, k < 1000000000 ∧ h i = nI k) → (∀ j, ¬ (pl ≤ j ∧ j < pl + i) → h j = hU j) → (kv (fun j => dg h (pl + j)) i + cy * 1000000000 ^ i = kv (fun j => dg hU (pl + j)) i + kv (dg hV) i) → f2 (g.lk D 0) = .inl (g.ac (g.lk D 0), 16, .inl (h)) → f2 (g.lk D 1) = .inl (g.ac (g.lk D 1), 16, .inl (hV)) → IX g z f2 → un [22] g f f2 → (∀ b, b ≠ (g.lk D 0) → f2 b = f b) → lv_has ls 5 [(3, .int (nI i)), (2, .int (nI cy)), (0, .ref D), (1, .int (nI pl))] → va_P g.D vcl (va_pl g.LP f2) H → va_D (pc_A g s.heap.size) (va_pl g.LP f2) → va_S (pc_A g s.heap.size) s.heap H locs → W p l e ({ frames := 0, cells := 0, slots := 0, locals := 0 }) s m args below meth c H locs 0 0 (MQ below (va_Qv (fun f1 => (∃ h1 : Nat → Int32, f1 (g.lk D 0) = .inl (g.ac (g.lk D 0), 16, .inl h1) ∧ (∀ i, i < 16 → ∃ k, k < 1000000000 ∧ h1 i = nI k) ∧ (∀ j, ¬ (pl ≤ j ∧ j < pl + n) → h1 j = hU j) ∧ ∃ k, k ≤ 1 ∧ kv (fun i => dg h1 (pl + i)) n + k * 1000000000 ^ n = kv (fun i => dg hU (pl + i)) n + kv (dg hV) n) ∧ (IX g z f1) ∧ (∀ b, b ≠ (g.lk D 0) → f1 b = f b)) (pc_out g s.heap.size) (pc_A g s.heap.size)) args s 0 0 (pc_A g s.heap.size)) (F0 m 4 ls []) := by
    intro k3
    induction k3 with
    | zero => intros; exfalso; omega
    | succ k3 ih4 =>
      intro cy i h f2 H locs ls hfu5 hcy hi hc hs he e6 e7 hI8 hv9 hu hl hP hD hS
      have ed := hv9.at t_D (by decide) ed
      refine lv_iload_n hx hb d_NLongDivision_putBack_4 rfl (lv_at hl 0 rfl) ?_
      refine lv_aload_n hx hb d_NLongDivision_putBack_5 rfl (lv_at hl 2 rfl) ?_
      refine pf_get (v := .int (nI n)) (C := "BigRunner$LongDivision") (T := FT3) (N := 3) hx hb (hw3 hB _) (fun _ h9 => h9) hown hK hP (lo_in hL t_D (by decide)) ed rfl 2 (by decide) (wd_321 hB _) rfl d_NLongDivision_putBack_6 ?_
      refine lv_icmp_ge (tgt := 65) hx hb d_NLongDivision_putBack_9 (by decide) (fun b10 => ?_) (fun b10 => ?_)
      · skip
        replace b10 := (nI_leI (a := n) (b := i) (by omega) (by omega)).mp b10
        exact pe_vret hx hb hr hlocks hK hP hD hS d_NLongDivision_putBack_65 ⟨⟨_, e6, hc, fun j hj => hs j (by omega), cy, hcy, by have z : i = n := (by omega); subst z; exact he⟩, hI8, hu⟩
      · skip
        replace b10 := mt (nI_leI (a := n) (b := i) (by omega) (by omega)).mpr b10
        refine lv_aload_n hx hb d_NLongDivision_putBack_12 rfl (lv_at hl 2 rfl) ?_
        refine pf_get (v := .ref (g.lk D 0)) (C := "BigRunner$LongDivision") (T := FT3) (N := 3) hx hb (hw3 hB _) (fun _ h9 => h9) hown hK hP (lo_in hL t_D (by decide)) ed rfl 0 (by decide) (wd_319 hB _) rfl d_NLongDivision_putBack_13 ?_
        refine lv_iload_n hx hb d_NLongDivision_putBack_16 rfl (lv_at hl 3 rfl) ?_
        refine lv_iload_n hx hb d_NLongDivision_putBack_17 rfl (lv_at hl 0 rfl) ?_
        refine pf_iaddN (x := pl) (y := i) hx hb d_NLongDivision_putBack_18 ?_
        refine pf_iald (i := pl + i) hx hb hK hP (lo_in hL (lo_k4_0 hL _ t_D) (by decide)) e6 (lo_t22 hL _ (lo_k4_0 hL _ t_D)) (by omega) (by decide) d_NLongDivision_putBack_19 ?_
        have hd11 := dg_lt hc (j := pl + i) (by omega)
        refine lv_topi (fun z_ hz_ => ?_)
        obtain rfl : z_ = nI (dg h (pl + i)) := hz_.trans (dg_eq hc (by omega))
        refine lv_aload_n hx hb d_NLongDivision_putBack_20 rfl (lv_at hl 2 rfl) ?_
        refine pf_get (v := .ref (g.lk D 1)) (C := "BigRunner$LongDivision") (T := FT3) (N := 3) hx hb (hw3 hB _) (fun _ h9 => h9) hown hK hP (lo_in hL t_D (by decide)) ed rfl 1 (by decide) (wd_320 hB _) rfl d_NLongDivision_putBack_21 ?_
        refine lv_iload_n hx hb d_NLongDivision_putBack_24 rfl (lv_at hl 0 rfl) ?_
        refine pf_iald (i := i) hx hb hK hP (lo_in hL (lo_k4_1 hL _ t_D) (by decide)) e7 (lo_t22 hL _ (lo_k4_1 hL _ t_D)) (by omega) (by decide) d_NLongDivision_putBack_25 ?_
        have hd12 := dg_lt cV (j := i) (by omega)
        refine lv_topi (fun z_ hz_ => ?_)
        obtain rfl : z_ = nI (dg hV i) := hz_.trans (dg_eq cV (by omega))
        refine pf_iaddN (x := dg h (pl + i)) (y := dg hV i) hx hb d_NLongDivision_putBack_26 ?_
        refine lv_iload_n hx hb d_NLongDivision_putBack_27 rfl (lv_at hl 1 rfl) ?_
        refine pf_iaddN (x := (dg h (pl + i)) + (dg hV i)) (y := cy) hx hb d_NLongDivision_putBack_28 ?_
        refine lv_istore (lv' := [(4, .int (nI (((dg h (pl + i)) + (dg hV i)) + cy))), (3, .int (nI i)), (2, .int (nI cy)), (0, .ref D), (1, .int (nI pl))]) hx hb d_NLongDivision_putBack_29 hl (by decide) rfl (fun ls hl => ?_)
        refine lv_iload hx hb d_NLongDivision_putBack_31 (lv_at hl 0 rfl) ?_
        refine lv_ldc (v := 1000000000) hx hb hown (wd_809 hB _) d_NLongDivision_putBack_33 ?_
        refine lv_topi (fun z_ hz_ => ?_)
        obtain rfl : z_ = nI 1000000000 := hz_
        refine lv_icmp_lt (tgt := 42) hx hb d_NLongDivision_putBack_35 (by decide) (fun b13 => ?_) (fun b13 => ?_)
        · skip
          replace b13 := (nI_ltI (a := ((dg h (pl + i)) + (dg hV i)) + cy) (b := 1000000000) (by omega) (by omega)).mp b13
          refine lv_iconst (v := nI 0) hx hb d_NLongDivision_putBack_42 (by decide) ?_
          refine lv_istore_n (lv' := [(2, .int (nI 0)), (4, .int (nI (((dg h (pl + i)) + (dg hV i)) + cy))), (3, .int (nI i)), (0, .ref D), (1, .int (nI pl))]) hx hb d_NLongDivision_putBack_43 rfl hl (by decide) rfl (fun ls hl => ?_)
          refine lv_aload_n hx hb d_NLongDivision_putBack_44 rfl (lv_at hl 3 rfl) ?_
          refine pf_get (v := .ref (g.lk D 0)) (C := "BigRunner$LongDivision") (T := FT3) (N := 3) hx hb (hw3 hB _) (fun _ h9 => h9) hown hK hP (lo_in hL t_D (by decide)) ed rfl 0 (by decide) (wd_319 hB _) rfl d_NLongDivision_putBack_45 ?_
          refine lv_iload_n hx hb d_NLongDivision_putBack_48 rfl (lv_at hl 4 rfl) ?_
          refine lv_iload_n hx hb d_NLongDivision_putBack_49 rfl (lv_at hl 2 rfl) ?_
          refine pf_iaddN (x := pl) (y := i) hx hb d_NLongDivision_putBack_50 ?_
          refine lv_iload hx hb d_NLongDivision_putBack_51 (lv_at hl 1 rfl) ?_
          refine lv_iload_n hx hb d_NLongDivision_putBack_53 rfl (lv_at hl 0 rfl) ?_
          refine lv_ldc (v := 1000000000) hx hb hown (wd_809 hB _) d_NLongDivision_putBack_54 ?_
          refine lv_topi (fun z_ hz_ => ?_)
          obtain rfl : z_ = nI 1000000000 := hz_
          refine pf_imulN (x := 0) (y := 1000000000) hx hb d_NLongDivision_putBack_56 ?_
          refine lv_topi (fun z_ hz_ => ?_)
          obtain rfl : z_ = nI 0 := hz_.trans (congrArg nI (Nat.zero_mul 1000000000))
          refine pf_isubN (x := ((dg h (pl + i)) + (dg hV i)) + cy) (y := 0) hx hb (by omega) d_NLongDivision_putBack_57 ?_
          refine pf_iast (i := pl + i) hx hb hK hP hD hS (lo_in hL (lo_k4_0 hL _ t_D) (by decide)) e6 (lo_t22 hL _ (lo_k4_0 hL _ t_D)) (by omega) (by decide) d_NLongDivision_putBack_58 (fun f14 H locs e15 k16 hP hD hS => ?_)
          have ed := (k16 D (tg_ne t_D (lo_k4_0 hL _ t_D) (by decide))).trans ed
          have e7 := (k16 (g.lk D 1) (Ne.symm (lo_ne4 hL _ t_D))).trans e7
          have hu : ∀ b, b ≠ (g.lk D 0) → f14 b = f b := fun b q0 => (k16 b q0).trans (hu b q0)
          have hv9 := hv9.st k16 (lo_k4_0 hL _ t_D) (by decide)
          have hk17 : ∀ b, b ≠ (g.lk D 0) → f14 b = f2 b := k16
          have c18 := lb_upd (n := 16) (i := pl + i) (v := (((dg h (pl + i)) + (dg hV i)) + cy) - 0) hc (by omega)
          refine lv_iinc (k := 2) (v := nI (i + 1)) (lv' := [(3, .int (nI (i + 1))), (2, .int (nI 0)), (4, .int (nI (((dg h (pl + i)) + (dg hV i)) + cy))), (0, .ref D), (1, .int (nI pl))]) hx hb d_NLongDivision_putBack_59 hl rfl (by rw [nI_succ]; rfl) (by decide) rfl (fun ls hl => ?_)
          refine lv_goto (tgt := 4) hx hb d_NLongDivision_putBack_62 (by decide) ?_
          have hI19 := ix_1 hI8 hL (lo_k4_0 hL _ t_D) (by decide) hk17 (oc_22.mk (lo_k4_0 hL _ t_D) (⟨_, e15, c18⟩))
          have hl : lv_has ls 5 [(3, .int (nI (i + 1))), (2, .int (nI 0)), (0, .ref D), (1, .int (nI pl))] := lv_sub hl [0, 1, 3, 4] rfl
          exact ih4 0 (i + 1) (upd h (pl + i) ((nI ((((dg h (pl + i)) + (dg hV i)) + cy) - 0)))) f14 H locs ls (by omega) (by omega) (by omega) c18 (up_same hs) (pb_step2 hs he (by omega)) e15 e7 hI19 hv9 hu hl hP hD hS
        · skip
          replace b13 := mt (nI_ltI (a := ((dg h (pl + i)) + (dg hV i)) + cy) (b := 1000000000) (by omega) (by omega)).mpr b13
          refine lv_iconst (v := nI 1) hx hb d_NLongDivision_putBack_38 (by decide) ?_
          refine lv_goto (tgt := 43) hx hb d_NLongDivision_putBack_39 (by decide) ?_
          refine lv_istore_n (lv' := [(2, .int (nI 1)), (4, .int (nI (((dg h (pl + i)) + (dg hV i)) + cy))), (3, .int (nI i)), (0, .ref D), (1, .int (nI pl))]) hx hb d_NLongDivision_putBack_43 rfl hl (by decide) rfl (fun ls hl => ?_)
          refine lv_aload_n hx hb d_NLongDivision_putBack_44 rfl (lv_at hl 3 rfl) ?_
          refine pf_get (v := .ref (g.lk D 0)) (C := "BigRunner$LongDivision") (T := FT3) (N := 3) hx hb (hw3 hB _) (fun _ h9 => h9) hown hK hP (lo_in hL t_D (by decide)) ed rfl 0 (by decide) (wd_319 hB _) rfl d_NLongDivision_putBack_45 ?_
          refine lv_iload_n hx hb d_NLongDivision_putBack_48 rfl (lv_at hl 4 rfl) ?_
          refine lv_iload_n hx hb d_NLongDivision_putBack_49 rfl (lv_at hl 2 rfl) ?_
          refine pf_iaddN (x := pl) (y := i) hx hb d_NLongDivision_putBack_50 ?_
          refine lv_iload hx hb d_NLongDivision_putBack_51 (lv_at hl 1 rfl) ?_
          refine lv_iload_n hx hb d_NLongDivision_putBack_53 rfl (lv_at hl 0 rfl) ?_
          refine lv_ldc (v := 1000000000) hx hb hown (wd_809 hB _) d_NLongDivision_putBack_54 ?_
          refine lv_topi (fun z_ hz_ => ?_)
          obtain rfl : z_ = nI 1000000000 := hz_
          refine pf_imulN (x := 1) (y := 1000000000) hx hb d_NLongDivision_putBack_56 ?_
          refine lv_topi (fun z_ hz_ => ?_)
          obtain rfl : z_ = nI 1000000000 := hz_.trans (congrArg nI (Nat.one_mul 1000000000))
          refine pf_isubN (x := ((dg h (pl + i)) + (dg hV i)) + cy) (y := 1000000000) hx hb (by omega) d_NLongDivision_putBack_57 ?_
          refine pf_iast (i := pl + i) hx hb hK hP hD hS (lo_in hL (lo_k4_0 hL _ t_D) (by decide)) e6 (lo_t22 hL _ (lo_k4_0 hL _ t_D)) (by omega) (by decide) d_NLongDivision_putBack_58 (fun f20 H locs e21 k22 hP hD hS => ?_)
          have ed := (k22 D (tg_ne t_D (lo_k4_0 hL _ t_D) (by decide))).trans ed
          have e7 := (k22 (g.lk D 1) (Ne.symm (lo_ne4 hL _ t_D))).trans e7
          have hu : ∀ b, b ≠ (g.lk D 0) → f20 b = f b := fun b q0 => (k22 b q0).trans (hu b q0)
          have hv9 := hv9.st k22 (lo_k4_0 hL _ t_D) (by decide)
          have hk23 : ∀ b, b ≠ (g.lk D 0) → f20 b = f2 b := k22
          have c24 := lb_upd (n := 16) (i := pl + i) (v := (((dg h (pl + i)) + (dg hV i)) + cy) - 1000000000) hc (by omega)
          refine lv_iinc (k := 2) (v := nI (i + 1)) (lv' := [(3, .int (nI (i + 1))), (2, .int (nI 1)), (4, .int (nI (((dg h (pl + i)) + (dg hV i)) + cy))), (0, .ref D), (1, .int (nI pl))]) hx hb d_NLongDivision_putBack_59 hl rfl (by rw [nI_succ]; rfl) (by decide) rfl (fun ls hl => ?_)
          refine lv_goto (tgt := 4) hx hb d_NLongDivision_putBack_62 (by decide) ?_
          have hI25 := ix_1 hI8 hL (lo_k4_0 hL _ t_D) (by decide) hk23 (oc_22.mk (lo_k4_0 hL _ t_D) (⟨_, e21, c24⟩))
          have hl : lv_has ls 5 [(3, .int (nI (i + 1))), (2, .int (nI 1)), (0, .ref D), (1, .int (nI pl))] := lv_sub hl [0, 1, 3, 4] rfl
          exact ih4 1 (i + 1) (upd h (pl + i) ((nI ((((dg h (pl + i)) + (dg hV i)) + cy) - 1000000000)))) f20 H locs ls (by omega) (by omega) (by omega) c24 (up_same hs) (pb_step1 hs (by omega) he (by omega)) e21 e7 hI25 hv9 hu hl hP hD hS
  exact lp1 (n + 1) 0 0 hU f s.heap [] ls (by omega) (by omega) (by omega) cU (fun _ _ => rfl) (by simp [kv]) eU eV hI un.rf hu hl hP hD hS
set_option maxHeartbeats 4000000 in
set_option maxRecDepth 100000 in
theorem v_takeAway (l : Launch) (g : Lay) (sz : Nat) (f : Nat → va_E) (D : Nat) (gs : Nat) (pl : Nat) (n : Nat) (hU : Nat → Int32) (hV : Nat → Int32) (z : Nat) (hL : LO g) (t_D : g.tg D = 4) (hI : IX g z f) (ed : f D = .inr (3, [.ref (g.lk D 0), .ref (g.lk D 1), .int (nI n)])) (eU : f (g.lk D 0) = .inl (g.ac (g.lk D 0), 16, .inl hU)) (cU : ∀ i, i < 16 → ∃ k, k < 1000000000 ∧ hU i = nI k) (eV : f (g.lk D 1) = .inl (g.ac (g.lk D 1), 16, .inl hV)) (cV : ∀ i, i < 16 → ∃ k, k < 1000000000 ∧ hV i = nI k) (hn : 0 < n) (hp : pl + n ≤ 15) (hgs : gs < 1000000000) (k1 : kv (fun i => dg hU (pl + i)) (n + 1) < (gs + 1) * kv (dg hV) n) (k2 : gs * kv (dg hV) n < kv (fun i => dg hU (pl + i)) (n + 1) + kv (dg hV) n) : Met l ⟨"BigRunner$LongDivision", "takeAway", "(JI)I"⟩ [Cond.code ⟨"BigRunner$LongDivision", "takeAway", "(JI)I"⟩ prog_4_method_6_code 8 (some .int)] ({ frames := 1, cells := 0, slots := 0, locals := 24 }) (va_Pc [.ref D, .long (nL gs), .int (nI pl)] (pc_in g sz f)) (va_Qi (fun r f1 => (∃ k, k < 1000000000 ∧ k = kv (fun i => dg hU (pl + i)) (n + 1) / kv (dg hV) n ∧ r = nI k) ∧ (∃ h1 : Nat → Int32, f1 (g.lk D 0) = .inl (g.ac (g.lk D 0), 16, .inl h1) ∧ (∀ i, i < 16 → ∃ k, k < 1000000000 ∧ h1 i = nI k) ∧ (∀ j, ¬ (pl ≤ j ∧ j < pl + n) → h1 j = hU j) ∧ kv (fun i => dg h1 (pl + i)) n = kv (fun i => dg hU (pl + i)) (n + 1) % kv (dg hV) n ∧ kv (fun i => dg h1 (pl + i)) n < kv (dg hV) n) ∧ (IX g z f1) ∧ (∀ b, b ≠ (g.lk D 0) → f1 b = f b)) (pc_out g sz) (pc_A g sz)) 0 0 (pc_A g sz) := by
  refine pe_ofW (cc := prog_4_method_6_code) (maxL := 8) (ret := (some .int)) (lv := [(0, .ref D), (1, .long (nL gs)), (3, .int (nI pl))]) (by decide) (Nat.le_of_ble_eq_true rfl) rfl ?_
  intro p e s m args below meth c ls hx hb hr hml hlocks hown hB hP hK hD hsz hS hl
  subst hsz
  have hu : ∀ b, b ≠ (g.lk D 0) → f b = f b := fun _ _ => rfl
  have hVP : kv (dg hV) n < 1000000000 ^ n := kv_lt (fun i hi => dg_lt cV (by omega))
  refine lv_lconst (v := nL 0) hx hb d_NLongDivision_takeAway_0 (by decide) ?_
  refine lv_lstore (lv' := [(4, .long (nL 0)), (0, .ref D), (1, .long (nL gs)), (3, .int (nI pl))]) hx hb d_NLongDivision_takeAway_1 hl (by decide) rfl (fun ls hl => ?_)
  refine lv_iconst (v := nI 0) hx hb d_NLongDivision_takeAway_3 (by decide) ?_
  refine lv_istore (lv' := [(6, .int (nI 0)), (4, .long (nL 0)), (0, .ref D), (1, .long (nL gs)), (3, .int (nI pl))]) hx hb d_NLongDivision_takeAway_4 hl (by decide) rfl (fun ls hl => ?_)
  have lp1 : ∀ (k3 : Nat) (cy : Nat) (i : Nat) (h : Nat → Int32) (f2 : Nat → va_E) (H : Heap) (locs : List Loc) (ls : Array Slot), (n < i + k3) → (cy ≤ 1000000000) → (i ≤ n) → (∀ i, i < 16 → ∃ k, k < 1000000000 ∧ h i = nI k) → (∀ j, ¬ (pl ≤ j ∧ j < pl + i) → h j = hU j) → (gs = 0 → cy = 0) → (kv (fun j => dg h (pl + j)) i + gs * kv (dg hV) i = kv (fun j => dg hU (pl + j)) i + cy * 1000000000 ^ i) → f2 (g.lk D 0) = .inl (g.ac (g.lk D 0), 16, .inl (h)) → f2 (g.lk D 1) = .inl (g.ac (g.lk D 1), 16, .inl (hV)) → IX g z f2 → un [22] g f f2 → (∀ b, b ≠ (g.lk D 0) → f2 b = f b) → lv_has ls 8 [(6, .int (nI i)), (4, .long (nL cy)), (0, .ref D), (1, .long (nL gs)), (3, .int (nI pl))] → va_P g.D vcl (va_pl g.LP f2) H → va_D (pc_A g s.heap.size) (va_pl g.LP f2) → va_S (pc_A g s.heap.size) s.heap H locs → W p l e ({ frames := 1, cells := 0, slots := 0, locals := 24 }) s m args below meth c H locs 0 0 (MQ below (va_Qi (fun r f1 => (∃ k, k < 1000000000 ∧ k = kv (fun i => dg hU (pl + i)) (n + 1) / kv (dg hV) n ∧ r = nI k) ∧ (∃ h1 : Nat → Int32, f1 (g.lk D 0) = .inl (g.ac (g.lk D 0), 16, .inl h1) ∧ (∀ i, i < 16 → ∃ k, k < 1000000000 ∧ h1 i = nI k) ∧ (∀ j, ¬ (pl ≤ j ∧ j < pl + n) → h1 j = hU j) ∧ kv (fun i => dg h1 (pl + i)) n = kv (fun i => dg hU (pl + i)) (n + 1) % kv (dg hV) n ∧ kv (fun i => dg h1 (pl + i)) n < kv (dg hV) n) ∧ (IX g z f1) ∧ (∀ b, b ≠ (g.lk D 0) → f1 b = f b)) (pc_out g s.heap.size) (pc_A g s.heap.size)) args s 0 0 (pc_A g s.heap.size)) (F0 m 6 ls []) := by
    intro k3
    induction k3 with
    | zero => intros; exfalso; omega
    | succ k3 ih4 =>
      intro cy i h f2 H locs ls hfu5 hcy hi hc hs hz he e6 e7 hI8 hv9 hu hl hP hD hS
      have ed := hv9.at t_D (by decide) ed
      refine lv_iload hx hb d_NLongDivision_takeAway_6 (lv_at hl 0 rfl) ?_
      refine lv_aload_n hx hb d_NLongDivision_takeAway_8 rfl (lv_at hl 2 rfl) ?_
      refine pf_get (v := .int (nI n)) (C := "BigRunner$LongDivision") (T := FT3) (N := 3) hx hb (hw3 hB _) (fun _ h9 => h9) hown hK hP (lo_in hL t_D (by decide)) ed rfl 2 (by decide) (wd_321 hB _) rfl d_NLongDivision_takeAway_9 ?_
      refine lv_icmp_ge (tgt := 92) hx hb d_NLongDivision_takeAway_12 (by decide) (fun b10 => ?_) (fun b10 => ?_)
      · skip
        replace b10 := (nI_leI (a := n) (b := i) (by omega) (by omega)).mp b10
        have z1 : i = n := by omega
        rw [z1] at he hs
        have hlo : kv (fun j => dg h (pl + j)) n < 1000000000 ^ n := kv_lt (fun j hj => dg_lt hc (by omega))
        have htop : dg h (pl + n) = dg hU (pl + n) := ta_same hs
        refine lv_lload hx hb d_NLongDivision_takeAway_92 (lv_at hl 1 rfl) ?_
        refine lv_aload_n hx hb d_NLongDivision_takeAway_94 rfl (lv_at hl 2 rfl) ?_
        refine pf_get (v := .ref (g.lk D 0)) (C := "BigRunner$LongDivision") (T := FT3) (N := 3) hx hb (hw3 hB _) (fun _ h9 => h9) hown hK hP (lo_in hL t_D (by decide)) ed rfl 0 (by decide) (wd_319 hB _) rfl d_NLongDivision_takeAway_95 ?_
        refine lv_iload_n hx hb d_NLongDivision_takeAway_98 rfl (lv_at hl 4 rfl) ?_
        refine lv_aload_n hx hb d_NLongDivision_takeAway_99 rfl (lv_at hl 2 rfl) ?_
        refine pf_get (v := .int (nI n)) (C := "BigRunner$LongDivision") (T := FT3) (N := 3) hx hb (hw3 hB _) (fun _ h9 => h9) hown hK hP (lo_in hL t_D (by decide)) ed rfl 2 (by decide) (wd_321 hB _) rfl d_NLongDivision_takeAway_100 ?_
        refine pf_iaddN (x := pl) (y := n) hx hb d_NLongDivision_takeAway_103 ?_
        refine pf_iald (i := pl + n) hx hb hK hP (lo_in hL (lo_k4_0 hL _ t_D) (by decide)) e6 (lo_t22 hL _ (lo_k4_0 hL _ t_D)) (by omega) (by decide) d_NLongDivision_takeAway_104 ?_
        have hd11 := dg_lt hc (j := pl + n) (by omega)
        refine lv_topi (fun z_ hz_ => ?_)
        obtain rfl : z_ = nI (dg h (pl + n)) := hz_.trans (dg_eq hc (by omega))
        refine pf_i2lN hx hb (by omega) d_NLongDivision_takeAway_105 ?_
        refine W.lcmp hx hb d_NLongDivision_takeAway_106 ?_
        refine lv_if_le (tgt := 114) hx hb d_NLongDivision_takeAway_107 (by decide) (fun b12 => ?_) (fun b12 => ?_)
        · skip
          replace b12 := pl_le.mp b12
          replace b12 := (nL_le (a := cy) (b := dg h (pl + n)) (by omega) (by omega)).mp b12
          refine lv_iconst (v := nI 0) hx hb d_NLongDivision_takeAway_114 (by decide) ?_
          refine lv_istore (lv' := [(6, .int (nI 0)), (4, .long (nL cy)), (0, .ref D), (1, .long (nL gs)), (3, .int (nI pl))]) hx hb d_NLongDivision_takeAway_115 hl (by decide) rfl (fun ls hl => ?_)
          refine lv_iload hx hb d_NLongDivision_takeAway_117 (lv_at hl 0 rfl) ?_
          refine lv_if_eq (tgt := 127) hx hb d_NLongDivision_takeAway_119 (by decide) (fun b13 => ?_) (fun b13 => ?_)
          · skip
            replace b13 := (nI_eq (a := 0) (b := 0) (by omega) (by omega)).mp b13
            refine lv_iload hx hb d_NLongDivision_takeAway_127 (lv_at hl 0 rfl) ?_
            refine lv_if_eq (tgt := 138) hx hb d_NLongDivision_takeAway_129 (by decide) (fun b14 => ?_) (fun b14 => ?_)
            · skip
              replace b14 := (nI_eq (a := 0) (b := 0) (by omega) (by omega)).mp b14
              refine lv_lload_n hx hb d_NLongDivision_takeAway_138 rfl (lv_at hl 3 rfl) ?_
              refine pf_l2iN hx hb d_NLongDivision_takeAway_139 ?_
              exact pe_iret hx hb hr hlocks hK hP hD hS d_NLongDivision_takeAway_140 ⟨⟨_, by omega, (dm_of (ta_f1 he hVP (t := dg hU (pl + n)) k1 (by omega)) (kn_f1 he hlo hVP (t := dg hU (pl + n)) k1 (by omega))).1.symm, rfl⟩, ⟨_, e6, hc, hs, (dm_of (ta_f1 he hVP (t := dg hU (pl + n)) k1 (by omega)) (kn_f1 he hlo hVP (t := dg hU (pl + n)) k1 (by omega))).2.symm, (kn_f1 he hlo hVP (t := dg hU (pl + n)) k1 (by omega))⟩, hI8, hu⟩
            · skip
              replace b14 := mt (nI_eq (a := 0) (b := 0) (by omega) (by omega)).mpr b14
              exfalso; omega
          · skip
            replace b13 := mt (nI_eq (a := 0) (b := 0) (by omega) (by omega)).mpr b13
            exfalso; omega
        · skip
          replace b12 := mt pl_le.mpr b12
          replace b12 := mt (nL_le (a := cy) (b := dg h (pl + n)) (by omega) (by omega)).mpr b12
          refine lv_iconst (v := nI 1) hx hb d_NLongDivision_takeAway_110 (by decide) ?_
          refine lv_goto (tgt := 115) hx hb d_NLongDivision_takeAway_111 (by decide) ?_
          refine lv_istore (lv' := [(6, .int (nI 1)), (4, .long (nL cy)), (0, .ref D), (1, .long (nL gs)), (3, .int (nI pl))]) hx hb d_NLongDivision_takeAway_115 hl (by decide) rfl (fun ls hl => ?_)
          refine lv_iload hx hb d_NLongDivision_takeAway_117 (lv_at hl 0 rfl) ?_
          refine lv_if_eq (tgt := 127) hx hb d_NLongDivision_takeAway_119 (by decide) (fun b15 => ?_) (fun b15 => ?_)
          · skip
            replace b15 := (nI_eq (a := 1) (b := 0) (by omega) (by omega)).mp b15
            exfalso; omega
          · skip
            replace b15 := mt (nI_eq (a := 1) (b := 0) (by omega) (by omega)).mpr b15
            refine lv_aload_n hx hb d_NLongDivision_takeAway_122 rfl (lv_at hl 2 rfl) ?_
            refine lv_iload_n hx hb d_NLongDivision_takeAway_123 rfl (lv_at hl 4 rfl) ?_
            refine pcc_v (va_runV (C := "BigRunner$LongDivision") (As := [.int (nI pl)]) (rest := []) ⟨hx, hb, hml, hown, tb_nil⟩ (v_putBack l g H.size f2 D pl n h hV z hL t_D hI8 ed e6 hc e7 cV (by omega)) ⟨(callB_of 1 (tb_one (wd_825 hB _)) tb_good1 rfl rfl rfl (wd_81 hB _) (wd_822 hB _) (by decide +kernel) ⟨Nat.le_of_ble_eq_true rfl, Nat.le_of_ble_eq_true rfl⟩), (wd_824 hB _), (wd_36 hB _)⟩ ⟨pe_bl, pg_recv (ci := 3) hK hP (lo_in hL t_D (by decide)) ed rfl, pe_pre hB hK hP hD⟩ rfl rfl hl.1 rfl (lv_room (Nat.le_of_ble_eq_true rfl)) d_NLongDivision_takeAway_124 ⟨Nat.le_of_ble_eq_true rfl, Nat.le_of_ble_eq_true rfl⟩) hS (fun f17 H locs hq18 hP hD hS => ?_)
            obtain ⟨pb_19, hI1_20, hk1_21⟩ := hq18
            have hu : ∀ b, b ≠ (g.lk D 0) → f17 b = f b := fun b q0 => (hk1_21 b q0).trans (hu b q0)
            have hv9 := hv9.st hk1_21 (lo_k4_0 hL _ t_D) (by decide)
            have ed := (hk1_21 D (tg_ne t_D (lo_k4_0 hL _ t_D) (by decide))).trans ed
            have e7 := (hk1_21 (g.lk D 1) (Ne.symm (lo_ne4 hL _ t_D))).trans e7
            obtain ⟨hb22, e23, c24, hl26, kb25, hl27, hl28⟩ := pb_19
            refine lv_iload hx hb d_NLongDivision_takeAway_127 (lv_at hl 0 rfl) ?_
            refine lv_if_eq (tgt := 138) hx hb d_NLongDivision_takeAway_129 (by decide) (fun b29 => ?_) (fun b29 => ?_)
            · skip
              replace b29 := (nI_eq (a := 1) (b := 0) (by omega) (by omega)).mp b29
              exfalso; omega
            · skip
              replace b29 := mt (nI_eq (a := 1) (b := 0) (by omega) (by omega)).mpr b29
              refine lv_lload_n hx hb d_NLongDivision_takeAway_132 rfl (lv_at hl 3 rfl) ?_
              refine lv_lconst (v := nL 1) hx hb d_NLongDivision_takeAway_133 (by decide) ?_
              refine pf_lsubN (x := gs) (y := 1) hx hb (by omega) d_NLongDivision_takeAway_134 ?_
              refine lv_goto (tgt := 139) hx hb d_NLongDivision_takeAway_135 (by decide) ?_
              refine pf_l2iN hx hb d_NLongDivision_takeAway_139 ?_
              exact pe_iret hx hb hr hlocks hK hP hD hS d_NLongDivision_takeAway_140 ⟨⟨_, by omega, (dm_of (ta_f2 he hlo (kv_lt (fun j hj => dg_lt c24 (by omega))) hVP (t := dg hU (pl + n)) k2 (by omega) hl28 hl27 (by omega)) (kn_f2 he hlo (kv_lt (fun j hj => dg_lt c24 (by omega))) hVP (t := dg hU (pl + n)) k2 (by omega) hl28 hl27)).1.symm, rfl⟩, ⟨_, e23, c24, (fun j hj => (hl26 j hj).trans (hs j hj)), (dm_of (ta_f2 he hlo (kv_lt (fun j hj => dg_lt c24 (by omega))) hVP (t := dg hU (pl + n)) k2 (by omega) hl28 hl27 (by omega)) (kn_f2 he hlo (kv_lt (fun j hj => dg_lt c24 (by omega))) hVP (t := dg hU (pl + n)) k2 (by omega) hl28 hl27)).2.symm, (kn_f2 he hlo (kv_lt (fun j hj => dg_lt c24 (by omega))) hVP (t := dg hU (pl + n)) k2 (by omega) hl28 hl27)⟩, hI1_20, hu⟩
      · skip
        replace b10 := mt (nI_leI (a := n) (b := i) (by omega) (by omega)).mpr b10
        refine lv_lload hx hb d_NLongDivision_takeAway_15 (lv_at hl 1 rfl) ?_
        refine lv_lload_n hx hb d_NLongDivision_takeAway_17 rfl (lv_at hl 3 rfl) ?_
        refine lv_aload_n hx hb d_NLongDivision_takeAway_18 rfl (lv_at hl 2 rfl) ?_
        refine pf_get (v := .ref (g.lk D 1)) (C := "BigRunner$LongDivision") (T := FT3) (N := 3) hx hb (hw3 hB _) (fun _ h9 => h9) hown hK hP (lo_in hL t_D (by decide)) ed rfl 1 (by decide) (wd_320 hB _) rfl d_NLongDivision_takeAway_19 ?_
        refine lv_iload hx hb d_NLongDivision_takeAway_22 (lv_at hl 0 rfl) ?_
        refine pf_iald (i := i) hx hb hK hP (lo_in hL (lo_k4_1 hL _ t_D) (by decide)) e7 (lo_t22 hL _ (lo_k4_1 hL _ t_D)) (by omega) (by decide) d_NLongDivision_takeAway_24 ?_
        have hd30 := dg_lt cV (j := i) (by omega)
        refine lv_topi (fun z_ hz_ => ?_)
        obtain rfl : z_ = nI (dg hV i) := hz_.trans (dg_eq cV (by omega))
        refine pf_i2lN hx hb (by omega) d_NLongDivision_takeAway_25 ?_
        refine pf_lmulN (x := gs) (y := dg hV i) hx hb d_NLongDivision_takeAway_26 ?_
        have hm31 : gs * (dg hV i) ≤ 999999999 * 999999999 := Nat.mul_le_mul (by omega) (by omega)
        refine pf_laddN (x := cy) (y := gs * (dg hV i)) hx hb d_NLongDivision_takeAway_27 ?_
        refine lv_lstore (lv' := [(4, .long (nL (cy + (gs * (dg hV i))))), (6, .int (nI i)), (0, .ref D), (1, .long (nL gs)), (3, .int (nI pl))]) hx hb d_NLongDivision_takeAway_28 hl (by decide) rfl (fun ls hl => ?_)
        refine lv_aload_n hx hb d_NLongDivision_takeAway_30 rfl (lv_at hl 2 rfl) ?_
        refine pf_get (v := .ref (g.lk D 0)) (C := "BigRunner$LongDivision") (T := FT3) (N := 3) hx hb (hw3 hB _) (fun _ h9 => h9) hown hK hP (lo_in hL t_D (by decide)) ed rfl 0 (by decide) (wd_319 hB _) rfl d_NLongDivision_takeAway_31 ?_
        refine lv_iload_n hx hb d_NLongDivision_takeAway_34 rfl (lv_at hl 4 rfl) ?_
        refine lv_iload hx hb d_NLongDivision_takeAway_35 (lv_at hl 1 rfl) ?_
        refine pf_iaddN (x := pl) (y := i) hx hb d_NLongDivision_takeAway_37 ?_
        refine pf_iald (i := pl + i) hx hb hK hP (lo_in hL (lo_k4_0 hL _ t_D) (by decide)) e6 (lo_t22 hL _ (lo_k4_0 hL _ t_D)) (by omega) (by decide) d_NLongDivision_takeAway_38 ?_
        have hd32 := dg_lt hc (j := pl + i) (by omega)
        refine lv_topi (fun z_ hz_ => ?_)
        obtain rfl : z_ = nI (dg h (pl + i)) := hz_.trans (dg_eq hc (by omega))
        refine lv_lload hx hb d_NLongDivision_takeAway_39 (lv_at hl 0 rfl) ?_
        refine lv_ldc2 (v := 1000000000) hx hb hown (wd_813 hB _) d_NLongDivision_takeAway_41 ?_
        refine lv_topl (fun z_ hz_ => ?_)
        obtain rfl : z_ = nL 1000000000 := hz_
        refine pf_lremN (x := cy + (gs * (dg hV i))) (y := 1000000000) hx hb (by omega) (by omega) (by omega) d_NLongDivision_takeAway_44 ?_
        refine pf_l2iN hx hb d_NLongDivision_takeAway_45 ?_
        refine lv_isub hx hb d_NLongDivision_takeAway_46 ?_
        refine lv_istore (lv' := [(7, .int (nI (dg h (pl + i)) - nI ((cy + (gs * (dg hV i))) % 1000000000))), (4, .long (nL (cy + (gs * (dg hV i))))), (6, .int (nI i)), (0, .ref D), (1, .long (nL gs)), (3, .int (nI pl))]) hx hb d_NLongDivision_takeAway_47 hl (by decide) rfl (fun ls hl => ?_)
        refine lv_lload hx hb d_NLongDivision_takeAway_49 (lv_at hl 1 rfl) ?_
        refine lv_ldc2 (v := 1000000000) hx hb hown (wd_813 hB _) d_NLongDivision_takeAway_51 ?_
        refine lv_topl (fun z_ hz_ => ?_)
        obtain rfl : z_ = nL 1000000000 := hz_
        refine pf_ldivN (x := cy + (gs * (dg hV i))) (y := 1000000000) hx hb (by omega) (by omega) (by omega) d_NLongDivision_takeAway_54 ?_
        refine lv_lstore (lv' := [(4, .long (nL ((cy + (gs * (dg hV i))) / 1000000000))), (7, .int (nI (dg h (pl + i)) - nI ((cy + (gs * (dg hV i))) % 1000000000))), (6, .int (nI i)), (0, .ref D), (1, .long (nL gs)), (3, .int (nI pl))]) hx hb d_NLongDivision_takeAway_55 hl (by decide) rfl (fun ls hl => ?_)
        refine lv_iload hx hb d_NLongDivision_takeAway_57 (lv_at hl 1 rfl) ?_
        refine lv_if_ge (tgt := 75) hx hb d_NLongDivision_takeAway_59 (by decide) (fun b33 => ?_) (fun b33 => ?_)
        · skip
          replace b33 : ¬ (dg h (pl + i)) < ((cy + (gs * (dg hV i))) % 1000000000) := fun q9 => absurd ((nI_dlt (u := dg h (pl + i)) (m := (cy + (gs * (dg hV i))) % 1000000000) (by omega) (by omega)).mpr q9) (Int32.not_lt.mpr b33)
          refine lv_aload_n hx hb d_NLongDivision_takeAway_75 rfl (lv_at hl 3 rfl) ?_
          refine pf_get (v := .ref (g.lk D 0)) (C := "BigRunner$LongDivision") (T := FT3) (N := 3) hx hb (hw3 hB _) (fun _ h9 => h9) hown hK hP (lo_in hL t_D (by decide)) ed rfl 0 (by decide) (wd_319 hB _) rfl d_NLongDivision_takeAway_76 ?_
          refine lv_iload_n hx hb d_NLongDivision_takeAway_79 rfl (lv_at hl 5 rfl) ?_
          refine lv_iload hx hb d_NLongDivision_takeAway_80 (lv_at hl 2 rfl) ?_
          refine pf_iaddN (x := pl) (y := i) hx hb d_NLongDivision_takeAway_82 ?_
          refine lv_iload hx hb d_NLongDivision_takeAway_83 (lv_at hl 1 rfl) ?_
          refine lv_topi (fun z_ hz_ => ?_)
          obtain rfl : z_ = nI ((dg h (pl + i)) - ((cy + (gs * (dg hV i))) % 1000000000)) := hz_.trans (pk_sub (by omega))
          refine pf_iast (i := pl + i) hx hb hK hP hD hS (lo_in hL (lo_k4_0 hL _ t_D) (by decide)) e6 (lo_t22 hL _ (lo_k4_0 hL _ t_D)) (by omega) (by decide) d_NLongDivision_takeAway_85 (fun f34 H locs e35 k36 hP hD hS => ?_)
          have ed := (k36 D (tg_ne t_D (lo_k4_0 hL _ t_D) (by decide))).trans ed
          have e7 := (k36 (g.lk D 1) (Ne.symm (lo_ne4 hL _ t_D))).trans e7
          have hu : ∀ b, b ≠ (g.lk D 0) → f34 b = f b := fun b q0 => (k36 b q0).trans (hu b q0)
          have hv9 := hv9.st k36 (lo_k4_0 hL _ t_D) (by decide)
          have hk37 : ∀ b, b ≠ (g.lk D 0) → f34 b = f2 b := k36
          have c38 := lb_upd (n := 16) (i := pl + i) (v := (dg h (pl + i)) - ((cy + (gs * (dg hV i))) % 1000000000)) hc (by omega)
          refine lv_iinc (k := 2) (v := nI (i + 1)) (lv' := [(6, .int (nI (i + 1))), (4, .long (nL ((cy + (gs * (dg hV i))) / 1000000000))), (7, .int (nI (dg h (pl + i)) - nI ((cy + (gs * (dg hV i))) % 1000000000))), (0, .ref D), (1, .long (nL gs)), (3, .int (nI pl))]) hx hb d_NLongDivision_takeAway_86 hl rfl (by rw [nI_succ]; rfl) (by decide) rfl (fun ls hl => ?_)
          refine lv_goto (tgt := 6) hx hb d_NLongDivision_takeAway_89 (by decide) ?_
          have hI39 := ix_1 hI8 hL (lo_k4_0 hL _ t_D) (by decide) hk37 (oc_22.mk (lo_k4_0 hL _ t_D) (⟨_, e35, c38⟩))
          have hl : lv_has ls 8 [(6, .int (nI (i + 1))), (4, .long (nL ((cy + (gs * (dg hV i))) / 1000000000))), (0, .ref D), (1, .long (nL gs)), (3, .int (nI pl))] := lv_sub hl [0, 1, 3, 4, 5] rfl
          exact ih4 ((cy + (gs * (dg hV i))) / 1000000000) (i + 1) (upd h (pl + i) ((nI ((dg h (pl + i)) - ((cy + (gs * (dg hV i))) % 1000000000))))) f34 H locs ls (by omega) (by omega) (by omega) c38 (up_same hs) (fun z9 => by have y9 := ta_z (w := dg hV i) hz z9; omega) (ta_step1 hs (by omega) he (by omega)) e35 e7 hI39 hv9 hu hl hP hD hS
        · skip
          replace b33 := ((nI_dlt (u := dg h (pl + i)) (m := (cy + (gs * (dg hV i))) % 1000000000) (by omega) (by omega)).mp (Int32.not_le.mp b33))
          refine lv_iload hx hb d_NLongDivision_takeAway_62 (lv_at hl 1 rfl) ?_
          refine lv_ldc (v := 1000000000) hx hb hown (wd_809 hB _) d_NLongDivision_takeAway_64 ?_
          refine lv_topi (fun z_ hz_ => ?_)
          obtain rfl : z_ = nI 1000000000 := hz_
          refine lv_iadd hx hb d_NLongDivision_takeAway_66 ?_
          rw [nI_dad (show ((cy + (gs * (dg hV i))) % 1000000000) ≤ (dg h (pl + i)) + 1000000000 by omega)]
          refine lv_istore (lv' := [(7, .int (nI ((dg h (pl + i)) + 1000000000 - ((cy + (gs * (dg hV i))) % 1000000000)))), (4, .long (nL ((cy + (gs * (dg hV i))) / 1000000000))), (6, .int (nI i)), (0, .ref D), (1, .long (nL gs)), (3, .int (nI pl))]) hx hb d_NLongDivision_takeAway_67 hl (by decide) rfl (fun ls hl => ?_)
          refine lv_lload hx hb d_NLongDivision_takeAway_69 (lv_at hl 1 rfl) ?_
          refine lv_lconst (v := nL 1) hx hb d_NLongDivision_takeAway_71 (by decide) ?_
          refine pf_laddN (x := (cy + (gs * (dg hV i))) / 1000000000) (y := 1) hx hb d_NLongDivision_takeAway_72 ?_
          refine lv_lstore (lv' := [(4, .long (nL (((cy + (gs * (dg hV i))) / 1000000000) + 1))), (7, .int (nI ((dg h (pl + i)) + 1000000000 - ((cy + (gs * (dg hV i))) % 1000000000)))), (6, .int (nI i)), (0, .ref D), (1, .long (nL gs)), (3, .int (nI pl))]) hx hb d_NLongDivision_takeAway_73 hl (by decide) rfl (fun ls hl => ?_)
          refine lv_aload_n hx hb d_NLongDivision_takeAway_75 rfl (lv_at hl 3 rfl) ?_
          refine pf_get (v := .ref (g.lk D 0)) (C := "BigRunner$LongDivision") (T := FT3) (N := 3) hx hb (hw3 hB _) (fun _ h9 => h9) hown hK hP (lo_in hL t_D (by decide)) ed rfl 0 (by decide) (wd_319 hB _) rfl d_NLongDivision_takeAway_76 ?_
          refine lv_iload_n hx hb d_NLongDivision_takeAway_79 rfl (lv_at hl 5 rfl) ?_
          refine lv_iload hx hb d_NLongDivision_takeAway_80 (lv_at hl 2 rfl) ?_
          refine pf_iaddN (x := pl) (y := i) hx hb d_NLongDivision_takeAway_82 ?_
          refine lv_iload hx hb d_NLongDivision_takeAway_83 (lv_at hl 1 rfl) ?_
          refine pf_iast (i := pl + i) hx hb hK hP hD hS (lo_in hL (lo_k4_0 hL _ t_D) (by decide)) e6 (lo_t22 hL _ (lo_k4_0 hL _ t_D)) (by omega) (by decide) d_NLongDivision_takeAway_85 (fun f40 H locs e41 k42 hP hD hS => ?_)
          have ed := (k42 D (tg_ne t_D (lo_k4_0 hL _ t_D) (by decide))).trans ed
          have e7 := (k42 (g.lk D 1) (Ne.symm (lo_ne4 hL _ t_D))).trans e7
          have hu : ∀ b, b ≠ (g.lk D 0) → f40 b = f b := fun b q0 => (k42 b q0).trans (hu b q0)
          have hv9 := hv9.st k42 (lo_k4_0 hL _ t_D) (by decide)
          have hk43 : ∀ b, b ≠ (g.lk D 0) → f40 b = f2 b := k42
          have c44 := lb_upd (n := 16) (i := pl + i) (v := (dg h (pl + i)) + 1000000000 - ((cy + (gs * (dg hV i))) % 1000000000)) hc (by omega)
          refine lv_iinc (k := 2) (v := nI (i + 1)) (lv' := [(6, .int (nI (i + 1))), (4, .long (nL (((cy + (gs * (dg hV i))) / 1000000000) + 1))), (7, .int (nI ((dg h (pl + i)) + 1000000000 - ((cy + (gs * (dg hV i))) % 1000000000)))), (0, .ref D), (1, .long (nL gs)), (3, .int (nI pl))]) hx hb d_NLongDivision_takeAway_86 hl rfl (by rw [nI_succ]; rfl) (by decide) rfl (fun ls hl => ?_)
          refine lv_goto (tgt := 6) hx hb d_NLongDivision_takeAway_89 (by decide) ?_
          have hI45 := ix_1 hI8 hL (lo_k4_0 hL _ t_D) (by decide) hk43 (oc_22.mk (lo_k4_0 hL _ t_D) (⟨_, e41, c44⟩))
          have hl : lv_has ls 8 [(6, .int (nI (i + 1))), (4, .long (nL (((cy + (gs * (dg hV i))) / 1000000000) + 1))), (0, .ref D), (1, .long (nL gs)), (3, .int (nI pl))] := lv_sub hl [0, 1, 3, 4, 5] rfl
          exact ih4 (((cy + (gs * (dg hV i))) / 1000000000) + 1) (i + 1) (upd h (pl + i) ((nI ((dg h (pl + i)) + 1000000000 - ((cy + (gs * (dg hV i))) % 1000000000))))) f40 H locs ls (by omega) (by omega) (by omega) c44 (up_same hs) (fun z9 => by have y9 := ta_z (w := dg hV i) hz z9; omega) (ta_step2 hs (by omega) he (by omega)) e41 e7 hI45 hv9 hu hl hP hD hS
  exact lp1 (n + 1) 0 0 hU f s.heap [] ls (by omega) (by omega) (by omega) cU (fun _ _ => rfl) (fun _ => rfl) (by simp [kv]) eU eV hI un.rf hu hl hP hD hS
set_option maxHeartbeats 4000000 in
set_option maxRecDepth 100000 in
theorem v_reduce (l : Launch) (g : Lay) (sz : Nat) (f : Nat → va_E) (D : Nat) (sc : Nat) (z : Nat) (n : Nat) (hU : Nat → Int32) (hL : LO g) (t_D : g.tg D = 4) (t_z : g.tg z = 5) (hI : IX g z f) (ed : f D = .inr (3, [.ref (g.lk D 0), .ref (g.lk D 1), .int (nI n)])) (eU : f (g.lk D 0) = .inl (g.ac (g.lk D 0), 16, .inl hU)) (cU : ∀ i, i < 16 → ∃ k, k < 1000000000 ∧ hU i = nI k) (hn : n ≤ 15) (hs : 0 < sc ∧ sc < 1000000000) : Met l ⟨"BigRunner$LongDivision", "reduce", "(ILBigRunner$LongNumber;)V"⟩ [Cond.code ⟨"BigRunner$LongDivision", "reduce", "(ILBigRunner$LongNumber;)V"⟩ prog_4_method_4_code 6 none] ({ frames := 0, cells := 0, slots := 0, locals := 0 }) (va_Pc [.ref D, .int (nI sc), .ref z] (pc_in g sz f)) (va_Qv (fun f1 => (∃ h1 : Nat → Int32, f1 (g.lk z 2) = .inl (g.ac (g.lk z 2), 15, .inl h1) ∧ (∀ i, i < 15 → ∃ k, k < 1000000000 ∧ h1 i = nI k) ∧ kv (dg h1) n = kv (dg hU) n / sc) ∧ (IX g z f1) ∧ (∀ b, b ≠ (g.lk z 2) → f1 b = f b)) (pc_out g sz) (pc_A g sz)) 0 0 (pc_A g sz) := by
  refine pe_ofW (cc := prog_4_method_4_code) (maxL := 6) (ret := none) (lv := [(0, .ref D), (1, .int (nI sc)), (2, .ref z)]) (by decide) (Nat.le_of_ble_eq_true rfl) rfl ?_
  intro p e s m args below meth c ls hx hb hr hml hlocks hown hB hP hK hD hsz hS hl
  subst hsz
  have hu : ∀ b, b ≠ (g.lk z 2) → f b = f b := fun _ _ => rfl
  obtain ⟨h_2, e1, c3⟩ := oc_23.of (lo_k5_2 hL _ t_z) (hI.1 (g.lk z 2))
  refine lv_iload_n hx hb d_NLongDivision_reduce_0 rfl (lv_at hl 1 rfl) ?_
  refine lv_if_ne (tgt := 5) hx hb d_NLongDivision_reduce_1 (by decide) (fun b4 => ?_) (fun b4 => ?_)
  · skip
    replace b4 := mt (nI_eq (a := sc) (b := 0) (by omega) (by omega)).mpr b4
    refine lv_lconst (v := nL 0) hx hb d_NLongDivision_reduce_5 (by decide) ?_
    refine lv_lstore_n (lv' := [(3, .long (nL 0)), (0, .ref D), (1, .int (nI sc)), (2, .ref z)]) hx hb d_NLongDivision_reduce_6 rfl hl (by decide) rfl (fun ls hl => ?_)
    refine lv_aload_n hx hb d_NLongDivision_reduce_7 rfl (lv_at hl 1 rfl) ?_
    refine pf_get (v := .int (nI n)) (C := "BigRunner$LongDivision") (T := FT3) (N := 3) hx hb (hw3 hB _) (fun _ h9 => h9) hown hK hP (lo_in hL t_D (by decide)) ed rfl 2 (by decide) (wd_321 hB _) rfl d_NLongDivision_reduce_8 ?_
    refine lv_iconst (v := nI 1) hx hb d_NLongDivision_reduce_11 (by decide) ?_
    refine lv_isub hx hb d_NLongDivision_reduce_12 ?_
    refine lv_istore (lv' := [(5, .int (nI n - nI 1)), (3, .long (nL 0)), (0, .ref D), (1, .int (nI sc)), (2, .ref z)]) hx hb d_NLongDivision_reduce_13 hl (by decide) rfl (fun ls hl => ?_)
    have lp5 : ∀ (k7 : Nat) (lf : Nat) (j : Nat) (h : Nat → Int32) (f6 : Nat → va_E) (H : Heap) (locs : List Loc) (ls : Array Slot), (j < k7) → (lf < sc) → (j ≤ n) → (∀ i, i < 15 → ∃ k, k < 1000000000 ∧ h i = nI k) → (kv (fun i => dg h (j + i)) (n - j) * sc + lf = kv (fun i => dg hU (j + i)) (n - j)) → f6 (g.lk z 2) = .inl (g.ac (g.lk z 2), 15, .inl (h)) → IX g z f6 → un [23] g f f6 → (∀ b, b ≠ (g.lk z 2) → f6 b = f b) → lv_has ls 6 [(5, .int (nI j - nI 1)), (3, .long (nL lf)), (0, .ref D), (1, .int (nI sc)), (2, .ref z)] → va_P g.D vcl (va_pl g.LP f6) H → va_D (pc_A g s.heap.size) (va_pl g.LP f6) → va_S (pc_A g s.heap.size) s.heap H locs → W p l e ({ frames := 0, cells := 0, slots := 0, locals := 0 }) s m args below meth c H locs 0 0 (MQ below (va_Qv (fun f1 => (∃ h1 : Nat → Int32, f1 (g.lk z 2) = .inl (g.ac (g.lk z 2), 15, .inl h1) ∧ (∀ i, i < 15 → ∃ k, k < 1000000000 ∧ h1 i = nI k) ∧ kv (dg h1) n = kv (dg hU) n / sc) ∧ (IX g z f1) ∧ (∀ b, b ≠ (g.lk z 2) → f1 b = f b)) (pc_out g s.heap.size) (pc_A g s.heap.size)) args s 0 0 (pc_A g s.heap.size)) (F0 m 15 ls []) := by
      intro k7
      induction k7 with
      | zero => intros; exfalso; omega
      | succ k7 ih8 =>
        intro lf j h f6 H locs ls hfu9 hlf hj hc he e10 hI11 hv12 hu hl hP hD hS
        have ed := hv12.at t_D (by decide) ed
        have eU := hv12.at (lo_k4_0 hL _ t_D) (by decide) eU
        cases j with
        | zero =>
          have hl : lv_has ls 6 [(5, .int (-1)), (3, .long (nL lf)), (0, .ref D), (1, .int (nI sc)), (2, .ref z)] := by rw [show nI 0 - nI 1 = (-1 : Int32) by decide] at hl; exact hl
          refine lv_iload hx hb d_NLongDivision_reduce_15 (lv_at hl 0 rfl) ?_
          refine lv_if_lt (tgt := 58) hx hb d_NLongDivision_reduce_17 (by decide) (fun b13 => ?_) (fun b13 => ?_)
          · skip
            exact pe_vret hx hb hr hlocks hK hP hD hS d_NLongDivision_reduce_58 ⟨⟨_, e10, hc, rd_end hlf he⟩, hI11, hu⟩
          · skip
            exact absurd (by decide) b13
        | succ j =>
          have hl : lv_has ls 6 [(5, .int (nI j)), (3, .long (nL lf)), (0, .ref D), (1, .int (nI sc)), (2, .ref z)] := by rw [nI_pr1] at hl; exact hl
          have he1 : kv (fun i => dg h (j + 1 + i)) (n - (j + 1)) * sc + lf = kv (fun i => dg hU (j + 1 + i)) (n - (j + 1)) := he
          refine lv_iload hx hb d_NLongDivision_reduce_15 (lv_at hl 0 rfl) ?_
          refine lv_if_lt (tgt := 58) hx hb d_NLongDivision_reduce_17 (by decide) (fun b14 => ?_) (fun b14 => ?_)
          · skip
            replace b14 := (nI_ltI (a := j) (b := 0) (by omega) (by omega)).mp b14
            exfalso; omega
          · skip
            replace b14 := mt (nI_ltI (a := j) (b := 0) (by omega) (by omega)).mpr b14
            refine lv_lload_n hx hb d_NLongDivision_reduce_20 rfl (lv_at hl 1 rfl) ?_
            refine lv_ldc2 (v := 1000000000) hx hb hown (wd_813 hB _) d_NLongDivision_reduce_21 ?_
            refine lv_topl (fun z_ hz_ => ?_)
            obtain rfl : z_ = nL 1000000000 := hz_
            refine pf_lmulN (x := lf) (y := 1000000000) hx hb d_NLongDivision_reduce_24 ?_
            refine lv_aload_n hx hb d_NLongDivision_reduce_25 rfl (lv_at hl 2 rfl) ?_
            refine pf_get (v := .ref (g.lk D 0)) (C := "BigRunner$LongDivision") (T := FT3) (N := 3) hx hb (hw3 hB _) (fun _ h9 => h9) hown hK hP (lo_in hL t_D (by decide)) ed rfl 0 (by decide) (wd_319 hB _) rfl d_NLongDivision_reduce_26 ?_
            refine lv_iload hx hb d_NLongDivision_reduce_29 (lv_at hl 0 rfl) ?_
            refine pf_iald (i := j) hx hb hK hP (lo_in hL (lo_k4_0 hL _ t_D) (by decide)) eU (lo_t22 hL _ (lo_k4_0 hL _ t_D)) (by omega) (by decide) d_NLongDivision_reduce_31 ?_
            have hd15 := dg_lt cU (j := j) (by omega)
            refine lv_topi (fun z_ hz_ => ?_)
            obtain rfl : z_ = nI (dg hU j) := hz_.trans (dg_eq cU (by omega))
            refine pf_i2lN hx hb (by omega) d_NLongDivision_reduce_32 ?_
            refine pf_laddN (x := lf * 1000000000) (y := dg hU j) hx hb d_NLongDivision_reduce_33 ?_
            refine lv_lstore_n (lv' := [(3, .long (nL ((lf * 1000000000) + (dg hU j)))), (5, .int (nI j)), (0, .ref D), (1, .int (nI sc)), (2, .ref z)]) hx hb d_NLongDivision_reduce_34 rfl hl (by decide) rfl (fun ls hl => ?_)
            refine lv_aload_n hx hb d_NLongDivision_reduce_35 rfl (lv_at hl 4 rfl) ?_
            obtain ⟨sg_17, n_18, e16, c19⟩ := oc_5.of t_z (hI11.1 z)
            refine pf_get (v := .ref (g.lk z 2)) (C := "BigRunner$LongNumber") (T := FT4) (N := 3) hx hb (hw4 hB _) (fun _ h9 => h9) hown hK hP (lo_in hL t_z (by decide)) e16 rfl 2 (by decide) (wd_193 hB _) rfl d_NLongDivision_reduce_36 ?_
            refine lv_iload hx hb d_NLongDivision_reduce_39 (lv_at hl 1 rfl) ?_
            refine lv_lload_n hx hb d_NLongDivision_reduce_41 rfl (lv_at hl 0 rfl) ?_
            refine lv_iload_n hx hb d_NLongDivision_reduce_42 rfl (lv_at hl 3 rfl) ?_
            refine pf_i2lN hx hb (by omega) d_NLongDivision_reduce_43 ?_
            refine pf_ldivN (x := (lf * 1000000000) + (dg hU j)) (y := sc) hx hb (by omega) (by omega) (by omega) d_NLongDivision_reduce_44 ?_
            have hm20 : ((lf * 1000000000) + (dg hU j)) / sc < 1000000000 := Nat.div_lt_of_lt_mul (by omega)
            refine pf_l2iN hx hb d_NLongDivision_reduce_45 ?_
            refine pf_iast (i := j) hx hb hK hP hD hS (lo_in hL (lo_k5_2 hL _ t_z) (by decide)) e10 (lo_t23 hL _ (lo_k5_2 hL _ t_z)) (by omega) (by decide) d_NLongDivision_reduce_46 (fun f21 H locs e22 k23 hP hD hS => ?_)
            have ed := (k23 D (tg_ne t_D (lo_k5_2 hL _ t_z) (by decide))).trans ed
            have eU := (k23 (g.lk D 0) (tg_ne (lo_k4_0 hL _ t_D) (lo_k5_2 hL _ t_z) (by decide))).trans eU
            have e16 := (k23 z (tg_ne t_z (lo_k5_2 hL _ t_z) (by decide))).trans e16
            have hu : ∀ b, b ≠ (g.lk z 2) → f21 b = f b := fun b q0 => (k23 b q0).trans (hu b q0)
            have hv12 := hv12.st k23 (lo_k5_2 hL _ t_z) (by decide)
            have hk24 : ∀ b, b ≠ (g.lk z 2) → f21 b = f6 b := k23
            have c25 := lb_upd (n := 15) (i := j) (v := ((lf * 1000000000) + (dg hU j)) / sc) hc (by omega)
            refine lv_lload_n hx hb d_NLongDivision_reduce_47 rfl (lv_at hl 0 rfl) ?_
            refine lv_iload_n hx hb d_NLongDivision_reduce_48 rfl (lv_at hl 3 rfl) ?_
            refine pf_i2lN hx hb (by omega) d_NLongDivision_reduce_49 ?_
            refine pf_lremN (x := (lf * 1000000000) + (dg hU j)) (y := sc) hx hb (by omega) (by omega) (by omega) d_NLongDivision_reduce_50 ?_
            have hm26 : ((lf * 1000000000) + (dg hU j)) % sc < sc := Nat.mod_lt _ (by omega)
            refine lv_lstore_n (lv' := [(3, .long (nL (((lf * 1000000000) + (dg hU j)) % sc))), (5, .int (nI j)), (0, .ref D), (1, .int (nI sc)), (2, .ref z)]) hx hb d_NLongDivision_reduce_51 rfl hl (by decide) rfl (fun ls hl => ?_)
            refine lv_iinc (k := 1) (v := nI j - nI 1) (lv' := [(5, .int (nI j - nI 1)), (3, .long (nL (((lf * 1000000000) + (dg hU j)) % sc))), (0, .ref D), (1, .int (nI sc)), (2, .ref z)]) hx hb d_NLongDivision_reduce_52 hl rfl (by rw [Int32.sub_eq_add_neg]; rfl) (by decide) rfl (fun ls hl => ?_)
            refine lv_goto (tgt := 15) hx hb d_NLongDivision_reduce_55 (by decide) ?_
            have hI27 := ix_23 hI11 hL t_z hk24 (⟨_, e22, c25⟩)
            exact ih8 (((lf * 1000000000) + (dg hU j)) % sc) j (upd h j ((nI (((lf * 1000000000) + (dg hU j)) / sc)))) f21 H locs ls (by omega) (by omega) (by omega) c25 (by rw [show n - j = n - (j + 1) + 1 by omega]; exact rd_step (by omega) he1) e22 hI27 hv12 hu hl hP hD hS
    exact lp5 (n + 1) 0 n h_2 f s.heap [] ls (by omega) (by omega) (by omega) c3 (by rw [Nat.sub_self]; simp [kv]) e1 hI un.rf hu hl hP hD hS
  · skip
    replace b4 := (nI_eq (a := sc) (b := 0) (by omega) (by omega)).mp b4
    exfalso; omega
set_option maxHeartbeats 4000000 in
set_option maxRecDepth 100000 in
theorem v_divide0 (l : Launch) (g : Lay) (sz : Nat) (f : Nat → va_E) (D : Nat) (x : Nat) (sgx : Int32) (nx : Nat) (dx : Nat → Int32) (vx : Int) (y : Nat) (sgy : Int32) (ny : Nat) (dy : Nat → Int32) (vy : Int) (z : Nat) (hL : LO g) (t_D : g.tg D = 4) (t_x : g.tg x = 5) (t_y : g.tg y = 5) (t_z : g.tg z = 5) (hI : IV g f) (eax : f x = .inr (4, [.int sgx, .int (nI nx), .ref (g.lk x 2)])) (ebx : f (g.lk x 2) = .inl (g.ac (g.lk x 2), 15, .inl dx)) (hNx : LNF sgx nx dx vx) (eay : f y = .inr (4, [.int sgy, .int (nI ny), .ref (g.lk y 2)])) (eby : f (g.lk y 2) = .inl (g.ac (g.lk y 2), 15, .inl dy)) (hNy : LNF sgy ny dy vy) (h1 : x ≠ z) (h2 : y ≠ z) (hy0 : 0 < ny) : Met l ⟨"BigRunner$LongDivision", "divide", "(LBigRunner$LongNumber;LBigRunner$LongNumber;LBigRunner$LongNumber;Z)V"⟩ [Cond.code ⟨"BigRunner$LongDivision", "divide", "(LBigRunner$LongNumber;LBigRunner$LongNumber;LBigRunner$LongNumber;Z)V"⟩ prog_4_method_2_code 8 none] ({ frames := 2, cells := 0, slots := 0, locals := 82 }) (va_Pc [.ref D, .ref x, .ref y, .ref z, .int (nI 0)] (pc_in g sz f)) (va_Qv (fun f1 => (∃ (sg1 : Int32) (n1 : Nat) (h1 : Nat → Int32), f1 z = .inr (4, [.int sg1, .int (nI n1), .ref (g.lk z 2)]) ∧ f1 (g.lk z 2) = .inl (g.ac (g.lk z 2), 15, .inl h1) ∧ LNV sg1 n1 h1 (Int.tdiv vx vy)) ∧ (IV g f1) ∧ (∀ b, b ≠ z → b ≠ (g.lk z 2) → b ≠ D → b ≠ (g.lk D 0) → b ≠ (g.lk D 1) → f1 b = f b)) (pc_out g sz) (pc_A g sz)) 0 0 (pc_A g sz) := by
  refine pe_ofW (cc := prog_4_method_2_code) (maxL := 8) (ret := none) (lv := [(0, .ref D), (1, .ref x), (2, .ref y), (3, .ref z), (4, .int (nI 0))]) (by decide) (Nat.le_of_ble_eq_true rfl) rfl ?_
  intro p e s m args below meth c ls hx hb hr hml hlocks hown hB hP hK hD hsz hS hl
  subst hsz
  have hu : ∀ b, b ≠ z → b ≠ (g.lk z 2) → b ≠ D → b ≠ (g.lk D 0) → b ≠ (g.lk D 1) → f b = f b := fun _ _ _ _ _ _  => rfl
  have cbx : ∀ i, i < 15 → ∃ k, k < 1000000000 ∧ dx i = nI k := hNx.1.2.1
  have hnx : nx ≤ 15 := hNx.1.1
  have hfx : nx ≤ 14 := LNF_14 hNx
  have cby : ∀ i, i < 15 → ∃ k, k < 1000000000 ∧ dy i = nI k := hNy.1.2.1
  have hny : ny ≤ 15 := hNy.1.1
  have hfy : ny ≤ 14 := LNF_14 hNy
  obtain ⟨sg_2, n_3, e1, c4⟩ := oc_5.of t_z (hI.1 z)
  obtain ⟨h_6, e5, c7⟩ := oc_23.of (lo_k5_2 hL _ t_z) (hI.1 (g.lk z 2))
  have hny := hNy.1.2.2.2.1
  refine lv_aload_n hx hb d_NLongDivision_divide_0 rfl (lv_at hl 0 rfl) ?_
  refine lv_aload_n hx hb d_NLongDivision_divide_1 rfl (lv_at hl 2 rfl) ?_
  refine pf_get (v := .int (nI ny)) (C := "BigRunner$LongNumber") (T := FT4) (N := 3) hx hb (hw4 hB _) (fun _ h9 => h9) hown hK hP (lo_in hL t_y (by decide)) eay rfl 1 (by decide) (wd_191 hB _) rfl d_NLongDivision_divide_2 ?_
  obtain ⟨n_9, e8, c10⟩ := oc_4.of t_D (hI.1 D)
  refine pf_put (v := .int (nI ny)) (ty := .int) (fs' := [.ref (g.lk D 0), .ref (g.lk D 1), .int (nI ny)]) (C := "BigRunner$LongDivision") (T := FT3) (N := 3) hx hb (hw3 hB _) (fun _ h9 => h9) TY3 ok3 nm3 hown hK hP hD hS (lo_in hL t_D (by decide)) e8 rfl 2 (by decide) (wd_321 hB _) rfl (by decide +kernel) rfl rfl (Nat.le_of_ble_eq_true rfl) rfl d_NLongDivision_divide_5 (fun f11 H locs e12 k13 hP hD hS => ?_)
  have eax := (k13 x (tg_ne t_x t_D (by decide))).trans eax
  have ebx := (k13 (g.lk x 2) (tg_ne (lo_k5_2 hL _ t_x) t_D (by decide))).trans ebx
  have eay := (k13 y (tg_ne t_y t_D (by decide))).trans eay
  have eby := (k13 (g.lk y 2) (tg_ne (lo_k5_2 hL _ t_y) t_D (by decide))).trans eby
  have e1 := (k13 z (tg_ne t_z t_D (by decide))).trans e1
  have e5 := (k13 (g.lk z 2) (tg_ne (lo_k5_2 hL _ t_z) t_D (by decide))).trans e5
  have hu : ∀ b, b ≠ z → b ≠ (g.lk z 2) → b ≠ D → b ≠ (g.lk D 0) → b ≠ (g.lk D 1) → f11 b = f b := fun b q0 q1 q2 q3 q4 => (k13 b q2).trans (hu b q0 q1 q2 q3 q4)
  have hk14 : ∀ b, b ≠ D → f11 b = f b := k13
  refine lv_aload_n hx hb d_NLongDivision_divide_8 rfl (lv_at hl 0 rfl) ?_
  refine pf_get (v := .int (nI ny)) (C := "BigRunner$LongDivision") (T := FT3) (N := 3) hx hb (hw3 hB _) (fun _ h9 => h9) hown hK hP (lo_in hL t_D (by decide)) e12 rfl 2 (by decide) (wd_321 hB _) rfl d_NLongDivision_divide_9 ?_
  refine lv_if_eq (tgt := 26) hx hb d_NLongDivision_divide_12 (by decide) (fun b15 => ?_) (fun b15 => ?_)
  · skip
    replace b15 := (nI_eq (a := ny) (b := 0) (by omega) (by omega)).mp b15
    exfalso; omega
  · skip
    replace b15 := mt (nI_eq (a := ny) (b := 0) (by omega) (by omega)).mpr b15
    refine lv_aload_n hx hb d_NLongDivision_divide_15 rfl (lv_at hl 1 rfl) ?_
    refine pf_get (v := .int (nI nx)) (C := "BigRunner$LongNumber") (T := FT4) (N := 3) hx hb (hw4 hB _) (fun _ h9 => h9) hown hK hP (lo_in hL t_x (by decide)) eax rfl 1 (by decide) (wd_191 hB _) rfl d_NLongDivision_divide_16 ?_
    refine lv_aload_n hx hb d_NLongDivision_divide_19 rfl (lv_at hl 0 rfl) ?_
    refine pf_get (v := .int (nI ny)) (C := "BigRunner$LongDivision") (T := FT3) (N := 3) hx hb (hw3 hB _) (fun _ h9 => h9) hown hK hP (lo_in hL t_D (by decide)) e12 rfl 2 (by decide) (wd_321 hB _) rfl d_NLongDivision_divide_20 ?_
    refine lv_icmp_ge (tgt := 46) hx hb d_NLongDivision_divide_23 (by decide) (fun b16 => ?_) (fun b16 => ?_)
    · skip
      replace b16 := (nI_leI (a := ny) (b := nx) (by omega) (by omega)).mp b16
      have hn0 : 0 < ny := hy0
      have hx0 : 0 < nx := by omega
      have ht0 : 0 < dg dy (ny - 1) := Nat.pos_of_ne_zero (hny hn0)
      have ht1 : dg dy (ny - 1) < 1000000000 := dg_lt cby (by omega)
      refine lv_ldc (v := 1000000000) hx hb hown (wd_809 hB _) d_NLongDivision_divide_46 ?_
      refine lv_topi (fun z_ hz_ => ?_)
      obtain rfl : z_ = nI 1000000000 := hz_
      refine lv_aload_n hx hb d_NLongDivision_divide_48 rfl (lv_at hl 2 rfl) ?_
      refine pf_get (v := .ref (g.lk y 2)) (C := "BigRunner$LongNumber") (T := FT4) (N := 3) hx hb (hw4 hB _) (fun _ h9 => h9) hown hK hP (lo_in hL t_y (by decide)) eay rfl 2 (by decide) (wd_193 hB _) rfl d_NLongDivision_divide_49 ?_
      refine lv_aload_n hx hb d_NLongDivision_divide_52 rfl (lv_at hl 0 rfl) ?_
      refine pf_get (v := .int (nI ny)) (C := "BigRunner$LongDivision") (T := FT3) (N := 3) hx hb (hw3 hB _) (fun _ h9 => h9) hown hK hP (lo_in hL t_D (by decide)) e12 rfl 2 (by decide) (wd_321 hB _) rfl d_NLongDivision_divide_53 ?_
      refine lv_iconst (v := nI 1) hx hb d_NLongDivision_divide_56 (by decide) ?_
      refine pf_isubN (x := ny) (y := 1) hx hb (by omega) d_NLongDivision_divide_57 ?_
      refine pf_iald (i := ny - 1) hx hb hK hP (lo_in hL (lo_k5_2 hL _ t_y) (by decide)) eby (lo_t23 hL _ (lo_k5_2 hL _ t_y)) (by omega) (by decide) d_NLongDivision_divide_58 ?_
      have hd17 := dg_lt cby (j := ny - 1) (by omega)
      refine lv_topi (fun z_ hz_ => ?_)
      obtain rfl : z_ = nI (dg dy (ny - 1)) := hz_.trans (dg_eq cby (by omega))
      refine lv_iconst (v := nI 1) hx hb d_NLongDivision_divide_59 (by decide) ?_
      refine pf_iaddN (x := dg dy (ny - 1)) (y := 1) hx hb d_NLongDivision_divide_60 ?_
      refine pf_idivN (x := 1000000000) (y := (dg dy (ny - 1)) + 1) hx hb (by omega) (by omega) (by omega) d_NLongDivision_divide_61 ?_
      refine lv_topi (fun z_ hz_ => ?_)
      obtain ⟨sc, hsc⟩ : ∃ z : Nat, z = 1000000000 / ((dg dy (ny - 1)) + 1) := ⟨_, rfl⟩
      obtain rfl : z_ = nI sc := by rw [hz_, hsc]
      obtain ⟨hs1, hs2, hs3⟩ := dv_sc ht0 ht1 hsc
      refine lv_istore (lv' := [(5, .int (nI sc)), (0, .ref D), (1, .ref x), (2, .ref y), (3, .ref z), (4, .int (nI 0))]) hx hb d_NLongDivision_divide_62 hl (by decide) rfl (fun ls hl => ?_)
      refine lv_aload_n hx hb d_NLongDivision_divide_64 rfl (lv_at hl 2 rfl) ?_
      refine lv_iload hx hb d_NLongDivision_divide_65 (lv_at hl 0 rfl) ?_
      refine lv_aload_n hx hb d_NLongDivision_divide_67 rfl (lv_at hl 1 rfl) ?_
      refine pf_get (v := .ref (g.lk D 0)) (C := "BigRunner$LongDivision") (T := FT3) (N := 3) hx hb (hw3 hB _) (fun _ h9 => h9) hown hK hP (lo_in hL t_D (by decide)) e12 rfl 0 (by decide) (wd_319 hB _) rfl d_NLongDivision_divide_68 ?_
      have hI18 := iv_1 hI hL t_D (by decide) hk14 (oc_4.mk t_D (⟨ny, e12, (by omega)⟩))
      refine pcc_v (va_runS (As := [.ref x, .int (nI sc), .ref (g.lk D 0)]) (rest := []) ⟨hx, hb, hml, hown, tb_nil⟩ (c_enlarge l g H.size f11 x sc ((g.lk D 0)) nx sgx dx hL t_x (lo_k4_0 hL _ t_D) hI18 eax ebx cbx (by omega) (by omega)) ⟨(callB_of 3 (tb_one (wd_812 hB _)) tb_good1 rfl rfl rfl (wd_81 hB _) (wd_810 hB _) (by decide +kernel) ⟨Nat.le_of_ble_eq_true rfl, Nat.le_of_ble_eq_true rfl⟩), (wd_811 hB _)⟩ ⟨pe_bl, pe_pre hB hK hP hD⟩ rfl rfl hl.1 rfl (lv_room (Nat.le_of_ble_eq_true rfl)) d_NLongDivision_divide_71 ⟨Nat.le_of_ble_eq_true rfl, Nat.le_of_ble_eq_true rfl⟩) hS (fun f20 H locs hq21 hP hD hS => ?_)
      obtain ⟨en_22, hI1_23, hk1_24⟩ := hq21
      have hu : ∀ b, b ≠ z → b ≠ (g.lk z 2) → b ≠ D → b ≠ (g.lk D 0) → b ≠ (g.lk D 1) → f20 b = f b := fun b q0 q1 q2 q3 q4 => (hk1_24 b q3).trans (hu b q0 q1 q2 q3 q4)
      have eax := (hk1_24 x (tg_ne t_x (lo_k4_0 hL _ t_D) (by decide))).trans eax
      have ebx := (hk1_24 (g.lk x 2) (tg_ne (lo_k5_2 hL _ t_x) (lo_k4_0 hL _ t_D) (by decide))).trans ebx
      have eay := (hk1_24 y (tg_ne t_y (lo_k4_0 hL _ t_D) (by decide))).trans eay
      have eby := (hk1_24 (g.lk y 2) (tg_ne (lo_k5_2 hL _ t_y) (lo_k4_0 hL _ t_D) (by decide))).trans eby
      have e1 := (hk1_24 z (tg_ne t_z (lo_k4_0 hL _ t_D) (by decide))).trans e1
      have e5 := (hk1_24 (g.lk z 2) (tg_ne (lo_k5_2 hL _ t_z) (lo_k4_0 hL _ t_D) (by decide))).trans e5
      have e12 := (hk1_24 D (tg_ne t_D (lo_k4_0 hL _ t_D) (by decide))).trans e12
      obtain ⟨hb25, e26, c27, hq28⟩ := en_22
      refine lv_aload_n hx hb d_NLongDivision_divide_74 rfl (lv_at hl 3 rfl) ?_
      refine lv_iload hx hb d_NLongDivision_divide_75 (lv_at hl 0 rfl) ?_
      refine lv_aload_n hx hb d_NLongDivision_divide_77 rfl (lv_at hl 1 rfl) ?_
      refine pf_get (v := .ref (g.lk D 1)) (C := "BigRunner$LongDivision") (T := FT3) (N := 3) hx hb (hw3 hB _) (fun _ h9 => h9) hown hK hP (lo_in hL t_D (by decide)) e12 rfl 1 (by decide) (wd_320 hB _) rfl d_NLongDivision_divide_78 ?_
      refine pcc_v (va_runS (As := [.ref y, .int (nI sc), .ref (g.lk D 1)]) (rest := []) ⟨hx, hb, hml, hown, tb_nil⟩ (c_enlarge l g H.size f20 y sc ((g.lk D 1)) ny sgy dy hL t_y (lo_k4_1 hL _ t_D) hI1_23 eay eby cby (by omega) (by omega)) ⟨(callB_of 3 (tb_one (wd_812 hB _)) tb_good1 rfl rfl rfl (wd_81 hB _) (wd_810 hB _) (by decide +kernel) ⟨Nat.le_of_ble_eq_true rfl, Nat.le_of_ble_eq_true rfl⟩), (wd_811 hB _)⟩ ⟨pe_bl, pe_pre hB hK hP hD⟩ rfl rfl hl.1 rfl (lv_room (Nat.le_of_ble_eq_true rfl)) d_NLongDivision_divide_81 ⟨Nat.le_of_ble_eq_true rfl, Nat.le_of_ble_eq_true rfl⟩) hS (fun f30 H locs hq31 hP hD hS => ?_)
      obtain ⟨en_32, hI1_33, hk1_34⟩ := hq31
      have hu : ∀ b, b ≠ z → b ≠ (g.lk z 2) → b ≠ D → b ≠ (g.lk D 0) → b ≠ (g.lk D 1) → f30 b = f b := fun b q0 q1 q2 q3 q4 => (hk1_34 b q4).trans (hu b q0 q1 q2 q3 q4)
      have eax := (hk1_34 x (tg_ne t_x (lo_k4_1 hL _ t_D) (by decide))).trans eax
      have ebx := (hk1_34 (g.lk x 2) (tg_ne (lo_k5_2 hL _ t_x) (lo_k4_1 hL _ t_D) (by decide))).trans ebx
      have eay := (hk1_34 y (tg_ne t_y (lo_k4_1 hL _ t_D) (by decide))).trans eay
      have eby := (hk1_34 (g.lk y 2) (tg_ne (lo_k5_2 hL _ t_y) (lo_k4_1 hL _ t_D) (by decide))).trans eby
      have e1 := (hk1_34 z (tg_ne t_z (lo_k4_1 hL _ t_D) (by decide))).trans e1
      have e5 := (hk1_34 (g.lk z 2) (tg_ne (lo_k5_2 hL _ t_z) (lo_k4_1 hL _ t_D) (by decide))).trans e5
      have e12 := (hk1_34 D (tg_ne t_D (lo_k4_1 hL _ t_D) (by decide))).trans e12
      have e26 := (hk1_34 (g.lk D 0) (lo_ne4 hL _ t_D)).trans e26
      obtain ⟨hb35, e36, c37, hq38⟩ := en_32
      have hxl : ∀ i, i < nx → dg dx i < 1000000000 := fun i hi => dg_lt cbx (by omega)
      have hyl : ∀ i, i < ny → dg dy i < 1000000000 := fun i hi => dg_lt cby (by omega)
      obtain ⟨hV1, hV4⟩ := (dv_V (w := dg hb35) (y := dg dy) hn0 (fun i hi => dg_lt c37 hi) hyl rfl ht0 hsc hq38).resolve_right (by omega)
      have hR0 := dv_R (u := dg hb25) (w := dg hb35) hn0 (show ny ≤ nx by omega) hxl hyl ht0 hs1 hq28 hV1
      have hI39 := IV.ix hI1_33 z
      refine lv_aload_n hx hb d_NLongDivision_divide_84 rfl (lv_at hl 2 rfl) ?_
      refine pf_get (v := .int (nI nx)) (C := "BigRunner$LongNumber") (T := FT4) (N := 3) hx hb (hw4 hB _) (fun _ h9 => h9) hown hK hP (lo_in hL t_x (by decide)) eax rfl 1 (by decide) (wd_191 hB _) rfl d_NLongDivision_divide_85 ?_
      refine lv_aload_n hx hb d_NLongDivision_divide_88 rfl (lv_at hl 1 rfl) ?_
      refine pf_get (v := .int (nI ny)) (C := "BigRunner$LongDivision") (T := FT3) (N := 3) hx hb (hw3 hB _) (fun _ h9 => h9) hown hK hP (lo_in hL t_D (by decide)) e12 rfl 2 (by decide) (wd_321 hB _) rfl d_NLongDivision_divide_89 ?_
      refine pf_isubN (x := nx) (y := ny) hx hb (by omega) d_NLongDivision_divide_92 ?_
      refine lv_iconst (v := nI 1) hx hb d_NLongDivision_divide_93 (by decide) ?_
      refine pf_iaddN (x := nx - ny) (y := 1) hx hb d_NLongDivision_divide_94 ?_
      refine lv_istore (lv' := [(6, .int (nI ((nx - ny) + 1))), (5, .int (nI sc)), (0, .ref D), (1, .ref x), (2, .ref y), (3, .ref z), (4, .int (nI 0))]) hx hb d_NLongDivision_divide_95 hl (by decide) rfl (fun ls hl => ?_)
      refine lv_iload hx hb d_NLongDivision_divide_97 (lv_at hl 0 rfl) ?_
      refine lv_iconst (v := nI 1) hx hb d_NLongDivision_divide_99 (by decide) ?_
      refine lv_isub hx hb d_NLongDivision_divide_100 ?_
      refine lv_istore (lv' := [(7, .int (nI ((nx - ny) + 1) - nI 1)), (6, .int (nI ((nx - ny) + 1))), (5, .int (nI sc)), (0, .ref D), (1, .ref x), (2, .ref y), (3, .ref z), (4, .int (nI 0))]) hx hb d_NLongDivision_divide_101 hl (by decide) rfl (fun ls hl => ?_)
      have lp40 : ∀ (k42 : Nat) (j : Nat) (hU : Nat → Int32) (h : Nat → Int32) (f41 : Nat → va_E) (H : Heap) (locs : List Loc) (ls : Array Slot), (j < k42) → (j ≤ (nx - ny) + 1) → (∀ i, i < 16 → ∃ k, k < 1000000000 ∧ hU i = nI k) → (kv (fun i => dg hU (j + i)) ny < kv (dg hb35) ny) → (∀ i, i < 15 → ∃ k, k < 1000000000 ∧ h i = nI k) → (sc * kv (dg dx) nx = kv (fun i => dg h (j + i)) (((nx - ny) + 1) - j) * kv (dg hb35) ny * 1000000000 ^ j + kv (dg hU) (j + ny)) → f41 (g.lk D 0) = .inl (g.ac (g.lk D 0), 16, .inl (hU)) → f41 (g.lk D 1) = .inl (g.ac (g.lk D 1), 16, .inl (hb35)) → f41 (g.lk z 2) = .inl (g.ac (g.lk z 2), 15, .inl (h)) → IX g z f41 → un [22, 23] g f30 f41 → (∀ b, b ≠ z → b ≠ (g.lk z 2) → b ≠ D → b ≠ (g.lk D 0) → b ≠ (g.lk D 1) → f41 b = f b) → lv_has ls 8 [(7, .int (nI j - nI 1)), (6, .int (nI ((nx - ny) + 1))), (5, .int (nI sc)), (0, .ref D), (1, .ref x), (2, .ref y), (3, .ref z), (4, .int (nI 0))] → va_P g.D vcl (va_pl g.LP f41) H → va_D (pc_A g s.heap.size) (va_pl g.LP f41) → va_S (pc_A g s.heap.size) s.heap H locs → W p l e ({ frames := 2, cells := 0, slots := 0, locals := 82 }) s m args below meth c H locs 0 0 (MQ below (va_Qv (fun f1 => (∃ (sg1 : Int32) (n1 : Nat) (h1 : Nat → Int32), f1 z = .inr (4, [.int sg1, .int (nI n1), .ref (g.lk z 2)]) ∧ f1 (g.lk z 2) = .inl (g.ac (g.lk z 2), 15, .inl h1) ∧ LNV sg1 n1 h1 (Int.tdiv vx vy)) ∧ (IV g f1) ∧ (∀ b, b ≠ z → b ≠ (g.lk z 2) → b ≠ D → b ≠ (g.lk D 0) → b ≠ (g.lk D 1) → f1 b = f b)) (pc_out g s.heap.size) (pc_A g s.heap.size)) args s 0 0 (pc_A g s.heap.size)) (F0 m 103 ls []) := by
        intro k42
        induction k42 with
        | zero => intros; exfalso; omega
        | succ k42 ih43 =>
          intro j hU h f41 H locs ls hfu44 hj cU hR hc hS9 e45 e46 e47 hI48 hv49 hu hl hP hD hS
          have eax := hv49.at t_x (by decide) eax
          have eay := hv49.at t_y (by decide) eay
          have e1 := hv49.at t_z (by decide) e1
          have e12 := hv49.at t_D (by decide) e12
          cases j with
          | zero =>
            have hl : lv_has ls 8 [(7, .int (-1)), (6, .int (nI ((nx - ny) + 1))), (5, .int (nI sc)), (0, .ref D), (1, .ref x), (2, .ref y), (3, .ref z), (4, .int (nI 0))] := by rw [show nI 0 - nI 1 = (-1 : Int32) by decide] at hl; exact hl
            refine lv_iload hx hb d_NLongDivision_divide_103 (lv_at hl 0 rfl) ?_
            refine lv_if_lt (tgt := 133) hx hb d_NLongDivision_divide_105 (by decide) (fun b50 => ?_) (fun b50 => ?_)
            · skip
              have hfin := dv_fin (X := kv (dg dx) nx) (Y := kv (dg dy) ny) (Q := kv (dg h) ((nx - ny) + 1)) (R := kv (dg hU) ny) (V := kv (dg hb35) ny) hs1 (dv_z0 hS9 hR).1 (dv_z0 hS9 hR).2 rfl hV1
              refine lv_iload hx hb d_NLongDivision_divide_133 (lv_at hl 7 rfl) ?_
              refine lv_if_eq (tgt := 160) hx hb d_NLongDivision_divide_135 (by decide) (fun b51 => ?_) (fun b51 => ?_)
              · skip
                replace b51 := (nI_eq (a := 0) (b := 0) (by omega) (by omega)).mp b51
                refine lv_aload_n hx hb d_NLongDivision_divide_160 rfl (lv_at hl 6 rfl) ?_
                refine lv_iload hx hb d_NLongDivision_divide_161 (lv_at hl 1 rfl) ?_
                refine lv_aload_n hx hb d_NLongDivision_divide_163 rfl (lv_at hl 4 rfl) ?_
                refine pf_get (v := .int sgx) (C := "BigRunner$LongNumber") (T := FT4) (N := 3) hx hb (hw4 hB _) (fun _ h9 => h9) hown hK hP (lo_in hL t_x (by decide)) eax rfl 0 (by decide) (wd_187 hB _) rfl d_NLongDivision_divide_164 ?_
                refine lv_aload_n hx hb d_NLongDivision_divide_167 rfl (lv_at hl 5 rfl) ?_
                refine pf_get (v := .int sgy) (C := "BigRunner$LongNumber") (T := FT4) (N := 3) hx hb (hw4 hB _) (fun _ h9 => h9) hown hK hP (lo_in hL t_y (by decide)) eay rfl 0 (by decide) (wd_187 hB _) rfl d_NLongDivision_divide_168 ?_
                refine lv_imul hx hb d_NLongDivision_divide_171 ?_
                refine pcc_v (va_runV (C := "BigRunner$LongNumber") (As := [.int (nI ((nx - ny) + 1)), .int (sgx * sgy)]) (rest := []) ⟨hx, hb, hml, hown, tb_nil⟩ (v_finish l g H.size f41 z sg_2 n_3 h (((nx - ny) + 1)) ((sgx * sgy)) hL t_z hI48 e1 e47 hc (by omega) (by omega) (Or.inl (LS_nz (n := 1) (LS_qs hNx.1.2.2.1 hNy.1.2.2.1 hx0 hn0) (by decide)))) ⟨(callB_of 2 (tb_one (wd_784 hB _)) tb_good1 rfl rfl rfl (wd_78 hB _) (wd_830 hB _) (by decide +kernel) ⟨Nat.le_of_ble_eq_true rfl, Nat.le_of_ble_eq_true rfl⟩), (wd_782 hB _), (wd_783 hB _)⟩ ⟨pe_bl, pg_recv (ci := 4) hK hP (lo_in hL t_z (by decide)) e1 rfl, pe_pre hB hK hP hD⟩ rfl rfl hl.1 rfl (lv_room (Nat.le_of_ble_eq_true rfl)) d_NLongDivision_divide_172 ⟨Nat.le_of_ble_eq_true rfl, Nat.le_of_ble_eq_true rfl⟩) hS (fun f53 H locs hq54 hP hD hS => ?_)
                obtain ⟨fi_55, hI1_56, hk1_57⟩ := hq54
                have hu : ∀ b, b ≠ z → b ≠ (g.lk z 2) → b ≠ D → b ≠ (g.lk D 0) → b ≠ (g.lk D 1) → f53 b = f b := fun b q0 q1 q2 q3 q4 => (hk1_57 b q0).trans (hu b q0 q1 q2 q3 q4)
                have eax := (hk1_57 x h1).trans eax
                have eay := (hk1_57 y h2).trans eay
                have e12 := (hk1_57 D (tg_ne t_D t_z (by decide))).trans e12
                have e45 := (hk1_57 (g.lk D 0) (tg_ne (lo_k4_0 hL _ t_D) t_z (by decide))).trans e45
                have e46 := (hk1_57 (g.lk D 1) (tg_ne (lo_k4_1 hL _ t_D) t_z (by decide))).trans e46
                have e47 := (hk1_57 (g.lk z 2) (tg_ne (lo_k5_2 hL _ t_z) t_z (by decide))).trans e47
                obtain ⟨sg58, nn59, e60, hN61⟩ := fi_55
                have hnn59 : nn59 ≤ 15 := hN61.1
                exact pe_vret hx hb hr hlocks hK hP hD hS d_NLongDivision_divide_175 ⟨⟨_, _, _, e60, e47, (LNV_cast hN61 (by rw [hfin.1, hNx.1.2.2.2.2, hNy.1.2.2.2.2]; exact td_q hNx.1.2.2.1 hNy.1.2.2.1 hx0 hn0 _ _))⟩, hI1_56, hu⟩
              · skip
                replace b51 := mt (nI_eq (a := 0) (b := 0) (by omega) (by omega)).mpr b51
                exfalso; omega
            · skip
              exact absurd (by decide) b50
          | succ j =>
            have hl : lv_has ls 8 [(7, .int (nI j)), (6, .int (nI ((nx - ny) + 1))), (5, .int (nI sc)), (0, .ref D), (1, .ref x), (2, .ref y), (3, .ref z), (4, .int (nI 0))] := by rw [nI_pr1] at hl; exact hl
            have hlt9 := kn_nx (h := dg hU) hR (dg_lt cU (j := j) (by omega))
            refine lv_iload hx hb d_NLongDivision_divide_103 (lv_at hl 0 rfl) ?_
            refine lv_if_lt (tgt := 133) hx hb d_NLongDivision_divide_105 (by decide) (fun b62 => ?_) (fun b62 => ?_)
            · skip
              replace b62 := (nI_ltI (a := j) (b := 0) (by omega) (by omega)).mp b62
              exfalso; omega
            · skip
              replace b62 := mt (nI_ltI (a := j) (b := 0) (by omega) (by omega)).mpr b62
              refine lv_aload_n hx hb d_NLongDivision_divide_108 rfl (lv_at hl 6 rfl) ?_
              refine pf_get (v := .ref (g.lk z 2)) (C := "BigRunner$LongNumber") (T := FT4) (N := 3) hx hb (hw4 hB _) (fun _ h9 => h9) hown hK hP (lo_in hL t_z (by decide)) e1 rfl 2 (by decide) (wd_193 hB _) rfl d_NLongDivision_divide_109 ?_
              refine lv_iload hx hb d_NLongDivision_divide_112 (lv_at hl 0 rfl) ?_
              refine lv_aload_n hx hb d_NLongDivision_divide_114 rfl (lv_at hl 3 rfl) ?_
              refine lv_aload_n hx hb d_NLongDivision_divide_115 rfl (lv_at hl 3 rfl) ?_
              refine lv_iload hx hb d_NLongDivision_divide_116 (lv_at hl 0 rfl) ?_
              refine pcc_l (va_runV (C := "BigRunner$LongDivision") (As := [.int (nI j)]) (rest := [.ref D, .int (nI j), .ref (g.lk z 2)]) ⟨hx, hb, hml, hown, tb_nil⟩ (c_guess l g H.size f41 D j ny hU hb35 hL t_D hI48.1 e12 e45 cU e46 c37 (by omega) (by omega) hlt9 hV4) ⟨(callB_of 1 (tb_one (wd_817 hB _)) tb_good1 rfl rfl rfl (wd_81 hB _) (wd_814 hB _) (by decide +kernel) ⟨Nat.le_of_ble_eq_true rfl, Nat.le_of_ble_eq_true rfl⟩), (wd_816 hB _), (wd_34 hB _)⟩ ⟨pe_bl, pg_recv (ci := 3) hK hP (lo_in hL t_D (by decide)) e12 rfl, pe_pre hB hK hP hD⟩ rfl rfl hl.1 rfl (lv_room (Nat.le_of_ble_eq_true rfl)) d_NLongDivision_divide_118 ⟨Nat.le_of_ble_eq_true rfl, Nat.le_of_ble_eq_true rfl⟩) hS (fun r63 f64 H locs hq65 hP hD hS => ?_)
              obtain ⟨gs_66, rfl⟩ := hq65
              obtain ⟨kr67, hkr67_0, hkr67_1, hkr67_2, rfl⟩ := gs_66
              refine lv_iload hx hb d_NLongDivision_divide_121 (lv_at hl 0 rfl) ?_
              refine pcc_i (va_runV (C := "BigRunner$LongDivision") (As := [.long (nL kr67), .int (nI j)]) (rest := [.int (nI j), .ref (g.lk z 2)]) ⟨hx, hb, hml, hown, tb_nil⟩ (v_takeAway l g H.size f41 D kr67 j ny hU hb35 z hL t_D hI48 e12 e45 cU e46 c37 (by omega) (by omega) (by omega) hkr67_1 hkr67_2) ⟨(callB_of 2 (tb_one (wd_821 hB _)) tb_good1 rfl rfl rfl (wd_81 hB _) (wd_818 hB _) (by decide +kernel) ⟨Nat.le_of_ble_eq_true rfl, Nat.le_of_ble_eq_true rfl⟩), (wd_820 hB _), (wd_35 hB _)⟩ ⟨pe_bl, pg_recv (ci := 3) hK hP (lo_in hL t_D (by decide)) e12 rfl, pe_pre hB hK hP hD⟩ rfl rfl hl.1 rfl (lv_room (Nat.le_of_ble_eq_true rfl)) d_NLongDivision_divide_123 ⟨Nat.le_of_ble_eq_true rfl, Nat.le_of_ble_eq_true rfl⟩) hS (fun r68 f69 H locs hq70 hP hD hS => ?_)
              obtain ⟨q1_71, q2_72, hI1_73, hk1_74⟩ := hq70
              obtain ⟨kr75, hkr75_0, hkr75_1, rfl⟩ := q1_71
              have hu : ∀ b, b ≠ z → b ≠ (g.lk z 2) → b ≠ D → b ≠ (g.lk D 0) → b ≠ (g.lk D 1) → f69 b = f b := fun b q0 q1 q2 q3 q4 => (hk1_74 b q3).trans (hu b q0 q1 q2 q3 q4)
              have hv49 := hv49.st hk1_74 (lo_k4_0 hL _ t_D) (by decide)
              have eax := (hk1_74 x (tg_ne t_x (lo_k4_0 hL _ t_D) (by decide))).trans eax
              have eay := (hk1_74 y (tg_ne t_y (lo_k4_0 hL _ t_D) (by decide))).trans eay
              have e1 := (hk1_74 z (tg_ne t_z (lo_k4_0 hL _ t_D) (by decide))).trans e1
              have e12 := (hk1_74 D (tg_ne t_D (lo_k4_0 hL _ t_D) (by decide))).trans e12
              have e46 := (hk1_74 (g.lk D 1) (Ne.symm (lo_ne4 hL _ t_D))).trans e46
              have e47 := (hk1_74 (g.lk z 2) (tg_ne (lo_k5_2 hL _ t_z) (lo_k4_0 hL _ t_D) (by decide))).trans e47
              obtain ⟨hb76, e77, c78, hq79, hq80, hq81⟩ := q2_72
              refine pf_iast (i := j) hx hb hK hP hD hS (lo_in hL (lo_k5_2 hL _ t_z) (by decide)) e47 (lo_t23 hL _ (lo_k5_2 hL _ t_z)) (by omega) (by decide) d_NLongDivision_divide_126 (fun f82 H locs e83 k84 hP hD hS => ?_)
              have eax := (k84 x (tg_ne t_x (lo_k5_2 hL _ t_z) (by decide))).trans eax
              have eay := (k84 y (tg_ne t_y (lo_k5_2 hL _ t_z) (by decide))).trans eay
              have e1 := (k84 z (tg_ne t_z (lo_k5_2 hL _ t_z) (by decide))).trans e1
              have e12 := (k84 D (tg_ne t_D (lo_k5_2 hL _ t_z) (by decide))).trans e12
              have e46 := (k84 (g.lk D 1) (tg_ne (lo_k4_1 hL _ t_D) (lo_k5_2 hL _ t_z) (by decide))).trans e46
              have e77 := (k84 (g.lk D 0) (tg_ne (lo_k4_0 hL _ t_D) (lo_k5_2 hL _ t_z) (by decide))).trans e77
              have hu : ∀ b, b ≠ z → b ≠ (g.lk z 2) → b ≠ D → b ≠ (g.lk D 0) → b ≠ (g.lk D 1) → f82 b = f b := fun b q0 q1 q2 q3 q4 => (k84 b q1).trans (hu b q0 q1 q2 q3 q4)
              have hv49 := hv49.st k84 (lo_k5_2 hL _ t_z) (by decide)
              have hk85 : ∀ b, b ≠ (g.lk z 2) → f82 b = f69 b := k84
              have c86 := lb_upd (n := 15) (i := j) (v := kr75) hc (by omega)
              refine lv_iinc (k := 0) (v := nI j - nI 1) (lv' := [(7, .int (nI j - nI 1)), (6, .int (nI ((nx - ny) + 1))), (5, .int (nI sc)), (0, .ref D), (1, .ref x), (2, .ref y), (3, .ref z), (4, .int (nI 0))]) hx hb d_NLongDivision_divide_127 hl rfl (by rw [Int32.sub_eq_add_neg]; rfl) (by decide) rfl (fun ls hl => ?_)
              refine lv_goto (tgt := 103) hx hb d_NLongDivision_divide_130 (by decide) ?_
              have hI87 := ix_23 hI1_73 hL t_z hk85 (⟨_, e83, c86⟩)
              exact ih43 j hb76 (upd h j ((nI kr75))) f82 H locs ls (by omega) (by omega) c78 hq81 c86 (by rw [show ((nx - ny) + 1) - j = ((nx - ny) + 1) - (j + 1) + 1 by omega]; exact dv_step (by omega) hkr75_1 hq80 hq79 hS9) e77 e46 e83 hI87 hv49 hu hl hP hD hS
      exact lp40 (((nx - ny) + 1) + 1) ((nx - ny) + 1) hb25 h_6 f30 H locs ls (by omega) (by omega) c27 hR0 c7 (by rw [Nat.sub_self, show ((nx - ny) + 1) + ny = nx + 1 by omega, hq28]; simp [kv]) e26 e36 e5 hI39 un.rf hu hl hP hD hS
    · skip
      replace b16 := mt (nI_leI (a := ny) (b := nx) (by omega) (by omega)).mpr b16
      refine lv_aload_n hx hb d_NLongDivision_divide_26 rfl (lv_at hl 3 rfl) ?_
      refine lv_aload_n hx hb d_NLongDivision_divide_27 rfl (lv_at hl 1 rfl) ?_
      refine lv_aload_n hx hb d_NLongDivision_divide_28 rfl (lv_at hl 1 rfl) ?_
      refine pf_get (v := .int sgx) (C := "BigRunner$LongNumber") (T := FT4) (N := 3) hx hb (hw4 hB _) (fun _ h9 => h9) hown hK hP (lo_in hL t_x (by decide)) eax rfl 0 (by decide) (wd_187 hB _) rfl d_NLongDivision_divide_29 ?_
      have hI88 := iv_1 hI hL t_D (by decide) hk14 (oc_4.mk t_D (⟨ny, e12, (by omega)⟩))
      refine pcc_v (va_runV (C := "BigRunner$LongNumber") (As := [.ref x, .int sgx]) (rest := []) ⟨hx, hb, hml, hown, tb_nil⟩ (v_copy l g H.size f11 z x sgx nx dx vx sgx hL t_z t_x hI88 eax ebx hNx.1 h1 hNx.1.2.2.1) ⟨(callB_of 2 (tb_one (wd_746 hB _)) tb_good1 rfl rfl rfl (wd_78 hB _) (wd_807 hB _) (by decide +kernel) ⟨Nat.le_of_ble_eq_true rfl, Nat.le_of_ble_eq_true rfl⟩), (wd_744 hB _), (wd_745 hB _)⟩ ⟨pe_bl, pg_recv (ci := 4) hK hP (lo_in hL t_z (by decide)) e1 rfl, pe_pre hB hK hP hD⟩ rfl rfl hl.1 rfl (lv_room (Nat.le_of_ble_eq_true rfl)) d_NLongDivision_divide_32 ⟨Nat.le_of_ble_eq_true rfl, Nat.le_of_ble_eq_true rfl⟩) hS (fun f90 H locs hq91 hP hD hS => ?_)
      obtain ⟨lv_92, hI1_93, hk1_94⟩ := hq91
      have hu : ∀ b, b ≠ z → b ≠ (g.lk z 2) → b ≠ D → b ≠ (g.lk D 0) → b ≠ (g.lk D 1) → f90 b = f b := fun b q0 q1 q2 q3 q4 => (hk1_94 b q0 q1).trans (hu b q0 q1 q2 q3 q4)
      have eax := (hk1_94 x h1 (tg_ne t_x (lo_k5_2 hL _ t_z) (by decide))).trans eax
      have ebx := (hk1_94 (g.lk x 2) (tg_ne (lo_k5_2 hL _ t_x) t_z (by decide)) (fun q9 => h1 (lo_inj5 hL _ _ t_x t_z q9))).trans ebx
      have eay := (hk1_94 y h2 (tg_ne t_y (lo_k5_2 hL _ t_z) (by decide))).trans eay
      have eby := (hk1_94 (g.lk y 2) (tg_ne (lo_k5_2 hL _ t_y) t_z (by decide)) (fun q9 => h2 (lo_inj5 hL _ _ t_y t_z q9))).trans eby
      have e12 := (hk1_94 D (tg_ne t_D t_z (by decide)) (tg_ne t_D (lo_k5_2 hL _ t_z) (by decide))).trans e12
      obtain ⟨sg95, nn96, dd97, e98, e99, hN100⟩ := lv_92
      have c101 : ∀ i, i < 15 → ∃ k, k < 1000000000 ∧ dd97 i = nI k := hN100.2.1
      have hnn96 : nn96 ≤ 15 := hN100.1
      refine lv_iload hx hb d_NLongDivision_divide_35 (lv_at hl 4 rfl) ?_
      refine lv_if_ne (tgt := 45) hx hb d_NLongDivision_divide_37 (by decide) (fun b102 => ?_) (fun b102 => ?_)
      · skip
        replace b102 := mt (nI_eq (a := 0) (b := 0) (by omega) (by omega)).mpr b102
        exfalso; omega
      · skip
        replace b102 := (nI_eq (a := 0) (b := 0) (by omega) (by omega)).mp b102
        refine lv_aload_n hx hb d_NLongDivision_divide_40 rfl (lv_at hl 3 rfl) ?_
        refine lv_lconst (v := nL 0) hx hb d_NLongDivision_divide_41 (by decide) ?_
        refine pcc_v (va_runV (C := "BigRunner$LongNumber") (As := [.long (nL 0)]) (rest := []) ⟨hx, hb, hml, hown, tb_nil⟩ (v_setTo l g H.size f90 z ((nL 0)) hL t_z hI1_93 (by decide)) ⟨(callB_of 1 (tb_one (wd_680 hB _)) tb_good1 rfl rfl rfl (wd_78 hB _) (wd_808 hB _) (by decide +kernel) ⟨Nat.le_of_ble_eq_true rfl, Nat.le_of_ble_eq_true rfl⟩), (wd_678 hB _), (wd_679 hB _)⟩ ⟨pe_bl, pg_recv (ci := 4) hK hP (lo_in hL t_z (by decide)) e98 rfl, pe_pre hB hK hP hD⟩ rfl rfl hl.1 rfl (lv_room (Nat.le_of_ble_eq_true rfl)) d_NLongDivision_divide_42 ⟨Nat.le_of_ble_eq_true rfl, Nat.le_of_ble_eq_true rfl⟩) hS (fun f104 H locs hq105 hP hD hS => ?_)
        obtain ⟨lv_106, hI1_107, hk1_108⟩ := hq105
        have hu : ∀ b, b ≠ z → b ≠ (g.lk z 2) → b ≠ D → b ≠ (g.lk D 0) → b ≠ (g.lk D 1) → f104 b = f b := fun b q0 q1 q2 q3 q4 => (hk1_108 b q0 q1).trans (hu b q0 q1 q2 q3 q4)
        have eax := (hk1_108 x h1 (tg_ne t_x (lo_k5_2 hL _ t_z) (by decide))).trans eax
        have ebx := (hk1_108 (g.lk x 2) (tg_ne (lo_k5_2 hL _ t_x) t_z (by decide)) (fun q9 => h1 (lo_inj5 hL _ _ t_x t_z q9))).trans ebx
        have eay := (hk1_108 y h2 (tg_ne t_y (lo_k5_2 hL _ t_z) (by decide))).trans eay
        have eby := (hk1_108 (g.lk y 2) (tg_ne (lo_k5_2 hL _ t_y) t_z (by decide)) (fun q9 => h2 (lo_inj5 hL _ _ t_y t_z q9))).trans eby
        have e12 := (hk1_108 D (tg_ne t_D t_z (by decide)) (tg_ne t_D (lo_k5_2 hL _ t_z) (by decide))).trans e12
        obtain ⟨sg109, nn110, dd111, e112, e113, hN114⟩ := lv_106
        have c115 : ∀ i, i < 15 → ∃ k, k < 1000000000 ∧ dd111 i = nI k := hN114.2.1
        have hnn110 : nn110 ≤ 15 := hN114.1
        exact pe_vret hx hb hr hlocks hK hP hD hS d_NLongDivision_divide_45 ⟨⟨_, _, _, e112, e113, (LNV_cast hN114 ((td_lt (LNV_nlt hNx.1 hNy.1 (by omega))).1.trans (by decide)).symm)⟩, hI1_107, hu⟩
set_option maxHeartbeats 4000000 in
set_option maxRecDepth 100000 in
theorem v_divide1 (l : Launch) (g : Lay) (sz : Nat) (f : Nat → va_E) (D : Nat) (x : Nat) (sgx : Int32) (nx : Nat) (dx : Nat → Int32) (vx : Int) (y : Nat) (sgy : Int32) (ny : Nat) (dy : Nat → Int32) (vy : Int) (z : Nat) (hL : LO g) (t_D : g.tg D = 4) (t_x : g.tg x = 5) (t_y : g.tg y = 5) (t_z : g.tg z = 5) (hI : IV g f) (eax : f x = .inr (4, [.int sgx, .int (nI nx), .ref (g.lk x 2)])) (ebx : f (g.lk x 2) = .inl (g.ac (g.lk x 2), 15, .inl dx)) (hNx : LNF sgx nx dx vx) (eay : f y = .inr (4, [.int sgy, .int (nI ny), .ref (g.lk y 2)])) (eby : f (g.lk y 2) = .inl (g.ac (g.lk y 2), 15, .inl dy)) (hNy : LNF sgy ny dy vy) (h1 : x ≠ z) (h2 : y ≠ z) (hy0 : 0 < ny) : Met l ⟨"BigRunner$LongDivision", "divide", "(LBigRunner$LongNumber;LBigRunner$LongNumber;LBigRunner$LongNumber;Z)V"⟩ [Cond.code ⟨"BigRunner$LongDivision", "divide", "(LBigRunner$LongNumber;LBigRunner$LongNumber;LBigRunner$LongNumber;Z)V"⟩ prog_4_method_2_code 8 none] ({ frames := 2, cells := 0, slots := 0, locals := 82 }) (va_Pc [.ref D, .ref x, .ref y, .ref z, .int (nI 1)] (pc_in g sz f)) (va_Qv (fun f1 => (∃ (sg1 : Int32) (n1 : Nat) (h1 : Nat → Int32), f1 z = .inr (4, [.int sg1, .int (nI n1), .ref (g.lk z 2)]) ∧ f1 (g.lk z 2) = .inl (g.ac (g.lk z 2), 15, .inl h1) ∧ LNV sg1 n1 h1 (Int.tmod vx vy)) ∧ (IV g f1) ∧ (∀ b, b ≠ z → b ≠ (g.lk z 2) → b ≠ D → b ≠ (g.lk D 0) → b ≠ (g.lk D 1) → f1 b = f b)) (pc_out g sz) (pc_A g sz)) 0 0 (pc_A g sz) := by
  refine pe_ofW (cc := prog_4_method_2_code) (maxL := 8) (ret := none) (lv := [(0, .ref D), (1, .ref x), (2, .ref y), (3, .ref z), (4, .int (nI 1))]) (by decide) (Nat.le_of_ble_eq_true rfl) rfl ?_
  intro p e s m args below meth c ls hx hb hr hml hlocks hown hB hP hK hD hsz hS hl
  subst hsz
  have hu : ∀ b, b ≠ z → b ≠ (g.lk z 2) → b ≠ D → b ≠ (g.lk D 0) → b ≠ (g.lk D 1) → f b = f b := fun _ _ _ _ _ _  => rfl
  have cbx : ∀ i, i < 15 → ∃ k, k < 1000000000 ∧ dx i = nI k := hNx.1.2.1
  have hnx : nx ≤ 15 := hNx.1.1
  have hfx : nx ≤ 14 := LNF_14 hNx
  have cby : ∀ i, i < 15 → ∃ k, k < 1000000000 ∧ dy i = nI k := hNy.1.2.1
  have hny : ny ≤ 15 := hNy.1.1
  have hfy : ny ≤ 14 := LNF_14 hNy
  obtain ⟨sg_2, n_3, e1, c4⟩ := oc_5.of t_z (hI.1 z)
  obtain ⟨h_6, e5, c7⟩ := oc_23.of (lo_k5_2 hL _ t_z) (hI.1 (g.lk z 2))
  have hny := hNy.1.2.2.2.1
  refine lv_aload_n hx hb d_NLongDivision_divide_0 rfl (lv_at hl 0 rfl) ?_
  refine lv_aload_n hx hb d_NLongDivision_divide_1 rfl (lv_at hl 2 rfl) ?_
  refine pf_get (v := .int (nI ny)) (C := "BigRunner$LongNumber") (T := FT4) (N := 3) hx hb (hw4 hB _) (fun _ h9 => h9) hown hK hP (lo_in hL t_y (by decide)) eay rfl 1 (by decide) (wd_191 hB _) rfl d_NLongDivision_divide_2 ?_
  obtain ⟨n_9, e8, c10⟩ := oc_4.of t_D (hI.1 D)
  refine pf_put (v := .int (nI ny)) (ty := .int) (fs' := [.ref (g.lk D 0), .ref (g.lk D 1), .int (nI ny)]) (C := "BigRunner$LongDivision") (T := FT3) (N := 3) hx hb (hw3 hB _) (fun _ h9 => h9) TY3 ok3 nm3 hown hK hP hD hS (lo_in hL t_D (by decide)) e8 rfl 2 (by decide) (wd_321 hB _) rfl (by decide +kernel) rfl rfl (Nat.le_of_ble_eq_true rfl) rfl d_NLongDivision_divide_5 (fun f11 H locs e12 k13 hP hD hS => ?_)
  have eax := (k13 x (tg_ne t_x t_D (by decide))).trans eax
  have ebx := (k13 (g.lk x 2) (tg_ne (lo_k5_2 hL _ t_x) t_D (by decide))).trans ebx
  have eay := (k13 y (tg_ne t_y t_D (by decide))).trans eay
  have eby := (k13 (g.lk y 2) (tg_ne (lo_k5_2 hL _ t_y) t_D (by decide))).trans eby
  have e1 := (k13 z (tg_ne t_z t_D (by decide))).trans e1
  have e5 := (k13 (g.lk z 2) (tg_ne (lo_k5_2 hL _ t_z) t_D (by decide))).trans e5
  have hu : ∀ b, b ≠ z → b ≠ (g.lk z 2) → b ≠ D → b ≠ (g.lk D 0) → b ≠ (g.lk D 1) → f11 b = f b := fun b q0 q1 q2 q3 q4 => (k13 b q2).trans (hu b q0 q1 q2 q3 q4)
  have hk14 : ∀ b, b ≠ D → f11 b = f b := k13
  refine lv_aload_n hx hb d_NLongDivision_divide_8 rfl (lv_at hl 0 rfl) ?_
  refine pf_get (v := .int (nI ny)) (C := "BigRunner$LongDivision") (T := FT3) (N := 3) hx hb (hw3 hB _) (fun _ h9 => h9) hown hK hP (lo_in hL t_D (by decide)) e12 rfl 2 (by decide) (wd_321 hB _) rfl d_NLongDivision_divide_9 ?_
  refine lv_if_eq (tgt := 26) hx hb d_NLongDivision_divide_12 (by decide) (fun b15 => ?_) (fun b15 => ?_)
  · skip
    replace b15 := (nI_eq (a := ny) (b := 0) (by omega) (by omega)).mp b15
    exfalso; omega
  · skip
    replace b15 := mt (nI_eq (a := ny) (b := 0) (by omega) (by omega)).mpr b15
    refine lv_aload_n hx hb d_NLongDivision_divide_15 rfl (lv_at hl 1 rfl) ?_
    refine pf_get (v := .int (nI nx)) (C := "BigRunner$LongNumber") (T := FT4) (N := 3) hx hb (hw4 hB _) (fun _ h9 => h9) hown hK hP (lo_in hL t_x (by decide)) eax rfl 1 (by decide) (wd_191 hB _) rfl d_NLongDivision_divide_16 ?_
    refine lv_aload_n hx hb d_NLongDivision_divide_19 rfl (lv_at hl 0 rfl) ?_
    refine pf_get (v := .int (nI ny)) (C := "BigRunner$LongDivision") (T := FT3) (N := 3) hx hb (hw3 hB _) (fun _ h9 => h9) hown hK hP (lo_in hL t_D (by decide)) e12 rfl 2 (by decide) (wd_321 hB _) rfl d_NLongDivision_divide_20 ?_
    refine lv_icmp_ge (tgt := 46) hx hb d_NLongDivision_divide_23 (by decide) (fun b16 => ?_) (fun b16 => ?_)
    · skip
      replace b16 := (nI_leI (a := ny) (b := nx) (by omega) (by omega)).mp b16
      have hn0 : 0 < ny := hy0
      have hx0 : 0 < nx := by omega
      have ht0 : 0 < dg dy (ny - 1) := Nat.pos_of_ne_zero (hny hn0)
      have ht1 : dg dy (ny - 1) < 1000000000 := dg_lt cby (by omega)
      refine lv_ldc (v := 1000000000) hx hb hown (wd_809 hB _) d_NLongDivision_divide_46 ?_
      refine lv_topi (fun z_ hz_ => ?_)
      obtain rfl : z_ = nI 1000000000 := hz_
      refine lv_aload_n hx hb d_NLongDivision_divide_48 rfl (lv_at hl 2 rfl) ?_
      refine pf_get (v := .ref (g.lk y 2)) (C := "BigRunner$LongNumber") (T := FT4) (N := 3) hx hb (hw4 hB _) (fun _ h9 => h9) hown hK hP (lo_in hL t_y (by decide)) eay rfl 2 (by decide) (wd_193 hB _) rfl d_NLongDivision_divide_49 ?_
      refine lv_aload_n hx hb d_NLongDivision_divide_52 rfl (lv_at hl 0 rfl) ?_
      refine pf_get (v := .int (nI ny)) (C := "BigRunner$LongDivision") (T := FT3) (N := 3) hx hb (hw3 hB _) (fun _ h9 => h9) hown hK hP (lo_in hL t_D (by decide)) e12 rfl 2 (by decide) (wd_321 hB _) rfl d_NLongDivision_divide_53 ?_
      refine lv_iconst (v := nI 1) hx hb d_NLongDivision_divide_56 (by decide) ?_
      refine pf_isubN (x := ny) (y := 1) hx hb (by omega) d_NLongDivision_divide_57 ?_
      refine pf_iald (i := ny - 1) hx hb hK hP (lo_in hL (lo_k5_2 hL _ t_y) (by decide)) eby (lo_t23 hL _ (lo_k5_2 hL _ t_y)) (by omega) (by decide) d_NLongDivision_divide_58 ?_
      have hd17 := dg_lt cby (j := ny - 1) (by omega)
      refine lv_topi (fun z_ hz_ => ?_)
      obtain rfl : z_ = nI (dg dy (ny - 1)) := hz_.trans (dg_eq cby (by omega))
      refine lv_iconst (v := nI 1) hx hb d_NLongDivision_divide_59 (by decide) ?_
      refine pf_iaddN (x := dg dy (ny - 1)) (y := 1) hx hb d_NLongDivision_divide_60 ?_
      refine pf_idivN (x := 1000000000) (y := (dg dy (ny - 1)) + 1) hx hb (by omega) (by omega) (by omega) d_NLongDivision_divide_61 ?_
      refine lv_topi (fun z_ hz_ => ?_)
      obtain ⟨sc, hsc⟩ : ∃ z : Nat, z = 1000000000 / ((dg dy (ny - 1)) + 1) := ⟨_, rfl⟩
      obtain rfl : z_ = nI sc := by rw [hz_, hsc]
      obtain ⟨hs1, hs2, hs3⟩ := dv_sc ht0 ht1 hsc
      refine lv_istore (lv' := [(5, .int (nI sc)), (0, .ref D), (1, .ref x), (2, .ref y), (3, .ref z), (4, .int (nI 1))]) hx hb d_NLongDivision_divide_62 hl (by decide) rfl (fun ls hl => ?_)
      refine lv_aload_n hx hb d_NLongDivision_divide_64 rfl (lv_at hl 2 rfl) ?_
      refine lv_iload hx hb d_NLongDivision_divide_65 (lv_at hl 0 rfl) ?_
      refine lv_aload_n hx hb d_NLongDivision_divide_67 rfl (lv_at hl 1 rfl) ?_
      refine pf_get (v := .ref (g.lk D 0)) (C := "BigRunner$LongDivision") (T := FT3) (N := 3) hx hb (hw3 hB _) (fun _ h9 => h9) hown hK hP (lo_in hL t_D (by decide)) e12 rfl 0 (by decide) (wd_319 hB _) rfl d_NLongDivision_divide_68 ?_
      have hI18 := iv_1 hI hL t_D (by decide) hk14 (oc_4.mk t_D (⟨ny, e12, (by omega)⟩))
      refine pcc_v (va_runS (As := [.ref x, .int (nI sc), .ref (g.lk D 0)]) (rest := []) ⟨hx, hb, hml, hown, tb_nil⟩ (c_enlarge l g H.size f11 x sc ((g.lk D 0)) nx sgx dx hL t_x (lo_k4_0 hL _ t_D) hI18 eax ebx cbx (by omega) (by omega)) ⟨(callB_of 3 (tb_one (wd_812 hB _)) tb_good1 rfl rfl rfl (wd_81 hB _) (wd_810 hB _) (by decide +kernel) ⟨Nat.le_of_ble_eq_true rfl, Nat.le_of_ble_eq_true rfl⟩), (wd_811 hB _)⟩ ⟨pe_bl, pe_pre hB hK hP hD⟩ rfl rfl hl.1 rfl (lv_room (Nat.le_of_ble_eq_true rfl)) d_NLongDivision_divide_71 ⟨Nat.le_of_ble_eq_true rfl, Nat.le_of_ble_eq_true rfl⟩) hS (fun f20 H locs hq21 hP hD hS => ?_)
      obtain ⟨en_22, hI1_23, hk1_24⟩ := hq21
      have hu : ∀ b, b ≠ z → b ≠ (g.lk z 2) → b ≠ D → b ≠ (g.lk D 0) → b ≠ (g.lk D 1) → f20 b = f b := fun b q0 q1 q2 q3 q4 => (hk1_24 b q3).trans (hu b q0 q1 q2 q3 q4)
      have eax := (hk1_24 x (tg_ne t_x (lo_k4_0 hL _ t_D) (by decide))).trans eax
      have ebx := (hk1_24 (g.lk x 2) (tg_ne (lo_k5_2 hL _ t_x) (lo_k4_0 hL _ t_D) (by decide))).trans ebx
      have eay := (hk1_24 y (tg_ne t_y (lo_k4_0 hL _ t_D) (by decide))).trans eay
      have eby := (hk1_24 (g.lk y 2) (tg_ne (lo_k5_2 hL _ t_y) (lo_k4_0 hL _ t_D) (by decide))).trans eby
      have e1 := (hk1_24 z (tg_ne t_z (lo_k4_0 hL _ t_D) (by decide))).trans e1
      have e5 := (hk1_24 (g.lk z 2) (tg_ne (lo_k5_2 hL _ t_z) (lo_k4_0 hL _ t_D) (by decide))).trans e5
      have e12 := (hk1_24 D (tg_ne t_D (lo_k4_0 hL _ t_D) (by decide))).trans e12
      obtain ⟨hb25, e26, c27, hq28⟩ := en_22
      refine lv_aload_n hx hb d_NLongDivision_divide_74 rfl (lv_at hl 3 rfl) ?_
      refine lv_iload hx hb d_NLongDivision_divide_75 (lv_at hl 0 rfl) ?_
      refine lv_aload_n hx hb d_NLongDivision_divide_77 rfl (lv_at hl 1 rfl) ?_
      refine pf_get (v := .ref (g.lk D 1)) (C := "BigRunner$LongDivision") (T := FT3) (N := 3) hx hb (hw3 hB _) (fun _ h9 => h9) hown hK hP (lo_in hL t_D (by decide)) e12 rfl 1 (by decide) (wd_320 hB _) rfl d_NLongDivision_divide_78 ?_
      refine pcc_v (va_runS (As := [.ref y, .int (nI sc), .ref (g.lk D 1)]) (rest := []) ⟨hx, hb, hml, hown, tb_nil⟩ (c_enlarge l g H.size f20 y sc ((g.lk D 1)) ny sgy dy hL t_y (lo_k4_1 hL _ t_D) hI1_23 eay eby cby (by omega) (by omega)) ⟨(callB_of 3 (tb_one (wd_812 hB _)) tb_good1 rfl rfl rfl (wd_81 hB _) (wd_810 hB _) (by decide +kernel) ⟨Nat.le_of_ble_eq_true rfl, Nat.le_of_ble_eq_true rfl⟩), (wd_811 hB _)⟩ ⟨pe_bl, pe_pre hB hK hP hD⟩ rfl rfl hl.1 rfl (lv_room (Nat.le_of_ble_eq_true rfl)) d_NLongDivision_divide_81 ⟨Nat.le_of_ble_eq_true rfl, Nat.le_of_ble_eq_true rfl⟩) hS (fun f30 H locs hq31 hP hD hS => ?_)
      obtain ⟨en_32, hI1_33, hk1_34⟩ := hq31
      have hu : ∀ b, b ≠ z → b ≠ (g.lk z 2) → b ≠ D → b ≠ (g.lk D 0) → b ≠ (g.lk D 1) → f30 b = f b := fun b q0 q1 q2 q3 q4 => (hk1_34 b q4).trans (hu b q0 q1 q2 q3 q4)
      have eax := (hk1_34 x (tg_ne t_x (lo_k4_1 hL _ t_D) (by decide))).trans eax
      have ebx := (hk1_34 (g.lk x 2) (tg_ne (lo_k5_2 hL _ t_x) (lo_k4_1 hL _ t_D) (by decide))).trans ebx
      have eay := (hk1_34 y (tg_ne t_y (lo_k4_1 hL _ t_D) (by decide))).trans eay
      have eby := (hk1_34 (g.lk y 2) (tg_ne (lo_k5_2 hL _ t_y) (lo_k4_1 hL _ t_D) (by decide))).trans eby
      have e1 := (hk1_34 z (tg_ne t_z (lo_k4_1 hL _ t_D) (by decide))).trans e1
      have e5 := (hk1_34 (g.lk z 2) (tg_ne (lo_k5_2 hL _ t_z) (lo_k4_1 hL _ t_D) (by decide))).trans e5
      have e12 := (hk1_34 D (tg_ne t_D (lo_k4_1 hL _ t_D) (by decide))).trans e12
      have e26 := (hk1_34 (g.lk D 0) (lo_ne4 hL _ t_D)).trans e26
      obtain ⟨hb35, e36, c37, hq38⟩ := en_32
      have hxl : ∀ i, i < nx → dg dx i < 1000000000 := fun i hi => dg_lt cbx (by omega)
      have hyl : ∀ i, i < ny → dg dy i < 1000000000 := fun i hi => dg_lt cby (by omega)
      obtain ⟨hV1, hV4⟩ := (dv_V (w := dg hb35) (y := dg dy) hn0 (fun i hi => dg_lt c37 hi) hyl rfl ht0 hsc hq38).resolve_right (by omega)
      have hR0 := dv_R (u := dg hb25) (w := dg hb35) hn0 (show ny ≤ nx by omega) hxl hyl ht0 hs1 hq28 hV1
      have hI39 := IV.ix hI1_33 z
      refine lv_aload_n hx hb d_NLongDivision_divide_84 rfl (lv_at hl 2 rfl) ?_
      refine pf_get (v := .int (nI nx)) (C := "BigRunner$LongNumber") (T := FT4) (N := 3) hx hb (hw4 hB _) (fun _ h9 => h9) hown hK hP (lo_in hL t_x (by decide)) eax rfl 1 (by decide) (wd_191 hB _) rfl d_NLongDivision_divide_85 ?_
      refine lv_aload_n hx hb d_NLongDivision_divide_88 rfl (lv_at hl 1 rfl) ?_
      refine pf_get (v := .int (nI ny)) (C := "BigRunner$LongDivision") (T := FT3) (N := 3) hx hb (hw3 hB _) (fun _ h9 => h9) hown hK hP (lo_in hL t_D (by decide)) e12 rfl 2 (by decide) (wd_321 hB _) rfl d_NLongDivision_divide_89 ?_
      refine pf_isubN (x := nx) (y := ny) hx hb (by omega) d_NLongDivision_divide_92 ?_
      refine lv_iconst (v := nI 1) hx hb d_NLongDivision_divide_93 (by decide) ?_
      refine pf_iaddN (x := nx - ny) (y := 1) hx hb d_NLongDivision_divide_94 ?_
      refine lv_istore (lv' := [(6, .int (nI ((nx - ny) + 1))), (5, .int (nI sc)), (0, .ref D), (1, .ref x), (2, .ref y), (3, .ref z), (4, .int (nI 1))]) hx hb d_NLongDivision_divide_95 hl (by decide) rfl (fun ls hl => ?_)
      refine lv_iload hx hb d_NLongDivision_divide_97 (lv_at hl 0 rfl) ?_
      refine lv_iconst (v := nI 1) hx hb d_NLongDivision_divide_99 (by decide) ?_
      refine lv_isub hx hb d_NLongDivision_divide_100 ?_
      refine lv_istore (lv' := [(7, .int (nI ((nx - ny) + 1) - nI 1)), (6, .int (nI ((nx - ny) + 1))), (5, .int (nI sc)), (0, .ref D), (1, .ref x), (2, .ref y), (3, .ref z), (4, .int (nI 1))]) hx hb d_NLongDivision_divide_101 hl (by decide) rfl (fun ls hl => ?_)
      have lp40 : ∀ (k42 : Nat) (j : Nat) (hU : Nat → Int32) (h : Nat → Int32) (f41 : Nat → va_E) (H : Heap) (locs : List Loc) (ls : Array Slot), (j < k42) → (j ≤ (nx - ny) + 1) → (∀ i, i < 16 → ∃ k, k < 1000000000 ∧ hU i = nI k) → (kv (fun i => dg hU (j + i)) ny < kv (dg hb35) ny) → (∀ i, i < 15 → ∃ k, k < 1000000000 ∧ h i = nI k) → (sc * kv (dg dx) nx = kv (fun i => dg h (j + i)) (((nx - ny) + 1) - j) * kv (dg hb35) ny * 1000000000 ^ j + kv (dg hU) (j + ny)) → f41 (g.lk D 0) = .inl (g.ac (g.lk D 0), 16, .inl (hU)) → f41 (g.lk D 1) = .inl (g.ac (g.lk D 1), 16, .inl (hb35)) → f41 (g.lk z 2) = .inl (g.ac (g.lk z 2), 15, .inl (h)) → IX g z f41 → un [22, 23] g f30 f41 → (∀ b, b ≠ z → b ≠ (g.lk z 2) → b ≠ D → b ≠ (g.lk D 0) → b ≠ (g.lk D 1) → f41 b = f b) → lv_has ls 8 [(7, .int (nI j - nI 1)), (6, .int (nI ((nx - ny) + 1))), (5, .int (nI sc)), (0, .ref D), (1, .ref x), (2, .ref y), (3, .ref z), (4, .int (nI 1))] → va_P g.D vcl (va_pl g.LP f41) H → va_D (pc_A g s.heap.size) (va_pl g.LP f41) → va_S (pc_A g s.heap.size) s.heap H locs → W p l e ({ frames := 2, cells := 0, slots := 0, locals := 82 }) s m args below meth c H locs 0 0 (MQ below (va_Qv (fun f1 => (∃ (sg1 : Int32) (n1 : Nat) (h1 : Nat → Int32), f1 z = .inr (4, [.int sg1, .int (nI n1), .ref (g.lk z 2)]) ∧ f1 (g.lk z 2) = .inl (g.ac (g.lk z 2), 15, .inl h1) ∧ LNV sg1 n1 h1 (Int.tmod vx vy)) ∧ (IV g f1) ∧ (∀ b, b ≠ z → b ≠ (g.lk z 2) → b ≠ D → b ≠ (g.lk D 0) → b ≠ (g.lk D 1) → f1 b = f b)) (pc_out g s.heap.size) (pc_A g s.heap.size)) args s 0 0 (pc_A g s.heap.size)) (F0 m 103 ls []) := by
        intro k42
        induction k42 with
        | zero => intros; exfalso; omega
        | succ k42 ih43 =>
          intro j hU h f41 H locs ls hfu44 hj cU hR hc hS9 e45 e46 e47 hI48 hv49 hu hl hP hD hS
          have eax := hv49.at t_x (by decide) eax
          have eay := hv49.at t_y (by decide) eay
          have e1 := hv49.at t_z (by decide) e1
          have e12 := hv49.at t_D (by decide) e12
          cases j with
          | zero =>
            have hl : lv_has ls 8 [(7, .int (-1)), (6, .int (nI ((nx - ny) + 1))), (5, .int (nI sc)), (0, .ref D), (1, .ref x), (2, .ref y), (3, .ref z), (4, .int (nI 1))] := by rw [show nI 0 - nI 1 = (-1 : Int32) by decide] at hl; exact hl
            refine lv_iload hx hb d_NLongDivision_divide_103 (lv_at hl 0 rfl) ?_
            refine lv_if_lt (tgt := 133) hx hb d_NLongDivision_divide_105 (by decide) (fun b50 => ?_) (fun b50 => ?_)
            · skip
              have hfin := dv_fin (X := kv (dg dx) nx) (Y := kv (dg dy) ny) (Q := kv (dg h) ((nx - ny) + 1)) (R := kv (dg hU) ny) (V := kv (dg hb35) ny) hs1 (dv_z0 hS9 hR).1 (dv_z0 hS9 hR).2 rfl hV1
              refine lv_iload hx hb d_NLongDivision_divide_133 (lv_at hl 7 rfl) ?_
              refine lv_if_eq (tgt := 160) hx hb d_NLongDivision_divide_135 (by decide) (fun b51 => ?_) (fun b51 => ?_)
              · skip
                replace b51 := (nI_eq (a := 1) (b := 0) (by omega) (by omega)).mp b51
                exfalso; omega
              · skip
                replace b51 := mt (nI_eq (a := 1) (b := 0) (by omega) (by omega)).mpr b51
                refine lv_aload_n hx hb d_NLongDivision_divide_138 rfl (lv_at hl 3 rfl) ?_
                refine lv_iload hx hb d_NLongDivision_divide_139 (lv_at hl 2 rfl) ?_
                refine lv_aload_n hx hb d_NLongDivision_divide_141 rfl (lv_at hl 6 rfl) ?_
                refine pcc_v (va_runV (C := "BigRunner$LongDivision") (As := [.int (nI sc), .ref z]) (rest := []) ⟨hx, hb, hml, hown, tb_nil⟩ (v_reduce l g H.size f41 D sc z ny hU hL t_D t_z hI48 e12 e45 cU (by omega) (by omega)) ⟨(callB_of 2 (tb_one (wd_829 hB _)) tb_good1 rfl rfl rfl (wd_81 hB _) (wd_826 hB _) (by decide +kernel) ⟨Nat.le_of_ble_eq_true rfl, Nat.le_of_ble_eq_true rfl⟩), (wd_828 hB _), (wd_37 hB _)⟩ ⟨pe_bl, pg_recv (ci := 3) hK hP (lo_in hL t_D (by decide)) e12 rfl, pe_pre hB hK hP hD⟩ rfl rfl hl.1 rfl (lv_room (Nat.le_of_ble_eq_true rfl)) d_NLongDivision_divide_142 ⟨Nat.le_of_ble_eq_true rfl, Nat.le_of_ble_eq_true rfl⟩) hS (fun f53 H locs hq54 hP hD hS => ?_)
                obtain ⟨rd_55, hI1_56, hk1_57⟩ := hq54
                have hu : ∀ b, b ≠ z → b ≠ (g.lk z 2) → b ≠ D → b ≠ (g.lk D 0) → b ≠ (g.lk D 1) → f53 b = f b := fun b q0 q1 q2 q3 q4 => (hk1_57 b q1).trans (hu b q0 q1 q2 q3 q4)
                have hv49 := hv49.st hk1_57 (lo_k5_2 hL _ t_z) (by decide)
                have eax := (hk1_57 x (tg_ne t_x (lo_k5_2 hL _ t_z) (by decide))).trans eax
                have eay := (hk1_57 y (tg_ne t_y (lo_k5_2 hL _ t_z) (by decide))).trans eay
                have e1 := (hk1_57 z (tg_ne t_z (lo_k5_2 hL _ t_z) (by decide))).trans e1
                have e12 := (hk1_57 D (tg_ne t_D (lo_k5_2 hL _ t_z) (by decide))).trans e12
                have e45 := (hk1_57 (g.lk D 0) (tg_ne (lo_k4_0 hL _ t_D) (lo_k5_2 hL _ t_z) (by decide))).trans e45
                have e46 := (hk1_57 (g.lk D 1) (tg_ne (lo_k4_1 hL _ t_D) (lo_k5_2 hL _ t_z) (by decide))).trans e46
                obtain ⟨dd58, e59, c60, hrd61⟩ := rd_55
                refine lv_aload_n hx hb d_NLongDivision_divide_145 rfl (lv_at hl 6 rfl) ?_
                refine lv_aload_n hx hb d_NLongDivision_divide_146 rfl (lv_at hl 3 rfl) ?_
                refine pf_get (v := .int (nI ny)) (C := "BigRunner$LongDivision") (T := FT3) (N := 3) hx hb (hw3 hB _) (fun _ h9 => h9) hown hK hP (lo_in hL t_D (by decide)) e12 rfl 2 (by decide) (wd_321 hB _) rfl d_NLongDivision_divide_147 ?_
                refine lv_aload_n hx hb d_NLongDivision_divide_150 rfl (lv_at hl 4 rfl) ?_
                refine pf_get (v := .int sgx) (C := "BigRunner$LongNumber") (T := FT4) (N := 3) hx hb (hw4 hB _) (fun _ h9 => h9) hown hK hP (lo_in hL t_x (by decide)) eax rfl 0 (by decide) (wd_187 hB _) rfl d_NLongDivision_divide_151 ?_
                refine pcc_v (va_runV (C := "BigRunner$LongNumber") (As := [.int (nI ny), .int sgx]) (rest := []) ⟨hx, hb, hml, hown, tb_nil⟩ (v_finish l g H.size f53 z sg_2 n_3 dd58 ny sgx hL t_z hI1_56 e1 e59 c60 (by omega) (by omega) (Or.inl (LS_nz hNx.1.2.2.1 hx0))) ⟨(callB_of 2 (tb_one (wd_784 hB _)) tb_good1 rfl rfl rfl (wd_78 hB _) (wd_830 hB _) (by decide +kernel) ⟨Nat.le_of_ble_eq_true rfl, Nat.le_of_ble_eq_true rfl⟩), (wd_782 hB _), (wd_783 hB _)⟩ ⟨pe_bl, pg_recv (ci := 4) hK hP (lo_in hL t_z (by decide)) e1 rfl, pe_pre hB hK hP hD⟩ rfl rfl hl.1 rfl (lv_room (Nat.le_of_ble_eq_true rfl)) d_NLongDivision_divide_154 ⟨Nat.le_of_ble_eq_true rfl, Nat.le_of_ble_eq_true rfl⟩) hS (fun f63 H locs hq64 hP hD hS => ?_)
                obtain ⟨fi_65, hI1_66, hk1_67⟩ := hq64
                have hu : ∀ b, b ≠ z → b ≠ (g.lk z 2) → b ≠ D → b ≠ (g.lk D 0) → b ≠ (g.lk D 1) → f63 b = f b := fun b q0 q1 q2 q3 q4 => (hk1_67 b q0).trans (hu b q0 q1 q2 q3 q4)
                have eax := (hk1_67 x h1).trans eax
                have eay := (hk1_67 y h2).trans eay
                have e12 := (hk1_67 D (tg_ne t_D t_z (by decide))).trans e12
                have e45 := (hk1_67 (g.lk D 0) (tg_ne (lo_k4_0 hL _ t_D) t_z (by decide))).trans e45
                have e46 := (hk1_67 (g.lk D 1) (tg_ne (lo_k4_1 hL _ t_D) t_z (by decide))).trans e46
                have e59 := (hk1_67 (g.lk z 2) (tg_ne (lo_k5_2 hL _ t_z) t_z (by decide))).trans e59
                obtain ⟨sg68, nn69, e70, hN71⟩ := fi_65
                have hnn69 : nn69 ≤ 15 := hN71.1
                refine lv_goto (tgt := 175) hx hb d_NLongDivision_divide_157 (by decide) ?_
                exact pe_vret hx hb hr hlocks hK hP hD hS d_NLongDivision_divide_175 ⟨⟨_, _, _, e70, e59, (LNV_cast hN71 (by rw [hrd61, hfin.2, hNx.1.2.2.2.2, hNy.1.2.2.2.2]; exact td_r hNx.1.2.2.1 hNy.1.2.2.1 hx0 hn0 _ _))⟩, hI1_66, hu⟩
            · skip
              exact absurd (by decide) b50
          | succ j =>
            have hl : lv_has ls 8 [(7, .int (nI j)), (6, .int (nI ((nx - ny) + 1))), (5, .int (nI sc)), (0, .ref D), (1, .ref x), (2, .ref y), (3, .ref z), (4, .int (nI 1))] := by rw [nI_pr1] at hl; exact hl
            have hlt9 := kn_nx (h := dg hU) hR (dg_lt cU (j := j) (by omega))
            refine lv_iload hx hb d_NLongDivision_divide_103 (lv_at hl 0 rfl) ?_
            refine lv_if_lt (tgt := 133) hx hb d_NLongDivision_divide_105 (by decide) (fun b72 => ?_) (fun b72 => ?_)
            · skip
              replace b72 := (nI_ltI (a := j) (b := 0) (by omega) (by omega)).mp b72
              exfalso; omega
            · skip
              replace b72 := mt (nI_ltI (a := j) (b := 0) (by omega) (by omega)).mpr b72
              refine lv_aload_n hx hb d_NLongDivision_divide_108 rfl (lv_at hl 6 rfl) ?_
              refine pf_get (v := .ref (g.lk z 2)) (C := "BigRunner$LongNumber") (T := FT4) (N := 3) hx hb (hw4 hB _) (fun _ h9 => h9) hown hK hP (lo_in hL t_z (by decide)) e1 rfl 2 (by decide) (wd_193 hB _) rfl d_NLongDivision_divide_109 ?_
              refine lv_iload hx hb d_NLongDivision_divide_112 (lv_at hl 0 rfl) ?_
              refine lv_aload_n hx hb d_NLongDivision_divide_114 rfl (lv_at hl 3 rfl) ?_
              refine lv_aload_n hx hb d_NLongDivision_divide_115 rfl (lv_at hl 3 rfl) ?_
              refine lv_iload hx hb d_NLongDivision_divide_116 (lv_at hl 0 rfl) ?_
              refine pcc_l (va_runV (C := "BigRunner$LongDivision") (As := [.int (nI j)]) (rest := [.ref D, .int (nI j), .ref (g.lk z 2)]) ⟨hx, hb, hml, hown, tb_nil⟩ (c_guess l g H.size f41 D j ny hU hb35 hL t_D hI48.1 e12 e45 cU e46 c37 (by omega) (by omega) hlt9 hV4) ⟨(callB_of 1 (tb_one (wd_817 hB _)) tb_good1 rfl rfl rfl (wd_81 hB _) (wd_814 hB _) (by decide +kernel) ⟨Nat.le_of_ble_eq_true rfl, Nat.le_of_ble_eq_true rfl⟩), (wd_816 hB _), (wd_34 hB _)⟩ ⟨pe_bl, pg_recv (ci := 3) hK hP (lo_in hL t_D (by decide)) e12 rfl, pe_pre hB hK hP hD⟩ rfl rfl hl.1 rfl (lv_room (Nat.le_of_ble_eq_true rfl)) d_NLongDivision_divide_118 ⟨Nat.le_of_ble_eq_true rfl, Nat.le_of_ble_eq_true rfl⟩) hS (fun r73 f74 H locs hq75 hP hD hS => ?_)
              obtain ⟨gs_76, rfl⟩ := hq75
              obtain ⟨kr77, hkr77_0, hkr77_1, hkr77_2, rfl⟩ := gs_76
              refine lv_iload hx hb d_NLongDivision_divide_121 (lv_at hl 0 rfl) ?_
              refine pcc_i (va_runV (C := "BigRunner$LongDivision") (As := [.long (nL kr77), .int (nI j)]) (rest := [.int (nI j), .ref (g.lk z 2)]) ⟨hx, hb, hml, hown, tb_nil⟩ (v_takeAway l g H.size f41 D kr77 j ny hU hb35 z hL t_D hI48 e12 e45 cU e46 c37 (by omega) (by omega) (by omega) hkr77_1 hkr77_2) ⟨(callB_of 2 (tb_one (wd_821 hB _)) tb_good1 rfl rfl rfl (wd_81 hB _) (wd_818 hB _) (by decide +kernel) ⟨Nat.le_of_ble_eq_true rfl, Nat.le_of_ble_eq_true rfl⟩), (wd_820 hB _), (wd_35 hB _)⟩ ⟨pe_bl, pg_recv (ci := 3) hK hP (lo_in hL t_D (by decide)) e12 rfl, pe_pre hB hK hP hD⟩ rfl rfl hl.1 rfl (lv_room (Nat.le_of_ble_eq_true rfl)) d_NLongDivision_divide_123 ⟨Nat.le_of_ble_eq_true rfl, Nat.le_of_ble_eq_true rfl⟩) hS (fun r78 f79 H locs hq80 hP hD hS => ?_)
              obtain ⟨q1_81, q2_82, hI1_83, hk1_84⟩ := hq80
              obtain ⟨kr85, hkr85_0, hkr85_1, rfl⟩ := q1_81
              have hu : ∀ b, b ≠ z → b ≠ (g.lk z 2) → b ≠ D → b ≠ (g.lk D 0) → b ≠ (g.lk D 1) → f79 b = f b := fun b q0 q1 q2 q3 q4 => (hk1_84 b q3).trans (hu b q0 q1 q2 q3 q4)
              have hv49 := hv49.st hk1_84 (lo_k4_0 hL _ t_D) (by decide)
              have eax := (hk1_84 x (tg_ne t_x (lo_k4_0 hL _ t_D) (by decide))).trans eax
              have eay := (hk1_84 y (tg_ne t_y (lo_k4_0 hL _ t_D) (by decide))).trans eay
              have e1 := (hk1_84 z (tg_ne t_z (lo_k4_0 hL _ t_D) (by decide))).trans e1
              have e12 := (hk1_84 D (tg_ne t_D (lo_k4_0 hL _ t_D) (by decide))).trans e12
              have e46 := (hk1_84 (g.lk D 1) (Ne.symm (lo_ne4 hL _ t_D))).trans e46
              have e47 := (hk1_84 (g.lk z 2) (tg_ne (lo_k5_2 hL _ t_z) (lo_k4_0 hL _ t_D) (by decide))).trans e47
              obtain ⟨hb86, e87, c88, hq89, hq90, hq91⟩ := q2_82
              refine pf_iast (i := j) hx hb hK hP hD hS (lo_in hL (lo_k5_2 hL _ t_z) (by decide)) e47 (lo_t23 hL _ (lo_k5_2 hL _ t_z)) (by omega) (by decide) d_NLongDivision_divide_126 (fun f92 H locs e93 k94 hP hD hS => ?_)
              have eax := (k94 x (tg_ne t_x (lo_k5_2 hL _ t_z) (by decide))).trans eax
              have eay := (k94 y (tg_ne t_y (lo_k5_2 hL _ t_z) (by decide))).trans eay
              have e1 := (k94 z (tg_ne t_z (lo_k5_2 hL _ t_z) (by decide))).trans e1
              have e12 := (k94 D (tg_ne t_D (lo_k5_2 hL _ t_z) (by decide))).trans e12
              have e46 := (k94 (g.lk D 1) (tg_ne (lo_k4_1 hL _ t_D) (lo_k5_2 hL _ t_z) (by decide))).trans e46
              have e87 := (k94 (g.lk D 0) (tg_ne (lo_k4_0 hL _ t_D) (lo_k5_2 hL _ t_z) (by decide))).trans e87
              have hu : ∀ b, b ≠ z → b ≠ (g.lk z 2) → b ≠ D → b ≠ (g.lk D 0) → b ≠ (g.lk D 1) → f92 b = f b := fun b q0 q1 q2 q3 q4 => (k94 b q1).trans (hu b q0 q1 q2 q3 q4)
              have hv49 := hv49.st k94 (lo_k5_2 hL _ t_z) (by decide)
              have hk95 : ∀ b, b ≠ (g.lk z 2) → f92 b = f79 b := k94
              have c96 := lb_upd (n := 15) (i := j) (v := kr85) hc (by omega)
              refine lv_iinc (k := 0) (v := nI j - nI 1) (lv' := [(7, .int (nI j - nI 1)), (6, .int (nI ((nx - ny) + 1))), (5, .int (nI sc)), (0, .ref D), (1, .ref x), (2, .ref y), (3, .ref z), (4, .int (nI 1))]) hx hb d_NLongDivision_divide_127 hl rfl (by rw [Int32.sub_eq_add_neg]; rfl) (by decide) rfl (fun ls hl => ?_)
              refine lv_goto (tgt := 103) hx hb d_NLongDivision_divide_130 (by decide) ?_
              have hI97 := ix_23 hI1_83 hL t_z hk95 (⟨_, e93, c96⟩)
              exact ih43 j hb86 (upd h j ((nI kr85))) f92 H locs ls (by omega) (by omega) c88 hq91 c96 (by rw [show ((nx - ny) + 1) - j = ((nx - ny) + 1) - (j + 1) + 1 by omega]; exact dv_step (by omega) hkr85_1 hq90 hq89 hS9) e87 e46 e93 hI97 hv49 hu hl hP hD hS
      exact lp40 (((nx - ny) + 1) + 1) ((nx - ny) + 1) hb25 h_6 f30 H locs ls (by omega) (by omega) c27 hR0 c7 (by rw [Nat.sub_self, show ((nx - ny) + 1) + ny = nx + 1 by omega, hq28]; simp [kv]) e26 e36 e5 hI39 un.rf hu hl hP hD hS
    · skip
      replace b16 := mt (nI_leI (a := ny) (b := nx) (by omega) (by omega)).mpr b16
      refine lv_aload_n hx hb d_NLongDivision_divide_26 rfl (lv_at hl 3 rfl) ?_
      refine lv_aload_n hx hb d_NLongDivision_divide_27 rfl (lv_at hl 1 rfl) ?_
      refine lv_aload_n hx hb d_NLongDivision_divide_28 rfl (lv_at hl 1 rfl) ?_
      refine pf_get (v := .int sgx) (C := "BigRunner$LongNumber") (T := FT4) (N := 3) hx hb (hw4 hB _) (fun _ h9 => h9) hown hK hP (lo_in hL t_x (by decide)) eax rfl 0 (by decide) (wd_187 hB _) rfl d_NLongDivision_divide_29 ?_
      have hI98 := iv_1 hI hL t_D (by decide) hk14 (oc_4.mk t_D (⟨ny, e12, (by omega)⟩))
      refine pcc_v (va_runV (C := "BigRunner$LongNumber") (As := [.ref x, .int sgx]) (rest := []) ⟨hx, hb, hml, hown, tb_nil⟩ (v_copy l g H.size f11 z x sgx nx dx vx sgx hL t_z t_x hI98 eax ebx hNx.1 h1 hNx.1.2.2.1) ⟨(callB_of 2 (tb_one (wd_746 hB _)) tb_good1 rfl rfl rfl (wd_78 hB _) (wd_807 hB _) (by decide +kernel) ⟨Nat.le_of_ble_eq_true rfl, Nat.le_of_ble_eq_true rfl⟩), (wd_744 hB _), (wd_745 hB _)⟩ ⟨pe_bl, pg_recv (ci := 4) hK hP (lo_in hL t_z (by decide)) e1 rfl, pe_pre hB hK hP hD⟩ rfl rfl hl.1 rfl (lv_room (Nat.le_of_ble_eq_true rfl)) d_NLongDivision_divide_32 ⟨Nat.le_of_ble_eq_true rfl, Nat.le_of_ble_eq_true rfl⟩) hS (fun f100 H locs hq101 hP hD hS => ?_)
      obtain ⟨lv_102, hI1_103, hk1_104⟩ := hq101
      have hu : ∀ b, b ≠ z → b ≠ (g.lk z 2) → b ≠ D → b ≠ (g.lk D 0) → b ≠ (g.lk D 1) → f100 b = f b := fun b q0 q1 q2 q3 q4 => (hk1_104 b q0 q1).trans (hu b q0 q1 q2 q3 q4)
      have eax := (hk1_104 x h1 (tg_ne t_x (lo_k5_2 hL _ t_z) (by decide))).trans eax
      have ebx := (hk1_104 (g.lk x 2) (tg_ne (lo_k5_2 hL _ t_x) t_z (by decide)) (fun q9 => h1 (lo_inj5 hL _ _ t_x t_z q9))).trans ebx
      have eay := (hk1_104 y h2 (tg_ne t_y (lo_k5_2 hL _ t_z) (by decide))).trans eay
      have eby := (hk1_104 (g.lk y 2) (tg_ne (lo_k5_2 hL _ t_y) t_z (by decide)) (fun q9 => h2 (lo_inj5 hL _ _ t_y t_z q9))).trans eby
      have e12 := (hk1_104 D (tg_ne t_D t_z (by decide)) (tg_ne t_D (lo_k5_2 hL _ t_z) (by decide))).trans e12
      obtain ⟨sg105, nn106, dd107, e108, e109, hN110⟩ := lv_102
      have c111 : ∀ i, i < 15 → ∃ k, k < 1000000000 ∧ dd107 i = nI k := hN110.2.1
      have hnn106 : nn106 ≤ 15 := hN110.1
      refine lv_iload hx hb d_NLongDivision_divide_35 (lv_at hl 4 rfl) ?_
      refine lv_if_ne (tgt := 45) hx hb d_NLongDivision_divide_37 (by decide) (fun b112 => ?_) (fun b112 => ?_)
      · skip
        replace b112 := mt (nI_eq (a := 1) (b := 0) (by omega) (by omega)).mpr b112
        exact pe_vret hx hb hr hlocks hK hP hD hS d_NLongDivision_divide_45 ⟨⟨_, _, _, e108, e109, (LNV_cast hN110 ((td_lt (LNV_nlt hNx.1 hNy.1 (by omega))).2.trans hNx.1.2.2.2.2).symm)⟩, hI1_103, hu⟩
      · skip
        replace b112 := (nI_eq (a := 1) (b := 0) (by omega) (by omega)).mp b112
        exfalso; omega

