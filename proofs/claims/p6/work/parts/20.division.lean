set_option maxHeartbeats 4000000 in
set_option maxRecDepth 100000 in
theorem c_enlarge (l : Launch) (g : Lay) (sz : Nat) (f : Nat → va_E) (x : Nat) (sc : Nat) (R : Nat) (n : Nat) (sg : Int32) (hx9 : Nat → Int32) (hL : LO g) (t_x : g.tg x = 5) (t_R : g.tg R = 22) (hI : IV g f) (ea : f x = .inr (4, [.int sg, .int (nI n), .ref (g.lk x 2)])) (eb : f (g.lk x 2) = .inl (g.ac (g.lk x 2), 15, .inl hx9)) (cb : ∀ i, i < 15 → ∃ k, k < 1000000000 ∧ hx9 i = nI k) (hn : n ≤ 15) (hs : 0 < sc ∧ sc < 1000000000) : Met l ⟨"BigRunner$LongDivision", "enlarge", "(LBigRunner$LongNumber;I[I)V"⟩ [Cond.code ⟨"BigRunner$LongDivision", "enlarge", "(LBigRunner$LongNumber;I[I)V"⟩ prog_4_method_3_code 6 none] ({ frames := 0, cells := 0, slots := 0, locals := 0 }) (va_Pc [.ref x, .int (nI sc), .ref R] (pc_in g sz f)) (va_Qv (fun f1 => (∃ h1 : Nat → Int32, f1 R = .inl (g.ac R, 16, .inl h1) ∧ (∀ i, i < 16 → ∃ k, k < 1000000000 ∧ h1 i = nI k) ∧ kv (dg h1) (n + 1) = sc * kv (dg hx9) n) ∧ (IV g f1) ∧ (∀ b, b ≠ R → f1 b = f b)) (pc_out g sz) (pc_A g sz)) 0 0 (pc_A g sz) := by
  refine pe_ofW (cc := prog_4_method_3_code) (maxL := 6) (ret := none) (lv := [(0, .ref x), (1, .int (nI sc)), (2, .ref R)]) (by decide) (Nat.le_of_ble_eq_true rfl) rfl ?_
  intro p e s m args below meth c ls hx hb hr hml hlocks hown hB hP hK hD hsz hS hl
  subst hsz
  have hu : ∀ b, b ≠ R → f b = f b := fun _ _ => rfl
  refine lv_lconst (v := nL 0) hx hb d_NLongDivision_enlarge_0 (by decide) ?_
  refine lv_lstore_n (lv' := [(3, .long (nL 0)), (0, .ref x), (1, .int (nI sc)), (2, .ref R)]) hx hb d_NLongDivision_enlarge_1 rfl hl (by decide) rfl (fun ls hl => ?_)
  refine lv_iconst (v := nI 0) hx hb d_NLongDivision_enlarge_2 (by decide) ?_
  refine lv_istore (lv' := [(5, .int (nI 0)), (3, .long (nL 0)), (0, .ref x), (1, .int (nI sc)), (2, .ref R)]) hx hb d_NLongDivision_enlarge_3 hl (by decide) rfl (fun ls hl => ?_)
  obtain ⟨h_2, e1, c3⟩ := oc_22.of t_R (hI.1 R)
  have lp4 : ∀ (k6 : Nat) (cy : Nat) (i : Nat) (h : Nat → Int32) (f5 : Nat → va_E) (H : Heap) (locs : List Loc) (ls : Array Slot), (n < i + k6) → (cy < sc) → (i ≤ n) → (∀ i, i < 16 → ∃ k, k < 1000000000 ∧ h i = nI k) → (kv (dg h) i + cy * 1000000000 ^ i = sc * kv (dg hx9) i) → f5 R = .inl (g.ac R, 16, .inl (h)) → IV g f5 → un [22] g f f5 → (∀ b, b ≠ R → f5 b = f b) → lv_has ls 6 [(5, .int (nI i)), (3, .long (nL cy)), (0, .ref x), (1, .int (nI sc)), (2, .ref R)] → va_P g.D vcl (va_pl g.LP f5) H → va_D (pc_A g s.heap.size) (va_pl g.LP f5) → va_S (pc_A g s.heap.size) s.heap H locs → W p l e ({ frames := 0, cells := 0, slots := 0, locals := 0 }) s m args below meth c H locs 0 0 (MQ below (va_Qv (fun f1 => (∃ h1 : Nat → Int32, f1 R = .inl (g.ac R, 16, .inl h1) ∧ (∀ i, i < 16 → ∃ k, k < 1000000000 ∧ h1 i = nI k) ∧ kv (dg h1) (n + 1) = sc * kv (dg hx9) n) ∧ (IV g f1) ∧ (∀ b, b ≠ R → f1 b = f b)) (pc_out g s.heap.size) (pc_A g s.heap.size)) args s 0 0 (pc_A g s.heap.size)) (F0 m 5 ls []) := by
    intro k6
    induction k6 with
    | zero => intros; exfalso; omega
    | succ k6 ih7 =>
      intro cy i h f5 H locs ls hfu8 hcy hi hc he e9 hI10 hv11 hu hl hP hD hS
      have ea := hv11.at t_x (by decide) ea
      have eb := hv11.at (lo_k5_2 hL _ t_x) (by decide) eb
      refine lv_iload hx hb d_NLongDivision_enlarge_5 (lv_at hl 0 rfl) ?_
      refine lv_aload_n hx hb d_NLongDivision_enlarge_7 rfl (lv_at hl 2 rfl) ?_
      refine pf_get (v := .int (nI n)) (C := "BigRunner$LongNumber") (T := FT4) (N := 3) hx hb (hw4 hB _) (fun _ h9 => h9) hown hK hP (lo_in hL t_x (by decide)) ea rfl 1 (by decide) (wd_191 hB _) rfl d_NLongDivision_enlarge_8 ?_
      refine lv_icmp_ge (tgt := 50) hx hb d_NLongDivision_enlarge_11 (by decide) (fun b12 => ?_) (fun b12 => ?_)
      · skip
        replace b12 := (nI_leI (a := n) (b := i) (by omega) (by omega)).mp b12
        refine lv_aload_n hx hb d_NLongDivision_enlarge_50 rfl (lv_at hl 4 rfl) ?_
        refine lv_aload_n hx hb d_NLongDivision_enlarge_51 rfl (lv_at hl 2 rfl) ?_
        refine pf_get (v := .int (nI n)) (C := "BigRunner$LongNumber") (T := FT4) (N := 3) hx hb (hw4 hB _) (fun _ h9 => h9) hown hK hP (lo_in hL t_x (by decide)) ea rfl 1 (by decide) (wd_191 hB _) rfl d_NLongDivision_enlarge_52 ?_
        refine lv_lload_n hx hb d_NLongDivision_enlarge_55 rfl (lv_at hl 1 rfl) ?_
        refine pf_l2iN hx hb d_NLongDivision_enlarge_56 ?_
        refine pf_iast (i := n) hx hb hK hP hD hS (lo_in hL t_R (by decide)) e9 (lo_t22 hL _ t_R) (by omega) (by decide) d_NLongDivision_enlarge_57 (fun f13 H locs e14 k15 hP hD hS => ?_)
        have ea := (k15 x (tg_ne t_x t_R (by decide))).trans ea
        have eb := (k15 (g.lk x 2) (tg_ne (lo_k5_2 hL _ t_x) t_R (by decide))).trans eb
        have hu : ∀ b, b ≠ R → f13 b = f b := fun b q0 => (k15 b q0).trans (hu b q0)
        have hv11 := hv11.st k15 t_R (by decide)
        have hk16 : ∀ b, b ≠ R → f13 b = f5 b := k15
        have c17 := lb_upd (n := 16) (i := n) (v := cy) hc (by omega)
        have hI18 := iv_1 hI10 hL t_R (by decide) hk16 (oc_22.mk t_R (⟨_, e14, c17⟩))
        exact pe_vret hx hb hr hlocks hK hP hD hS d_NLongDivision_enlarge_58 ⟨⟨_, e14, c17, (kv_upd (by omega)).trans (by have z : i = n := (by omega); subst z; exact he)⟩, hI18, hu⟩
      · skip
        replace b12 := mt (nI_leI (a := n) (b := i) (by omega) (by omega)).mpr b12
        refine lv_lload_n hx hb d_NLongDivision_enlarge_14 rfl (lv_at hl 1 rfl) ?_
        refine lv_aload_n hx hb d_NLongDivision_enlarge_15 rfl (lv_at hl 2 rfl) ?_
        refine pf_get (v := .ref (g.lk x 2)) (C := "BigRunner$LongNumber") (T := FT4) (N := 3) hx hb (hw4 hB _) (fun _ h9 => h9) hown hK hP (lo_in hL t_x (by decide)) ea rfl 2 (by decide) (wd_193 hB _) rfl d_NLongDivision_enlarge_16 ?_
        refine lv_iload hx hb d_NLongDivision_enlarge_19 (lv_at hl 0 rfl) ?_
        refine pf_iald (i := i) hx hb hK hP (lo_in hL (lo_k5_2 hL _ t_x) (by decide)) eb (lo_t23 hL _ (lo_k5_2 hL _ t_x)) (by omega) (by decide) d_NLongDivision_enlarge_21 ?_
        have hd19 := dg_lt cb (j := i) (by omega)
        refine lv_topi (fun z_ hz_ => ?_)
        obtain rfl : z_ = nI (dg hx9 i) := hz_.trans (dg_eq cb (by omega))
        refine pf_i2lN hx hb (by omega) d_NLongDivision_enlarge_22 ?_
        refine lv_iload_n hx hb d_NLongDivision_enlarge_23 rfl (lv_at hl 3 rfl) ?_
        refine pf_i2lN hx hb (by omega) d_NLongDivision_enlarge_24 ?_
        refine pf_lmulN (x := dg hx9 i) (y := sc) hx hb d_NLongDivision_enlarge_25 ?_
        have hm20 : dg hx9 i * sc ≤ 999999999 * sc := Nat.mul_le_mul_right sc (by omega)
        refine pf_laddN (x := cy) (y := (dg hx9 i) * sc) hx hb d_NLongDivision_enlarge_26 ?_
        refine lv_lstore_n (lv' := [(3, .long (nL (cy + ((dg hx9 i) * sc)))), (5, .int (nI i)), (0, .ref x), (1, .int (nI sc)), (2, .ref R)]) hx hb d_NLongDivision_enlarge_27 rfl hl (by decide) rfl (fun ls hl => ?_)
        refine lv_aload_n hx hb d_NLongDivision_enlarge_28 rfl (lv_at hl 4 rfl) ?_
        refine lv_iload hx hb d_NLongDivision_enlarge_29 (lv_at hl 1 rfl) ?_
        refine lv_lload_n hx hb d_NLongDivision_enlarge_31 rfl (lv_at hl 0 rfl) ?_
        refine lv_ldc2 (v := 1000000000) hx hb hown (wd_813 hB _) d_NLongDivision_enlarge_32 ?_
        refine lv_topl (fun z_ hz_ => ?_)
        obtain rfl : z_ = nL 1000000000 := hz_
        refine pf_lremN (x := cy + ((dg hx9 i) * sc)) (y := 1000000000) hx hb (by omega) (by omega) (by omega) d_NLongDivision_enlarge_35 ?_
        refine pf_l2iN hx hb d_NLongDivision_enlarge_36 ?_
        refine pf_iast (i := i) hx hb hK hP hD hS (lo_in hL t_R (by decide)) e9 (lo_t22 hL _ t_R) (by omega) (by decide) d_NLongDivision_enlarge_37 (fun f21 H locs e22 k23 hP hD hS => ?_)
        have ea := (k23 x (tg_ne t_x t_R (by decide))).trans ea
        have eb := (k23 (g.lk x 2) (tg_ne (lo_k5_2 hL _ t_x) t_R (by decide))).trans eb
        have hu : ∀ b, b ≠ R → f21 b = f b := fun b q0 => (k23 b q0).trans (hu b q0)
        have hv11 := hv11.st k23 t_R (by decide)
        have hk24 : ∀ b, b ≠ R → f21 b = f5 b := k23
        have c25 := lb_upd (n := 16) (i := i) (v := (cy + ((dg hx9 i) * sc)) % 1000000000) hc (by omega)
        refine lv_lload_n hx hb d_NLongDivision_enlarge_38 rfl (lv_at hl 0 rfl) ?_
        refine lv_ldc2 (v := 1000000000) hx hb hown (wd_813 hB _) d_NLongDivision_enlarge_39 ?_
        refine lv_topl (fun z_ hz_ => ?_)
        obtain rfl : z_ = nL 1000000000 := hz_
        refine pf_ldivN (x := cy + ((dg hx9 i) * sc)) (y := 1000000000) hx hb (by omega) (by omega) (by omega) d_NLongDivision_enlarge_42 ?_
        refine lv_lstore_n (lv' := [(3, .long (nL ((cy + ((dg hx9 i) * sc)) / 1000000000))), (5, .int (nI i)), (0, .ref x), (1, .int (nI sc)), (2, .ref R)]) hx hb d_NLongDivision_enlarge_43 rfl hl (by decide) rfl (fun ls hl => ?_)
        refine lv_iinc (k := 1) (v := nI (i + 1)) (lv' := [(5, .int (nI (i + 1))), (3, .long (nL ((cy + ((dg hx9 i) * sc)) / 1000000000))), (0, .ref x), (1, .int (nI sc)), (2, .ref R)]) hx hb d_NLongDivision_enlarge_44 hl rfl (by rw [nI_succ]; rfl) (by decide) rfl (fun ls hl => ?_)
        refine lv_goto (tgt := 5) hx hb d_NLongDivision_enlarge_47 (by decide) ?_
        have hI26 := iv_1 hI10 hL t_R (by decide) hk24 (oc_22.mk t_R (⟨_, e22, c25⟩))
        exact ih7 ((cy + ((dg hx9 i) * sc)) / 1000000000) (i + 1) (upd h i ((nI ((cy + ((dg hx9 i) * sc)) % 1000000000)))) f21 H locs ls (by omega) (by omega) (by omega) c25 (en_step he) e22 hI26 hv11 hu hl hP hD hS
  exact lp4 (n + 1) 0 0 h_2 f s.heap [] ls (by omega) (by omega) (by omega) c3 (by simp [kv]) e1 hI un.rf hu hl hP hD hS
set_option maxHeartbeats 4000000 in
set_option maxRecDepth 100000 in
theorem c_guess (l : Launch) (g : Lay) (sz : Nat) (f : Nat → va_E) (D : Nat) (pl : Nat) (n : Nat) (hU : Nat → Int32) (hV : Nat → Int32) (hL : LO g) (t_D : g.tg D = 4) (hI : OC g f) (ed : f D = .inr (3, [.ref (g.lk D 0), .ref (g.lk D 1), .int (nI n)])) (eU : f (g.lk D 0) = .inl (g.ac (g.lk D 0), 16, .inl hU)) (cU : ∀ i, i < 16 → ∃ k, k < 1000000000 ∧ hU i = nI k) (eV : f (g.lk D 1) = .inl (g.ac (g.lk D 1), 16, .inl hV)) (cV : ∀ i, i < 16 → ∃ k, k < 1000000000 ∧ hV i = nI k) (hn : 0 < n) (hp : pl + n ≤ 15) (hlt : kv (fun i => dg hU (pl + i)) (n + 1) < 1000000000 * kv (dg hV) n) (h4 : 1000000000 ≤ 4 * dg hV (n - 1)) : Met l ⟨"BigRunner$LongDivision", "guess", "(I)J"⟩ [Cond.code ⟨"BigRunner$LongDivision", "guess", "(I)J"⟩ prog_4_method_5_code 15 (some .long)] ({ frames := 0, cells := 0, slots := 0, locals := 0 }) (va_Pc [.ref D, .int (nI pl)] (pc_in g sz f)) (va_Ql (fun r f1 => (∃ k, k < 1000000000 ∧ kv (fun i => dg hU (pl + i)) (n + 1) < (k + 1) * kv (dg hV) n ∧ k * kv (dg hV) n < kv (fun i => dg hU (pl + i)) (n + 1) + kv (dg hV) n ∧ r = nL k) ∧ (f = f1)) (pc_out g sz) (pc_A g sz)) 0 0 (pc_A g sz) := by
  refine pe_ofW (cc := prog_4_method_5_code) (maxL := 15) (ret := (some .long)) (lv := [(0, .ref D), (1, .int (nI pl))]) (by decide) (Nat.le_of_ble_eq_true rfl) rfl ?_
  intro p e s m args below meth c ls hx hb hr hml hlocks hown hB hP hK hD hsz hS hl
  subst hsz
  have hu9 : ∀ i, i < n + 1 → (fun i => dg hU (pl + i)) i < 1000000000 := fun i hi => dg_lt cU (by omega)
  have hw9 : ∀ i, i < n → dg hV i < 1000000000 := fun i hi => dg_lt cV (by omega)
  have htp : dg hU (pl + n) ≤ dg hV (n - 1) := gs_top (u := fun i => dg hU (pl + i)) hn hu9 hw9 hlt
  have hd0 := gs_mk (u := fun i => dg hU (pl + i)) (w := dg hV) hn hu9 hw9
  refine lv_aload_n hx hb d_NLongDivision_guess_0 rfl (lv_at hl 0 rfl) ?_
  refine pf_get (v := .ref (g.lk D 1)) (C := "BigRunner$LongDivision") (T := FT3) (N := 3) hx hb (hw3 hB _) (fun _ h9 => h9) hown hK hP (lo_in hL t_D (by decide)) ed rfl 1 (by decide) (wd_320 hB _) rfl d_NLongDivision_guess_1 ?_
  refine lv_aload_n hx hb d_NLongDivision_guess_4 rfl (lv_at hl 0 rfl) ?_
  refine pf_get (v := .int (nI n)) (C := "BigRunner$LongDivision") (T := FT3) (N := 3) hx hb (hw3 hB _) (fun _ h9 => h9) hown hK hP (lo_in hL t_D (by decide)) ed rfl 2 (by decide) (wd_321 hB _) rfl d_NLongDivision_guess_5 ?_
  refine lv_iconst (v := nI 1) hx hb d_NLongDivision_guess_8 (by decide) ?_
  refine pf_isubN (x := n) (y := 1) hx hb (by omega) d_NLongDivision_guess_9 ?_
  refine pf_iald (i := n - 1) hx hb hK hP (lo_in hL (lo_k4_1 hL _ t_D) (by decide)) eV (lo_t22 hL _ (lo_k4_1 hL _ t_D)) (by omega) (by decide) d_NLongDivision_guess_10 ?_
  have hd1 := dg_lt cV (j := n - 1) (by omega)
  refine lv_topi (fun z_ hz_ => ?_)
  obtain rfl : z_ = nI (dg hV (n - 1)) := hz_.trans (dg_eq cV (by omega))
  refine pf_i2lN hx hb (by omega) d_NLongDivision_guess_11 ?_
  refine lv_lstore_n (lv' := [(2, .long (nL (dg hV (n - 1)))), (0, .ref D), (1, .int (nI pl))]) hx hb d_NLongDivision_guess_12 rfl hl (by decide) rfl (fun ls hl => ?_)
  refine lv_lload_n hx hb d_NLongDivision_guess_13 rfl (lv_at hl 0 rfl) ?_
  refine lv_lconst (v := nL 0) hx hb d_NLongDivision_guess_14 (by decide) ?_
  refine W.lcmp hx hb d_NLongDivision_guess_15 ?_
  refine lv_if_ne (tgt := 21) hx hb d_NLongDivision_guess_16 (by decide) (fun b2 => ?_) (fun b2 => ?_)
  · skip
    replace b2 := mt pl_eq.mpr b2
    replace b2 := mt (nL_eq (a := dg hV (n - 1)) (b := 0) (by omega) (by omega)).mpr b2
    refine lv_aload_n hx hb d_NLongDivision_guess_21 rfl (lv_at hl 1 rfl) ?_
    refine pf_get (v := .int (nI n)) (C := "BigRunner$LongDivision") (T := FT3) (N := 3) hx hb (hw3 hB _) (fun _ h9 => h9) hown hK hP (lo_in hL t_D (by decide)) ed rfl 2 (by decide) (wd_321 hB _) rfl d_NLongDivision_guess_22 ?_
    refine lv_iconst (v := nI 1) hx hb d_NLongDivision_guess_25 (by decide) ?_
    refine lv_icmp_le (tgt := 44) hx hb d_NLongDivision_guess_26 (by decide) (fun b3 => ?_) (fun b3 => ?_)
    · skip
      replace b3 := (nI_leI (a := n) (b := 1) (by omega) (by omega)).mp b3
      refine lv_lconst (v := nL 0) hx hb d_NLongDivision_guess_44 (by decide) ?_
      refine lv_lstore (lv' := [(4, .long (nL 0)), (2, .long (nL (dg hV (n - 1)))), (0, .ref D), (1, .int (nI pl))]) hx hb d_NLongDivision_guess_45 hl (by decide) rfl (fun ls hl => ?_)
      refine lv_aload_n hx hb d_NLongDivision_guess_47 rfl (lv_at hl 2 rfl) ?_
      refine pf_get (v := .int (nI n)) (C := "BigRunner$LongDivision") (T := FT3) (N := 3) hx hb (hw3 hB _) (fun _ h9 => h9) hown hK hP (lo_in hL t_D (by decide)) ed rfl 2 (by decide) (wd_321 hB _) rfl d_NLongDivision_guess_48 ?_
      refine lv_iconst (v := nI 1) hx hb d_NLongDivision_guess_51 (by decide) ?_
      refine lv_icmp_le (tgt := 72) hx hb d_NLongDivision_guess_52 (by decide) (fun b4 => ?_) (fun b4 => ?_)
      · skip
        replace b4 := (nI_leI (a := n) (b := 1) (by omega) (by omega)).mp b4
        refine lv_lconst (v := nL 0) hx hb d_NLongDivision_guess_72 (by decide) ?_
        refine lv_lstore (lv' := [(6, .long (nL 0)), (4, .long (nL 0)), (2, .long (nL (dg hV (n - 1)))), (0, .ref D), (1, .int (nI pl))]) hx hb d_NLongDivision_guess_73 hl (by decide) rfl (fun ls hl => ?_)
        refine lv_aload_n hx hb d_NLongDivision_guess_75 rfl (lv_at hl 3 rfl) ?_
        refine pf_get (v := .ref (g.lk D 0)) (C := "BigRunner$LongDivision") (T := FT3) (N := 3) hx hb (hw3 hB _) (fun _ h9 => h9) hown hK hP (lo_in hL t_D (by decide)) ed rfl 0 (by decide) (wd_319 hB _) rfl d_NLongDivision_guess_76 ?_
        refine lv_iload_n hx hb d_NLongDivision_guess_79 rfl (lv_at hl 4 rfl) ?_
        refine lv_aload_n hx hb d_NLongDivision_guess_80 rfl (lv_at hl 3 rfl) ?_
        refine pf_get (v := .int (nI n)) (C := "BigRunner$LongDivision") (T := FT3) (N := 3) hx hb (hw3 hB _) (fun _ h9 => h9) hown hK hP (lo_in hL t_D (by decide)) ed rfl 2 (by decide) (wd_321 hB _) rfl d_NLongDivision_guess_81 ?_
        refine pf_iaddN (x := pl) (y := n) hx hb d_NLongDivision_guess_84 ?_
        refine pf_iald (i := pl + n) hx hb hK hP (lo_in hL (lo_k4_0 hL _ t_D) (by decide)) eU (lo_t22 hL _ (lo_k4_0 hL _ t_D)) (by omega) (by decide) d_NLongDivision_guess_85 ?_
        have hd5 := dg_lt cU (j := pl + n) (by omega)
        refine lv_topi (fun z_ hz_ => ?_)
        obtain rfl : z_ = nI (dg hU (pl + n)) := hz_.trans (dg_eq cU (by omega))
        refine pf_i2lN hx hb (by omega) d_NLongDivision_guess_86 ?_
        refine lv_ldc2 (v := 1000000000) hx hb hown (wd_813 hB _) d_NLongDivision_guess_87 ?_
        refine lv_topl (fun z_ hz_ => ?_)
        obtain rfl : z_ = nL 1000000000 := hz_
        refine pf_lmulN (x := dg hU (pl + n)) (y := 1000000000) hx hb d_NLongDivision_guess_90 ?_
        refine lv_aload_n hx hb d_NLongDivision_guess_91 rfl (lv_at hl 3 rfl) ?_
        refine pf_get (v := .ref (g.lk D 0)) (C := "BigRunner$LongDivision") (T := FT3) (N := 3) hx hb (hw3 hB _) (fun _ h9 => h9) hown hK hP (lo_in hL t_D (by decide)) ed rfl 0 (by decide) (wd_319 hB _) rfl d_NLongDivision_guess_92 ?_
        refine lv_iload_n hx hb d_NLongDivision_guess_95 rfl (lv_at hl 4 rfl) ?_
        refine lv_aload_n hx hb d_NLongDivision_guess_96 rfl (lv_at hl 3 rfl) ?_
        refine pf_get (v := .int (nI n)) (C := "BigRunner$LongDivision") (T := FT3) (N := 3) hx hb (hw3 hB _) (fun _ h9 => h9) hown hK hP (lo_in hL t_D (by decide)) ed rfl 2 (by decide) (wd_321 hB _) rfl d_NLongDivision_guess_97 ?_
        refine pf_iaddN (x := pl) (y := n) hx hb d_NLongDivision_guess_100 ?_
        refine lv_iconst (v := nI 1) hx hb d_NLongDivision_guess_101 (by decide) ?_
        refine pf_isubN (x := pl + n) (y := 1) hx hb (by omega) d_NLongDivision_guess_102 ?_
        refine lv_topi (fun z_ hz_ => ?_)
        obtain rfl : z_ = nI (pl + (n - 1)) := hz_.trans (congrArg nI (show (pl + n) - 1 = pl + (n - 1) by omega))
        refine pf_iald (i := pl + (n - 1)) hx hb hK hP (lo_in hL (lo_k4_0 hL _ t_D) (by decide)) eU (lo_t22 hL _ (lo_k4_0 hL _ t_D)) (by omega) (by decide) d_NLongDivision_guess_103 ?_
        have hd6 := dg_lt cU (j := pl + (n - 1)) (by omega)
        refine lv_topi (fun z_ hz_ => ?_)
        obtain rfl : z_ = nI (dg hU (pl + (n - 1))) := hz_.trans (dg_eq cU (by omega))
        refine pf_i2lN hx hb (by omega) d_NLongDivision_guess_104 ?_
        refine pf_laddN (x := (dg hU (pl + n)) * 1000000000) (y := dg hU (pl + (n - 1))) hx hb d_NLongDivision_guess_105 ?_
        refine lv_lstore (lv' := [(8, .long (nL (((dg hU (pl + n)) * 1000000000) + (dg hU (pl + (n - 1)))))), (6, .long (nL 0)), (4, .long (nL 0)), (2, .long (nL (dg hV (n - 1)))), (0, .ref D), (1, .int (nI pl))]) hx hb d_NLongDivision_guess_106 hl (by decide) rfl (fun ls hl => ?_)
        refine lv_lload hx hb d_NLongDivision_guess_108 (lv_at hl 0 rfl) ?_
        refine lv_lload_n hx hb d_NLongDivision_guess_110 rfl (lv_at hl 3 rfl) ?_
        refine pf_ldivN (x := ((dg hU (pl + n)) * 1000000000) + (dg hU (pl + (n - 1)))) (y := dg hV (n - 1)) hx hb (by omega) (by omega) (by omega) d_NLongDivision_guess_111 ?_
        refine lv_lstore (lv' := [(10, .long (nL ((((dg hU (pl + n)) * 1000000000) + (dg hU (pl + (n - 1)))) / (dg hV (n - 1))))), (8, .long (nL (((dg hU (pl + n)) * 1000000000) + (dg hU (pl + (n - 1)))))), (6, .long (nL 0)), (4, .long (nL 0)), (2, .long (nL (dg hV (n - 1)))), (0, .ref D), (1, .int (nI pl))]) hx hb d_NLongDivision_guess_112 hl (by decide) rfl (fun ls hl => ?_)
        refine lv_lload hx hb d_NLongDivision_guess_114 (lv_at hl 1 rfl) ?_
        refine lv_lload_n hx hb d_NLongDivision_guess_116 rfl (lv_at hl 4 rfl) ?_
        refine pf_lremN (x := ((dg hU (pl + n)) * 1000000000) + (dg hU (pl + (n - 1)))) (y := dg hV (n - 1)) hx hb (by omega) (by omega) (by omega) d_NLongDivision_guess_117 ?_
        refine lv_lstore (lv' := [(12, .long (nL ((((dg hU (pl + n)) * 1000000000) + (dg hU (pl + (n - 1)))) % (dg hV (n - 1))))), (10, .long (nL ((((dg hU (pl + n)) * 1000000000) + (dg hU (pl + (n - 1)))) / (dg hV (n - 1))))), (8, .long (nL (((dg hU (pl + n)) * 1000000000) + (dg hU (pl + (n - 1)))))), (6, .long (nL 0)), (4, .long (nL 0)), (2, .long (nL (dg hV (n - 1)))), (0, .ref D), (1, .int (nI pl))]) hx hb d_NLongDivision_guess_118 hl (by decide) rfl (fun ls hl => ?_)
        refine lv_iconst (v := nI 0) hx hb d_NLongDivision_guess_120 (by decide) ?_
        refine lv_istore (lv' := [(14, .int (nI 0)), (12, .long (nL ((((dg hU (pl + n)) * 1000000000) + (dg hU (pl + (n - 1)))) % (dg hV (n - 1))))), (10, .long (nL ((((dg hU (pl + n)) * 1000000000) + (dg hU (pl + (n - 1)))) / (dg hV (n - 1))))), (8, .long (nL (((dg hU (pl + n)) * 1000000000) + (dg hU (pl + (n - 1)))))), (6, .long (nL 0)), (4, .long (nL 0)), (2, .long (nL (dg hV (n - 1)))), (0, .ref D), (1, .int (nI pl))]) hx hb d_NLongDivision_guess_121 hl (by decide) rfl (fun ls hl => ?_)
        rw [if_neg (by omega), if_neg (by omega)] at hd0
        have hd : gsD (kv (fun i => dg hU (pl + i)) (n + 1)) (kv (dg hV) n) (dg hV (n - 1)) 0 0 (dg hU (pl + n) * 1000000000 + dg hU (pl + (n - 1))) := hd0
        have hg0 : gsI (kv (fun i => dg hU (pl + i)) (n + 1)) (kv (dg hV) n) (dg hV (n - 1)) (dg hU (pl + n) * 1000000000 + dg hU (pl + (n - 1))) ((dg hU (pl + n) * 1000000000 + dg hU (pl + (n - 1))) / dg hV (n - 1)) ((dg hU (pl + n) * 1000000000 + dg hU (pl + (n - 1))) % dg hV (n - 1)) := gs_first (u := fun i => dg hU (pl + i)) hn hu9 hw9 (by omega)
        have hg1 := Nat.div_le_self (dg hU (pl + n) * 1000000000 + dg hU (pl + (n - 1))) (dg hV (n - 1))
        have hg2 := Nat.mod_lt (dg hU (pl + n) * 1000000000 + dg hU (pl + (n - 1))) (show 0 < dg hV (n - 1) by omega)
        have hs2 : 0 < 1000000000 := by omega
        have hs3 : 0 < 1000000000 := by omega
        have hb9 : dg hU (pl + (n - 1)) < 1000000000 := by omega
        have lp7 : ∀ (k9 : Nat) (gg : Nat) (lf : Nat) (ct : Nat) (H : Heap) (locs : List Loc) (ls : Array Slot), (4 < ct + k9) → (gsI (kv (fun i => dg hU (pl + i)) (n + 1)) (kv (dg hV) n) (dg hV (n - 1)) (dg hU (pl + n) * 1000000000 + dg hU (pl + (n - 1))) gg lf) → (ct ≤ 4) → (1000000000 * ct ≤ 4 * lf) → (lf < 1000000000 * (ct + 1)) → (gg ≤ 1000000000000000000) → lv_has ls 15 [(14, .int (nI ct)), (12, .long (nL lf)), (10, .long (nL gg)), (8, .long (nL (((dg hU (pl + n)) * 1000000000) + (dg hU (pl + (n - 1)))))), (6, .long (nL 0)), (4, .long (nL 0)), (2, .long (nL (dg hV (n - 1)))), (0, .ref D), (1, .int (nI pl))] → va_P g.D vcl (va_pl g.LP f) H → va_D (pc_A g s.heap.size) (va_pl g.LP f) → va_S (pc_A g s.heap.size) s.heap H locs → W p l e ({ frames := 0, cells := 0, slots := 0, locals := 0 }) s m args below meth c H locs 0 0 (MQ below (va_Ql (fun r f1 => (∃ k, k < 1000000000 ∧ kv (fun i => dg hU (pl + i)) (n + 1) < (k + 1) * kv (dg hV) n ∧ k * kv (dg hV) n < kv (fun i => dg hU (pl + i)) (n + 1) + kv (dg hV) n ∧ r = nL k) ∧ (f = f1)) (pc_out g s.heap.size) (pc_A g s.heap.size)) args s 0 0 (pc_A g s.heap.size)) (F0 m 123 ls []) := by
          intro k9
          induction k9 with
          | zero => intros; exfalso; omega
          | succ k9 ih10 =>
            intro gg lf ct H locs ls hfu11 hgi hct hcl hlb hgb hl hP hD hS
            refine lv_iload hx hb d_NLongDivision_guess_123 (lv_at hl 0 rfl) ?_
            refine lv_iconst (v := nI 4) hx hb d_NLongDivision_guess_125 (by decide) ?_
            refine lv_icmp_ge (tgt := 186) hx hb d_NLongDivision_guess_126 (by decide) (fun b14 => ?_) (fun b14 => ?_)
            · skip
              replace b14 := (nI_leI (a := 4) (b := ct) (by omega) (by omega)).mp b14
              refine lv_lload hx hb d_NLongDivision_guess_186 (lv_at hl 2 rfl) ?_
              exact pe_lret hx hb hr hlocks hK hP hD hS d_NLongDivision_guess_188 ⟨⟨_, (gs_big hd (by omega) hgi htp hb9 hs2 (by omega)).1, hgi.2, (gs_big hd (by omega) hgi htp hb9 hs2 (by omega)).2, rfl⟩, rfl⟩
            · skip
              replace b14 := mt (nI_leI (a := 4) (b := ct) (by omega) (by omega)).mpr b14
              refine lv_lload hx hb d_NLongDivision_guess_129 (lv_at hl 1 rfl) ?_
              refine lv_ldc2 (v := 1000000000) hx hb hown (wd_813 hB _) d_NLongDivision_guess_131 ?_
              refine lv_topl (fun z_ hz_ => ?_)
              obtain rfl : z_ = nL 1000000000 := hz_
              refine W.lcmp hx hb d_NLongDivision_guess_134 ?_
              refine lv_if_ge (tgt := 186) hx hb d_NLongDivision_guess_135 (by decide) (fun b15 => ?_) (fun b15 => ?_)
              · skip
                replace b15 := pl_ge.mp b15
                replace b15 := (nL_le (a := 1000000000) (b := lf) (by omega) (by omega)).mp b15
                refine lv_lload hx hb d_NLongDivision_guess_186 (lv_at hl 2 rfl) ?_
                exact pe_lret hx hb hr hlocks hK hP hD hS d_NLongDivision_guess_188 ⟨⟨_, (gs_big hd (by omega) hgi htp hb9 hs2 (by omega)).1, hgi.2, (gs_big hd (by omega) hgi htp hb9 hs2 (by omega)).2, rfl⟩, rfl⟩
              · skip
                replace b15 := mt pl_ge.mpr b15
                replace b15 := mt (nL_le (a := 1000000000) (b := lf) (by omega) (by omega)).mpr b15
                refine lv_lload hx hb d_NLongDivision_guess_138 (lv_at hl 2 rfl) ?_
                refine lv_ldc2 (v := 1000000000) hx hb hown (wd_813 hB _) d_NLongDivision_guess_140 ?_
                refine lv_topl (fun z_ hz_ => ?_)
                obtain rfl : z_ = nL 1000000000 := hz_
                refine W.lcmp hx hb d_NLongDivision_guess_143 ?_
                refine lv_if_ge (tgt := 168) hx hb d_NLongDivision_guess_144 (by decide) (fun b16 => ?_) (fun b16 => ?_)
                · skip
                  replace b16 := pl_ge.mp b16
                  replace b16 := (nL_le (a := 1000000000) (b := gg) (by omega) (by omega)).mp b16
                  obtain ⟨hg5, hgi2⟩ := gs_d hgi (kn_g2 hlt (by omega))
                  refine lv_lload hx hb d_NLongDivision_guess_168 (lv_at hl 2 rfl) ?_
                  refine lv_lconst (v := nL 1) hx hb d_NLongDivision_guess_170 (by decide) ?_
                  refine pf_lsubN (x := gg) (y := 1) hx hb (by omega) d_NLongDivision_guess_171 ?_
                  refine lv_lstore (lv' := [(10, .long (nL (gg - 1))), (14, .int (nI ct)), (12, .long (nL lf)), (8, .long (nL (((dg hU (pl + n)) * 1000000000) + (dg hU (pl + (n - 1)))))), (6, .long (nL 0)), (4, .long (nL 0)), (2, .long (nL (dg hV (n - 1)))), (0, .ref D), (1, .int (nI pl))]) hx hb d_NLongDivision_guess_172 hl (by decide) rfl (fun ls hl => ?_)
                  refine lv_lload hx hb d_NLongDivision_guess_174 (lv_at hl 2 rfl) ?_
                  refine lv_lload_n hx hb d_NLongDivision_guess_176 rfl (lv_at hl 6 rfl) ?_
                  refine pf_laddN (x := lf) (y := dg hV (n - 1)) hx hb d_NLongDivision_guess_177 ?_
                  refine lv_lstore (lv' := [(12, .long (nL (lf + (dg hV (n - 1))))), (10, .long (nL (gg - 1))), (14, .int (nI ct)), (8, .long (nL (((dg hU (pl + n)) * 1000000000) + (dg hU (pl + (n - 1)))))), (6, .long (nL 0)), (4, .long (nL 0)), (2, .long (nL (dg hV (n - 1)))), (0, .ref D), (1, .int (nI pl))]) hx hb d_NLongDivision_guess_178 hl (by decide) rfl (fun ls hl => ?_)
                  refine lv_iinc (k := 2) (v := nI (ct + 1)) (lv' := [(14, .int (nI (ct + 1))), (12, .long (nL (lf + (dg hV (n - 1))))), (10, .long (nL (gg - 1))), (8, .long (nL (((dg hU (pl + n)) * 1000000000) + (dg hU (pl + (n - 1)))))), (6, .long (nL 0)), (4, .long (nL 0)), (2, .long (nL (dg hV (n - 1)))), (0, .ref D), (1, .int (nI pl))]) hx hb d_NLongDivision_guess_180 hl rfl (by rw [nI_succ]; rfl) (by decide) rfl (fun ls hl => ?_)
                  refine lv_goto (tgt := 123) hx hb d_NLongDivision_guess_183 (by decide) ?_
                  exact ih10 (gg - 1) (lf + (dg hV (n - 1))) (ct + 1) H locs ls (by omega) hgi2 (by omega) (by omega) (by omega) (by omega) hl hP hD hS
                · skip
                  replace b16 := mt pl_ge.mpr b16
                  replace b16 := mt (nL_le (a := 1000000000) (b := gg) (by omega) (by omega)).mpr b16
                  refine lv_lload hx hb d_NLongDivision_guess_147 (lv_at hl 2 rfl) ?_
                  refine lv_lload hx hb d_NLongDivision_guess_149 (lv_at hl 5 rfl) ?_
                  refine pf_lmulN (x := gg) (y := 0) hx hb d_NLongDivision_guess_151 ?_
                  have hm17 : gg * 0 ≤ 999999999 * 999999999 := Nat.mul_le_mul (by omega) (by omega)
                  refine lv_lload hx hb d_NLongDivision_guess_152 (lv_at hl 1 rfl) ?_
                  refine lv_ldc2 (v := 1000000000) hx hb hown (wd_813 hB _) d_NLongDivision_guess_154 ?_
                  refine lv_topl (fun z_ hz_ => ?_)
                  obtain rfl : z_ = nL 1000000000 := hz_
                  refine pf_lmulN (x := lf) (y := 1000000000) hx hb d_NLongDivision_guess_157 ?_
                  refine lv_lload hx hb d_NLongDivision_guess_158 (lv_at hl 4 rfl) ?_
                  refine pf_laddN (x := lf * 1000000000) (y := 0) hx hb d_NLongDivision_guess_160 ?_
                  refine W.lcmp hx hb d_NLongDivision_guess_161 ?_
                  refine lv_if_gt (tgt := 168) hx hb d_NLongDivision_guess_162 (by decide) (fun b18 => ?_) (fun b18 => ?_)
                  · skip
                    replace b18 := pl_gt.mp b18
                    replace b18 := (nL_lt (a := (lf * 1000000000) + 0) (b := gg * 0) (by omega) (by omega)).mp b18
                    obtain ⟨hg5, hgi2⟩ := gs_d hgi (gs_no hd hgi (by omega))
                    refine lv_lload hx hb d_NLongDivision_guess_168 (lv_at hl 2 rfl) ?_
                    refine lv_lconst (v := nL 1) hx hb d_NLongDivision_guess_170 (by decide) ?_
                    refine pf_lsubN (x := gg) (y := 1) hx hb (by omega) d_NLongDivision_guess_171 ?_
                    refine lv_lstore (lv' := [(10, .long (nL (gg - 1))), (14, .int (nI ct)), (12, .long (nL lf)), (8, .long (nL (((dg hU (pl + n)) * 1000000000) + (dg hU (pl + (n - 1)))))), (6, .long (nL 0)), (4, .long (nL 0)), (2, .long (nL (dg hV (n - 1)))), (0, .ref D), (1, .int (nI pl))]) hx hb d_NLongDivision_guess_172 hl (by decide) rfl (fun ls hl => ?_)
                    refine lv_lload hx hb d_NLongDivision_guess_174 (lv_at hl 2 rfl) ?_
                    refine lv_lload_n hx hb d_NLongDivision_guess_176 rfl (lv_at hl 6 rfl) ?_
                    refine pf_laddN (x := lf) (y := dg hV (n - 1)) hx hb d_NLongDivision_guess_177 ?_
                    refine lv_lstore (lv' := [(12, .long (nL (lf + (dg hV (n - 1))))), (10, .long (nL (gg - 1))), (14, .int (nI ct)), (8, .long (nL (((dg hU (pl + n)) * 1000000000) + (dg hU (pl + (n - 1)))))), (6, .long (nL 0)), (4, .long (nL 0)), (2, .long (nL (dg hV (n - 1)))), (0, .ref D), (1, .int (nI pl))]) hx hb d_NLongDivision_guess_178 hl (by decide) rfl (fun ls hl => ?_)
                    refine lv_iinc (k := 2) (v := nI (ct + 1)) (lv' := [(14, .int (nI (ct + 1))), (12, .long (nL (lf + (dg hV (n - 1))))), (10, .long (nL (gg - 1))), (8, .long (nL (((dg hU (pl + n)) * 1000000000) + (dg hU (pl + (n - 1)))))), (6, .long (nL 0)), (4, .long (nL 0)), (2, .long (nL (dg hV (n - 1)))), (0, .ref D), (1, .int (nI pl))]) hx hb d_NLongDivision_guess_180 hl rfl (by rw [nI_succ]; rfl) (by decide) rfl (fun ls hl => ?_)
                    refine lv_goto (tgt := 123) hx hb d_NLongDivision_guess_183 (by decide) ?_
                    exact ih10 (gg - 1) (lf + (dg hV (n - 1))) (ct + 1) H locs ls (by omega) hgi2 (by omega) (by omega) (by omega) (by omega) hl hP hD hS
                  · skip
                    replace b18 := mt pl_gt.mpr b18
                    replace b18 := mt (nL_lt (a := (lf * 1000000000) + 0) (b := gg * 0) (by omega) (by omega)).mpr b18
                    refine lv_lload hx hb d_NLongDivision_guess_165 (lv_at hl 2 rfl) ?_
                    exact pe_lret hx hb hr hlocks hK hP hD hS d_NLongDivision_guess_167 ⟨⟨_, by omega, hgi.2, gs_yes hd (by omega) hgi (by omega) (by omega), rfl⟩, rfl⟩
        exact lp7 5 ((((dg hU (pl + n)) * 1000000000) + (dg hU (pl + (n - 1)))) / (dg hV (n - 1))) ((((dg hU (pl + n)) * 1000000000) + (dg hU (pl + (n - 1)))) % (dg hV (n - 1))) 0 s.heap [] ls (by omega) hg0 (by omega) (by omega) (by omega) (by omega) hl hP hD hS
      · skip
        replace b4 := mt (nI_leI (a := n) (b := 1) (by omega) (by omega)).mpr b4
        exfalso; omega
    · skip
      replace b3 := mt (nI_leI (a := n) (b := 1) (by omega) (by omega)).mpr b3
      refine lv_aload_n hx hb d_NLongDivision_guess_29 rfl (lv_at hl 1 rfl) ?_
      refine pf_get (v := .ref (g.lk D 1)) (C := "BigRunner$LongDivision") (T := FT3) (N := 3) hx hb (hw3 hB _) (fun _ h9 => h9) hown hK hP (lo_in hL t_D (by decide)) ed rfl 1 (by decide) (wd_320 hB _) rfl d_NLongDivision_guess_30 ?_
      refine lv_aload_n hx hb d_NLongDivision_guess_33 rfl (lv_at hl 1 rfl) ?_
      refine pf_get (v := .int (nI n)) (C := "BigRunner$LongDivision") (T := FT3) (N := 3) hx hb (hw3 hB _) (fun _ h9 => h9) hown hK hP (lo_in hL t_D (by decide)) ed rfl 2 (by decide) (wd_321 hB _) rfl d_NLongDivision_guess_34 ?_
      refine lv_iconst (v := nI 2) hx hb d_NLongDivision_guess_37 (by decide) ?_
      refine pf_isubN (x := n) (y := 2) hx hb (by omega) d_NLongDivision_guess_38 ?_
      refine pf_iald (i := n - 2) hx hb hK hP (lo_in hL (lo_k4_1 hL _ t_D) (by decide)) eV (lo_t22 hL _ (lo_k4_1 hL _ t_D)) (by omega) (by decide) d_NLongDivision_guess_39 ?_
      have hd19 := dg_lt cV (j := n - 2) (by omega)
      refine lv_topi (fun z_ hz_ => ?_)
      obtain rfl : z_ = nI (dg hV (n - 2)) := hz_.trans (dg_eq cV (by omega))
      refine pf_i2lN hx hb (by omega) d_NLongDivision_guess_40 ?_
      refine lv_goto (tgt := 45) hx hb d_NLongDivision_guess_41 (by decide) ?_
      refine lv_lstore (lv' := [(4, .long (nL (dg hV (n - 2)))), (2, .long (nL (dg hV (n - 1)))), (0, .ref D), (1, .int (nI pl))]) hx hb d_NLongDivision_guess_45 hl (by decide) rfl (fun ls hl => ?_)
      refine lv_aload_n hx hb d_NLongDivision_guess_47 rfl (lv_at hl 2 rfl) ?_
      refine pf_get (v := .int (nI n)) (C := "BigRunner$LongDivision") (T := FT3) (N := 3) hx hb (hw3 hB _) (fun _ h9 => h9) hown hK hP (lo_in hL t_D (by decide)) ed rfl 2 (by decide) (wd_321 hB _) rfl d_NLongDivision_guess_48 ?_
      refine lv_iconst (v := nI 1) hx hb d_NLongDivision_guess_51 (by decide) ?_
      refine lv_icmp_le (tgt := 72) hx hb d_NLongDivision_guess_52 (by decide) (fun b20 => ?_) (fun b20 => ?_)
      · skip
        replace b20 := (nI_leI (a := n) (b := 1) (by omega) (by omega)).mp b20
        exfalso; omega
      · skip
        replace b20 := mt (nI_leI (a := n) (b := 1) (by omega) (by omega)).mpr b20
        refine lv_aload_n hx hb d_NLongDivision_guess_55 rfl (lv_at hl 2 rfl) ?_
        refine pf_get (v := .ref (g.lk D 0)) (C := "BigRunner$LongDivision") (T := FT3) (N := 3) hx hb (hw3 hB _) (fun _ h9 => h9) hown hK hP (lo_in hL t_D (by decide)) ed rfl 0 (by decide) (wd_319 hB _) rfl d_NLongDivision_guess_56 ?_
        refine lv_iload_n hx hb d_NLongDivision_guess_59 rfl (lv_at hl 3 rfl) ?_
        refine lv_aload_n hx hb d_NLongDivision_guess_60 rfl (lv_at hl 2 rfl) ?_
        refine pf_get (v := .int (nI n)) (C := "BigRunner$LongDivision") (T := FT3) (N := 3) hx hb (hw3 hB _) (fun _ h9 => h9) hown hK hP (lo_in hL t_D (by decide)) ed rfl 2 (by decide) (wd_321 hB _) rfl d_NLongDivision_guess_61 ?_
        refine pf_iaddN (x := pl) (y := n) hx hb d_NLongDivision_guess_64 ?_
        refine lv_iconst (v := nI 2) hx hb d_NLongDivision_guess_65 (by decide) ?_
        refine pf_isubN (x := pl + n) (y := 2) hx hb (by omega) d_NLongDivision_guess_66 ?_
        refine lv_topi (fun z_ hz_ => ?_)
        obtain rfl : z_ = nI (pl + (n - 2)) := hz_.trans (congrArg nI (show (pl + n) - 2 = pl + (n - 2) by omega))
        refine pf_iald (i := pl + (n - 2)) hx hb hK hP (lo_in hL (lo_k4_0 hL _ t_D) (by decide)) eU (lo_t22 hL _ (lo_k4_0 hL _ t_D)) (by omega) (by decide) d_NLongDivision_guess_67 ?_
        have hd21 := dg_lt cU (j := pl + (n - 2)) (by omega)
        refine lv_topi (fun z_ hz_ => ?_)
        obtain rfl : z_ = nI (dg hU (pl + (n - 2))) := hz_.trans (dg_eq cU (by omega))
        refine pf_i2lN hx hb (by omega) d_NLongDivision_guess_68 ?_
        refine lv_goto (tgt := 73) hx hb d_NLongDivision_guess_69 (by decide) ?_
        refine lv_lstore (lv' := [(6, .long (nL (dg hU (pl + (n - 2))))), (4, .long (nL (dg hV (n - 2)))), (2, .long (nL (dg hV (n - 1)))), (0, .ref D), (1, .int (nI pl))]) hx hb d_NLongDivision_guess_73 hl (by decide) rfl (fun ls hl => ?_)
        refine lv_aload_n hx hb d_NLongDivision_guess_75 rfl (lv_at hl 3 rfl) ?_
        refine pf_get (v := .ref (g.lk D 0)) (C := "BigRunner$LongDivision") (T := FT3) (N := 3) hx hb (hw3 hB _) (fun _ h9 => h9) hown hK hP (lo_in hL t_D (by decide)) ed rfl 0 (by decide) (wd_319 hB _) rfl d_NLongDivision_guess_76 ?_
        refine lv_iload_n hx hb d_NLongDivision_guess_79 rfl (lv_at hl 4 rfl) ?_
        refine lv_aload_n hx hb d_NLongDivision_guess_80 rfl (lv_at hl 3 rfl) ?_
        refine pf_get (v := .int (nI n)) (C := "BigRunner$LongDivision") (T := FT3) (N := 3) hx hb (hw3 hB _) (fun _ h9 => h9) hown hK hP (lo_in hL t_D (by decide)) ed rfl 2 (by decide) (wd_321 hB _) rfl d_NLongDivision_guess_81 ?_
        refine pf_iaddN (x := pl) (y := n) hx hb d_NLongDivision_guess_84 ?_
        refine pf_iald (i := pl + n) hx hb hK hP (lo_in hL (lo_k4_0 hL _ t_D) (by decide)) eU (lo_t22 hL _ (lo_k4_0 hL _ t_D)) (by omega) (by decide) d_NLongDivision_guess_85 ?_
        have hd22 := dg_lt cU (j := pl + n) (by omega)
        refine lv_topi (fun z_ hz_ => ?_)
        obtain rfl : z_ = nI (dg hU (pl + n)) := hz_.trans (dg_eq cU (by omega))
        refine pf_i2lN hx hb (by omega) d_NLongDivision_guess_86 ?_
        refine lv_ldc2 (v := 1000000000) hx hb hown (wd_813 hB _) d_NLongDivision_guess_87 ?_
        refine lv_topl (fun z_ hz_ => ?_)
        obtain rfl : z_ = nL 1000000000 := hz_
        refine pf_lmulN (x := dg hU (pl + n)) (y := 1000000000) hx hb d_NLongDivision_guess_90 ?_
        refine lv_aload_n hx hb d_NLongDivision_guess_91 rfl (lv_at hl 3 rfl) ?_
        refine pf_get (v := .ref (g.lk D 0)) (C := "BigRunner$LongDivision") (T := FT3) (N := 3) hx hb (hw3 hB _) (fun _ h9 => h9) hown hK hP (lo_in hL t_D (by decide)) ed rfl 0 (by decide) (wd_319 hB _) rfl d_NLongDivision_guess_92 ?_
        refine lv_iload_n hx hb d_NLongDivision_guess_95 rfl (lv_at hl 4 rfl) ?_
        refine lv_aload_n hx hb d_NLongDivision_guess_96 rfl (lv_at hl 3 rfl) ?_
        refine pf_get (v := .int (nI n)) (C := "BigRunner$LongDivision") (T := FT3) (N := 3) hx hb (hw3 hB _) (fun _ h9 => h9) hown hK hP (lo_in hL t_D (by decide)) ed rfl 2 (by decide) (wd_321 hB _) rfl d_NLongDivision_guess_97 ?_
        refine pf_iaddN (x := pl) (y := n) hx hb d_NLongDivision_guess_100 ?_
        refine lv_iconst (v := nI 1) hx hb d_NLongDivision_guess_101 (by decide) ?_
        refine pf_isubN (x := pl + n) (y := 1) hx hb (by omega) d_NLongDivision_guess_102 ?_
        refine lv_topi (fun z_ hz_ => ?_)
        obtain rfl : z_ = nI (pl + (n - 1)) := hz_.trans (congrArg nI (show (pl + n) - 1 = pl + (n - 1) by omega))
        refine pf_iald (i := pl + (n - 1)) hx hb hK hP (lo_in hL (lo_k4_0 hL _ t_D) (by decide)) eU (lo_t22 hL _ (lo_k4_0 hL _ t_D)) (by omega) (by decide) d_NLongDivision_guess_103 ?_
        have hd23 := dg_lt cU (j := pl + (n - 1)) (by omega)
        refine lv_topi (fun z_ hz_ => ?_)
        obtain rfl : z_ = nI (dg hU (pl + (n - 1))) := hz_.trans (dg_eq cU (by omega))
        refine pf_i2lN hx hb (by omega) d_NLongDivision_guess_104 ?_
        refine pf_laddN (x := (dg hU (pl + n)) * 1000000000) (y := dg hU (pl + (n - 1))) hx hb d_NLongDivision_guess_105 ?_
        refine lv_lstore (lv' := [(8, .long (nL (((dg hU (pl + n)) * 1000000000) + (dg hU (pl + (n - 1)))))), (6, .long (nL (dg hU (pl + (n - 2))))), (4, .long (nL (dg hV (n - 2)))), (2, .long (nL (dg hV (n - 1)))), (0, .ref D), (1, .int (nI pl))]) hx hb d_NLongDivision_guess_106 hl (by decide) rfl (fun ls hl => ?_)
        refine lv_lload hx hb d_NLongDivision_guess_108 (lv_at hl 0 rfl) ?_
        refine lv_lload_n hx hb d_NLongDivision_guess_110 rfl (lv_at hl 3 rfl) ?_
        refine pf_ldivN (x := ((dg hU (pl + n)) * 1000000000) + (dg hU (pl + (n - 1)))) (y := dg hV (n - 1)) hx hb (by omega) (by omega) (by omega) d_NLongDivision_guess_111 ?_
        refine lv_lstore (lv' := [(10, .long (nL ((((dg hU (pl + n)) * 1000000000) + (dg hU (pl + (n - 1)))) / (dg hV (n - 1))))), (8, .long (nL (((dg hU (pl + n)) * 1000000000) + (dg hU (pl + (n - 1)))))), (6, .long (nL (dg hU (pl + (n - 2))))), (4, .long (nL (dg hV (n - 2)))), (2, .long (nL (dg hV (n - 1)))), (0, .ref D), (1, .int (nI pl))]) hx hb d_NLongDivision_guess_112 hl (by decide) rfl (fun ls hl => ?_)
        refine lv_lload hx hb d_NLongDivision_guess_114 (lv_at hl 1 rfl) ?_
        refine lv_lload_n hx hb d_NLongDivision_guess_116 rfl (lv_at hl 4 rfl) ?_
        refine pf_lremN (x := ((dg hU (pl + n)) * 1000000000) + (dg hU (pl + (n - 1)))) (y := dg hV (n - 1)) hx hb (by omega) (by omega) (by omega) d_NLongDivision_guess_117 ?_
        refine lv_lstore (lv' := [(12, .long (nL ((((dg hU (pl + n)) * 1000000000) + (dg hU (pl + (n - 1)))) % (dg hV (n - 1))))), (10, .long (nL ((((dg hU (pl + n)) * 1000000000) + (dg hU (pl + (n - 1)))) / (dg hV (n - 1))))), (8, .long (nL (((dg hU (pl + n)) * 1000000000) + (dg hU (pl + (n - 1)))))), (6, .long (nL (dg hU (pl + (n - 2))))), (4, .long (nL (dg hV (n - 2)))), (2, .long (nL (dg hV (n - 1)))), (0, .ref D), (1, .int (nI pl))]) hx hb d_NLongDivision_guess_118 hl (by decide) rfl (fun ls hl => ?_)
        refine lv_iconst (v := nI 0) hx hb d_NLongDivision_guess_120 (by decide) ?_
        refine lv_istore (lv' := [(14, .int (nI 0)), (12, .long (nL ((((dg hU (pl + n)) * 1000000000) + (dg hU (pl + (n - 1)))) % (dg hV (n - 1))))), (10, .long (nL ((((dg hU (pl + n)) * 1000000000) + (dg hU (pl + (n - 1)))) / (dg hV (n - 1))))), (8, .long (nL (((dg hU (pl + n)) * 1000000000) + (dg hU (pl + (n - 1)))))), (6, .long (nL (dg hU (pl + (n - 2))))), (4, .long (nL (dg hV (n - 2)))), (2, .long (nL (dg hV (n - 1)))), (0, .ref D), (1, .int (nI pl))]) hx hb d_NLongDivision_guess_121 hl (by decide) rfl (fun ls hl => ?_)
        rw [if_pos (by omega), if_pos (by omega)] at hd0
        have hd : gsD (kv (fun i => dg hU (pl + i)) (n + 1)) (kv (dg hV) n) (dg hV (n - 1)) (dg hV (n - 2)) (dg hU (pl + (n - 2))) (dg hU (pl + n) * 1000000000 + dg hU (pl + (n - 1))) := hd0
        have hg0 : gsI (kv (fun i => dg hU (pl + i)) (n + 1)) (kv (dg hV) n) (dg hV (n - 1)) (dg hU (pl + n) * 1000000000 + dg hU (pl + (n - 1))) ((dg hU (pl + n) * 1000000000 + dg hU (pl + (n - 1))) / dg hV (n - 1)) ((dg hU (pl + n) * 1000000000 + dg hU (pl + (n - 1))) % dg hV (n - 1)) := gs_first (u := fun i => dg hU (pl + i)) hn hu9 hw9 (by omega)
        have hg1 := Nat.div_le_self (dg hU (pl + n) * 1000000000 + dg hU (pl + (n - 1))) (dg hV (n - 1))
        have hg2 := Nat.mod_lt (dg hU (pl + n) * 1000000000 + dg hU (pl + (n - 1))) (show 0 < dg hV (n - 1) by omega)
        have hs2 : (dg hV (n - 2)) < 1000000000 := by omega
        have hs3 : (dg hU (pl + (n - 2))) < 1000000000 := by omega
        have hb9 : dg hU (pl + (n - 1)) < 1000000000 := by omega
        have lp24 : ∀ (k26 : Nat) (gg : Nat) (lf : Nat) (ct : Nat) (H : Heap) (locs : List Loc) (ls : Array Slot), (4 < ct + k26) → (gsI (kv (fun i => dg hU (pl + i)) (n + 1)) (kv (dg hV) n) (dg hV (n - 1)) (dg hU (pl + n) * 1000000000 + dg hU (pl + (n - 1))) gg lf) → (ct ≤ 4) → (1000000000 * ct ≤ 4 * lf) → (lf < 1000000000 * (ct + 1)) → (gg ≤ 1000000000000000000) → lv_has ls 15 [(14, .int (nI ct)), (12, .long (nL lf)), (10, .long (nL gg)), (8, .long (nL (((dg hU (pl + n)) * 1000000000) + (dg hU (pl + (n - 1)))))), (6, .long (nL (dg hU (pl + (n - 2))))), (4, .long (nL (dg hV (n - 2)))), (2, .long (nL (dg hV (n - 1)))), (0, .ref D), (1, .int (nI pl))] → va_P g.D vcl (va_pl g.LP f) H → va_D (pc_A g s.heap.size) (va_pl g.LP f) → va_S (pc_A g s.heap.size) s.heap H locs → W p l e ({ frames := 0, cells := 0, slots := 0, locals := 0 }) s m args below meth c H locs 0 0 (MQ below (va_Ql (fun r f1 => (∃ k, k < 1000000000 ∧ kv (fun i => dg hU (pl + i)) (n + 1) < (k + 1) * kv (dg hV) n ∧ k * kv (dg hV) n < kv (fun i => dg hU (pl + i)) (n + 1) + kv (dg hV) n ∧ r = nL k) ∧ (f = f1)) (pc_out g s.heap.size) (pc_A g s.heap.size)) args s 0 0 (pc_A g s.heap.size)) (F0 m 123 ls []) := by
          intro k26
          induction k26 with
          | zero => intros; exfalso; omega
          | succ k26 ih27 =>
            intro gg lf ct H locs ls hfu28 hgi hct hcl hlb hgb hl hP hD hS
            refine lv_iload hx hb d_NLongDivision_guess_123 (lv_at hl 0 rfl) ?_
            refine lv_iconst (v := nI 4) hx hb d_NLongDivision_guess_125 (by decide) ?_
            refine lv_icmp_ge (tgt := 186) hx hb d_NLongDivision_guess_126 (by decide) (fun b31 => ?_) (fun b31 => ?_)
            · skip
              replace b31 := (nI_leI (a := 4) (b := ct) (by omega) (by omega)).mp b31
              refine lv_lload hx hb d_NLongDivision_guess_186 (lv_at hl 2 rfl) ?_
              exact pe_lret hx hb hr hlocks hK hP hD hS d_NLongDivision_guess_188 ⟨⟨_, (gs_big hd (by omega) hgi htp hb9 hs2 (by omega)).1, hgi.2, (gs_big hd (by omega) hgi htp hb9 hs2 (by omega)).2, rfl⟩, rfl⟩
            · skip
              replace b31 := mt (nI_leI (a := 4) (b := ct) (by omega) (by omega)).mpr b31
              refine lv_lload hx hb d_NLongDivision_guess_129 (lv_at hl 1 rfl) ?_
              refine lv_ldc2 (v := 1000000000) hx hb hown (wd_813 hB _) d_NLongDivision_guess_131 ?_
              refine lv_topl (fun z_ hz_ => ?_)
              obtain rfl : z_ = nL 1000000000 := hz_
              refine W.lcmp hx hb d_NLongDivision_guess_134 ?_
              refine lv_if_ge (tgt := 186) hx hb d_NLongDivision_guess_135 (by decide) (fun b32 => ?_) (fun b32 => ?_)
              · skip
                replace b32 := pl_ge.mp b32
                replace b32 := (nL_le (a := 1000000000) (b := lf) (by omega) (by omega)).mp b32
                refine lv_lload hx hb d_NLongDivision_guess_186 (lv_at hl 2 rfl) ?_
                exact pe_lret hx hb hr hlocks hK hP hD hS d_NLongDivision_guess_188 ⟨⟨_, (gs_big hd (by omega) hgi htp hb9 hs2 (by omega)).1, hgi.2, (gs_big hd (by omega) hgi htp hb9 hs2 (by omega)).2, rfl⟩, rfl⟩
              · skip
                replace b32 := mt pl_ge.mpr b32
                replace b32 := mt (nL_le (a := 1000000000) (b := lf) (by omega) (by omega)).mpr b32
                refine lv_lload hx hb d_NLongDivision_guess_138 (lv_at hl 2 rfl) ?_
                refine lv_ldc2 (v := 1000000000) hx hb hown (wd_813 hB _) d_NLongDivision_guess_140 ?_
                refine lv_topl (fun z_ hz_ => ?_)
                obtain rfl : z_ = nL 1000000000 := hz_
                refine W.lcmp hx hb d_NLongDivision_guess_143 ?_
                refine lv_if_ge (tgt := 168) hx hb d_NLongDivision_guess_144 (by decide) (fun b33 => ?_) (fun b33 => ?_)
                · skip
                  replace b33 := pl_ge.mp b33
                  replace b33 := (nL_le (a := 1000000000) (b := gg) (by omega) (by omega)).mp b33
                  obtain ⟨hg5, hgi2⟩ := gs_d hgi (kn_g2 hlt (by omega))
                  refine lv_lload hx hb d_NLongDivision_guess_168 (lv_at hl 2 rfl) ?_
                  refine lv_lconst (v := nL 1) hx hb d_NLongDivision_guess_170 (by decide) ?_
                  refine pf_lsubN (x := gg) (y := 1) hx hb (by omega) d_NLongDivision_guess_171 ?_
                  refine lv_lstore (lv' := [(10, .long (nL (gg - 1))), (14, .int (nI ct)), (12, .long (nL lf)), (8, .long (nL (((dg hU (pl + n)) * 1000000000) + (dg hU (pl + (n - 1)))))), (6, .long (nL (dg hU (pl + (n - 2))))), (4, .long (nL (dg hV (n - 2)))), (2, .long (nL (dg hV (n - 1)))), (0, .ref D), (1, .int (nI pl))]) hx hb d_NLongDivision_guess_172 hl (by decide) rfl (fun ls hl => ?_)
                  refine lv_lload hx hb d_NLongDivision_guess_174 (lv_at hl 2 rfl) ?_
                  refine lv_lload_n hx hb d_NLongDivision_guess_176 rfl (lv_at hl 6 rfl) ?_
                  refine pf_laddN (x := lf) (y := dg hV (n - 1)) hx hb d_NLongDivision_guess_177 ?_
                  refine lv_lstore (lv' := [(12, .long (nL (lf + (dg hV (n - 1))))), (10, .long (nL (gg - 1))), (14, .int (nI ct)), (8, .long (nL (((dg hU (pl + n)) * 1000000000) + (dg hU (pl + (n - 1)))))), (6, .long (nL (dg hU (pl + (n - 2))))), (4, .long (nL (dg hV (n - 2)))), (2, .long (nL (dg hV (n - 1)))), (0, .ref D), (1, .int (nI pl))]) hx hb d_NLongDivision_guess_178 hl (by decide) rfl (fun ls hl => ?_)
                  refine lv_iinc (k := 2) (v := nI (ct + 1)) (lv' := [(14, .int (nI (ct + 1))), (12, .long (nL (lf + (dg hV (n - 1))))), (10, .long (nL (gg - 1))), (8, .long (nL (((dg hU (pl + n)) * 1000000000) + (dg hU (pl + (n - 1)))))), (6, .long (nL (dg hU (pl + (n - 2))))), (4, .long (nL (dg hV (n - 2)))), (2, .long (nL (dg hV (n - 1)))), (0, .ref D), (1, .int (nI pl))]) hx hb d_NLongDivision_guess_180 hl rfl (by rw [nI_succ]; rfl) (by decide) rfl (fun ls hl => ?_)
                  refine lv_goto (tgt := 123) hx hb d_NLongDivision_guess_183 (by decide) ?_
                  exact ih27 (gg - 1) (lf + (dg hV (n - 1))) (ct + 1) H locs ls (by omega) hgi2 (by omega) (by omega) (by omega) (by omega) hl hP hD hS
                · skip
                  replace b33 := mt pl_ge.mpr b33
                  replace b33 := mt (nL_le (a := 1000000000) (b := gg) (by omega) (by omega)).mpr b33
                  refine lv_lload hx hb d_NLongDivision_guess_147 (lv_at hl 2 rfl) ?_
                  refine lv_lload hx hb d_NLongDivision_guess_149 (lv_at hl 5 rfl) ?_
                  refine pf_lmulN (x := gg) (y := dg hV (n - 2)) hx hb d_NLongDivision_guess_151 ?_
                  have hm34 : gg * (dg hV (n - 2)) ≤ 999999999 * 999999999 := Nat.mul_le_mul (by omega) (by omega)
                  refine lv_lload hx hb d_NLongDivision_guess_152 (lv_at hl 1 rfl) ?_
                  refine lv_ldc2 (v := 1000000000) hx hb hown (wd_813 hB _) d_NLongDivision_guess_154 ?_
                  refine lv_topl (fun z_ hz_ => ?_)
                  obtain rfl : z_ = nL 1000000000 := hz_
                  refine pf_lmulN (x := lf) (y := 1000000000) hx hb d_NLongDivision_guess_157 ?_
                  refine lv_lload hx hb d_NLongDivision_guess_158 (lv_at hl 4 rfl) ?_
                  refine pf_laddN (x := lf * 1000000000) (y := dg hU (pl + (n - 2))) hx hb d_NLongDivision_guess_160 ?_
                  refine W.lcmp hx hb d_NLongDivision_guess_161 ?_
                  refine lv_if_gt (tgt := 168) hx hb d_NLongDivision_guess_162 (by decide) (fun b35 => ?_) (fun b35 => ?_)
                  · skip
                    replace b35 := pl_gt.mp b35
                    replace b35 := (nL_lt (a := (lf * 1000000000) + (dg hU (pl + (n - 2)))) (b := gg * (dg hV (n - 2))) (by omega) (by omega)).mp b35
                    obtain ⟨hg5, hgi2⟩ := gs_d hgi (gs_no hd hgi (by omega))
                    refine lv_lload hx hb d_NLongDivision_guess_168 (lv_at hl 2 rfl) ?_
                    refine lv_lconst (v := nL 1) hx hb d_NLongDivision_guess_170 (by decide) ?_
                    refine pf_lsubN (x := gg) (y := 1) hx hb (by omega) d_NLongDivision_guess_171 ?_
                    refine lv_lstore (lv' := [(10, .long (nL (gg - 1))), (14, .int (nI ct)), (12, .long (nL lf)), (8, .long (nL (((dg hU (pl + n)) * 1000000000) + (dg hU (pl + (n - 1)))))), (6, .long (nL (dg hU (pl + (n - 2))))), (4, .long (nL (dg hV (n - 2)))), (2, .long (nL (dg hV (n - 1)))), (0, .ref D), (1, .int (nI pl))]) hx hb d_NLongDivision_guess_172 hl (by decide) rfl (fun ls hl => ?_)
                    refine lv_lload hx hb d_NLongDivision_guess_174 (lv_at hl 2 rfl) ?_
                    refine lv_lload_n hx hb d_NLongDivision_guess_176 rfl (lv_at hl 6 rfl) ?_
                    refine pf_laddN (x := lf) (y := dg hV (n - 1)) hx hb d_NLongDivision_guess_177 ?_
                    refine lv_lstore (lv' := [(12, .long (nL (lf + (dg hV (n - 1))))), (10, .long (nL (gg - 1))), (14, .int (nI ct)), (8, .long (nL (((dg hU (pl + n)) * 1000000000) + (dg hU (pl + (n - 1)))))), (6, .long (nL (dg hU (pl + (n - 2))))), (4, .long (nL (dg hV (n - 2)))), (2, .long (nL (dg hV (n - 1)))), (0, .ref D), (1, .int (nI pl))]) hx hb d_NLongDivision_guess_178 hl (by decide) rfl (fun ls hl => ?_)
                    refine lv_iinc (k := 2) (v := nI (ct + 1)) (lv' := [(14, .int (nI (ct + 1))), (12, .long (nL (lf + (dg hV (n - 1))))), (10, .long (nL (gg - 1))), (8, .long (nL (((dg hU (pl + n)) * 1000000000) + (dg hU (pl + (n - 1)))))), (6, .long (nL (dg hU (pl + (n - 2))))), (4, .long (nL (dg hV (n - 2)))), (2, .long (nL (dg hV (n - 1)))), (0, .ref D), (1, .int (nI pl))]) hx hb d_NLongDivision_guess_180 hl rfl (by rw [nI_succ]; rfl) (by decide) rfl (fun ls hl => ?_)
                    refine lv_goto (tgt := 123) hx hb d_NLongDivision_guess_183 (by decide) ?_
                    exact ih27 (gg - 1) (lf + (dg hV (n - 1))) (ct + 1) H locs ls (by omega) hgi2 (by omega) (by omega) (by omega) (by omega) hl hP hD hS
                  · skip
                    replace b35 := mt pl_gt.mpr b35
                    replace b35 := mt (nL_lt (a := (lf * 1000000000) + (dg hU (pl + (n - 2)))) (b := gg * (dg hV (n - 2))) (by omega) (by omega)).mpr b35
                    refine lv_lload hx hb d_NLongDivision_guess_165 (lv_at hl 2 rfl) ?_
                    exact pe_lret hx hb hr hlocks hK hP hD hS d_NLongDivision_guess_167 ⟨⟨_, by omega, hgi.2, gs_yes hd (by omega) hgi (by omega) (by omega), rfl⟩, rfl⟩
        exact lp24 5 ((((dg hU (pl + n)) * 1000000000) + (dg hU (pl + (n - 1)))) / (dg hV (n - 1))) ((((dg hU (pl + n)) * 1000000000) + (dg hU (pl + (n - 1)))) % (dg hV (n - 1))) 0 s.heap [] ls (by omega) hg0 (by omega) (by omega) (by omega) (by omega) hl hP hD hS
  · skip
    replace b2 := pl_eq.mp b2
    replace b2 := (nL_eq (a := dg hV (n - 1)) (b := 0) (by omega) (by omega)).mp b2
    exfalso; omega
