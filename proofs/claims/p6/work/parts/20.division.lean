set_option maxHeartbeats 4000000 in
set_option maxRecDepth 100000 in
theorem c_enlarge (l : Launch) (g : Lay) (sz : Nat) (f : Nat → va_E) (x : Nat) (sc : Nat) (R : Nat) (n : Nat) (sg : Int32) (hx9 : Nat → Int32) (hL : LO g) (t_x : g.tg x = 5) (t_R : g.tg R = 22) (hI : IV g f) (ea : f x = .inr (4, [.int sg, .int (nI n), .ref (g.lk x 2)])) (eb : f (g.lk x 2) = .inl (g.ac (g.lk x 2), 15, .inl hx9)) (cb : ∀ i, i < 15 → ∃ k, k < 1000000000 ∧ hx9 i = nI k) (hn : n ≤ 15) (hs : 0 < sc ∧ sc < 1000000000) : Met l ⟨"BigRunner$LongDivision", "enlarge", "(LBigRunner$LongNumber;I[I)V"⟩ [Cond.code ⟨"BigRunner$LongDivision", "enlarge", "(LBigRunner$LongNumber;I[I)V"⟩ prog_4_method_3_code 6 none] ({ frames := 0, cells := 0, slots := 0, locals := 0 }) (va_Pc [.ref x, .int (nI sc), .ref R] (pc_in g sz f)) (va_Qv (fun f1 => (∃ h1 : Nat → Int32, f1 R = .inl (g.ac R, 16, .inl h1) ∧ (∀ i, i < 16 → ∃ k, k < 1000000000 ∧ h1 i = nI k) ∧ kv (dg h1) (n + 1) = sc * kv (dg hx9) n) ∧ (IV g f1) ∧ (∀ b, b ≠ R → f1 b = f b)) (pc_out g sz) (pc_A g sz)) 0 0 (pc_A g sz) := by
  refine pe_ofW (cc := prog_4_method_3_code) (maxL := 6) (ret := none) (lv := [(0, .ref x), (1, .int (nI sc)), (2, .ref R)]) (by decide) (Nat.le_of_ble_eq_true rfl) rfl ?_
  intro p e s m args below meth c ls hx hb hr hml hlocks hown hB hP hK hD hsz hS hl
  subst hsz
  have hu : ∀ b, b ≠ R → f b = f b := fun _ _ => rfl
  refine lv_lconst (v := nL 0) hx hb d_NLongDivision_enlarge_0 (by decide) ?_
  refine lv_lstore_n (lv' := [(3, .long (nL 0)), (0, .ref x), (1, .int (nI sc)), (2, .ref R)]) hx hb d_NLongDivision_enlarge_1 rfl hl (by decide) rfl (fun ls hl => ?_)
  refine lv_iconst (v := nI 0) hx hb d_NLongDivision_enlarge_2 (by decide) ?_
  refine lv_istore (lv' := [(5, .int (nI 0)), (3, .long (nL 0)), (0, .ref x), (1, .int (nI sc)), (2, .ref R)]) hx hb d_NLongDivision_enlarge_3 hl (by decide) rfl (fun ls hl => ?_)
  obtain ⟨h_2, e1, c3⟩ := oc_22.of t_R (hI.1 R)
  have lp4 : ∀ (k6 : Nat) (cy : Nat) (i : Nat) (h : Nat → Int32) (f5 : Nat → va_E) (H : Heap) (locs : List Loc) (ls : Array Slot), (n < i + k6) → (cy < sc) → (i ≤ n) → (∀ i, i < 16 → ∃ k, k < 1000000000 ∧ h i = nI k) → (kv (dg h) i + cy * 1000000000 ^ i = sc * kv (dg hx9) i) → f5 R = .inl (g.ac R, 16, .inl (h)) → IV g f5 → un [22] g f f5 → (∀ b, b ≠ R → f5 b = f b) → lv_has ls 6 [(5, .int (nI i)), (3, .long (nL cy)), (0, .ref x), (1, .int (nI sc)), (2, .ref R)] → va_P g.D vcl (va_pl g.LP f5) H → va_D (pc_A g s.heap.size) (va_pl g.LP f5) → va_S (pc_A g s.heap.size) s.heap H locs → W p l e ({ frames := 0, cells := 0, slots := 0, locals := 0 }) s m args below meth c H locs 0 0 (MQ below (va_Qv (fun f1 => (∃ h1 : Nat → Int32, f1 R = .inl (g.ac R, 16, .inl h1) ∧ (∀ i, i < 16 → ∃ k, k < 1000000000 ∧ h1 i = nI k) ∧ kv (dg h1) (n + 1) = sc * kv (dg hx9) n) ∧ (IV g f1) ∧ (∀ b, b ≠ R → f1 b = f b)) (pc_out g s.heap.size) (pc_A g s.heap.size)) args s 0 0 (pc_A g s.heap.size)) (F0 m 5 ls []) := by
    intro k6
    induction k6 with
    | zero => intros; exfalso; omega
    | succ k6 ih7 =>
      intro cy i h f5 H locs ls hfu8 hcy hi hc he e9 hI10 hv11 hu hl hP hD hS
      have ea := hv11.at t_x (by decide) ea
      have eb := hv11.at (lo_k5_2 hL _ t_x) (by decide) eb
      refine lv_iload hx hb d_NLongDivision_enlarge_5 (lv_at hl 0 rfl) ?_
      refine lv_aload_n hx hb d_NLongDivision_enlarge_7 rfl (lv_at hl 2 rfl) ?_
      refine pf_get (v := .int (nI n)) (C := "BigRunner$LongNumber") (T := FT4) (N := 3) hx hb (hw4 hB _) (fun _ h9 => h9) hown hK hP (lo_in hL t_x (by decide)) ea rfl 1 (by decide) (wd_191 hB _) rfl d_NLongDivision_enlarge_8 ?_
      refine lv_icmp_ge (tgt := 50) hx hb d_NLongDivision_enlarge_11 (by decide) (fun b12 => ?_) (fun b12 => ?_)
      · skip
        replace b12 := (nI_leI (a := n) (b := i) (by omega) (by omega)).mp b12
        refine lv_aload_n hx hb d_NLongDivision_enlarge_50 rfl (lv_at hl 4 rfl) ?_
        refine lv_aload_n hx hb d_NLongDivision_enlarge_51 rfl (lv_at hl 2 rfl) ?_
        refine pf_get (v := .int (nI n)) (C := "BigRunner$LongNumber") (T := FT4) (N := 3) hx hb (hw4 hB _) (fun _ h9 => h9) hown hK hP (lo_in hL t_x (by decide)) ea rfl 1 (by decide) (wd_191 hB _) rfl d_NLongDivision_enlarge_52 ?_
        refine lv_lload_n hx hb d_NLongDivision_enlarge_55 rfl (lv_at hl 1 rfl) ?_
        refine pf_l2iN hx hb d_NLongDivision_enlarge_56 ?_
        refine pf_iast (i := n) hx hb hK hP hD hS (lo_in hL t_R (by decide)) e9 (lo_t22 hL _ t_R) (by omega) (by decide) d_NLongDivision_enlarge_57 (fun f13 H locs e14 k15 hP hD hS => ?_)
        have ea := (k15 x (tg_ne t_x t_R (by decide))).trans ea
        have eb := (k15 (g.lk x 2) (tg_ne (lo_k5_2 hL _ t_x) t_R (by decide))).trans eb
        have hu : ∀ b, b ≠ R → f13 b = f b := fun b q0 => (k15 b q0).trans (hu b q0)
        have hv11 := hv11.st k15 t_R (by decide)
        have hk16 : ∀ b, b ≠ R → f13 b = f5 b := k15
        have c17 := lb_upd (n := 16) (i := n) (v := cy) hc (by omega)
        have hI18 := iv_1 hI10 hL t_R (by decide) hk16 (oc_22.mk t_R (⟨_, e14, c17⟩))
        exact pe_vret hx hb hr hlocks hK hP hD hS d_NLongDivision_enlarge_58 ⟨⟨_, e14, c17, (kv_upd (by omega)).trans (by have z : i = n := (by omega); subst z; exact he)⟩, hI18, hu⟩
      · skip
        replace b12 := mt (nI_leI (a := n) (b := i) (by omega) (by omega)).mpr b12
        refine lv_lload_n hx hb d_NLongDivision_enlarge_14 rfl (lv_at hl 1 rfl) ?_
        refine lv_aload_n hx hb d_NLongDivision_enlarge_15 rfl (lv_at hl 2 rfl) ?_
        refine pf_get (v := .ref (g.lk x 2)) (C := "BigRunner$LongNumber") (T := FT4) (N := 3) hx hb (hw4 hB _) (fun _ h9 => h9) hown hK hP (lo_in hL t_x (by decide)) ea rfl 2 (by decide) (wd_193 hB _) rfl d_NLongDivision_enlarge_16 ?_
        refine lv_iload hx hb d_NLongDivision_enlarge_19 (lv_at hl 0 rfl) ?_
        refine pf_iald (i := i) hx hb hK hP (lo_in hL (lo_k5_2 hL _ t_x) (by decide)) eb (lo_t23 hL _ (lo_k5_2 hL _ t_x)) (by omega) (by decide) d_NLongDivision_enlarge_21 ?_
        have hd19 := dg_lt cb (j := i) (by omega)
        refine lv_topi (fun z_ hz_ => ?_)
        obtain rfl : z_ = nI (dg hx9 i) := hz_.trans (dg_eq cb (by omega))
        refine pf_i2lN hx hb (by omega) d_NLongDivision_enlarge_22 ?_
        refine lv_iload_n hx hb d_NLongDivision_enlarge_23 rfl (lv_at hl 3 rfl) ?_
        refine pf_i2lN hx hb (by omega) d_NLongDivision_enlarge_24 ?_
        refine pf_lmulN (x := dg hx9 i) (y := sc) hx hb d_NLongDivision_enlarge_25 ?_
        have hm20 : dg hx9 i * sc ≤ 999999999 * sc := Nat.mul_le_mul_right sc (by omega)
        refine pf_laddN (x := cy) (y := (dg hx9 i) * sc) hx hb d_NLongDivision_enlarge_26 ?_
        refine lv_lstore_n (lv' := [(3, .long (nL (cy + ((dg hx9 i) * sc)))), (5, .int (nI i)), (0, .ref x), (1, .int (nI sc)), (2, .ref R)]) hx hb d_NLongDivision_enlarge_27 rfl hl (by decide) rfl (fun ls hl => ?_)
        refine lv_aload_n hx hb d_NLongDivision_enlarge_28 rfl (lv_at hl 4 rfl) ?_
        refine lv_iload hx hb d_NLongDivision_enlarge_29 (lv_at hl 1 rfl) ?_
        refine lv_lload_n hx hb d_NLongDivision_enlarge_31 rfl (lv_at hl 0 rfl) ?_
        refine lv_ldc2 (v := 1000000000) hx hb hown (wd_813 hB _) d_NLongDivision_enlarge_32 ?_
        refine lv_topl (fun z_ hz_ => ?_)
        obtain rfl : z_ = nL 1000000000 := hz_
        refine pf_lremN (x := cy + ((dg hx9 i) * sc)) (y := 1000000000) hx hb (by omega) (by omega) (by omega) d_NLongDivision_enlarge_35 ?_
        refine pf_l2iN hx hb d_NLongDivision_enlarge_36 ?_
        refine pf_iast (i := i) hx hb hK hP hD hS (lo_in hL t_R (by decide)) e9 (lo_t22 hL _ t_R) (by omega) (by decide) d_NLongDivision_enlarge_37 (fun f21 H locs e22 k23 hP hD hS => ?_)
        have ea := (k23 x (tg_ne t_x t_R (by decide))).trans ea
        have eb := (k23 (g.lk x 2) (tg_ne (lo_k5_2 hL _ t_x) t_R (by decide))).trans eb
        have hu : ∀ b, b ≠ R → f21 b = f b := fun b q0 => (k23 b q0).trans (hu b q0)
        have hv11 := hv11.st k23 t_R (by decide)
        have hk24 : ∀ b, b ≠ R → f21 b = f5 b := k23
        have c25 := lb_upd (n := 16) (i := i) (v := (cy + ((dg hx9 i) * sc)) % 1000000000) hc (by omega)
        refine lv_lload_n hx hb d_NLongDivision_enlarge_38 rfl (lv_at hl 0 rfl) ?_
        refine lv_ldc2 (v := 1000000000) hx hb hown (wd_813 hB _) d_NLongDivision_enlarge_39 ?_
        refine lv_topl (fun z_ hz_ => ?_)
        obtain rfl : z_ = nL 1000000000 := hz_
        refine pf_ldivN (x := cy + ((dg hx9 i) * sc)) (y := 1000000000) hx hb (by omega) (by omega) (by omega) d_NLongDivision_enlarge_42 ?_
        refine lv_lstore_n (lv' := [(3, .long (nL ((cy + ((dg hx9 i) * sc)) / 1000000000))), (5, .int (nI i)), (0, .ref x), (1, .int (nI sc)), (2, .ref R)]) hx hb d_NLongDivision_enlarge_43 rfl hl (by decide) rfl (fun ls hl => ?_)
        refine lv_iinc (k := 1) (v := nI (i + 1)) (lv' := [(5, .int (nI (i + 1))), (3, .long (nL ((cy + ((dg hx9 i) * sc)) / 1000000000))), (0, .ref x), (1, .int (nI sc)), (2, .ref R)]) hx hb d_NLongDivision_enlarge_44 hl rfl (by rw [nI_succ]; rfl) (by decide) rfl (fun ls hl => ?_)
        refine lv_goto (tgt := 5) hx hb d_NLongDivision_enlarge_47 (by decide) ?_
        have hI26 := iv_1 hI10 hL t_R (by decide) hk24 (oc_22.mk t_R (⟨_, e22, c25⟩))
        exact ih7 ((cy + ((dg hx9 i) * sc)) / 1000000000) (i + 1) (upd h i ((nI ((cy + ((dg hx9 i) * sc)) % 1000000000)))) f21 H locs ls (by omega) (by omega) (by omega) c25 (en_step he) e22 hI26 hv11 hu hl hP hD hS
  exact lp4 (n + 1) 0 0 h_2 f s.heap [] ls (by omega) (by omega) (by omega) c3 (by simp [kv]) e1 hI un.rf hu hl hP hD hS
set_option maxHeartbeats 4000000 in
set_option maxRecDepth 100000 in
theorem c_guess (l : Launch) (g : Lay) (sz : Nat) (f : Nat → va_E) (D : Nat) (pl : Nat) (n : Nat) (hU : Nat → Int32) (hV : Nat → Int32) (hL : LO g) (t_D : g.tg D = 4) (hI : OC g f) (ed : f D = .inr (3, [.ref (g.lk D 0), .ref (g.lk D 1), .int (nI n)])) (eU : f (g.lk D 0) = .inl (g.ac (g.lk D 0), 16, .inl hU)) (cU : ∀ i, i < 16 → ∃ k, k < 1000000000 ∧ hU i = nI k) (eV : f (g.lk D 1) = .inl (g.ac (g.lk D 1), 16, .inl hV)) (cV : ∀ i, i < 16 → ∃ k, k < 1000000000 ∧ hV i = nI k) (hn : 0 < n) (hp : pl + n ≤ 15) (hlt : kv (fun i => dg hU (pl + i)) (n + 1) < 1000000000 * kv (dg hV) n) (h4 : 1000000000 ≤ 4 * dg hV (n - 1)) : Met l ⟨"BigRunner$LongDivision", "guess", "(I)J"⟩ [Cond.code ⟨"BigRunner$LongDivision", "guess", "(I)J"⟩ prog_4_method_5_code 15 (some .long)] ({ frames := 0, cells := 0, slots := 0, locals := 0 }) (va_Pc [.ref D, .int (nI pl)] (pc_in g sz f)) (va_Ql (fun r f1 => (∃ k, k < 1000000000 ∧ kv (fun i => dg hU (pl + i)) (n + 1) < (k + 1) * kv (dg hV) n ∧ k * kv (dg hV) n < kv (fun i => dg hU (pl + i)) (n + 1) + kv (dg hV) n ∧ r = nL k) ∧ (f = f1)) (pc_out g sz) (pc_A g sz)) 0 0 (pc_A g sz) := by
  refine pe_ofW (cc := prog_4_method_5_code) (maxL := 15) (ret := (some .long)) (lv := [(0, .ref D), (1, .int (nI pl))]) (by decide) (Nat.le_of_ble_eq_true rfl) rfl ?_
  intro p e s m args below meth c ls hx hb hr hml hlocks hown hB hP hK hD hsz hS hl
  subst hsz
  have hu9 : ∀ i, i < n + 1 → (fun i => dg hU (pl + i)) i < 1000000000 := fun i hi => dg_lt cU (by omega)
  have hw9 : ∀ i, i < n → dg hV i < 1000000000 := fun i hi => dg_lt cV (by omega)
  have htp : dg hU (pl + n) ≤ dg hV (n - 1) := gs_top (u := fun i => dg hU (pl + i)) hn hu9 hw9 hlt
  have hd0 := gs_mk (u := fun i => dg hU (pl + i)) (w := dg hV) hn hu9 hw9
  refine lv_aload_n hx hb d_NLongDivision_guess_0 rfl (lv_at hl 0 rfl) ?_
  refine pf_get (v := .ref (g.lk D 1)) (C := "BigRunner$LongDivision") (T := FT3) (N := 3) hx hb (hw3 hB _) (fun _ h9 => h9) hown hK hP (lo_in hL t_D (by decide)) ed rfl 1 (by decide) (wd_320 hB _) rfl d_NLongDivision_guess_1 ?_
  refine lv_aload_n hx hb d_NLongDivision_guess_4 rfl (lv_at hl 0 rfl) ?_
  refine pf_get (v := .int (nI n)) (C := "BigRunner$LongDivision") (T := FT3) (N := 3) hx hb (hw3 hB _) (fun _ h9 => h9) hown hK hP (lo_in hL t_D (by decide)) ed rfl 2 (by decide) (wd_321 hB _) rfl d_NLongDivision_guess_5 ?_
  refine lv_iconst (v := nI 1) hx hb d_NLongDivision_guess_8 (by decide) ?_
  refine pf_isubN (x := n) (y := 1) hx hb (by omega) d_NLongDivision_guess_9 ?_
  refine pf_iald (i := n - 1) hx hb hK hP (lo_in hL (lo_k4_1 hL _ t_D) (by decide)) eV (lo_t22 hL _ (lo_k4_1 hL _ t_D)) (by omega) (by decide) d_NLongDivision_guess_10 ?_
  have hd1 := dg_lt cV (j := n - 1) (by omega)
  refine lv_topi (fun z_ hz_ => ?_)
  obtain rfl : z_ = nI (dg hV (n - 1)) := hz_.trans (dg_eq cV (by omega))
  refine pf_i2lN hx hb (by omega) d_NLongDivision_guess_11 ?_
  refine lv_lstore_n (lv' := [(2, .long (nL (dg hV (n - 1)))), (0, .ref D), (1, .int (nI pl))]) hx hb d_NLongDivision_guess_12 rfl hl (by decide) rfl (fun ls hl => ?_)
  refine lv_lload_n hx hb d_NLongDivision_guess_13 rfl (lv_at hl 0 rfl) ?_
  refine lv_lconst (v := nL 0) hx hb d_NLongDivision_guess_14 (by decide) ?_
  refine W.lcmp hx hb d_NLongDivision_guess_15 ?_
  refine lv_if_ne (tgt := 21) hx hb d_NLongDivision_guess_16 (by decide) (fun b2 => ?_) (fun b2 => ?_)
  · skip
    replace b2 := mt pl_eq.mpr b2
    replace b2 := mt (nL_eq (a := dg hV (n - 1)) (b := 0) (by omega) (by omega)).mpr b2
    refine lv_aload_n hx hb d_NLongDivision_guess_21 rfl (lv_at hl 1 rfl) ?_
    refine pf_get (v := .int (nI n)) (C := "BigRunner$LongDivision") (T := FT3) (N := 3) hx hb (hw3 hB _) (fun _ h9 => h9) hown hK hP (lo_in hL t_D (by decide)) ed rfl 2 (by decide) (wd_321 hB _) rfl d_NLongDivision_guess_22 ?_
    refine lv_iconst (v := nI 1) hx hb d_NLongDivision_guess_25 (by decide) ?_
    refine lv_icmp_le (tgt := 44) hx hb d_NLongDivision_guess_26 (by decide) (fun b3 => ?_) (fun b3 => ?_)
    · skip
      replace b3 := (nI_leI (a := n) (b := 1) (by omega) (by omega)).mp b3
      refine lv_lconst (v := nL 0) hx hb d_NLongDivision_guess_44 (by decide) ?_
      refine lv_lstore (lv' := [(4, .long (nL 0)), (2, .long (nL (dg hV (n - 1)))), (0, .ref D), (1, .int (nI pl))]) hx hb d_NLongDivision_guess_45 hl (by decide) rfl (fun ls hl => ?_)
      refine lv_aload_n hx hb d_NLongDivision_guess_47 rfl (lv_at hl 2 rfl) ?_
      refine pf_get (v := .int (nI n)) (C := "BigRunner$LongDivision") (T := FT3) (N := 3) hx hb (hw3 hB _) (fun _ h9 => h9) hown hK hP (lo_in hL t_D (by decide)) ed rfl 2 (by decide) (wd_321 hB _) rfl d_NLongDivision_guess_48 ?_
      refine lv_iconst (v := nI 1) hx hb d_NLongDivision_guess_51 (by decide) ?_
      refine lv_icmp_le (tgt := 72) hx hb d_NLongDivision_guess_52 (by decide) (fun b4 => ?_) (fun b4 => ?_)
      · skip
        replace b4 := (nI_leI (a := n) (b := 1) (by omega) (by omega)).mp b4
        refine lv_lconst (v := nL 0) hx hb d_NLongDivision_guess_72 (by decide) ?_
        refine lv_lstore (lv' := [(6, .long (nL 0)), (4, .long (nL 0)), (2, .long (nL (dg hV (n - 1)))), (0, .ref D), (1, .int (nI pl))]) hx hb d_NLongDivision_guess_73 hl (by decide) rfl (fun ls hl => ?_)
        refine lv_aload_n hx hb d_NLongDivision_guess_75 rfl (lv_at hl 3 rfl) ?_
        refine pf_get (v := .ref (g.lk D 0)) (C := "BigRunner$LongDivision") (T := FT3) (N := 3) hx hb (hw3 hB _) (fun _ h9 => h9) hown hK hP (lo_in hL t_D (by decide)) ed rfl 0 (by decide) (wd_319 hB _) rfl d_NLongDivision_guess_76 ?_
        refine lv_iload_n hx hb d_NLongDivision_guess_79 rfl (lv_at hl 4 rfl) ?_
        refine lv_aload_n hx hb d_NLongDivision_guess_80 rfl (lv_at hl 3 rfl) ?_
        refine pf_get (v := .int (nI n)) (C := "BigRunner$LongDivision") (T := FT3) (N := 3) hx hb (hw3 hB _) (fun _ h9 => h9) hown hK hP (lo_in hL t_D (by decide)) ed rfl 2 (by decide) (wd_321 hB _) rfl d_NLongDivision_guess_81 ?_
        refine pf_iaddN (x := pl) (y := n) hx hb d_NLongDivision_guess_84 ?_
        refine pf_iald (i := pl + n) hx hb hK hP (lo_in hL (lo_k4_0 hL _ t_D) (by decide)) eU (lo_t22 hL _ (lo_k4_0 hL _ t_D)) (by omega) (by decide) d_NLongDivision_guess_85 ?_
        have hd5 := dg_lt cU (j := pl + n) (by omega)
        refine lv_topi (fun z_ hz_ => ?_)
        obtain rfl : z_ = nI (dg hU (pl + n)) := hz_.trans (dg_eq cU (by omega))
        refine pf_i2lN hx hb (by omega) d_NLongDivision_guess_86 ?_
        refine lv_ldc2 (v := 1000000000) hx hb hown (wd_813 hB _) d_NLongDivision_guess_87 ?_
        refine lv_topl (fun z_ hz_ => ?_)
        obtain rfl : z_ = nL 1000000000 := hz_
        refine pf_lmulN (x := dg hU (pl + n)) (y := 1000000000) hx hb d_NLongDivision_guess_90 ?_
        refine lv_aload_n hx hb d_NLongDivision_guess_91 rfl (lv_at hl 3 rfl) ?_
        refine pf_get (v := .ref (g.lk D 0)) (C := "BigRunner$LongDivision") (T := FT3) (N := 3) hx hb (hw3 hB _) (fun _ h9 => h9) hown hK hP (lo_in hL t_D (by decide)) ed rfl 0 (by decide) (wd_319 hB _) rfl d_NLongDivision_guess_92 ?_
        refine lv_iload_n hx hb d_NLongDivision_guess_95 rfl (lv_at hl 4 rfl) ?_
        refine lv_aload_n hx hb d_NLongDivision_guess_96 rfl (lv_at hl 3 rfl) ?_
        refine pf_get (v := .int (nI n)) (C := "BigRunner$LongDivision") (T := FT3) (N := 3) hx hb (hw3 hB _) (fun _ h9 => h9) hown hK hP (lo_in hL t_D (by decide)) ed rfl 2 (by decide) (wd_321 hB _) rfl d_NLongDivision_guess_97 ?_
        refine pf_iaddN (x := pl) (y := n) hx hb d_NLongDivision_guess_100 ?_
        refine lv_iconst (v := nI 1) hx hb d_NLongDivision_guess_101 (by decide) ?_
        refine pf_isubN (x := pl + n) (y := 1) hx hb (by omega) d_NLongDivision_guess_102 ?_
        refine lv_topi (fun z_ hz_ => ?_)
        obtain rfl : z_ = nI (pl + (n - 1)) := hz_.trans (congrArg nI (show (pl + n) - 1 = pl + (n - 1) by omega))
        refine pf_iald (i := pl + (n - 1)) hx hb hK hP (lo_in hL (lo_k4_0 hL _ t_D) (by decide)) eU (lo_t22 hL _ (lo_k4_0 hL _ t_D)) (by omega) (by decide) d_NLongDivision_guess_103 ?_
        have hd6 := dg_lt cU (j := pl + (n - 1)) (by omega)
        refine lv_topi (fun z_ hz_ => ?_)
        obtain rfl : z_ = nI (dg hU (pl + (n - 1))) := hz_.trans (dg_eq cU (by omega))
        refine pf_i2lN hx hb (by omega) d_NLongDivision_guess_104 ?_
        refine pf_laddN (x := (dg hU (pl + n)) * 1000000000) (y := dg hU (pl + (n - 1))) hx hb d_NLongDivision_guess_105 ?_
        refine lv_lstore (lv' := [(8, .long (nL (((dg hU (pl + n)) * 1000000000) + (dg hU (pl + (n - 1)))))), (6, .long (nL 0)), (4, .long (nL 0)), (2, .long (nL (dg hV (n - 1)))), (0, .ref D), (1, .int (nI pl))]) hx hb d_NLongDivision_guess_106 hl (by decide) rfl (fun ls hl => ?_)
        refine lv_lload hx hb d_NLongDivision_guess_108 (lv_at hl 0 rfl) ?_
        refine lv_lload_n hx hb d_NLongDivision_guess_110 rfl (lv_at hl 3 rfl) ?_
        refine pf_ldivN (x := ((dg hU (pl + n)) * 1000000000) + (dg hU (pl + (n - 1)))) (y := dg hV (n - 1)) hx hb (by omega) (by omega) (by omega) d_NLongDivision_guess_111 ?_
        refine lv_lstore (lv' := [(10, .long (nL ((((dg hU (pl + n)) * 1000000000) + (dg hU (pl + (n - 1)))) / (dg hV (n - 1))))), (8, .long (nL (((dg hU (pl + n)) * 1000000000) + (dg hU (pl + (n - 1)))))), (6, .long (nL 0)), (4, .long (nL 0)), (2, .long (nL (dg hV (n - 1)))), (0, .ref D), (1, .int (nI pl))]) hx hb d_NLongDivision_guess_112 hl (by decide) rfl (fun ls hl => ?_)
        refine lv_lload hx hb d_NLongDivision_guess_114 (lv_at hl 1 rfl) ?_
        refine lv_lload_n hx hb d_NLongDivision_guess_116 rfl (lv_at hl 4 rfl) ?_
        refine pf_lremN (x := ((dg hU (pl + n)) * 1000000000) + (dg hU (pl + (n - 1)))) (y := dg hV (n - 1)) hx hb (by omega) (by omega) (by omega) d_NLongDivision_guess_117 ?_
        refine lv_lstore (lv' := [(12, .long (nL ((((dg hU (pl + n)) * 1000000000) + (dg hU (pl + (n - 1)))) % (dg hV (n - 1))))), (10, .long (nL ((((dg hU (pl + n)) * 1000000000) + (dg hU (pl + (n - 1)))) / (dg hV (n - 1))))), (8, .long (nL (((dg hU (pl + n)) * 1000000000) + (dg hU (pl + (n - 1)))))), (6, .long (nL 0)), (4, .long (nL 0)), (2, .long (nL (dg hV (n - 1)))), (0, .ref D), (1, .int (nI pl))]) hx hb d_NLongDivision_guess_118 hl (by decide) rfl (fun ls hl => ?_)
        refine lv_iconst (v := nI 0) hx hb d_NLongDivision_guess_120 (by decide) ?_
        refine lv_istore (lv' := [(14, .int (nI 0)), (12, .long (nL ((((dg hU (pl + n)) * 1000000000) + (dg hU (pl + (n - 1)))) % (dg hV (n - 1))))), (10, .long (nL ((((dg hU (pl + n)) * 1000000000) + (dg hU (pl + (n - 1)))) / (dg hV (n - 1))))), (8, .long (nL (((dg hU (pl + n)) * 1000000000) + (dg hU (pl + (n - 1)))))), (6, .long (nL 0)), (4, .long (nL 0)), (2, .long (nL (dg hV (n - 1)))), (0, .ref D), (1, .int (nI pl))]) hx hb d_NLongDivision_guess_121 hl (by decide) rfl (fun ls hl => ?_)
        rw [if_neg (by omega), if_neg (by omega)] at hd0
        have hd : gsD (kv (fun i => dg hU (pl + i)) (n + 1)) (kv (dg hV) n) (dg hV (n - 1)) 0 0 (dg hU (pl + n) * 1000000000 + dg hU (pl + (n - 1))) := hd0
        have hg0 : gsI (kv (fun i => dg hU (pl + i)) (n + 1)) (kv (dg hV) n) (dg hV (n - 1)) (dg hU (pl + n) * 1000000000 + dg hU (pl + (n - 1))) ((dg hU (pl + n) * 1000000000 + dg hU (pl + (n - 1))) / dg hV (n - 1)) ((dg hU (pl + n) * 1000000000 + dg hU (pl + (n - 1))) % dg hV (n - 1)) := gs_first (u := fun i => dg hU (pl + i)) hn hu9 hw9 (by omega)
        have hg1 := Nat.div_le_self (dg hU (pl + n) * 1000000000 + dg hU (pl + (n - 1))) (dg hV (n - 1))
        have hg2 := Nat.mod_lt (dg hU (pl + n) * 1000000000 + dg hU (pl + (n - 1))) (show 0 < dg hV (n - 1) by omega)
        have hs2 : 0 < 1000000000 := by omega
        have hs3 : 0 < 1000000000 := by omega
        have hb9 : dg hU (pl + (n - 1)) < 1000000000 := by omega
        have lp7 : ∀ (k9 : Nat) (gg : Nat) (lf : Nat) (ct : Nat) (H : Heap) (locs : List Loc) (ls : Array Slot), (4 < ct + k9) → (gsI (kv (fun i => dg hU (pl + i)) (n + 1)) (kv (dg hV) n) (dg hV (n - 1)) (dg hU (pl + n) * 1000000000 + dg hU (pl + (n - 1))) gg lf) → (ct ≤ 4) → (1000000000 * ct ≤ 4 * lf) → (lf < 1000000000 * (ct + 1)) → (gg ≤ 1000000000000000000) → lv_has ls 15 [(14, .int (nI ct)), (12, .long (nL lf)), (10, .long (nL gg)), (8, .long (nL (((dg hU (pl + n)) * 1000000000) + (dg hU (pl + (n - 1)))))), (6, .long (nL 0)), (4, .long (nL 0)), (2, .long (nL (dg hV (n - 1)))), (0, .ref D), (1, .int (nI pl))] → va_P g.D vcl (va_pl g.LP f) H → va_D (pc_A g s.heap.size) (va_pl g.LP f) → va_S (pc_A g s.heap.size) s.heap H locs → W p l e ({ frames := 0, cells := 0, slots := 0, locals := 0 }) s m args below meth c H locs 0 0 (MQ below (va_Ql (fun r f1 => (∃ k, k < 1000000000 ∧ kv (fun i => dg hU (pl + i)) (n + 1) < (k + 1) * kv (dg hV) n ∧ k * kv (dg hV) n < kv (fun i => dg hU (pl + i)) (n + 1) + kv (dg hV) n ∧ r = nL k) ∧ (f = f1)) (pc_out g s.heap.size) (pc_A g s.heap.size)) args s 0 0 (pc_A g s.heap.size)) (F0 m 123 ls []) := by
          intro k9
          induction k9 with
          | zero => intros; exfalso; omega
          | succ k9 ih10 =>
            intro gg lf ct H locs ls hfu11 hgi hct hcl hlb hgb hl hP hD hS
            refine lv_iload hx hb d_NLongDivision_guess_123 (lv_at hl 0 rfl) ?_
            refine lv_iconst (v := nI 4) hx hb d_NLongDivision_guess_125 (by decide) ?_
            refine lv_icmp_ge (tgt := 186) hx hb d_NLongDivision_guess_126 (by decide) (fun b14 => ?_) (fun b14 => ?_)
            · skip
              replace b14 := (nI_leI (a := 4) (b := ct) (by omega) (by omega)).mp b14
              refine lv_lload hx hb d_NLongDivision_guess_186 (lv_at hl 2 rfl) ?_
              exact pe_lret hx hb hr hlocks hK hP hD hS d_NLongDivision_guess_188 ⟨⟨_, (gs_big hd (by omega) hgi htp hb9 hs2 (by omega)).1, hgi.2, (gs_big hd (by omega) hgi htp hb9 hs2 (by omega)).2, rfl⟩, rfl⟩
            · skip
              replace b14 := mt (nI_leI (a := 4) (b := ct) (by omega) (by omega)).mpr b14
              refine lv_lload hx hb d_NLongDivision_guess_129 (lv_at hl 1 rfl) ?_
              refine lv_ldc2 (v := 1000000000) hx hb hown (wd_813 hB _) d_NLongDivision_guess_131 ?_
              refine lv_topl (fun z_ hz_ => ?_)
              obtain rfl : z_ = nL 1000000000 := hz_
              refine W.lcmp hx hb d_NLongDivision_guess_134 ?_
              refine lv_if_ge (tgt := 186) hx hb d_NLongDivision_guess_135 (by decide) (fun b15 => ?_) (fun b15 => ?_)
              · skip
                replace b15 := pl_ge.mp b15
                replace b15 := (nL_le (a := 1000000000) (b := lf) (by omega) (by omega)).mp b15
                refine lv_lload hx hb d_NLongDivision_guess_186 (lv_at hl 2 rfl) ?_
                exact pe_lret hx hb hr hlocks hK hP hD hS d_NLongDivision_guess_188 ⟨⟨_, (gs_big hd (by omega) hgi htp hb9 hs2 (by omega)).1, hgi.2, (gs_big hd (by omega) hgi htp hb9 hs2 (by omega)).2, rfl⟩, rfl⟩
              · skip
                replace b15 := mt pl_ge.mpr b15
                replace b15 := mt (nL_le (a := 1000000000) (b := lf) (by omega) (by omega)).mpr b15
                refine lv_lload hx hb d_NLongDivision_guess_138 (lv_at hl 2 rfl) ?_
                refine lv_ldc2 (v := 1000000000) hx hb hown (wd_813 hB _) d_NLongDivision_guess_140 ?_
                refine lv_topl (fun z_ hz_ => ?_)
                obtain rfl : z_ = nL 1000000000 := hz_
                refine W.lcmp hx hb d_NLongDivision_guess_143 ?_
                refine lv_if_ge (tgt := 168) hx hb d_NLongDivision_guess_144 (by decide) (fun b16 => ?_) (fun b16 => ?_)
                · skip
                  replace b16 := pl_ge.mp b16
                  replace b16 := (nL_le (a := 1000000000) (b := gg) (by omega) (by omega)).mp b16
                  obtain ⟨hg5, hgi2⟩ := gs_d hgi (kn_g2 hlt (by omega))
                  refine lv_lload hx hb d_NLongDivision_guess_168 (lv_at hl 2 rfl) ?_
                  refine lv_lconst (v := nL 1) hx hb d_NLongDivision_guess_170 (by decide) ?_
                  refine pf_lsubN (x := gg) (y := 1) hx hb (by omega) d_NLongDivision_guess_171 ?_
                  refine lv_lstore (lv' := [(10, .long (nL (gg - 1))), (14, .int (nI ct)), (12, .long (nL lf)), (8, .long (nL (((dg hU (pl + n)) * 1000000000) + (dg hU (pl + (n - 1)))))), (6, .long (nL 0)), (4, .long (nL 0)), (2, .long (nL (dg hV (n - 1)))), (0, .ref D), (1, .int (nI pl))]) hx hb d_NLongDivision_guess_172 hl (by decide) rfl (fun ls hl => ?_)
                  refine lv_lload hx hb d_NLongDivision_guess_174 (lv_at hl 2 rfl) ?_
                  refine lv_lload_n hx hb d_NLongDivision_guess_176 rfl (lv_at hl 6 rfl) ?_
                  refine pf_laddN (x := lf) (y := dg hV (n - 1)) hx hb d_NLongDivision_guess_177 ?_
                  refine lv_lstore (lv' := [(12, .long (nL (lf + (dg hV (n - 1))))), (10, .long (nL (gg - 1))), (14, .int (nI ct)), (8, .long (nL (((dg hU (pl + n)) * 1000000000) + (dg hU (pl + (n - 1)))))), (6, .long (nL 0)), (4, .long (nL 0)), (2, .long (nL (dg hV (n - 1)))), (0, .ref D), (1, .int (nI pl))]) hx hb d_NLongDivision_guess_178 hl (by decide) rfl (fun ls hl => ?_)
                  refine lv_iinc (k := 2) (v := nI (ct + 1)) (lv' := [(14, .int (nI (ct + 1))), (12, .long (nL (lf + (dg hV (n - 1))))), (10, .long (nL (gg - 1))), (8, .long (nL (((dg hU (pl + n)) * 1000000000) + (dg hU (pl + (n - 1)))))), (6, .long (nL 0)), (4, .long (nL 0)), (2, .long (nL (dg hV (n - 1)))), (0, .ref D), (1, .int (nI pl))]) hx hb d_NLongDivision_guess_180 hl rfl (by rw [nI_succ]; rfl) (by decide) rfl (fun ls hl => ?_)
                  refine lv_goto (tgt := 123) hx hb d_NLongDivision_guess_183 (by decide) ?_
                  exact ih10 (gg - 1) (lf + (dg hV (n - 1))) (ct + 1) H locs ls (by omega) hgi2 (by omega) (by omega) (by omega) (by omega) hl hP hD hS
                · skip
                  replace b16 := mt pl_ge.mpr b16
                  replace b16 := mt (nL_le (a := 1000000000) (b := gg) (by omega) (by omega)).mpr b16
                  refine lv_lload hx hb d_NLongDivision_guess_147 (lv_at hl 2 rfl) ?_
                  refine lv_lload hx hb d_NLongDivision_guess_149 (lv_at hl 5 rfl) ?_
                  refine pf_lmulN (x := gg) (y := 0) hx hb d_NLongDivision_guess_151 ?_
                  have hm17 : gg * 0 ≤ 999999999 * 999999999 := Nat.mul_le_mul (by omega) (by omega)
                  refine lv_lload hx hb d_NLongDivision_guess_152 (lv_at hl 1 rfl) ?_
                  refine lv_ldc2 (v := 1000000000) hx hb hown (wd_813 hB _) d_NLongDivision_guess_154 ?_
                  refine lv_topl (fun z_ hz_ => ?_)
                  obtain rfl : z_ = nL 1000000000 := hz_
                  refine pf_lmulN (x := lf) (y := 1000000000) hx hb d_NLongDivision_guess_157 ?_
                  refine lv_lload hx hb d_NLongDivision_guess_158 (lv_at hl 4 rfl) ?_
                  refine pf_laddN (x := lf * 1000000000) (y := 0) hx hb d_NLongDivision_guess_160 ?_
                  refine W.lcmp hx hb d_NLongDivision_guess_161 ?_
                  refine lv_if_gt (tgt := 168) hx hb d_NLongDivision_guess_162 (by decide) (fun b18 => ?_) (fun b18 => ?_)
                  · skip
                    replace b18 := pl_gt.mp b18
                    replace b18 := (nL_lt (a := (lf * 1000000000) + 0) (b := gg * 0) (by omega) (by omega)).mp b18
                    obtain ⟨hg5, hgi2⟩ := gs_d hgi (gs_no hd hgi (by omega))
                    refine lv_lload hx hb d_NLongDivision_guess_168 (lv_at hl 2 rfl) ?_
                    refine lv_lconst (v := nL 1) hx hb d_NLongDivision_guess_170 (by decide) ?_
                    refine pf_lsubN (x := gg) (y := 1) hx hb (by omega) d_NLongDivision_guess_171 ?_
                    refine lv_lstore (lv' := [(10, .long (nL (gg - 1))), (14, .int (nI ct)), (12, .long (nL lf)), (8, .long (nL (((dg hU (pl + n)) * 1000000000) + (dg hU (pl + (n - 1)))))), (6, .long (nL 0)), (4, .long (nL 0)), (2, .long (nL (dg hV (n - 1)))), (0, .ref D), (1, .int (nI pl))]) hx hb d_NLongDivision_guess_172 hl (by decide) rfl (fun ls hl => ?_)
                    refine lv_lload hx hb d_NLongDivision_guess_174 (lv_at hl 2 rfl) ?_
                    refine lv_lload_n hx hb d_NLongDivision_guess_176 rfl (lv_at hl 6 rfl) ?_
                    refine pf_laddN (x := lf) (y := dg hV (n - 1)) hx hb d_NLongDivision_guess_177 ?_
                    refine lv_lstore (lv' := [(12, .long (nL (lf + (dg hV (n - 1))))), (10, .long (nL (gg - 1))), (14, .int (nI ct)), (8, .long (nL (((dg hU (pl + n)) * 1000000000) + (dg hU (pl + (n - 1)))))), (6, .long (nL 0)), (4, .long (nL 0)), (2, .long (nL (dg hV (n - 1)))), (0, .ref D), (1, .int (nI pl))]) hx hb d_NLongDivision_guess_178 hl (by decide) rfl (fun ls hl => ?_)
                    refine lv_iinc (k := 2) (v := nI (ct + 1)) (lv' := [(14, .int (nI (ct + 1))), (12, .long (nL (lf + (dg hV (n - 1))))), (10, .long (nL (gg - 1))), (8, .long (nL (((dg hU (pl + n)) * 1000000000) + (dg hU (pl + (n - 1)))))), (6, .long (nL 0)), (4, .long (nL 0)), (2, .long (nL (dg hV (n - 1)))), (0, .ref D), (1, .int (nI pl))]) hx hb d_NLongDivision_guess_180 hl rfl (by rw [nI_succ]; rfl) (by decide) rfl (fun ls hl => ?_)
                    refine lv_goto (tgt := 123) hx hb d_NLongDivision_guess_183 (by decide) ?_
                    exact ih10 (gg - 1) (lf + (dg hV (n - 1))) (ct + 1) H locs ls (by omega) hgi2 (by omega) (by omega) (by omega) (by omega) hl hP hD hS
                  · skip
                    replace b18 := mt pl_gt.mpr b18
                    replace b18 := mt (nL_lt (a := (lf * 1000000000) + 0) (b := gg * 0) (by omega) (by omega)).mpr b18
                    refine lv_lload hx hb d_NLongDivision_guess_165 (lv_at hl 2 rfl) ?_
                    exact pe_lret hx hb hr hlocks hK hP hD hS d_NLongDivision_guess_167 ⟨⟨_, by omega, hgi.2, gs_yes hd (by omega) hgi (by omega) (by omega), rfl⟩, rfl⟩
        exact lp7 5 ((((dg hU (pl + n)) * 1000000000) + (dg hU (pl + (n - 1)))) / (dg hV (n - 1))) ((((dg hU (pl + n)) * 1000000000) + (dg hU (pl + (n - 1)))) % (dg hV (n - 1))) 0 s.heap [] ls (by omega) hg0 (by omega) (by omega) (by omega) (by omega) hl hP hD hS
      · skip
        replace b4 := mt (nI_leI (a := n) (b := 1) (by omega) (by omega)).mpr b4
        exfalso; omega
    · skip
      replace b3 := mt (nI_leI (a := n) (b := 1) (by omega) (by omega)).mpr b3
      refine lv_aload_n hx hb d_NLongDivision_guess_29 rfl (lv_at hl 1 rfl) ?_
      refine pf_get (v := .ref (g.lk D 1)) (C := "BigRunner$LongDivision") (T := FT3) (N := 3) hx hb (hw3 hB _) (fun _ h9 => h9) hown hK hP (lo_in hL t_D (by decide)) ed rfl 1 (by decide) (wd_320 hB _) rfl d_NLongDivision_guess_30 ?_
      refine lv_aload_n hx hb d_NLongDivision_guess_33 rfl (lv_at hl 1 rfl) ?_
      refine pf_get (v := .int (nI n)) (C := "BigRunner$LongDivision") (T := FT3) (N := 3) hx hb (hw3 hB _) (fun _ h9 => h9) hown hK hP (lo_in hL t_D (by decide)) ed rfl 2 (by decide) (wd_321 hB _) rfl d_NLongDivision_guess_34 ?_
      refine lv_iconst (v := nI 2) hx hb d_NLongDivision_guess_37 (by decide) ?_
      refine pf_isubN (x := n) (y := 2) hx hb (by omega) d_NLongDivision_guess_38 ?_
      refine pf_iald (i := n - 2) hx hb hK hP (lo_in hL (lo_k4_1 hL _ t_D) (by decide)) eV (lo_t22 hL _ (lo_k4_1 hL _ t_D)) (by omega) (by decide) d_NLongDivision_guess_39 ?_
      have hd19 := dg_lt cV (j := n - 2) (by omega)
      refine lv_topi (fun z_ hz_ => ?_)
      obtain rfl : z_ = nI (dg hV (n - 2)) := hz_.trans (dg_eq cV (by omega))
      refine pf_i2lN hx hb (by omega) d_NLongDivision_guess_40 ?_
      refine lv_goto (tgt := 45) hx hb d_NLongDivision_guess_41 (by decide) ?_
      refine lv_lstore (lv' := [(4, .long (nL (dg hV (n - 2)))), (2, .long (nL (dg hV (n - 1)))), (0, .ref D), (1, .int (nI pl))]) hx hb d_NLongDivision_guess_45 hl (by decide) rfl (fun ls hl => ?_)
      refine lv_aload_n hx hb d_NLongDivision_guess_47 rfl (lv_at hl 2 rfl) ?_
      refine pf_get (v := .int (nI n)) (C := "BigRunner$LongDivision") (T := FT3) (N := 3) hx hb (hw3 hB _) (fun _ h9 => h9) hown hK hP (lo_in hL t_D (by decide)) ed rfl 2 (by decide) (wd_321 hB _) rfl d_NLongDivision_guess_48 ?_
      refine lv_iconst (v := nI 1) hx hb d_NLongDivision_guess_51 (by decide) ?_
      refine lv_icmp_le (tgt := 72) hx hb d_NLongDivision_guess_52 (by decide) (fun b20 => ?_) (fun b20 => ?_)
      · skip
        replace b20 := (nI_leI (a := n) (b := 1) (by omega) (by omega)).mp b20
        exfalso; omega
      · skip
        replace b20 := mt (nI_leI (a := n) (b := 1) (by omega) (by omega)).mpr b20
        refine lv_aload_n hx hb d_NLongDivision_guess_55 rfl (lv_at hl 2 rfl) ?_
        refine pf_get (v := .ref (g.lk D 0)) (C := "BigRunner$LongDivision") (T := FT3) (N := 3) hx hb (hw3 hB _) (fun _ h9 => h9) hown hK hP (lo_in hL t_D (by decide)) ed rfl 0 (by decide) (wd_319 hB _) rfl d_NLongDivision_guess_56 ?_
        refine lv_iload_n hx hb d_NLongDivision_guess_59 rfl (lv_at hl 3 rfl) ?_
        refine lv_aload_n hx hb d_NLongDivision_guess_60 rfl (lv_at hl 2 rfl) ?_
        refine pf_get (v := .int (nI n)) (C := "BigRunner$LongDivision") (T := FT3) (N := 3) hx hb (hw3 hB _) (fun _ h9 => h9) hown hK hP (lo_in hL t_D (by decide)) ed rfl 2 (by decide) (wd_321 hB _) rfl d_NLongDivision_guess_61 ?_
        refine pf_iaddN (x := pl) (y := n) hx hb d_NLongDivision_guess_64 ?_
        refine lv_iconst (v := nI 2) hx hb d_NLongDivision_guess_65 (by decide) ?_
        refine pf_isubN (x := pl + n) (y := 2) hx hb (by omega) d_NLongDivision_guess_66 ?_
        refine lv_topi (fun z_ hz_ => ?_)
        obtain rfl : z_ = nI (pl + (n - 2)) := hz_.trans (congrArg nI (show (pl + n) - 2 = pl + (n - 2) by omega))
        refine pf_iald (i := pl + (n - 2)) hx hb hK hP (lo_in hL (lo_k4_0 hL _ t_D) (by decide)) eU (lo_t22 hL _ (lo_k4_0 hL _ t_D)) (by omega) (by decide) d_NLongDivision_guess_67 ?_
        have hd21 := dg_lt cU (j := pl + (n - 2)) (by omega)
        refine lv_topi (fun z_ hz_ => ?_)
        obtain rfl : z_ = nI (dg hU (pl + (n - 2))) := hz_.trans (dg_eq cU (by omega))
        refine pf_i2lN hx hb (by omega) d_NLongDivision_guess_68 ?_
        refine lv_goto (tgt := 73) hx hb d_NLongDivision_guess_69 (by decide) ?_
        refine lv_lstore (lv' := [(6, .long (nL (dg hU (pl + (n - 2))))), (4, .long (nL (dg hV (n - 2)))), (2, .long (nL (dg hV (n - 1)))), (0, .ref D), (1, .int (nI pl))]) hx hb d_NLongDivision_guess_73 hl (by decide) rfl (fun ls hl => ?_)
        refine lv_aload_n hx hb d_NLongDivision_guess_75 rfl (lv_at hl 3 rfl) ?_
        refine pf_get (v := .ref (g.lk D 0)) (C := "BigRunner$LongDivision") (T := FT3) (N := 3) hx hb (hw3 hB _) (fun _ h9 => h9) hown hK hP (lo_in hL t_D (by decide)) ed rfl 0 (by decide) (wd_319 hB _) rfl d_NLongDivision_guess_76 ?_
        refine lv_iload_n hx hb d_NLongDivision_guess_79 rfl (lv_at hl 4 rfl) ?_
        refine lv_aload_n hx hb d_NLongDivision_guess_80 rfl (lv_at hl 3 rfl) ?_
        refine pf_get (v := .int (nI n)) (C := "BigRunner$LongDivision") (T := FT3) (N := 3) hx hb (hw3 hB _) (fun _ h9 => h9) hown hK hP (lo_in hL t_D (by decide)) ed rfl 2 (by decide) (wd_321 hB _) rfl d_NLongDivision_guess_81 ?_
        refine pf_iaddN (x := pl) (y := n) hx hb d_NLongDivision_guess_84 ?_
        refine pf_iald (i := pl + n) hx hb hK hP (lo_in hL (lo_k4_0 hL _ t_D) (by decide)) eU (lo_t22 hL _ (lo_k4_0 hL _ t_D)) (by omega) (by decide) d_NLongDivision_guess_85 ?_
        have hd22 := dg_lt cU (j := pl + n) (by omega)
        refine lv_topi (fun z_ hz_ => ?_)
        obtain rfl : z_ = nI (dg hU (pl + n)) := hz_.trans (dg_eq cU (by omega))
        refine pf_i2lN hx hb (by omega) d_NLongDivision_guess_86 ?_
        refine lv_ldc2 (v := 1000000000) hx hb hown (wd_813 hB _) d_NLongDivision_guess_87 ?_
        refine lv_topl (fun z_ hz_ => ?_)
        obtain rfl : z_ = nL 1000000000 := hz_
        refine pf_lmulN (x := dg hU (pl + n)) (y := 1000000000) hx hb d_NLongDivision_guess_90 ?_
        refine lv_aload_n hx hb d_NLongDivision_guess_91 rfl (lv_at hl 3 rfl) ?_
        refine pf_get (v := .ref (g.lk D 0)) (C := "BigRunner$LongDivision") (T := FT3) (N := 3) hx hb (hw3 hB _) (fun _ h9 => h9) hown hK hP (lo_in hL t_D (by decide)) ed rfl 0 (by decide) (wd_319 hB _) rfl d_NLongDivision_guess_92 ?_
        refine lv_iload_n hx hb d_NLongDivision_guess_95 rfl (lv_at hl 4 rfl) ?_
        refine lv_aload_n hx hb d_NLongDivision_guess_96 rfl (lv_at hl 3 rfl) ?_
        refine pf_get (v := .int (nI n)) (C := "BigRunner$LongDivision") (T := FT3) (N := 3) hx hb (hw3 hB _) (fun _ h9 => h9) hown hK hP (lo_in hL t_D (by decide)) ed rfl 2 (by decide) (wd_321 hB _) rfl d_NLongDivision_guess_97 ?_
        refine pf_iaddN (x := pl) (y := n) hx hb d_NLongDivision_guess_100 ?_
        refine lv_iconst (v := nI 1) hx hb d_NLongDivision_guess_101 (by decide) ?_
        refine pf_isubN (x := pl + n) (y := 1) hx hb (by omega) d_NLongDivision_guess_102 ?_
        refine lv_topi (fun z_ hz_ => ?_)
        obtain rfl : z_ = nI (pl + (n - 1)) := hz_.trans (congrArg nI (show (pl + n) - 1 = pl + (n - 1) by omega))
        refine pf_iald (i := pl + (n - 1)) hx hb hK hP (lo_in hL (lo_k4_0 hL _ t_D) (by decide)) eU (lo_t22 hL _ (lo_k4_0 hL _ t_D)) (by omega) (by decide) d_NLongDivision_guess_103 ?_
        have hd23 := dg_lt cU (j := pl + (n - 1)) (by omega)
        refine lv_topi (fun z_ hz_ => ?_)
        obtain rfl : z_ = nI (dg hU (pl + (n - 1))) := hz_.trans (dg_eq cU (by omega))
        refine pf_i2lN hx hb (by omega) d_NLongDivision_guess_104 ?_
        refine pf_laddN (x := (dg hU (pl + n)) * 1000000000) (y := dg hU (pl + (n - 1))) hx hb d_NLongDivision_guess_105 ?_
        refine lv_lstore (lv' := [(8, .long (nL (((dg hU (pl + n)) * 1000000000) + (dg hU (pl + (n - 1)))))), (6, .long (nL (dg hU (pl + (n - 2))))), (4, .long (nL (dg hV (n - 2)))), (2, .long (nL (dg hV (n - 1)))), (0, .ref D), (1, .int (nI pl))]) hx hb d_NLongDivision_guess_106 hl (by decide) rfl (fun ls hl => ?_)
        refine lv_lload hx hb d_NLongDivision_guess_108 (lv_at hl 0 rfl) ?_
        refine lv_lload_n hx hb d_NLongDivision_guess_110 rfl (lv_at hl 3 rfl) ?_
        refine pf_ldivN (x := ((dg hU (pl + n)) * 1000000000) + (dg hU (pl + (n - 1)))) (y := dg hV (n - 1)) hx hb (by omega) (by omega) (by omega) d_NLongDivision_guess_111 ?_
        refine lv_lstore (lv' := [(10, .long (nL ((((dg hU (pl + n)) * 1000000000) + (dg hU (pl + (n - 1)))) / (dg hV (n - 1))))), (8, .long (nL (((dg hU (pl + n)) * 1000000000) + (dg hU (pl + (n - 1)))))), (6, .long (nL (dg hU (pl + (n - 2))))), (4, .long (nL (dg hV (n - 2)))), (2, .long (nL (dg hV (n - 1)))), (0, .ref D), (1, .int (nI pl))]) hx hb d_NLongDivision_guess_112 hl (by decide) rfl (fun ls hl => ?_)
        refine lv_lload hx hb d_NLongDivision_guess_114 (lv_at hl 1 rfl) ?_
        refine lv_lload_n hx hb d_NLongDivision_guess_116 rfl (lv_at hl 4 rfl) ?_
        refine pf_lremN (x := ((dg hU (pl + n)) * 1000000000) + (dg hU (pl + (n - 1)))) (y := dg hV (n - 1)) hx hb (by omega) (by omega) (by omega) d_NLongDivision_guess_117 ?_
        refine lv_lstore (lv' := [(12, .long (nL ((((dg hU (pl + n)) * 1000000000) + (dg hU (pl + (n - 1)))) % (dg hV (n - 1))))), (10, .long (nL ((((dg hU (pl + n)) * 1000000000) + (dg hU (pl + (n - 1)))) / (dg hV (n - 1))))), (8, .long (nL (((dg hU (pl + n)) * 1000000000) + (dg hU (pl + (n - 1)))))), (6, .long (nL (dg hU (pl + (n - 2))))), (4, .long (nL (dg hV (n - 2)))), (2, .long (nL (dg hV (n - 1)))), (0, .ref D), (1, .int (nI pl))]) hx hb d_NLongDivision_guess_118 hl (by decide) rfl (fun ls hl => ?_)
        refine lv_iconst (v := nI 0) hx hb d_NLongDivision_guess_120 (by decide) ?_
        refine lv_istore (lv' := [(14, .int (nI 0)), (12, .long (nL ((((dg hU (pl + n)) * 1000000000) + (dg hU (pl + (n - 1)))) % (dg hV (n - 1))))), (10, .long (nL ((((dg hU (pl + n)) * 1000000000) + (dg hU (pl + (n - 1)))) / (dg hV (n - 1))))), (8, .long (nL (((dg hU (pl + n)) * 1000000000) + (dg hU (pl + (n - 1)))))), (6, .long (nL (dg hU (pl + (n - 2))))), (4, .long (nL (dg hV (n - 2)))), (2, .long (nL (dg hV (n - 1)))), (0, .ref D), (1, .int (nI pl))]) hx hb d_NLongDivision_guess_121 hl (by decide) rfl (fun ls hl => ?_)
        rw [if_pos (by omega), if_pos (by omega)] at hd0
        have hd : gsD (kv (fun i => dg hU (pl + i)) (n + 1)) (kv (dg hV) n) (dg hV (n - 1)) (dg hV (n - 2)) (dg hU (pl + (n - 2))) (dg hU (pl + n) * 1000000000 + dg hU (pl + (n - 1))) := hd0
        have hg0 : gsI (kv (fun i => dg hU (pl + i)) (n + 1)) (kv (dg hV) n) (dg hV (n - 1)) (dg hU (pl + n) * 1000000000 + dg hU (pl + (n - 1))) ((dg hU (pl + n) * 1000000000 + dg hU (pl + (n - 1))) / dg hV (n - 1)) ((dg hU (pl + n) * 1000000000 + dg hU (pl + (n - 1))) % dg hV (n - 1)) := gs_first (u := fun i => dg hU (pl + i)) hn hu9 hw9 (by omega)
        have hg1 := Nat.div_le_self (dg hU (pl + n) * 1000000000 + dg hU (pl + (n - 1))) (dg hV (n - 1))
        have hg2 := Nat.mod_lt (dg hU (pl + n) * 1000000000 + dg hU (pl + (n - 1))) (show 0 < dg hV (n - 1) by omega)
        have hs2 : (dg hV (n - 2)) < 1000000000 := by omega
        have hs3 : (dg hU (pl + (n - 2))) < 1000000000 := by omega
        have hb9 : dg hU (pl + (n - 1)) < 1000000000 := by omega
        have lp24 : ∀ (k26 : Nat) (gg : Nat) (lf : Nat) (ct : Nat) (H : Heap) (locs : List Loc) (ls : Array Slot), (4 < ct + k26) → (gsI (kv (fun i => dg hU (pl + i)) (n + 1)) (kv (dg hV) n) (dg hV (n - 1)) (dg hU (pl + n) * 1000000000 + dg hU (pl + (n - 1))) gg lf) → (ct ≤ 4) → (1000000000 * ct ≤ 4 * lf) → (lf < 1000000000 * (ct + 1)) → (gg ≤ 1000000000000000000) → lv_has ls 15 [(14, .int (nI ct)), (12, .long (nL lf)), (10, .long (nL gg)), (8, .long (nL (((dg hU (pl + n)) * 1000000000) + (dg hU (pl + (n - 1)))))), (6, .long (nL (dg hU (pl + (n - 2))))), (4, .long (nL (dg hV (n - 2)))), (2, .long (nL (dg hV (n - 1)))), (0, .ref D), (1, .int (nI pl))] → va_P g.D vcl (va_pl g.LP f) H → va_D (pc_A g s.heap.size) (va_pl g.LP f) → va_S (pc_A g s.heap.size) s.heap H locs → W p l e ({ frames := 0, cells := 0, slots := 0, locals := 0 }) s m args below meth c H locs 0 0 (MQ below (va_Ql (fun r f1 => (∃ k, k < 1000000000 ∧ kv (fun i => dg hU (pl + i)) (n + 1) < (k + 1) * kv (dg hV) n ∧ k * kv (dg hV) n < kv (fun i => dg hU (pl + i)) (n + 1) + kv (dg hV) n ∧ r = nL k) ∧ (f = f1)) (pc_out g s.heap.size) (pc_A g s.heap.size)) args s 0 0 (pc_A g s.heap.size)) (F0 m 123 ls []) := by
          intro k26
          induction k26 with
          | zero => intros; exfalso; omega
          | succ k26 ih27 =>
            intro gg lf ct H locs ls hfu28 hgi hct hcl hlb hgb hl hP hD hS
            refine lv_iload hx hb d_NLongDivision_guess_123 (lv_at hl 0 rfl) ?_
            refine lv_iconst (v := nI 4) hx hb d_NLongDivision_guess_125 (by decide) ?_
            refine lv_icmp_ge (tgt := 186) hx hb d_NLongDivision_guess_126 (by decide) (fun b31 => ?_) (fun b31 => ?_)
            · skip
              replace b31 := (nI_leI (a := 4) (b := ct) (by omega) (by omega)).mp b31
              refine lv_lload hx hb d_NLongDivision_guess_186 (lv_at hl 2 rfl) ?_
              exact pe_lret hx hb hr hlocks hK hP hD hS d_NLongDivision_guess_188 ⟨⟨_, (gs_big hd (by omega) hgi htp hb9 hs2 (by omega)).1, hgi.2, (gs_big hd (by omega) hgi htp hb9 hs2 (by omega)).2, rfl⟩, rfl⟩
            · skip
              replace b31 := mt (nI_leI (a := 4) (b := ct) (by omega) (by omega)).mpr b31
              refine lv_lload hx hb d_NLongDivision_guess_129 (lv_at hl 1 rfl) ?_
              refine lv_ldc2 (v := 1000000000) hx hb hown (wd_813 hB _) d_NLongDivision_guess_131 ?_
              refine lv_topl (fun z_ hz_ => ?_)
              obtain rfl : z_ = nL 1000000000 := hz_
              refine W.lcmp hx hb d_NLongDivision_guess_134 ?_
              refine lv_if_ge (tgt := 186) hx hb d_NLongDivision_guess_135 (by decide) (fun b32 => ?_) (fun b32 => ?_)
              · skip
                replace b32 := pl_ge.mp b32
                replace b32 := (nL_le (a := 1000000000) (b := lf) (by omega) (by omega)).mp b32
                refine lv_lload hx hb d_NLongDivision_guess_186 (lv_at hl 2 rfl) ?_
                exact pe_lret hx hb hr hlocks hK hP hD hS d_NLongDivision_guess_188 ⟨⟨_, (gs_big hd (by omega) hgi htp hb9 hs2 (by omega)).1, hgi.2, (gs_big hd (by omega) hgi htp hb9 hs2 (by omega)).2, rfl⟩, rfl⟩
              · skip
                replace b32 := mt pl_ge.mpr b32
                replace b32 := mt (nL_le (a := 1000000000) (b := lf) (by omega) (by omega)).mpr b32
                refine lv_lload hx hb d_NLongDivision_guess_138 (lv_at hl 2 rfl) ?_
                refine lv_ldc2 (v := 1000000000) hx hb hown (wd_813 hB _) d_NLongDivision_guess_140 ?_
                refine lv_topl (fun z_ hz_ => ?_)
                obtain rfl : z_ = nL 1000000000 := hz_
                refine W.lcmp hx hb d_NLongDivision_guess_143 ?_
                refine lv_if_ge (tgt := 168) hx hb d_NLongDivision_guess_144 (by decide) (fun b33 => ?_) (fun b33 => ?_)
                · skip
                  replace b33 := pl_ge.mp b33
                  replace b33 := (nL_le (a := 1000000000) (b := gg) (by omega) (by omega)).mp b33
                  obtain ⟨hg5, hgi2⟩ := gs_d hgi (kn_g2 hlt (by omega))
                  refine lv_lload hx hb d_NLongDivision_guess_168 (lv_at hl 2 rfl) ?_
                  refine lv_lconst (v := nL 1) hx hb d_NLongDivision_guess_170 (by decide) ?_
                  refine pf_lsubN (x := gg) (y := 1) hx hb (by omega) d_NLongDivision_guess_171 ?_
                  refine lv_lstore (lv' := [(10, .long (nL (gg - 1))), (14, .int (nI ct)), (12, .long (nL lf)), (8, .long (nL (((dg hU (pl + n)) * 1000000000) + (dg hU (pl + (n - 1)))))), (6, .long (nL (dg hU (pl + (n - 2))))), (4, .long (nL (dg hV (n - 2)))), (2, .long (nL (dg hV (n - 1)))), (0, .ref D), (1, .int (nI pl))]) hx hb d_NLongDivision_guess_172 hl (by decide) rfl (fun ls hl => ?_)
                  refine lv_lload hx hb d_NLongDivision_guess_174 (lv_at hl 2 rfl) ?_
                  refine lv_lload_n hx hb d_NLongDivision_guess_176 rfl (lv_at hl 6 rfl) ?_
                  refine pf_laddN (x := lf) (y := dg hV (n - 1)) hx hb d_NLongDivision_guess_177 ?_
                  refine lv_lstore (lv' := [(12, .long (nL (lf + (dg hV (n - 1))))), (10, .long (nL (gg - 1))), (14, .int (nI ct)), (8, .long (nL (((dg hU (pl + n)) * 1000000000) + (dg hU (pl + (n - 1)))))), (6, .long (nL (dg hU (pl + (n - 2))))), (4, .long (nL (dg hV (n - 2)))), (2, .long (nL (dg hV (n - 1)))), (0, .ref D), (1, .int (nI pl))]) hx hb d_NLongDivision_guess_178 hl (by decide) rfl (fun ls hl => ?_)
                  refine lv_iinc (k := 2) (v := nI (ct + 1)) (lv' := [(14, .int (nI (ct + 1))), (12, .long (nL (lf + (dg hV (n - 1))))), (10, .long (nL (gg - 1))), (8, .long (nL (((dg hU (pl + n)) * 1000000000) + (dg hU (pl + (n - 1)))))), (6, .long (nL (dg hU (pl + (n - 2))))), (4, .long (nL (dg hV (n - 2)))), (2, .long (nL (dg hV (n - 1)))), (0, .ref D), (1, .int (nI pl))]) hx hb d_NLongDivision_guess_180 hl rfl (by rw [nI_succ]; rfl) (by decide) rfl (fun ls hl => ?_)
                  refine lv_goto (tgt := 123) hx hb d_NLongDivision_guess_183 (by decide) ?_
                  exact ih27 (gg - 1) (lf + (dg hV (n - 1))) (ct + 1) H locs ls (by omega) hgi2 (by omega) (by omega) (by omega) (by omega) hl hP hD hS
                · skip
                  replace b33 := mt pl_ge.mpr b33
                  replace b33 := mt (nL_le (a := 1000000000) (b := gg) (by omega) (by omega)).mpr b33
                  refine lv_lload hx hb d_NLongDivision_guess_147 (lv_at hl 2 rfl) ?_
                  refine lv_lload hx hb d_NLongDivision_guess_149 (lv_at hl 5 rfl) ?_
                  refine pf_lmulN (x := gg) (y := dg hV (n - 2)) hx hb d_NLongDivision_guess_151 ?_
                  have hm34 : gg * (dg hV (n - 2)) ≤ 999999999 * 999999999 := Nat.mul_le_mul (by omega) (by omega)
                  refine lv_lload hx hb d_NLongDivision_guess_152 (lv_at hl 1 rfl) ?_
                  refine lv_ldc2 (v := 1000000000) hx hb hown (wd_813 hB _) d_NLongDivision_guess_154 ?_
                  refine lv_topl (fun z_ hz_ => ?_)
                  obtain rfl : z_ = nL 1000000000 := hz_
                  refine pf_lmulN (x := lf) (y := 1000000000) hx hb d_NLongDivision_guess_157 ?_
                  refine lv_lload hx hb d_NLongDivision_guess_158 (lv_at hl 4 rfl) ?_
                  refine pf_laddN (x := lf * 1000000000) (y := dg hU (pl + (n - 2))) hx hb d_NLongDivision_guess_160 ?_
                  refine W.lcmp hx hb d_NLongDivision_guess_161 ?_
                  refine lv_if_gt (tgt := 168) hx hb d_NLongDivision_guess_162 (by decide) (fun b35 => ?_) (fun b35 => ?_)
                  · skip
                    replace b35 := pl_gt.mp b35
                    replace b35 := (nL_lt (a := (lf * 1000000000) + (dg hU (pl + (n - 2)))) (b := gg * (dg hV (n - 2))) (by omega) (by omega)).mp b35
                    obtain ⟨hg5, hgi2⟩ := gs_d hgi (gs_no hd hgi (by omega))
                    refine lv_lload hx hb d_NLongDivision_guess_168 (lv_at hl 2 rfl) ?_
                    refine lv_lconst (v := nL 1) hx hb d_NLongDivision_guess_170 (by decide) ?_
                    refine pf_lsubN (x := gg) (y := 1) hx hb (by omega) d_NLongDivision_guess_171 ?_
                    refine lv_lstore (lv' := [(10, .long (nL (gg - 1))), (14, .int (nI ct)), (12, .long (nL lf)), (8, .long (nL (((dg hU (pl + n)) * 1000000000) + (dg hU (pl + (n - 1)))))), (6, .long (nL (dg hU (pl + (n - 2))))), (4, .long (nL (dg hV (n - 2)))), (2, .long (nL (dg hV (n - 1)))), (0, .ref D), (1, .int (nI pl))]) hx hb d_NLongDivision_guess_172 hl (by decide) rfl (fun ls hl => ?_)
                    refine lv_lload hx hb d_NLongDivision_guess_174 (lv_at hl 2 rfl) ?_
                    refine lv_lload_n hx hb d_NLongDivision_guess_176 rfl (lv_at hl 6 rfl) ?_
                    refine pf_laddN (x := lf) (y := dg hV (n - 1)) hx hb d_NLongDivision_guess_177 ?_
                    refine lv_lstore (lv' := [(12, .long (nL (lf + (dg hV (n - 1))))), (10, .long (nL (gg - 1))), (14, .int (nI ct)), (8, .long (nL (((dg hU (pl + n)) * 1000000000) + (dg hU (pl + (n - 1)))))), (6, .long (nL (dg hU (pl + (n - 2))))), (4, .long (nL (dg hV (n - 2)))), (2, .long (nL (dg hV (n - 1)))), (0, .ref D), (1, .int (nI pl))]) hx hb d_NLongDivision_guess_178 hl (by decide) rfl (fun ls hl => ?_)
                    refine lv_iinc (k := 2) (v := nI (ct + 1)) (lv' := [(14, .int (nI (ct + 1))), (12, .long (nL (lf + (dg hV (n - 1))))), (10, .long (nL (gg - 1))), (8, .long (nL (((dg hU (pl + n)) * 1000000000) + (dg hU (pl + (n - 1)))))), (6, .long (nL (dg hU (pl + (n - 2))))), (4, .long (nL (dg hV (n - 2)))), (2, .long (nL (dg hV (n - 1)))), (0, .ref D), (1, .int (nI pl))]) hx hb d_NLongDivision_guess_180 hl rfl (by rw [nI_succ]; rfl) (by decide) rfl (fun ls hl => ?_)
                    refine lv_goto (tgt := 123) hx hb d_NLongDivision_guess_183 (by decide) ?_
                    exact ih27 (gg - 1) (lf + (dg hV (n - 1))) (ct + 1) H locs ls (by omega) hgi2 (by omega) (by omega) (by omega) (by omega) hl hP hD hS
                  · skip
                    replace b35 := mt pl_gt.mpr b35
                    replace b35 := mt (nL_lt (a := (lf * 1000000000) + (dg hU (pl + (n - 2)))) (b := gg * (dg hV (n - 2))) (by omega) (by omega)).mpr b35
                    refine lv_lload hx hb d_NLongDivision_guess_165 (lv_at hl 2 rfl) ?_
                    exact pe_lret hx hb hr hlocks hK hP hD hS d_NLongDivision_guess_167 ⟨⟨_, by omega, hgi.2, gs_yes hd (by omega) hgi (by omega) (by omega), rfl⟩, rfl⟩
        exact lp24 5 ((((dg hU (pl + n)) * 1000000000) + (dg hU (pl + (n - 1)))) / (dg hV (n - 1))) ((((dg hU (pl + n)) * 1000000000) + (dg hU (pl + (n - 1)))) % (dg hV (n - 1))) 0 s.heap [] ls (by omega) hg0 (by omega) (by omega) (by omega) (by omega) hl hP hD hS
  · skip
    replace b2 := pl_eq.mp b2
    replace b2 := (nL_eq (a := dg hV (n - 1)) (b := 0) (by omega) (by omega)).mp b2
    exfalso; omega
set_option maxHeartbeats 4000000 in
set_option maxRecDepth 100000 in
theorem c_putBack (l : Launch) (g : Lay) (sz : Nat) (f : Nat → va_E) (D : Nat) (pl : Nat) (n : Nat) (hU : Nat → Int32) (hV : Nat → Int32) (z : Nat) (hL : LO g) (t_D : g.tg D = 4) (hI : IX g z f) (ed : f D = .inr (3, [.ref (g.lk D 0), .ref (g.lk D 1), .int (nI n)])) (eU : f (g.lk D 0) = .inl (g.ac (g.lk D 0), 16, .inl hU)) (cU : ∀ i, i < 16 → ∃ k, k < 1000000000 ∧ hU i = nI k) (eV : f (g.lk D 1) = .inl (g.ac (g.lk D 1), 16, .inl hV)) (cV : ∀ i, i < 16 → ∃ k, k < 1000000000 ∧ hV i = nI k) (hp : pl + n ≤ 15) : Met l ⟨"BigRunner$LongDivision", "putBack", "(I)V"⟩ [Cond.code ⟨"BigRunner$LongDivision", "putBack", "(I)V"⟩ prog_4_method_7_code 5 none] ({ frames := 0, cells := 0, slots := 0, locals := 0 }) (va_Pc [.ref D, .int (nI pl)] (pc_in g sz f)) (va_Qv (fun f1 => (∃ h1 : Nat → Int32, f1 (g.lk D 0) = .inl (g.ac (g.lk D 0), 16, .inl h1) ∧ (∀ i, i < 16 → ∃ k, k < 1000000000 ∧ h1 i = nI k) ∧ ∃ k, k ≤ 1 ∧ kv (fun i => dg h1 (pl + i)) n + k * 1000000000 ^ n = kv (fun i => dg hU (pl + i)) n + kv (dg hV) n) ∧ (IX g z f1) ∧ (∀ b, b ≠ (g.lk D 0) → f1 b = f b)) (pc_out g sz) (pc_A g sz)) 0 0 (pc_A g sz) := by
  refine pe_ofW (cc := prog_4_method_7_code) (maxL := 5) (ret := none) (lv := [(0, .ref D), (1, .int (nI pl))]) (by decide) (Nat.le_of_ble_eq_true rfl) rfl ?_
  intro p e s m args below meth c ls hx hb hr hml hlocks hown hB hP hK hD hsz hS hl
  subst hsz
  have hu : ∀ b, b ≠ (g.lk D 0) → f b = f b := fun _ _ => rfl
  refine lv_iconst (v := nI 0) hx hb d_NLongDivision_putBack_0 (by decide) ?_
  refine lv_istore_n (lv' := [(2, .int (nI 0)), (0, .ref D), (1, .int (nI pl))]) hx hb d_NLongDivision_putBack_1 rfl hl (by decide) rfl (fun ls hl => ?_)
  refine lv_iconst (v := nI 0) hx hb d_NLongDivision_putBack_2 (by decide) ?_
  refine lv_istore_n (lv' := [(3, .int (nI 0)), (2, .int (nI 0)), (0, .ref D), (1, .int (nI pl))]) hx hb d_NLongDivision_putBack_3 rfl hl (by decide) rfl (fun ls hl => ?_)
  have lp1 : ∀ (k3 : Nat) (cy : Nat) (i : Nat) (h : Nat → Int32) (f2 : Nat → va_E) (H : Heap) (locs : List Loc) (ls : Array Slot), (n < i + k3) → (cy ≤ 1) → (i ≤ n) → (∀ i, i < 16 → ∃ k, k < 1000000000 ∧ h i = nI k) → (∀ j, ¬ (pl ≤ j ∧ j < pl + i) → h j = hU j) → (kv (fun j => dg h (pl + j)) i + cy * 1000000000 ^ i = kv (fun j => dg hU (pl + j)) i + kv (dg hV) i) → f2 (g.lk D 0) = .inl (g.ac (g.lk D 0), 16, .inl (h)) → f2 (g.lk D 1) = .inl (g.ac (g.lk D 1), 16, .inl (hV)) → IX g z f2 → un [22] g f f2 → (∀ b, b ≠ (g.lk D 0) → f2 b = f b) → lv_has ls 5 [(3, .int (nI i)), (2, .int (nI cy)), (0, .ref D), (1, .int (nI pl))] → va_P g.D vcl (va_pl g.LP f2) H → va_D (pc_A g s.heap.size) (va_pl g.LP f2) → va_S (pc_A g s.heap.size) s.heap H locs → W p l e ({ frames := 0, cells := 0, slots := 0, locals := 0 }) s m args below meth c H locs 0 0 (MQ below (va_Qv (fun f1 => (∃ h1 : Nat → Int32, f1 (g.lk D 0) = .inl (g.ac (g.lk D 0), 16, .inl h1) ∧ (∀ i, i < 16 → ∃ k, k < 1000000000 ∧ h1 i = nI k) ∧ ∃ k, k ≤ 1 ∧ kv (fun i => dg h1 (pl + i)) n + k * 1000000000 ^ n = kv (fun i => dg hU (pl + i)) n + kv (dg hV) n) ∧ (IX g z f1) ∧ (∀ b, b ≠ (g.lk D 0) → f1 b = f b)) (pc_out g s.heap.size) (pc_A g s.heap.size)) args s 0 0 (pc_A g s.heap.size)) (F0 m 4 ls []) := by
    intro k3
    induction k3 with
    | zero => intros; exfalso; omega
    | succ k3 ih4 =>
      intro cy i h f2 H locs ls hfu5 hcy hi hc hs he e6 e7 hI8 hv9 hu hl hP hD hS
      have ed := hv9.at t_D (by decide) ed
      refine lv_iload_n hx hb d_NLongDivision_putBack_4 rfl (lv_at hl 0 rfl) ?_
      refine lv_aload_n hx hb d_NLongDivision_putBack_5 rfl (lv_at hl 2 rfl) ?_
      refine pf_get (v := .int (nI n)) (C := "BigRunner$LongDivision") (T := FT3) (N := 3) hx hb (hw3 hB _) (fun _ h9 => h9) hown hK hP (lo_in hL t_D (by decide)) ed rfl 2 (by decide) (wd_321 hB _) rfl d_NLongDivision_putBack_6 ?_
      refine lv_icmp_ge (tgt := 65) hx hb d_NLongDivision_putBack_9 (by decide) (fun b10 => ?_) (fun b10 => ?_)
      · skip
        replace b10 := (nI_leI (a := n) (b := i) (by omega) (by omega)).mp b10
        exact pe_vret hx hb hr hlocks hK hP hD hS d_NLongDivision_putBack_65 ⟨⟨_, e6, hc, cy, hcy, by have z : i = n := (by omega); subst z; exact he⟩, hI8, hu⟩
      · skip
        replace b10 := mt (nI_leI (a := n) (b := i) (by omega) (by omega)).mpr b10
        refine lv_aload_n hx hb d_NLongDivision_putBack_12 rfl (lv_at hl 2 rfl) ?_
        refine pf_get (v := .ref (g.lk D 0)) (C := "BigRunner$LongDivision") (T := FT3) (N := 3) hx hb (hw3 hB _) (fun _ h9 => h9) hown hK hP (lo_in hL t_D (by decide)) ed rfl 0 (by decide) (wd_319 hB _) rfl d_NLongDivision_putBack_13 ?_
        refine lv_iload_n hx hb d_NLongDivision_putBack_16 rfl (lv_at hl 3 rfl) ?_
        refine lv_iload_n hx hb d_NLongDivision_putBack_17 rfl (lv_at hl 0 rfl) ?_
        refine pf_iaddN (x := pl) (y := i) hx hb d_NLongDivision_putBack_18 ?_
        refine pf_iald (i := pl + i) hx hb hK hP (lo_in hL (lo_k4_0 hL _ t_D) (by decide)) e6 (lo_t22 hL _ (lo_k4_0 hL _ t_D)) (by omega) (by decide) d_NLongDivision_putBack_19 ?_
        have hd11 := dg_lt hc (j := pl + i) (by omega)
        refine lv_topi (fun z_ hz_ => ?_)
        obtain rfl : z_ = nI (dg h (pl + i)) := hz_.trans (dg_eq hc (by omega))
        refine lv_aload_n hx hb d_NLongDivision_putBack_20 rfl (lv_at hl 2 rfl) ?_
        refine pf_get (v := .ref (g.lk D 1)) (C := "BigRunner$LongDivision") (T := FT3) (N := 3) hx hb (hw3 hB _) (fun _ h9 => h9) hown hK hP (lo_in hL t_D (by decide)) ed rfl 1 (by decide) (wd_320 hB _) rfl d_NLongDivision_putBack_21 ?_
        refine lv_iload_n hx hb d_NLongDivision_putBack_24 rfl (lv_at hl 0 rfl) ?_
        refine pf_iald (i := i) hx hb hK hP (lo_in hL (lo_k4_1 hL _ t_D) (by decide)) e7 (lo_t22 hL _ (lo_k4_1 hL _ t_D)) (by omega) (by decide) d_NLongDivision_putBack_25 ?_
        have hd12 := dg_lt cV (j := i) (by omega)
        refine lv_topi (fun z_ hz_ => ?_)
        obtain rfl : z_ = nI (dg hV i) := hz_.trans (dg_eq cV (by omega))
        refine pf_iaddN (x := dg h (pl + i)) (y := dg hV i) hx hb d_NLongDivision_putBack_26 ?_
        refine lv_iload_n hx hb d_NLongDivision_putBack_27 rfl (lv_at hl 1 rfl) ?_
        refine pf_iaddN (x := (dg h (pl + i)) + (dg hV i)) (y := cy) hx hb d_NLongDivision_putBack_28 ?_
        refine lv_istore (lv' := [(4, .int (nI (((dg h (pl + i)) + (dg hV i)) + cy))), (3, .int (nI i)), (2, .int (nI cy)), (0, .ref D), (1, .int (nI pl))]) hx hb d_NLongDivision_putBack_29 hl (by decide) rfl (fun ls hl => ?_)
        refine lv_iload hx hb d_NLongDivision_putBack_31 (lv_at hl 0 rfl) ?_
        refine lv_ldc (v := 1000000000) hx hb hown (wd_809 hB _) d_NLongDivision_putBack_33 ?_
        refine lv_topi (fun z_ hz_ => ?_)
        obtain rfl : z_ = nI 1000000000 := hz_
        refine lv_icmp_lt (tgt := 42) hx hb d_NLongDivision_putBack_35 (by decide) (fun b13 => ?_) (fun b13 => ?_)
        · skip
          replace b13 := (nI_ltI (a := ((dg h (pl + i)) + (dg hV i)) + cy) (b := 1000000000) (by omega) (by omega)).mp b13
          refine lv_iconst (v := nI 0) hx hb d_NLongDivision_putBack_42 (by decide) ?_
          refine lv_istore_n (lv' := [(2, .int (nI 0)), (4, .int (nI (((dg h (pl + i)) + (dg hV i)) + cy))), (3, .int (nI i)), (0, .ref D), (1, .int (nI pl))]) hx hb d_NLongDivision_putBack_43 rfl hl (by decide) rfl (fun ls hl => ?_)
          refine lv_aload_n hx hb d_NLongDivision_putBack_44 rfl (lv_at hl 3 rfl) ?_
          refine pf_get (v := .ref (g.lk D 0)) (C := "BigRunner$LongDivision") (T := FT3) (N := 3) hx hb (hw3 hB _) (fun _ h9 => h9) hown hK hP (lo_in hL t_D (by decide)) ed rfl 0 (by decide) (wd_319 hB _) rfl d_NLongDivision_putBack_45 ?_
          refine lv_iload_n hx hb d_NLongDivision_putBack_48 rfl (lv_at hl 4 rfl) ?_
          refine lv_iload_n hx hb d_NLongDivision_putBack_49 rfl (lv_at hl 2 rfl) ?_
          refine pf_iaddN (x := pl) (y := i) hx hb d_NLongDivision_putBack_50 ?_
          refine lv_iload hx hb d_NLongDivision_putBack_51 (lv_at hl 1 rfl) ?_
          refine lv_iload_n hx hb d_NLongDivision_putBack_53 rfl (lv_at hl 0 rfl) ?_
          refine lv_ldc (v := 1000000000) hx hb hown (wd_809 hB _) d_NLongDivision_putBack_54 ?_
          refine lv_topi (fun z_ hz_ => ?_)
          obtain rfl : z_ = nI 1000000000 := hz_
          refine pf_imulN (x := 0) (y := 1000000000) hx hb d_NLongDivision_putBack_56 ?_
          refine lv_topi (fun z_ hz_ => ?_)
          obtain rfl : z_ = nI 0 := hz_.trans (congrArg nI (Nat.zero_mul 1000000000))
          refine pf_isubN (x := ((dg h (pl + i)) + (dg hV i)) + cy) (y := 0) hx hb (by omega) d_NLongDivision_putBack_57 ?_
          refine pf_iast (i := pl + i) hx hb hK hP hD hS (lo_in hL (lo_k4_0 hL _ t_D) (by decide)) e6 (lo_t22 hL _ (lo_k4_0 hL _ t_D)) (by omega) (by decide) d_NLongDivision_putBack_58 (fun f14 H locs e15 k16 hP hD hS => ?_)
          have ed := (k16 D (tg_ne t_D (lo_k4_0 hL _ t_D) (by decide))).trans ed
          have e7 := (k16 (g.lk D 1) (Ne.symm (lo_ne4 hL _ t_D))).trans e7
          have hu : ∀ b, b ≠ (g.lk D 0) → f14 b = f b := fun b q0 => (k16 b q0).trans (hu b q0)
          have hv9 := hv9.st k16 (lo_k4_0 hL _ t_D) (by decide)
          have hk17 : ∀ b, b ≠ (g.lk D 0) → f14 b = f2 b := k16
          have c18 := lb_upd (n := 16) (i := pl + i) (v := (((dg h (pl + i)) + (dg hV i)) + cy) - 0) hc (by omega)
          refine lv_iinc (k := 2) (v := nI (i + 1)) (lv' := [(3, .int (nI (i + 1))), (2, .int (nI 0)), (4, .int (nI (((dg h (pl + i)) + (dg hV i)) + cy))), (0, .ref D), (1, .int (nI pl))]) hx hb d_NLongDivision_putBack_59 hl rfl (by rw [nI_succ]; rfl) (by decide) rfl (fun ls hl => ?_)
          refine lv_goto (tgt := 4) hx hb d_NLongDivision_putBack_62 (by decide) ?_
          have hI19 := ix_1 hI8 hL (lo_k4_0 hL _ t_D) (by decide) hk17 (oc_22.mk (lo_k4_0 hL _ t_D) (⟨_, e15, c18⟩))
          have hl : lv_has ls 5 [(3, .int (nI (i + 1))), (2, .int (nI 0)), (0, .ref D), (1, .int (nI pl))] := lv_sub hl [0, 1, 3, 4] rfl
          exact ih4 0 (i + 1) (upd h (pl + i) ((nI ((((dg h (pl + i)) + (dg hV i)) + cy) - 0)))) f14 H locs ls (by omega) (by omega) (by omega) c18 (up_same hs) (pb_step2 hs he (by omega)) e15 e7 hI19 hv9 hu hl hP hD hS
        · skip
          replace b13 := mt (nI_ltI (a := ((dg h (pl + i)) + (dg hV i)) + cy) (b := 1000000000) (by omega) (by omega)).mpr b13
          refine lv_iconst (v := nI 1) hx hb d_NLongDivision_putBack_38 (by decide) ?_
          refine lv_goto (tgt := 43) hx hb d_NLongDivision_putBack_39 (by decide) ?_
          refine lv_istore_n (lv' := [(2, .int (nI 1)), (4, .int (nI (((dg h (pl + i)) + (dg hV i)) + cy))), (3, .int (nI i)), (0, .ref D), (1, .int (nI pl))]) hx hb d_NLongDivision_putBack_43 rfl hl (by decide) rfl (fun ls hl => ?_)
          refine lv_aload_n hx hb d_NLongDivision_putBack_44 rfl (lv_at hl 3 rfl) ?_
          refine pf_get (v := .ref (g.lk D 0)) (C := "BigRunner$LongDivision") (T := FT3) (N := 3) hx hb (hw3 hB _) (fun _ h9 => h9) hown hK hP (lo_in hL t_D (by decide)) ed rfl 0 (by decide) (wd_319 hB _) rfl d_NLongDivision_putBack_45 ?_
          refine lv_iload_n hx hb d_NLongDivision_putBack_48 rfl (lv_at hl 4 rfl) ?_
          refine lv_iload_n hx hb d_NLongDivision_putBack_49 rfl (lv_at hl 2 rfl) ?_
          refine pf_iaddN (x := pl) (y := i) hx hb d_NLongDivision_putBack_50 ?_
          refine lv_iload hx hb d_NLongDivision_putBack_51 (lv_at hl 1 rfl) ?_
          refine lv_iload_n hx hb d_NLongDivision_putBack_53 rfl (lv_at hl 0 rfl) ?_
          refine lv_ldc (v := 1000000000) hx hb hown (wd_809 hB _) d_NLongDivision_putBack_54 ?_
          refine lv_topi (fun z_ hz_ => ?_)
          obtain rfl : z_ = nI 1000000000 := hz_
          refine pf_imulN (x := 1) (y := 1000000000) hx hb d_NLongDivision_putBack_56 ?_
          refine lv_topi (fun z_ hz_ => ?_)
          obtain rfl : z_ = nI 1000000000 := hz_.trans (congrArg nI (Nat.one_mul 1000000000))
          refine pf_isubN (x := ((dg h (pl + i)) + (dg hV i)) + cy) (y := 1000000000) hx hb (by omega) d_NLongDivision_putBack_57 ?_
          refine pf_iast (i := pl + i) hx hb hK hP hD hS (lo_in hL (lo_k4_0 hL _ t_D) (by decide)) e6 (lo_t22 hL _ (lo_k4_0 hL _ t_D)) (by omega) (by decide) d_NLongDivision_putBack_58 (fun f20 H locs e21 k22 hP hD hS => ?_)
          have ed := (k22 D (tg_ne t_D (lo_k4_0 hL _ t_D) (by decide))).trans ed
          have e7 := (k22 (g.lk D 1) (Ne.symm (lo_ne4 hL _ t_D))).trans e7
          have hu : ∀ b, b ≠ (g.lk D 0) → f20 b = f b := fun b q0 => (k22 b q0).trans (hu b q0)
          have hv9 := hv9.st k22 (lo_k4_0 hL _ t_D) (by decide)
          have hk23 : ∀ b, b ≠ (g.lk D 0) → f20 b = f2 b := k22
          have c24 := lb_upd (n := 16) (i := pl + i) (v := (((dg h (pl + i)) + (dg hV i)) + cy) - 1000000000) hc (by omega)
          refine lv_iinc (k := 2) (v := nI (i + 1)) (lv' := [(3, .int (nI (i + 1))), (2, .int (nI 1)), (4, .int (nI (((dg h (pl + i)) + (dg hV i)) + cy))), (0, .ref D), (1, .int (nI pl))]) hx hb d_NLongDivision_putBack_59 hl rfl (by rw [nI_succ]; rfl) (by decide) rfl (fun ls hl => ?_)
          refine lv_goto (tgt := 4) hx hb d_NLongDivision_putBack_62 (by decide) ?_
          have hI25 := ix_1 hI8 hL (lo_k4_0 hL _ t_D) (by decide) hk23 (oc_22.mk (lo_k4_0 hL _ t_D) (⟨_, e21, c24⟩))
          have hl : lv_has ls 5 [(3, .int (nI (i + 1))), (2, .int (nI 1)), (0, .ref D), (1, .int (nI pl))] := lv_sub hl [0, 1, 3, 4] rfl
          exact ih4 1 (i + 1) (upd h (pl + i) ((nI ((((dg h (pl + i)) + (dg hV i)) + cy) - 1000000000)))) f20 H locs ls (by omega) (by omega) (by omega) c24 (up_same hs) (pb_step1 hs (by omega) he (by omega)) e21 e7 hI25 hv9 hu hl hP hD hS
  exact lp1 (n + 1) 0 0 hU f s.heap [] ls (by omega) (by omega) (by omega) cU (fun _ _ => rfl) (by simp [kv]) eU eV hI un.rf hu hl hP hD hS
set_option maxHeartbeats 4000000 in
set_option maxRecDepth 100000 in
theorem c_takeAway (l : Launch) (g : Lay) (sz : Nat) (f : Nat → va_E) (D : Nat) (gs : Nat) (pl : Nat) (n : Nat) (hU : Nat → Int32) (hV : Nat → Int32) (z : Nat) (hL : LO g) (t_D : g.tg D = 4) (hI : IX g z f) (ed : f D = .inr (3, [.ref (g.lk D 0), .ref (g.lk D 1), .int (nI n)])) (eU : f (g.lk D 0) = .inl (g.ac (g.lk D 0), 16, .inl hU)) (cU : ∀ i, i < 16 → ∃ k, k < 1000000000 ∧ hU i = nI k) (eV : f (g.lk D 1) = .inl (g.ac (g.lk D 1), 16, .inl hV)) (cV : ∀ i, i < 16 → ∃ k, k < 1000000000 ∧ hV i = nI k) (hn : 0 < n) (hp : pl + n ≤ 15) (hgs : gs < 1000000000) (k1 : kv (fun i => dg hU (pl + i)) (n + 1) < (gs + 1) * kv (dg hV) n) (k2 : gs * kv (dg hV) n < kv (fun i => dg hU (pl + i)) (n + 1) + kv (dg hV) n) : Met l ⟨"BigRunner$LongDivision", "takeAway", "(JI)I"⟩ [Cond.code ⟨"BigRunner$LongDivision", "takeAway", "(JI)I"⟩ prog_4_method_6_code 8 (some .int)] ({ frames := 1, cells := 0, slots := 0, locals := 24 }) (va_Pc [.ref D, .long (nL gs), .int (nI pl)] (pc_in g sz f)) (va_Qi (fun r f1 => (∃ k, k < 1000000000 ∧ r = nI k) ∧ (∃ h1 : Nat → Int32, f1 (g.lk D 0) = .inl (g.ac (g.lk D 0), 16, .inl h1) ∧ (∀ i, i < 16 → ∃ k, k < 1000000000 ∧ h1 i = nI k) ∧ kv (fun i => dg h1 (pl + i)) n < kv (dg hV) n) ∧ (IX g z f1) ∧ (∀ b, b ≠ (g.lk D 0) → f1 b = f b)) (pc_out g sz) (pc_A g sz)) 0 0 (pc_A g sz) := by
  refine pe_ofW (cc := prog_4_method_6_code) (maxL := 8) (ret := (some .int)) (lv := [(0, .ref D), (1, .long (nL gs)), (3, .int (nI pl))]) (by decide) (Nat.le_of_ble_eq_true rfl) rfl ?_
  intro p e s m args below meth c ls hx hb hr hml hlocks hown hB hP hK hD hsz hS hl
  subst hsz
  have hu : ∀ b, b ≠ (g.lk D 0) → f b = f b := fun _ _ => rfl
  have hVP : kv (dg hV) n < 1000000000 ^ n := kv_lt (fun i hi => dg_lt cV (by omega))
  refine lv_lconst (v := nL 0) hx hb d_NLongDivision_takeAway_0 (by decide) ?_
  refine lv_lstore (lv' := [(4, .long (nL 0)), (0, .ref D), (1, .long (nL gs)), (3, .int (nI pl))]) hx hb d_NLongDivision_takeAway_1 hl (by decide) rfl (fun ls hl => ?_)
  refine lv_iconst (v := nI 0) hx hb d_NLongDivision_takeAway_3 (by decide) ?_
  refine lv_istore (lv' := [(6, .int (nI 0)), (4, .long (nL 0)), (0, .ref D), (1, .long (nL gs)), (3, .int (nI pl))]) hx hb d_NLongDivision_takeAway_4 hl (by decide) rfl (fun ls hl => ?_)
  have lp1 : ∀ (k3 : Nat) (cy : Nat) (i : Nat) (h : Nat → Int32) (f2 : Nat → va_E) (H : Heap) (locs : List Loc) (ls : Array Slot), (n < i + k3) → (cy ≤ 1000000000) → (i ≤ n) → (∀ i, i < 16 → ∃ k, k < 1000000000 ∧ h i = nI k) → (∀ j, ¬ (pl ≤ j ∧ j < pl + i) → h j = hU j) → (gs = 0 → cy = 0) → (kv (fun j => dg h (pl + j)) i + gs * kv (dg hV) i = kv (fun j => dg hU (pl + j)) i + cy * 1000000000 ^ i) → f2 (g.lk D 0) = .inl (g.ac (g.lk D 0), 16, .inl (h)) → f2 (g.lk D 1) = .inl (g.ac (g.lk D 1), 16, .inl (hV)) → IX g z f2 → un [22] g f f2 → (∀ b, b ≠ (g.lk D 0) → f2 b = f b) → lv_has ls 8 [(6, .int (nI i)), (4, .long (nL cy)), (0, .ref D), (1, .long (nL gs)), (3, .int (nI pl))] → va_P g.D vcl (va_pl g.LP f2) H → va_D (pc_A g s.heap.size) (va_pl g.LP f2) → va_S (pc_A g s.heap.size) s.heap H locs → W p l e ({ frames := 1, cells := 0, slots := 0, locals := 24 }) s m args below meth c H locs 0 0 (MQ below (va_Qi (fun r f1 => (∃ k, k < 1000000000 ∧ r = nI k) ∧ (∃ h1 : Nat → Int32, f1 (g.lk D 0) = .inl (g.ac (g.lk D 0), 16, .inl h1) ∧ (∀ i, i < 16 → ∃ k, k < 1000000000 ∧ h1 i = nI k) ∧ kv (fun i => dg h1 (pl + i)) n < kv (dg hV) n) ∧ (IX g z f1) ∧ (∀ b, b ≠ (g.lk D 0) → f1 b = f b)) (pc_out g s.heap.size) (pc_A g s.heap.size)) args s 0 0 (pc_A g s.heap.size)) (F0 m 6 ls []) := by
    intro k3
    induction k3 with
    | zero => intros; exfalso; omega
    | succ k3 ih4 =>
      intro cy i h f2 H locs ls hfu5 hcy hi hc hs hz he e6 e7 hI8 hv9 hu hl hP hD hS
      have ed := hv9.at t_D (by decide) ed
      refine lv_iload hx hb d_NLongDivision_takeAway_6 (lv_at hl 0 rfl) ?_
      refine lv_aload_n hx hb d_NLongDivision_takeAway_8 rfl (lv_at hl 2 rfl) ?_
      refine pf_get (v := .int (nI n)) (C := "BigRunner$LongDivision") (T := FT3) (N := 3) hx hb (hw3 hB _) (fun _ h9 => h9) hown hK hP (lo_in hL t_D (by decide)) ed rfl 2 (by decide) (wd_321 hB _) rfl d_NLongDivision_takeAway_9 ?_
      refine lv_icmp_ge (tgt := 92) hx hb d_NLongDivision_takeAway_12 (by decide) (fun b10 => ?_) (fun b10 => ?_)
      · skip
        replace b10 := (nI_leI (a := n) (b := i) (by omega) (by omega)).mp b10
        have z1 : i = n := by omega
        rw [z1] at he hs
        have hlo : kv (fun j => dg h (pl + j)) n < 1000000000 ^ n := kv_lt (fun j hj => dg_lt hc (by omega))
        have htop : dg h (pl + n) = dg hU (pl + n) := ta_same hs
        refine lv_lload hx hb d_NLongDivision_takeAway_92 (lv_at hl 1 rfl) ?_
        refine lv_aload_n hx hb d_NLongDivision_takeAway_94 rfl (lv_at hl 2 rfl) ?_
        refine pf_get (v := .ref (g.lk D 0)) (C := "BigRunner$LongDivision") (T := FT3) (N := 3) hx hb (hw3 hB _) (fun _ h9 => h9) hown hK hP (lo_in hL t_D (by decide)) ed rfl 0 (by decide) (wd_319 hB _) rfl d_NLongDivision_takeAway_95 ?_
        refine lv_iload_n hx hb d_NLongDivision_takeAway_98 rfl (lv_at hl 4 rfl) ?_
        refine lv_aload_n hx hb d_NLongDivision_takeAway_99 rfl (lv_at hl 2 rfl) ?_
        refine pf_get (v := .int (nI n)) (C := "BigRunner$LongDivision") (T := FT3) (N := 3) hx hb (hw3 hB _) (fun _ h9 => h9) hown hK hP (lo_in hL t_D (by decide)) ed rfl 2 (by decide) (wd_321 hB _) rfl d_NLongDivision_takeAway_100 ?_
        refine pf_iaddN (x := pl) (y := n) hx hb d_NLongDivision_takeAway_103 ?_
        refine pf_iald (i := pl + n) hx hb hK hP (lo_in hL (lo_k4_0 hL _ t_D) (by decide)) e6 (lo_t22 hL _ (lo_k4_0 hL _ t_D)) (by omega) (by decide) d_NLongDivision_takeAway_104 ?_
        have hd11 := dg_lt hc (j := pl + n) (by omega)
        refine lv_topi (fun z_ hz_ => ?_)
        obtain rfl : z_ = nI (dg h (pl + n)) := hz_.trans (dg_eq hc (by omega))
        refine pf_i2lN hx hb (by omega) d_NLongDivision_takeAway_105 ?_
        refine W.lcmp hx hb d_NLongDivision_takeAway_106 ?_
        refine lv_if_le (tgt := 114) hx hb d_NLongDivision_takeAway_107 (by decide) (fun b12 => ?_) (fun b12 => ?_)
        · skip
          replace b12 := pl_le.mp b12
          replace b12 := (nL_le (a := cy) (b := dg h (pl + n)) (by omega) (by omega)).mp b12
          refine lv_iconst (v := nI 0) hx hb d_NLongDivision_takeAway_114 (by decide) ?_
          refine lv_istore (lv' := [(6, .int (nI 0)), (4, .long (nL cy)), (0, .ref D), (1, .long (nL gs)), (3, .int (nI pl))]) hx hb d_NLongDivision_takeAway_115 hl (by decide) rfl (fun ls hl => ?_)
          refine lv_iload hx hb d_NLongDivision_takeAway_117 (lv_at hl 0 rfl) ?_
          refine lv_if_eq (tgt := 127) hx hb d_NLongDivision_takeAway_119 (by decide) (fun b13 => ?_) (fun b13 => ?_)
          · skip
            replace b13 := (nI_eq (a := 0) (b := 0) (by omega) (by omega)).mp b13
            refine lv_iload hx hb d_NLongDivision_takeAway_127 (lv_at hl 0 rfl) ?_
            refine lv_if_eq (tgt := 138) hx hb d_NLongDivision_takeAway_129 (by decide) (fun b14 => ?_) (fun b14 => ?_)
            · skip
              replace b14 := (nI_eq (a := 0) (b := 0) (by omega) (by omega)).mp b14
              refine lv_lload_n hx hb d_NLongDivision_takeAway_138 rfl (lv_at hl 3 rfl) ?_
              refine pf_l2iN hx hb d_NLongDivision_takeAway_139 ?_
              exact pe_iret hx hb hr hlocks hK hP hD hS d_NLongDivision_takeAway_140 ⟨⟨_, by omega, rfl⟩, ⟨_, e6, hc, kn_f1 he hlo hVP (t := dg hU (pl + n)) k1 (by omega)⟩, hI8, hu⟩
            · skip
              replace b14 := mt (nI_eq (a := 0) (b := 0) (by omega) (by omega)).mpr b14
              exfalso; omega
          · skip
            replace b13 := mt (nI_eq (a := 0) (b := 0) (by omega) (by omega)).mpr b13
            exfalso; omega
        · skip
          replace b12 := mt pl_le.mpr b12
          replace b12 := mt (nL_le (a := cy) (b := dg h (pl + n)) (by omega) (by omega)).mpr b12
          refine lv_iconst (v := nI 1) hx hb d_NLongDivision_takeAway_110 (by decide) ?_
          refine lv_goto (tgt := 115) hx hb d_NLongDivision_takeAway_111 (by decide) ?_
          refine lv_istore (lv' := [(6, .int (nI 1)), (4, .long (nL cy)), (0, .ref D), (1, .long (nL gs)), (3, .int (nI pl))]) hx hb d_NLongDivision_takeAway_115 hl (by decide) rfl (fun ls hl => ?_)
          refine lv_iload hx hb d_NLongDivision_takeAway_117 (lv_at hl 0 rfl) ?_
          refine lv_if_eq (tgt := 127) hx hb d_NLongDivision_takeAway_119 (by decide) (fun b15 => ?_) (fun b15 => ?_)
          · skip
            replace b15 := (nI_eq (a := 1) (b := 0) (by omega) (by omega)).mp b15
            exfalso; omega
          · skip
            replace b15 := mt (nI_eq (a := 1) (b := 0) (by omega) (by omega)).mpr b15
            refine lv_aload_n hx hb d_NLongDivision_takeAway_122 rfl (lv_at hl 2 rfl) ?_
            refine lv_iload_n hx hb d_NLongDivision_takeAway_123 rfl (lv_at hl 4 rfl) ?_
            refine pcc_v (va_runV (C := "BigRunner$LongDivision") (As := [.int (nI pl)]) (rest := []) ⟨hx, hb, hml, hown, tb_nil⟩ (c_putBack l g H.size f2 D pl n h hV z hL t_D hI8 ed e6 hc e7 cV (by omega)) ⟨(callB_of 1 (tb_one (wd_825 hB _)) tb_good1 rfl rfl rfl (wd_81 hB _) (wd_822 hB _) (by decide +kernel) ⟨Nat.le_of_ble_eq_true rfl, Nat.le_of_ble_eq_true rfl⟩), (wd_824 hB _), (wd_36 hB _)⟩ ⟨pe_bl, pg_recv (ci := 3) hK hP (lo_in hL t_D (by decide)) ed rfl, pe_pre hB hK hP hD⟩ rfl rfl hl.1 rfl (lv_room (Nat.le_of_ble_eq_true rfl)) d_NLongDivision_takeAway_124 ⟨Nat.le_of_ble_eq_true rfl, Nat.le_of_ble_eq_true rfl⟩) hS (fun f17 H locs hq18 hP hD hS => ?_)
            obtain ⟨pb_19, hI1_20, hk1_21⟩ := hq18
            have hu : ∀ b, b ≠ (g.lk D 0) → f17 b = f b := fun b q0 => (hk1_21 b q0).trans (hu b q0)
            have hv9 := hv9.st hk1_21 (lo_k4_0 hL _ t_D) (by decide)
            have ed := (hk1_21 D (tg_ne t_D (lo_k4_0 hL _ t_D) (by decide))).trans ed
            have e7 := (hk1_21 (g.lk D 1) (Ne.symm (lo_ne4 hL _ t_D))).trans e7
            obtain ⟨hb22, e23, c24, kb25, hl26, hl27⟩ := pb_19
            refine lv_iload hx hb d_NLongDivision_takeAway_127 (lv_at hl 0 rfl) ?_
            refine lv_if_eq (tgt := 138) hx hb d_NLongDivision_takeAway_129 (by decide) (fun b28 => ?_) (fun b28 => ?_)
            · skip
              replace b28 := (nI_eq (a := 1) (b := 0) (by omega) (by omega)).mp b28
              exfalso; omega
            · skip
              replace b28 := mt (nI_eq (a := 1) (b := 0) (by omega) (by omega)).mpr b28
              refine lv_lload_n hx hb d_NLongDivision_takeAway_132 rfl (lv_at hl 3 rfl) ?_
              refine lv_lconst (v := nL 1) hx hb d_NLongDivision_takeAway_133 (by decide) ?_
              refine pf_lsubN (x := gs) (y := 1) hx hb (by omega) d_NLongDivision_takeAway_134 ?_
              refine lv_goto (tgt := 139) hx hb d_NLongDivision_takeAway_135 (by decide) ?_
              refine pf_l2iN hx hb d_NLongDivision_takeAway_139 ?_
              exact pe_iret hx hb hr hlocks hK hP hD hS d_NLongDivision_takeAway_140 ⟨⟨_, by omega, rfl⟩, ⟨_, e23, c24, kn_f2 he hlo (kv_lt (fun j hj => dg_lt c24 (by omega))) hVP (t := dg hU (pl + n)) k2 (by omega) hl27 hl26⟩, hI1_20, hu⟩
      · skip
        replace b10 := mt (nI_leI (a := n) (b := i) (by omega) (by omega)).mpr b10
        refine lv_lload hx hb d_NLongDivision_takeAway_15 (lv_at hl 1 rfl) ?_
        refine lv_lload_n hx hb d_NLongDivision_takeAway_17 rfl (lv_at hl 3 rfl) ?_
        refine lv_aload_n hx hb d_NLongDivision_takeAway_18 rfl (lv_at hl 2 rfl) ?_
        refine pf_get (v := .ref (g.lk D 1)) (C := "BigRunner$LongDivision") (T := FT3) (N := 3) hx hb (hw3 hB _) (fun _ h9 => h9) hown hK hP (lo_in hL t_D (by decide)) ed rfl 1 (by decide) (wd_320 hB _) rfl d_NLongDivision_takeAway_19 ?_
        refine lv_iload hx hb d_NLongDivision_takeAway_22 (lv_at hl 0 rfl) ?_
        refine pf_iald (i := i) hx hb hK hP (lo_in hL (lo_k4_1 hL _ t_D) (by decide)) e7 (lo_t22 hL _ (lo_k4_1 hL _ t_D)) (by omega) (by decide) d_NLongDivision_takeAway_24 ?_
        have hd29 := dg_lt cV (j := i) (by omega)
        refine lv_topi (fun z_ hz_ => ?_)
        obtain rfl : z_ = nI (dg hV i) := hz_.trans (dg_eq cV (by omega))
        refine pf_i2lN hx hb (by omega) d_NLongDivision_takeAway_25 ?_
        refine pf_lmulN (x := gs) (y := dg hV i) hx hb d_NLongDivision_takeAway_26 ?_
        have hm30 : gs * (dg hV i) ≤ 999999999 * 999999999 := Nat.mul_le_mul (by omega) (by omega)
        refine pf_laddN (x := cy) (y := gs * (dg hV i)) hx hb d_NLongDivision_takeAway_27 ?_
        refine lv_lstore (lv' := [(4, .long (nL (cy + (gs * (dg hV i))))), (6, .int (nI i)), (0, .ref D), (1, .long (nL gs)), (3, .int (nI pl))]) hx hb d_NLongDivision_takeAway_28 hl (by decide) rfl (fun ls hl => ?_)
        refine lv_aload_n hx hb d_NLongDivision_takeAway_30 rfl (lv_at hl 2 rfl) ?_
        refine pf_get (v := .ref (g.lk D 0)) (C := "BigRunner$LongDivision") (T := FT3) (N := 3) hx hb (hw3 hB _) (fun _ h9 => h9) hown hK hP (lo_in hL t_D (by decide)) ed rfl 0 (by decide) (wd_319 hB _) rfl d_NLongDivision_takeAway_31 ?_
        refine lv_iload_n hx hb d_NLongDivision_takeAway_34 rfl (lv_at hl 4 rfl) ?_
        refine lv_iload hx hb d_NLongDivision_takeAway_35 (lv_at hl 1 rfl) ?_
        refine pf_iaddN (x := pl) (y := i) hx hb d_NLongDivision_takeAway_37 ?_
        refine pf_iald (i := pl + i) hx hb hK hP (lo_in hL (lo_k4_0 hL _ t_D) (by decide)) e6 (lo_t22 hL _ (lo_k4_0 hL _ t_D)) (by omega) (by decide) d_NLongDivision_takeAway_38 ?_
        have hd31 := dg_lt hc (j := pl + i) (by omega)
        refine lv_topi (fun z_ hz_ => ?_)
        obtain rfl : z_ = nI (dg h (pl + i)) := hz_.trans (dg_eq hc (by omega))
        refine lv_lload hx hb d_NLongDivision_takeAway_39 (lv_at hl 0 rfl) ?_
        refine lv_ldc2 (v := 1000000000) hx hb hown (wd_813 hB _) d_NLongDivision_takeAway_41 ?_
        refine lv_topl (fun z_ hz_ => ?_)
        obtain rfl : z_ = nL 1000000000 := hz_
        refine pf_lremN (x := cy + (gs * (dg hV i))) (y := 1000000000) hx hb (by omega) (by omega) (by omega) d_NLongDivision_takeAway_44 ?_
        refine pf_l2iN hx hb d_NLongDivision_takeAway_45 ?_
        refine lv_isub hx hb d_NLongDivision_takeAway_46 ?_
        refine lv_istore (lv' := [(7, .int (nI (dg h (pl + i)) - nI ((cy + (gs * (dg hV i))) % 1000000000))), (4, .long (nL (cy + (gs * (dg hV i))))), (6, .int (nI i)), (0, .ref D), (1, .long (nL gs)), (3, .int (nI pl))]) hx hb d_NLongDivision_takeAway_47 hl (by decide) rfl (fun ls hl => ?_)
        refine lv_lload hx hb d_NLongDivision_takeAway_49 (lv_at hl 1 rfl) ?_
        refine lv_ldc2 (v := 1000000000) hx hb hown (wd_813 hB _) d_NLongDivision_takeAway_51 ?_
        refine lv_topl (fun z_ hz_ => ?_)
        obtain rfl : z_ = nL 1000000000 := hz_
        refine pf_ldivN (x := cy + (gs * (dg hV i))) (y := 1000000000) hx hb (by omega) (by omega) (by omega) d_NLongDivision_takeAway_54 ?_
        refine lv_lstore (lv' := [(4, .long (nL ((cy + (gs * (dg hV i))) / 1000000000))), (7, .int (nI (dg h (pl + i)) - nI ((cy + (gs * (dg hV i))) % 1000000000))), (6, .int (nI i)), (0, .ref D), (1, .long (nL gs)), (3, .int (nI pl))]) hx hb d_NLongDivision_takeAway_55 hl (by decide) rfl (fun ls hl => ?_)
        refine lv_iload hx hb d_NLongDivision_takeAway_57 (lv_at hl 1 rfl) ?_
        refine lv_if_ge (tgt := 75) hx hb d_NLongDivision_takeAway_59 (by decide) (fun b32 => ?_) (fun b32 => ?_)
        · skip
          replace b32 : ¬ (dg h (pl + i)) < ((cy + (gs * (dg hV i))) % 1000000000) := fun q9 => absurd ((nI_dlt (u := dg h (pl + i)) (m := (cy + (gs * (dg hV i))) % 1000000000) (by omega) (by omega)).mpr q9) (Int32.not_lt.mpr b32)
          refine lv_aload_n hx hb d_NLongDivision_takeAway_75 rfl (lv_at hl 3 rfl) ?_
          refine pf_get (v := .ref (g.lk D 0)) (C := "BigRunner$LongDivision") (T := FT3) (N := 3) hx hb (hw3 hB _) (fun _ h9 => h9) hown hK hP (lo_in hL t_D (by decide)) ed rfl 0 (by decide) (wd_319 hB _) rfl d_NLongDivision_takeAway_76 ?_
          refine lv_iload_n hx hb d_NLongDivision_takeAway_79 rfl (lv_at hl 5 rfl) ?_
          refine lv_iload hx hb d_NLongDivision_takeAway_80 (lv_at hl 2 rfl) ?_
          refine pf_iaddN (x := pl) (y := i) hx hb d_NLongDivision_takeAway_82 ?_
          refine lv_iload hx hb d_NLongDivision_takeAway_83 (lv_at hl 1 rfl) ?_
          refine lv_topi (fun z_ hz_ => ?_)
          obtain rfl : z_ = nI ((dg h (pl + i)) - ((cy + (gs * (dg hV i))) % 1000000000)) := hz_.trans (pk_sub (by omega))
          refine pf_iast (i := pl + i) hx hb hK hP hD hS (lo_in hL (lo_k4_0 hL _ t_D) (by decide)) e6 (lo_t22 hL _ (lo_k4_0 hL _ t_D)) (by omega) (by decide) d_NLongDivision_takeAway_85 (fun f33 H locs e34 k35 hP hD hS => ?_)
          have ed := (k35 D (tg_ne t_D (lo_k4_0 hL _ t_D) (by decide))).trans ed
          have e7 := (k35 (g.lk D 1) (Ne.symm (lo_ne4 hL _ t_D))).trans e7
          have hu : ∀ b, b ≠ (g.lk D 0) → f33 b = f b := fun b q0 => (k35 b q0).trans (hu b q0)
          have hv9 := hv9.st k35 (lo_k4_0 hL _ t_D) (by decide)
          have hk36 : ∀ b, b ≠ (g.lk D 0) → f33 b = f2 b := k35
          have c37 := lb_upd (n := 16) (i := pl + i) (v := (dg h (pl + i)) - ((cy + (gs * (dg hV i))) % 1000000000)) hc (by omega)
          refine lv_iinc (k := 2) (v := nI (i + 1)) (lv' := [(6, .int (nI (i + 1))), (4, .long (nL ((cy + (gs * (dg hV i))) / 1000000000))), (7, .int (nI (dg h (pl + i)) - nI ((cy + (gs * (dg hV i))) % 1000000000))), (0, .ref D), (1, .long (nL gs)), (3, .int (nI pl))]) hx hb d_NLongDivision_takeAway_86 hl rfl (by rw [nI_succ]; rfl) (by decide) rfl (fun ls hl => ?_)
          refine lv_goto (tgt := 6) hx hb d_NLongDivision_takeAway_89 (by decide) ?_
          have hI38 := ix_1 hI8 hL (lo_k4_0 hL _ t_D) (by decide) hk36 (oc_22.mk (lo_k4_0 hL _ t_D) (⟨_, e34, c37⟩))
          have hl : lv_has ls 8 [(6, .int (nI (i + 1))), (4, .long (nL ((cy + (gs * (dg hV i))) / 1000000000))), (0, .ref D), (1, .long (nL gs)), (3, .int (nI pl))] := lv_sub hl [0, 1, 3, 4, 5] rfl
          exact ih4 ((cy + (gs * (dg hV i))) / 1000000000) (i + 1) (upd h (pl + i) ((nI ((dg h (pl + i)) - ((cy + (gs * (dg hV i))) % 1000000000))))) f33 H locs ls (by omega) (by omega) (by omega) c37 (up_same hs) (fun z9 => by have y9 := ta_z (w := dg hV i) hz z9; omega) (ta_step1 hs (by omega) he (by omega)) e34 e7 hI38 hv9 hu hl hP hD hS
        · skip
          replace b32 := ((nI_dlt (u := dg h (pl + i)) (m := (cy + (gs * (dg hV i))) % 1000000000) (by omega) (by omega)).mp (Int32.not_le.mp b32))
          refine lv_iload hx hb d_NLongDivision_takeAway_62 (lv_at hl 1 rfl) ?_
          refine lv_ldc (v := 1000000000) hx hb hown (wd_809 hB _) d_NLongDivision_takeAway_64 ?_
          refine lv_topi (fun z_ hz_ => ?_)
          obtain rfl : z_ = nI 1000000000 := hz_
          refine lv_iadd hx hb d_NLongDivision_takeAway_66 ?_
          rw [nI_dad (show ((cy + (gs * (dg hV i))) % 1000000000) ≤ (dg h (pl + i)) + 1000000000 by omega)]
          refine lv_istore (lv' := [(7, .int (nI ((dg h (pl + i)) + 1000000000 - ((cy + (gs * (dg hV i))) % 1000000000)))), (4, .long (nL ((cy + (gs * (dg hV i))) / 1000000000))), (6, .int (nI i)), (0, .ref D), (1, .long (nL gs)), (3, .int (nI pl))]) hx hb d_NLongDivision_takeAway_67 hl (by decide) rfl (fun ls hl => ?_)
          refine lv_lload hx hb d_NLongDivision_takeAway_69 (lv_at hl 1 rfl) ?_
          refine lv_lconst (v := nL 1) hx hb d_NLongDivision_takeAway_71 (by decide) ?_
          refine pf_laddN (x := (cy + (gs * (dg hV i))) / 1000000000) (y := 1) hx hb d_NLongDivision_takeAway_72 ?_
          refine lv_lstore (lv' := [(4, .long (nL (((cy + (gs * (dg hV i))) / 1000000000) + 1))), (7, .int (nI ((dg h (pl + i)) + 1000000000 - ((cy + (gs * (dg hV i))) % 1000000000)))), (6, .int (nI i)), (0, .ref D), (1, .long (nL gs)), (3, .int (nI pl))]) hx hb d_NLongDivision_takeAway_73 hl (by decide) rfl (fun ls hl => ?_)
          refine lv_aload_n hx hb d_NLongDivision_takeAway_75 rfl (lv_at hl 3 rfl) ?_
          refine pf_get (v := .ref (g.lk D 0)) (C := "BigRunner$LongDivision") (T := FT3) (N := 3) hx hb (hw3 hB _) (fun _ h9 => h9) hown hK hP (lo_in hL t_D (by decide)) ed rfl 0 (by decide) (wd_319 hB _) rfl d_NLongDivision_takeAway_76 ?_
          refine lv_iload_n hx hb d_NLongDivision_takeAway_79 rfl (lv_at hl 5 rfl) ?_
          refine lv_iload hx hb d_NLongDivision_takeAway_80 (lv_at hl 2 rfl) ?_
          refine pf_iaddN (x := pl) (y := i) hx hb d_NLongDivision_takeAway_82 ?_
          refine lv_iload hx hb d_NLongDivision_takeAway_83 (lv_at hl 1 rfl) ?_
          refine pf_iast (i := pl + i) hx hb hK hP hD hS (lo_in hL (lo_k4_0 hL _ t_D) (by decide)) e6 (lo_t22 hL _ (lo_k4_0 hL _ t_D)) (by omega) (by decide) d_NLongDivision_takeAway_85 (fun f39 H locs e40 k41 hP hD hS => ?_)
          have ed := (k41 D (tg_ne t_D (lo_k4_0 hL _ t_D) (by decide))).trans ed
          have e7 := (k41 (g.lk D 1) (Ne.symm (lo_ne4 hL _ t_D))).trans e7
          have hu : ∀ b, b ≠ (g.lk D 0) → f39 b = f b := fun b q0 => (k41 b q0).trans (hu b q0)
          have hv9 := hv9.st k41 (lo_k4_0 hL _ t_D) (by decide)
          have hk42 : ∀ b, b ≠ (g.lk D 0) → f39 b = f2 b := k41
          have c43 := lb_upd (n := 16) (i := pl + i) (v := (dg h (pl + i)) + 1000000000 - ((cy + (gs * (dg hV i))) % 1000000000)) hc (by omega)
          refine lv_iinc (k := 2) (v := nI (i + 1)) (lv' := [(6, .int (nI (i + 1))), (4, .long (nL (((cy + (gs * (dg hV i))) / 1000000000) + 1))), (7, .int (nI ((dg h (pl + i)) + 1000000000 - ((cy + (gs * (dg hV i))) % 1000000000)))), (0, .ref D), (1, .long (nL gs)), (3, .int (nI pl))]) hx hb d_NLongDivision_takeAway_86 hl rfl (by rw [nI_succ]; rfl) (by decide) rfl (fun ls hl => ?_)
          refine lv_goto (tgt := 6) hx hb d_NLongDivision_takeAway_89 (by decide) ?_
          have hI44 := ix_1 hI8 hL (lo_k4_0 hL _ t_D) (by decide) hk42 (oc_22.mk (lo_k4_0 hL _ t_D) (⟨_, e40, c43⟩))
          have hl : lv_has ls 8 [(6, .int (nI (i + 1))), (4, .long (nL (((cy + (gs * (dg hV i))) / 1000000000) + 1))), (0, .ref D), (1, .long (nL gs)), (3, .int (nI pl))] := lv_sub hl [0, 1, 3, 4, 5] rfl
          exact ih4 (((cy + (gs * (dg hV i))) / 1000000000) + 1) (i + 1) (upd h (pl + i) ((nI ((dg h (pl + i)) + 1000000000 - ((cy + (gs * (dg hV i))) % 1000000000))))) f39 H locs ls (by omega) (by omega) (by omega) c43 (up_same hs) (fun z9 => by have y9 := ta_z (w := dg hV i) hz z9; omega) (ta_step2 hs (by omega) he (by omega)) e40 e7 hI44 hv9 hu hl hP hD hS
  exact lp1 (n + 1) 0 0 hU f s.heap [] ls (by omega) (by omega) (by omega) cU (fun _ _ => rfl) (fun _ => rfl) (by simp [kv]) eU eV hI un.rf hu hl hP hD hS
set_option maxHeartbeats 4000000 in
set_option maxRecDepth 100000 in
theorem c_reduce (l : Launch) (g : Lay) (sz : Nat) (f : Nat → va_E) (D : Nat) (sc : Nat) (z : Nat) (n : Nat) (hL : LO g) (t_D : g.tg D = 4) (t_z : g.tg z = 5) (hI : IX g z f) (ed : f D = .inr (3, [.ref (g.lk D 0), .ref (g.lk D 1), .int (nI n)])) (hn : n ≤ 15) (hs : 0 < sc ∧ sc < 1000000000) : Met l ⟨"BigRunner$LongDivision", "reduce", "(ILBigRunner$LongNumber;)V"⟩ [Cond.code ⟨"BigRunner$LongDivision", "reduce", "(ILBigRunner$LongNumber;)V"⟩ prog_4_method_4_code 6 none] ({ frames := 0, cells := 0, slots := 0, locals := 0 }) (va_Pc [.ref D, .int (nI sc), .ref z] (pc_in g sz f)) (va_Qv (fun f1 => (IX g z f1) ∧ (un [23] g f f1)) (pc_out g sz) (pc_A g sz)) 0 0 (pc_A g sz) := by
  refine pe_ofW (cc := prog_4_method_4_code) (maxL := 6) (ret := none) (lv := [(0, .ref D), (1, .int (nI sc)), (2, .ref z)]) (by decide) (Nat.le_of_ble_eq_true rfl) rfl ?_
  intro p e s m args below meth c ls hx hb hr hml hlocks hown hB hP hK hD hsz hS hl
  subst hsz
  have hu : un [23] g f f := un.rf
  refine lv_iload_n hx hb d_NLongDivision_reduce_0 rfl (lv_at hl 1 rfl) ?_
  refine lv_if_ne (tgt := 5) hx hb d_NLongDivision_reduce_1 (by decide) (fun b1 => ?_) (fun b1 => ?_)
  · skip
    replace b1 := mt (nI_eq (a := sc) (b := 0) (by omega) (by omega)).mpr b1
    refine lv_lconst (v := nL 0) hx hb d_NLongDivision_reduce_5 (by decide) ?_
    refine lv_lstore_n (lv' := [(3, .long (nL 0)), (0, .ref D), (1, .int (nI sc)), (2, .ref z)]) hx hb d_NLongDivision_reduce_6 rfl hl (by decide) rfl (fun ls hl => ?_)
    refine lv_aload_n hx hb d_NLongDivision_reduce_7 rfl (lv_at hl 1 rfl) ?_
    refine pf_get (v := .int (nI n)) (C := "BigRunner$LongDivision") (T := FT3) (N := 3) hx hb (hw3 hB _) (fun _ h9 => h9) hown hK hP (lo_in hL t_D (by decide)) ed rfl 2 (by decide) (wd_321 hB _) rfl d_NLongDivision_reduce_8 ?_
    refine lv_iconst (v := nI 1) hx hb d_NLongDivision_reduce_11 (by decide) ?_
    refine lv_isub hx hb d_NLongDivision_reduce_12 ?_
    refine lv_istore (lv' := [(5, .int (nI n - nI 1)), (3, .long (nL 0)), (0, .ref D), (1, .int (nI sc)), (2, .ref z)]) hx hb d_NLongDivision_reduce_13 hl (by decide) rfl (fun ls hl => ?_)
    have lp2 : ∀ (k4 : Nat) (lf : Nat) (j : Nat) (f3 : Nat → va_E) (H : Heap) (locs : List Loc) (ls : Array Slot), (j < k4) → (lf < sc) → (j ≤ n) → IX g z f3 → un [23] g f f3 → lv_has ls 6 [(5, .int (nI j - nI 1)), (3, .long (nL lf)), (0, .ref D), (1, .int (nI sc)), (2, .ref z)] → va_P g.D vcl (va_pl g.LP f3) H → va_D (pc_A g s.heap.size) (va_pl g.LP f3) → va_S (pc_A g s.heap.size) s.heap H locs → W p l e ({ frames := 0, cells := 0, slots := 0, locals := 0 }) s m args below meth c H locs 0 0 (MQ below (va_Qv (fun f1 => (IX g z f1) ∧ (un [23] g f f1)) (pc_out g s.heap.size) (pc_A g s.heap.size)) args s 0 0 (pc_A g s.heap.size)) (F0 m 15 ls []) := by
      intro k4
      induction k4 with
      | zero => intros; exfalso; omega
      | succ k4 ih5 =>
        intro lf j f3 H locs ls hfu6 hlf hj hI7 hv8 hl hP hD hS
        have ed := hv8.at t_D (by decide) ed
        have hu := hu.tr hv8 (by decide)
        cases j with
        | zero =>
          have hl : lv_has ls 6 [(5, .int (-1)), (3, .long (nL lf)), (0, .ref D), (1, .int (nI sc)), (2, .ref z)] := by rw [show nI 0 - nI 1 = (-1 : Int32) by decide] at hl; exact hl
          refine lv_iload hx hb d_NLongDivision_reduce_15 (lv_at hl 0 rfl) ?_
          refine lv_if_lt (tgt := 58) hx hb d_NLongDivision_reduce_17 (by decide) (fun b9 => ?_) (fun b9 => ?_)
          · skip
            exact pe_vret hx hb hr hlocks hK hP hD hS d_NLongDivision_reduce_58 ⟨hI7, hu⟩
          · skip
            exact absurd (by decide) b9
        | succ j =>
          have hl : lv_has ls 6 [(5, .int (nI j)), (3, .long (nL lf)), (0, .ref D), (1, .int (nI sc)), (2, .ref z)] := by rw [nI_pr1] at hl; exact hl
          refine lv_iload hx hb d_NLongDivision_reduce_15 (lv_at hl 0 rfl) ?_
          refine lv_if_lt (tgt := 58) hx hb d_NLongDivision_reduce_17 (by decide) (fun b10 => ?_) (fun b10 => ?_)
          · skip
            replace b10 := (nI_ltI (a := j) (b := 0) (by omega) (by omega)).mp b10
            exfalso; omega
          · skip
            replace b10 := mt (nI_ltI (a := j) (b := 0) (by omega) (by omega)).mpr b10
            refine lv_lload_n hx hb d_NLongDivision_reduce_20 rfl (lv_at hl 1 rfl) ?_
            refine lv_ldc2 (v := 1000000000) hx hb hown (wd_813 hB _) d_NLongDivision_reduce_21 ?_
            refine lv_topl (fun z_ hz_ => ?_)
            obtain rfl : z_ = nL 1000000000 := hz_
            refine pf_lmulN (x := lf) (y := 1000000000) hx hb d_NLongDivision_reduce_24 ?_
            refine lv_aload_n hx hb d_NLongDivision_reduce_25 rfl (lv_at hl 2 rfl) ?_
            refine pf_get (v := .ref (g.lk D 0)) (C := "BigRunner$LongDivision") (T := FT3) (N := 3) hx hb (hw3 hB _) (fun _ h9 => h9) hown hK hP (lo_in hL t_D (by decide)) ed rfl 0 (by decide) (wd_319 hB _) rfl d_NLongDivision_reduce_26 ?_
            refine lv_iload hx hb d_NLongDivision_reduce_29 (lv_at hl 0 rfl) ?_
            obtain ⟨h_12, e11, c13⟩ := oc_22.of (lo_k4_0 hL _ t_D) (hI7.1 (g.lk D 0))
            refine pf_iald (i := j) hx hb hK hP (lo_in hL (lo_k4_0 hL _ t_D) (by decide)) e11 (lo_t22 hL _ (lo_k4_0 hL _ t_D)) (by omega) (by decide) d_NLongDivision_reduce_31 ?_
            refine lv_topi (fun z_ hz_ => ?_)
            obtain ⟨li14, hli14, qli14⟩ := c13 j (by omega)
            obtain rfl : z_ = nI li14 := hz_.trans qli14
            refine pf_i2lN hx hb (by omega) d_NLongDivision_reduce_32 ?_
            refine pf_laddN (x := lf * 1000000000) (y := li14) hx hb d_NLongDivision_reduce_33 ?_
            refine lv_lstore_n (lv' := [(3, .long (nL ((lf * 1000000000) + li14))), (5, .int (nI j)), (0, .ref D), (1, .int (nI sc)), (2, .ref z)]) hx hb d_NLongDivision_reduce_34 rfl hl (by decide) rfl (fun ls hl => ?_)
            refine lv_aload_n hx hb d_NLongDivision_reduce_35 rfl (lv_at hl 4 rfl) ?_
            obtain ⟨sg_16, n_17, e15, c18⟩ := oc_5.of t_z (hI7.1 z)
            refine pf_get (v := .ref (g.lk z 2)) (C := "BigRunner$LongNumber") (T := FT4) (N := 3) hx hb (hw4 hB _) (fun _ h9 => h9) hown hK hP (lo_in hL t_z (by decide)) e15 rfl 2 (by decide) (wd_193 hB _) rfl d_NLongDivision_reduce_36 ?_
            refine lv_iload hx hb d_NLongDivision_reduce_39 (lv_at hl 1 rfl) ?_
            refine lv_lload_n hx hb d_NLongDivision_reduce_41 rfl (lv_at hl 0 rfl) ?_
            refine lv_iload_n hx hb d_NLongDivision_reduce_42 rfl (lv_at hl 3 rfl) ?_
            refine pf_i2lN hx hb (by omega) d_NLongDivision_reduce_43 ?_
            refine pf_ldivN (x := (lf * 1000000000) + li14) (y := sc) hx hb (by omega) (by omega) (by omega) d_NLongDivision_reduce_44 ?_
            have hm19 : ((lf * 1000000000) + li14) / sc < 1000000000 := Nat.div_lt_of_lt_mul (by omega)
            refine pf_l2iN hx hb d_NLongDivision_reduce_45 ?_
            obtain ⟨h_21, e20, c22⟩ := oc_23.of (lo_k5_2 hL _ t_z) (hI7.1 (g.lk z 2))
            refine pf_iast (i := j) hx hb hK hP hD hS (lo_in hL (lo_k5_2 hL _ t_z) (by decide)) e20 (lo_t23 hL _ (lo_k5_2 hL _ t_z)) (by omega) (by decide) d_NLongDivision_reduce_46 (fun f23 H locs e24 k25 hP hD hS => ?_)
            have ed := (k25 D (tg_ne t_D (lo_k5_2 hL _ t_z) (by decide))).trans ed
            have e11 := (k25 (g.lk D 0) (tg_ne (lo_k4_0 hL _ t_D) (lo_k5_2 hL _ t_z) (by decide))).trans e11
            have e15 := (k25 z (tg_ne t_z (lo_k5_2 hL _ t_z) (by decide))).trans e15
            have hu := hu.st k25 (lo_k5_2 hL _ t_z) (by decide)
            have hv8 := hv8.st k25 (lo_k5_2 hL _ t_z) (by decide)
            have hk26 : ∀ b, b ≠ (g.lk z 2) → f23 b = f3 b := k25
            have c27 := lb_upd (n := 15) (i := j) (v := ((lf * 1000000000) + li14) / sc) c22 (by omega)
            refine lv_lload_n hx hb d_NLongDivision_reduce_47 rfl (lv_at hl 0 rfl) ?_
            refine lv_iload_n hx hb d_NLongDivision_reduce_48 rfl (lv_at hl 3 rfl) ?_
            refine pf_i2lN hx hb (by omega) d_NLongDivision_reduce_49 ?_
            refine pf_lremN (x := (lf * 1000000000) + li14) (y := sc) hx hb (by omega) (by omega) (by omega) d_NLongDivision_reduce_50 ?_
            have hm28 : ((lf * 1000000000) + li14) % sc < sc := Nat.mod_lt _ (by omega)
            refine lv_lstore_n (lv' := [(3, .long (nL (((lf * 1000000000) + li14) % sc))), (5, .int (nI j)), (0, .ref D), (1, .int (nI sc)), (2, .ref z)]) hx hb d_NLongDivision_reduce_51 rfl hl (by decide) rfl (fun ls hl => ?_)
            refine lv_iinc (k := 1) (v := nI j - nI 1) (lv' := [(5, .int (nI j - nI 1)), (3, .long (nL (((lf * 1000000000) + li14) % sc))), (0, .ref D), (1, .int (nI sc)), (2, .ref z)]) hx hb d_NLongDivision_reduce_52 hl rfl (by rw [Int32.sub_eq_add_neg]; rfl) (by decide) rfl (fun ls hl => ?_)
            refine lv_goto (tgt := 15) hx hb d_NLongDivision_reduce_55 (by decide) ?_
            have hI29 := ix_23 hI7 hL t_z hk26 (⟨_, e24, c27⟩)
            exact ih5 (((lf * 1000000000) + li14) % sc) j f23 H locs ls (by omega) (by omega) (by omega) hI29 hv8 hl hP hD hS
    exact lp2 (n + 1) 0 n f s.heap [] ls (by omega) (by omega) (by omega) hI un.rf hl hP hD hS
  · skip
    replace b1 := (nI_eq (a := sc) (b := 0) (by omega) (by omega)).mp b1
    exfalso; omega
set_option maxHeartbeats 4000000 in
set_option maxRecDepth 100000 in
theorem c_divide (l : Launch) (g : Lay) (sz : Nat) (f : Nat → va_E) (D : Nat) (x : Nat) (y : Nat) (z : Nat) (wr : Int32) (hL : LO g) (t_D : g.tg D = 4) (t_x : g.tg x = 5) (t_y : g.tg y = 5) (t_z : g.tg z = 5) (hI : IV g f) (h1 : x ≠ z) (h2 : y ≠ z) : Met l ⟨"BigRunner$LongDivision", "divide", "(LBigRunner$LongNumber;LBigRunner$LongNumber;LBigRunner$LongNumber;Z)V"⟩ [Cond.code ⟨"BigRunner$LongDivision", "divide", "(LBigRunner$LongNumber;LBigRunner$LongNumber;LBigRunner$LongNumber;Z)V"⟩ prog_4_method_2_code 8 none] ({ frames := 2, cells := 0, slots := 0, locals := 82 }) (va_Pc [.ref D, .ref x, .ref y, .ref z, .int wr] (pc_in g sz f)) (va_Qv (fun f1 => (IV g f1) ∧ (un [4, 5, 22, 23] g f f1)) (pc_out g sz) (pc_A g sz)) 0 0 (pc_A g sz) := by
  refine pe_ofW (cc := prog_4_method_2_code) (maxL := 8) (ret := none) (lv := [(0, .ref D), (1, .ref x), (2, .ref y), (3, .ref z), (4, .int wr)]) (by decide) (Nat.le_of_ble_eq_true rfl) rfl ?_
  intro p e s m args below meth c ls hx hb hr hml hlocks hown hB hP hK hD hsz hS hl
  subst hsz
  have hu : un [4, 5, 22, 23] g f f := un.rf
  obtain ⟨sg_2, n_3, e1, c4⟩ := oc_5.of t_x (hI.1 x)
  obtain ⟨h_6, e5, c7⟩ := oc_23.of (lo_k5_2 hL _ t_x) (hI.1 (g.lk x 2))
  obtain ⟨sg_9, n_10, e8, c11⟩ := oc_5.of t_y (hI.1 y)
  obtain ⟨h_13, e12, c14⟩ := oc_23.of (lo_k5_2 hL _ t_y) (hI.1 (g.lk y 2))
  have hny := hI.2 y t_y n_10 _ _ e8 e12 (by omega)
  refine lv_aload_n hx hb d_NLongDivision_divide_0 rfl (lv_at hl 0 rfl) ?_
  refine lv_aload_n hx hb d_NLongDivision_divide_1 rfl (lv_at hl 2 rfl) ?_
  refine pf_get (v := .int (nI n_10)) (C := "BigRunner$LongNumber") (T := FT4) (N := 3) hx hb (hw4 hB _) (fun _ h9 => h9) hown hK hP (lo_in hL t_y (by decide)) e8 rfl 1 (by decide) (wd_191 hB _) rfl d_NLongDivision_divide_2 ?_
  obtain ⟨n_16, e15, c17⟩ := oc_4.of t_D (hI.1 D)
  refine pf_put (v := .int (nI n_10)) (ty := .int) (fs' := [.ref (g.lk D 0), .ref (g.lk D 1), .int (nI n_10)]) (C := "BigRunner$LongDivision") (T := FT3) (N := 3) hx hb (hw3 hB _) (fun _ h9 => h9) TY3 ok3 nm3 hown hK hP hD hS (lo_in hL t_D (by decide)) e15 rfl 2 (by decide) (wd_321 hB _) rfl (by decide +kernel) rfl rfl (Nat.le_of_ble_eq_true rfl) rfl d_NLongDivision_divide_5 (fun f18 H locs e19 k20 hP hD hS => ?_)
  have e1 := (k20 x (tg_ne t_x t_D (by decide))).trans e1
  have e5 := (k20 (g.lk x 2) (tg_ne (lo_k5_2 hL _ t_x) t_D (by decide))).trans e5
  have e8 := (k20 y (tg_ne t_y t_D (by decide))).trans e8
  have e12 := (k20 (g.lk y 2) (tg_ne (lo_k5_2 hL _ t_y) t_D (by decide))).trans e12
  have hu := hu.st k20 t_D (by decide)
  have hk21 : ∀ b, b ≠ D → f18 b = f b := k20
  refine lv_aload_n hx hb d_NLongDivision_divide_8 rfl (lv_at hl 0 rfl) ?_
  refine pf_get (v := .int (nI n_10)) (C := "BigRunner$LongDivision") (T := FT3) (N := 3) hx hb (hw3 hB _) (fun _ h9 => h9) hown hK hP (lo_in hL t_D (by decide)) e19 rfl 2 (by decide) (wd_321 hB _) rfl d_NLongDivision_divide_9 ?_
  refine lv_if_eq (tgt := 26) hx hb d_NLongDivision_divide_12 (by decide) (fun b22 => ?_) (fun b22 => ?_)
  · skip
    replace b22 := (nI_eq (a := n_10) (b := 0) (by omega) (by omega)).mp b22
    refine lv_aload_n hx hb d_NLongDivision_divide_26 rfl (lv_at hl 3 rfl) ?_
    refine lv_aload_n hx hb d_NLongDivision_divide_27 rfl (lv_at hl 1 rfl) ?_
    refine lv_aload_n hx hb d_NLongDivision_divide_28 rfl (lv_at hl 1 rfl) ?_
    refine pf_get (v := .int sg_2) (C := "BigRunner$LongNumber") (T := FT4) (N := 3) hx hb (hw4 hB _) (fun _ h9 => h9) hown hK hP (lo_in hL t_x (by decide)) e1 rfl 0 (by decide) (wd_187 hB _) rfl d_NLongDivision_divide_29 ?_
    have hI23 := iv_1 hI hL t_D (by decide) hk21 (oc_4.mk t_D (⟨n_10, e19, (by omega)⟩))
    obtain ⟨sg_25, n_26, e24, c27⟩ := oc_5.of t_z (hI23.1 z)
    refine pcc_v (va_runV (C := "BigRunner$LongNumber") (As := [.ref x, .int sg_2]) (rest := []) ⟨hx, hb, hml, hown, tb_nil⟩ (c_copy l g H.size f18 z x sg_2 hL t_z t_x hI23 h1) ⟨(callB_of 2 (tb_one (wd_746 hB _)) tb_good1 rfl rfl rfl (wd_78 hB _) (wd_807 hB _) (by decide +kernel) ⟨Nat.le_of_ble_eq_true rfl, Nat.le_of_ble_eq_true rfl⟩), (wd_744 hB _), (wd_745 hB _)⟩ ⟨pe_bl, pg_recv (ci := 4) hK hP (lo_in hL t_z (by decide)) e24 rfl, pe_pre hB hK hP hD⟩ rfl rfl hl.1 rfl (lv_room (Nat.le_of_ble_eq_true rfl)) d_NLongDivision_divide_32 ⟨Nat.le_of_ble_eq_true rfl, Nat.le_of_ble_eq_true rfl⟩) hS (fun f29 H locs hq30 hP hD hS => ?_)
    obtain ⟨hI1_31, hu1_32⟩ := hq30
    have hu := hu.tr hu1_32 (by decide)
    have e19 := hu1_32.at t_D (by decide) e19
    refine lv_iload hx hb d_NLongDivision_divide_35 (lv_at hl 4 rfl) ?_
    refine lv_if_ne (tgt := 45) hx hb d_NLongDivision_divide_37 (by decide) (fun b33 => ?_) (fun b33 => ?_)
    · skip
      exact pe_vret hx hb hr hlocks hK hP hD hS d_NLongDivision_divide_45 ⟨hI1_31, hu⟩
    · skip
      refine lv_aload_n hx hb d_NLongDivision_divide_40 rfl (lv_at hl 3 rfl) ?_
      refine lv_lconst (v := nL 0) hx hb d_NLongDivision_divide_41 (by decide) ?_
      obtain ⟨sg_35, n_36, e34, c37⟩ := oc_5.of t_z (hI1_31.1 z)
      refine pcc_v (va_runV (C := "BigRunner$LongNumber") (As := [.long (nL 0)]) (rest := []) ⟨hx, hb, hml, hown, tb_nil⟩ (c_setTo l g H.size f29 z ((nL 0)) hL t_z hI1_31) ⟨(callB_of 1 (tb_one (wd_680 hB _)) tb_good1 rfl rfl rfl (wd_78 hB _) (wd_808 hB _) (by decide +kernel) ⟨Nat.le_of_ble_eq_true rfl, Nat.le_of_ble_eq_true rfl⟩), (wd_678 hB _), (wd_679 hB _)⟩ ⟨pe_bl, pg_recv (ci := 4) hK hP (lo_in hL t_z (by decide)) e34 rfl, pe_pre hB hK hP hD⟩ rfl rfl hl.1 rfl (lv_room (Nat.le_of_ble_eq_true rfl)) d_NLongDivision_divide_42 ⟨Nat.le_of_ble_eq_true rfl, Nat.le_of_ble_eq_true rfl⟩) hS (fun f39 H locs hq40 hP hD hS => ?_)
      obtain ⟨hI1_41, hu1_42⟩ := hq40
      have hu := hu.tr hu1_42 (by decide)
      have e19 := hu1_42.at t_D (by decide) e19
      exact pe_vret hx hb hr hlocks hK hP hD hS d_NLongDivision_divide_45 ⟨hI1_41, hu⟩
  · skip
    replace b22 := mt (nI_eq (a := n_10) (b := 0) (by omega) (by omega)).mpr b22
    refine lv_aload_n hx hb d_NLongDivision_divide_15 rfl (lv_at hl 1 rfl) ?_
    refine pf_get (v := .int (nI n_3)) (C := "BigRunner$LongNumber") (T := FT4) (N := 3) hx hb (hw4 hB _) (fun _ h9 => h9) hown hK hP (lo_in hL t_x (by decide)) e1 rfl 1 (by decide) (wd_191 hB _) rfl d_NLongDivision_divide_16 ?_
    refine lv_aload_n hx hb d_NLongDivision_divide_19 rfl (lv_at hl 0 rfl) ?_
    refine pf_get (v := .int (nI n_10)) (C := "BigRunner$LongDivision") (T := FT3) (N := 3) hx hb (hw3 hB _) (fun _ h9 => h9) hown hK hP (lo_in hL t_D (by decide)) e19 rfl 2 (by decide) (wd_321 hB _) rfl d_NLongDivision_divide_20 ?_
    refine lv_icmp_ge (tgt := 46) hx hb d_NLongDivision_divide_23 (by decide) (fun b43 => ?_) (fun b43 => ?_)
    · skip
      replace b43 := (nI_leI (a := n_10) (b := n_3) (by omega) (by omega)).mp b43
      have hn0 : 0 < n_10 := by omega
      have ht0 : 0 < dg h_13 (n_10 - 1) := by rcases Nat.eq_zero_or_pos (dg h_13 (n_10 - 1)) with q | q; exact absurd ((dg_eq c14 (by omega)).trans (congrArg nI q)) (hny hn0); exact q
      have ht1 : dg h_13 (n_10 - 1) < 1000000000 := dg_lt c14 (by omega)
      refine lv_ldc (v := 1000000000) hx hb hown (wd_809 hB _) d_NLongDivision_divide_46 ?_
      refine lv_topi (fun z_ hz_ => ?_)
      obtain rfl : z_ = nI 1000000000 := hz_
      refine lv_aload_n hx hb d_NLongDivision_divide_48 rfl (lv_at hl 2 rfl) ?_
      refine pf_get (v := .ref (g.lk y 2)) (C := "BigRunner$LongNumber") (T := FT4) (N := 3) hx hb (hw4 hB _) (fun _ h9 => h9) hown hK hP (lo_in hL t_y (by decide)) e8 rfl 2 (by decide) (wd_193 hB _) rfl d_NLongDivision_divide_49 ?_
      refine lv_aload_n hx hb d_NLongDivision_divide_52 rfl (lv_at hl 0 rfl) ?_
      refine pf_get (v := .int (nI n_10)) (C := "BigRunner$LongDivision") (T := FT3) (N := 3) hx hb (hw3 hB _) (fun _ h9 => h9) hown hK hP (lo_in hL t_D (by decide)) e19 rfl 2 (by decide) (wd_321 hB _) rfl d_NLongDivision_divide_53 ?_
      refine lv_iconst (v := nI 1) hx hb d_NLongDivision_divide_56 (by decide) ?_
      refine pf_isubN (x := n_10) (y := 1) hx hb (by omega) d_NLongDivision_divide_57 ?_
      refine pf_iald (i := n_10 - 1) hx hb hK hP (lo_in hL (lo_k5_2 hL _ t_y) (by decide)) e12 (lo_t23 hL _ (lo_k5_2 hL _ t_y)) (by omega) (by decide) d_NLongDivision_divide_58 ?_
      have hd44 := dg_lt c14 (j := n_10 - 1) (by omega)
      refine lv_topi (fun z_ hz_ => ?_)
      obtain rfl : z_ = nI (dg h_13 (n_10 - 1)) := hz_.trans (dg_eq c14 (by omega))
      refine lv_iconst (v := nI 1) hx hb d_NLongDivision_divide_59 (by decide) ?_
      refine pf_iaddN (x := dg h_13 (n_10 - 1)) (y := 1) hx hb d_NLongDivision_divide_60 ?_
      refine pf_idivN (x := 1000000000) (y := (dg h_13 (n_10 - 1)) + 1) hx hb (by omega) (by omega) (by omega) d_NLongDivision_divide_61 ?_
      refine lv_topi (fun z_ hz_ => ?_)
      obtain ⟨sc, hsc⟩ : ∃ z : Nat, z = 1000000000 / ((dg h_13 (n_10 - 1)) + 1) := ⟨_, rfl⟩
      obtain rfl : z_ = nI sc := by rw [hz_, hsc]
      obtain ⟨hs1, hs2, hs3⟩ := dv_sc ht0 ht1 hsc
      refine lv_istore (lv' := [(5, .int (nI sc)), (0, .ref D), (1, .ref x), (2, .ref y), (3, .ref z), (4, .int wr)]) hx hb d_NLongDivision_divide_62 hl (by decide) rfl (fun ls hl => ?_)
      refine lv_aload_n hx hb d_NLongDivision_divide_64 rfl (lv_at hl 2 rfl) ?_
      refine lv_iload hx hb d_NLongDivision_divide_65 (lv_at hl 0 rfl) ?_
      refine lv_aload_n hx hb d_NLongDivision_divide_67 rfl (lv_at hl 1 rfl) ?_
      refine pf_get (v := .ref (g.lk D 0)) (C := "BigRunner$LongDivision") (T := FT3) (N := 3) hx hb (hw3 hB _) (fun _ h9 => h9) hown hK hP (lo_in hL t_D (by decide)) e19 rfl 0 (by decide) (wd_319 hB _) rfl d_NLongDivision_divide_68 ?_
      have hI45 := iv_1 hI hL t_D (by decide) hk21 (oc_4.mk t_D (⟨n_10, e19, (by omega)⟩))
      refine pcc_v (va_runS (As := [.ref x, .int (nI sc), .ref (g.lk D 0)]) (rest := []) ⟨hx, hb, hml, hown, tb_nil⟩ (c_enlarge l g H.size f18 x sc ((g.lk D 0)) n_3 sg_2 h_6 hL t_x (lo_k4_0 hL _ t_D) hI45 e1 e5 c7 (by omega) (by omega)) ⟨(callB_of 3 (tb_one (wd_812 hB _)) tb_good1 rfl rfl rfl (wd_81 hB _) (wd_810 hB _) (by decide +kernel) ⟨Nat.le_of_ble_eq_true rfl, Nat.le_of_ble_eq_true rfl⟩), (wd_811 hB _)⟩ ⟨pe_bl, pe_pre hB hK hP hD⟩ rfl rfl hl.1 rfl (lv_room (Nat.le_of_ble_eq_true rfl)) d_NLongDivision_divide_71 ⟨Nat.le_of_ble_eq_true rfl, Nat.le_of_ble_eq_true rfl⟩) hS (fun f47 H locs hq48 hP hD hS => ?_)
      obtain ⟨en_49, hI1_50, hk1_51⟩ := hq48
      have hu := hu.st hk1_51 (lo_k4_0 hL _ t_D) (by decide)
      have e1 := (hk1_51 x (tg_ne t_x (lo_k4_0 hL _ t_D) (by decide))).trans e1
      have e5 := (hk1_51 (g.lk x 2) (tg_ne (lo_k5_2 hL _ t_x) (lo_k4_0 hL _ t_D) (by decide))).trans e5
      have e8 := (hk1_51 y (tg_ne t_y (lo_k4_0 hL _ t_D) (by decide))).trans e8
      have e12 := (hk1_51 (g.lk y 2) (tg_ne (lo_k5_2 hL _ t_y) (lo_k4_0 hL _ t_D) (by decide))).trans e12
      have e19 := (hk1_51 D (tg_ne t_D (lo_k4_0 hL _ t_D) (by decide))).trans e19
      obtain ⟨hb52, e53, c54, hq55⟩ := en_49
      refine lv_aload_n hx hb d_NLongDivision_divide_74 rfl (lv_at hl 3 rfl) ?_
      refine lv_iload hx hb d_NLongDivision_divide_75 (lv_at hl 0 rfl) ?_
      refine lv_aload_n hx hb d_NLongDivision_divide_77 rfl (lv_at hl 1 rfl) ?_
      refine pf_get (v := .ref (g.lk D 1)) (C := "BigRunner$LongDivision") (T := FT3) (N := 3) hx hb (hw3 hB _) (fun _ h9 => h9) hown hK hP (lo_in hL t_D (by decide)) e19 rfl 1 (by decide) (wd_320 hB _) rfl d_NLongDivision_divide_78 ?_
      refine pcc_v (va_runS (As := [.ref y, .int (nI sc), .ref (g.lk D 1)]) (rest := []) ⟨hx, hb, hml, hown, tb_nil⟩ (c_enlarge l g H.size f47 y sc ((g.lk D 1)) n_10 sg_9 h_13 hL t_y (lo_k4_1 hL _ t_D) hI1_50 e8 e12 c14 (by omega) (by omega)) ⟨(callB_of 3 (tb_one (wd_812 hB _)) tb_good1 rfl rfl rfl (wd_81 hB _) (wd_810 hB _) (by decide +kernel) ⟨Nat.le_of_ble_eq_true rfl, Nat.le_of_ble_eq_true rfl⟩), (wd_811 hB _)⟩ ⟨pe_bl, pe_pre hB hK hP hD⟩ rfl rfl hl.1 rfl (lv_room (Nat.le_of_ble_eq_true rfl)) d_NLongDivision_divide_81 ⟨Nat.le_of_ble_eq_true rfl, Nat.le_of_ble_eq_true rfl⟩) hS (fun f57 H locs hq58 hP hD hS => ?_)
      obtain ⟨en_59, hI1_60, hk1_61⟩ := hq58
      have hu := hu.st hk1_61 (lo_k4_1 hL _ t_D) (by decide)
      have e1 := (hk1_61 x (tg_ne t_x (lo_k4_1 hL _ t_D) (by decide))).trans e1
      have e5 := (hk1_61 (g.lk x 2) (tg_ne (lo_k5_2 hL _ t_x) (lo_k4_1 hL _ t_D) (by decide))).trans e5
      have e8 := (hk1_61 y (tg_ne t_y (lo_k4_1 hL _ t_D) (by decide))).trans e8
      have e12 := (hk1_61 (g.lk y 2) (tg_ne (lo_k5_2 hL _ t_y) (lo_k4_1 hL _ t_D) (by decide))).trans e12
      have e19 := (hk1_61 D (tg_ne t_D (lo_k4_1 hL _ t_D) (by decide))).trans e19
      have e53 := (hk1_61 (g.lk D 0) (lo_ne4 hL _ t_D)).trans e53
      obtain ⟨hb62, e63, c64, hq65⟩ := en_59
      have hxl : ∀ i, i < n_3 → dg h_6 i < 1000000000 := fun i hi => dg_lt c7 (by omega)
      have hyl : ∀ i, i < n_10 → dg h_13 i < 1000000000 := fun i hi => dg_lt c14 (by omega)
      obtain ⟨hV1, hV4⟩ := (dv_V (w := dg hb62) (y := dg h_13) hn0 (fun i hi => dg_lt c64 hi) hyl rfl ht0 hsc hq65).resolve_right (by omega)
      have hR0 := dv_R (u := dg hb52) (w := dg hb62) hn0 (show n_10 ≤ n_3 by omega) hxl hyl ht0 hs1 hq55 hV1
      have hI66 := IV.ix hI1_60 z
      refine lv_aload_n hx hb d_NLongDivision_divide_84 rfl (lv_at hl 2 rfl) ?_
      refine pf_get (v := .int (nI n_3)) (C := "BigRunner$LongNumber") (T := FT4) (N := 3) hx hb (hw4 hB _) (fun _ h9 => h9) hown hK hP (lo_in hL t_x (by decide)) e1 rfl 1 (by decide) (wd_191 hB _) rfl d_NLongDivision_divide_85 ?_
      refine lv_aload_n hx hb d_NLongDivision_divide_88 rfl (lv_at hl 1 rfl) ?_
      refine pf_get (v := .int (nI n_10)) (C := "BigRunner$LongDivision") (T := FT3) (N := 3) hx hb (hw3 hB _) (fun _ h9 => h9) hown hK hP (lo_in hL t_D (by decide)) e19 rfl 2 (by decide) (wd_321 hB _) rfl d_NLongDivision_divide_89 ?_
      refine pf_isubN (x := n_3) (y := n_10) hx hb (by omega) d_NLongDivision_divide_92 ?_
      refine lv_iconst (v := nI 1) hx hb d_NLongDivision_divide_93 (by decide) ?_
      refine pf_iaddN (x := n_3 - n_10) (y := 1) hx hb d_NLongDivision_divide_94 ?_
      refine lv_istore (lv' := [(6, .int (nI ((n_3 - n_10) + 1))), (5, .int (nI sc)), (0, .ref D), (1, .ref x), (2, .ref y), (3, .ref z), (4, .int wr)]) hx hb d_NLongDivision_divide_95 hl (by decide) rfl (fun ls hl => ?_)
      refine lv_iload hx hb d_NLongDivision_divide_97 (lv_at hl 0 rfl) ?_
      refine lv_iconst (v := nI 1) hx hb d_NLongDivision_divide_99 (by decide) ?_
      refine lv_isub hx hb d_NLongDivision_divide_100 ?_
      refine lv_istore (lv' := [(7, .int (nI ((n_3 - n_10) + 1) - nI 1)), (6, .int (nI ((n_3 - n_10) + 1))), (5, .int (nI sc)), (0, .ref D), (1, .ref x), (2, .ref y), (3, .ref z), (4, .int wr)]) hx hb d_NLongDivision_divide_101 hl (by decide) rfl (fun ls hl => ?_)
      have lp67 : ∀ (k69 : Nat) (j : Nat) (hU : Nat → Int32) (f68 : Nat → va_E) (H : Heap) (locs : List Loc) (ls : Array Slot), (j < k69) → (j ≤ (n_3 - n_10) + 1) → (∀ i, i < 16 → ∃ k, k < 1000000000 ∧ hU i = nI k) → (kv (fun i => dg hU (j + i)) n_10 < kv (dg hb62) n_10) → f68 (g.lk D 0) = .inl (g.ac (g.lk D 0), 16, .inl (hU)) → f68 (g.lk D 1) = .inl (g.ac (g.lk D 1), 16, .inl (hb62)) → IX g z f68 → un [22, 23] g f57 f68 → lv_has ls 8 [(7, .int (nI j - nI 1)), (6, .int (nI ((n_3 - n_10) + 1))), (5, .int (nI sc)), (0, .ref D), (1, .ref x), (2, .ref y), (3, .ref z), (4, .int wr)] → va_P g.D vcl (va_pl g.LP f68) H → va_D (pc_A g s.heap.size) (va_pl g.LP f68) → va_S (pc_A g s.heap.size) s.heap H locs → W p l e ({ frames := 2, cells := 0, slots := 0, locals := 82 }) s m args below meth c H locs 0 0 (MQ below (va_Qv (fun f1 => (IV g f1) ∧ (un [4, 5, 22, 23] g f f1)) (pc_out g s.heap.size) (pc_A g s.heap.size)) args s 0 0 (pc_A g s.heap.size)) (F0 m 103 ls []) := by
        intro k69
        induction k69 with
        | zero => intros; exfalso; omega
        | succ k69 ih70 =>
          intro j hU f68 H locs ls hfu71 hj cU hR e72 e73 hI74 hv75 hl hP hD hS
          have e1 := hv75.at t_x (by decide) e1
          have e8 := hv75.at t_y (by decide) e8
          have e19 := hv75.at t_D (by decide) e19
          have hu := hu.tr hv75 (by decide)
          cases j with
          | zero =>
            have hl : lv_has ls 8 [(7, .int (-1)), (6, .int (nI ((n_3 - n_10) + 1))), (5, .int (nI sc)), (0, .ref D), (1, .ref x), (2, .ref y), (3, .ref z), (4, .int wr)] := by rw [show nI 0 - nI 1 = (-1 : Int32) by decide] at hl; exact hl
            refine lv_iload hx hb d_NLongDivision_divide_103 (lv_at hl 0 rfl) ?_
            refine lv_if_lt (tgt := 133) hx hb d_NLongDivision_divide_105 (by decide) (fun b76 => ?_) (fun b76 => ?_)
            · skip
              refine lv_iload hx hb d_NLongDivision_divide_133 (lv_at hl 7 rfl) ?_
              refine lv_if_eq (tgt := 160) hx hb d_NLongDivision_divide_135 (by decide) (fun b77 => ?_) (fun b77 => ?_)
              · skip
                refine lv_aload_n hx hb d_NLongDivision_divide_160 rfl (lv_at hl 6 rfl) ?_
                refine lv_iload hx hb d_NLongDivision_divide_161 (lv_at hl 1 rfl) ?_
                refine lv_aload_n hx hb d_NLongDivision_divide_163 rfl (lv_at hl 4 rfl) ?_
                refine pf_get (v := .int sg_2) (C := "BigRunner$LongNumber") (T := FT4) (N := 3) hx hb (hw4 hB _) (fun _ h9 => h9) hown hK hP (lo_in hL t_x (by decide)) e1 rfl 0 (by decide) (wd_187 hB _) rfl d_NLongDivision_divide_164 ?_
                refine lv_aload_n hx hb d_NLongDivision_divide_167 rfl (lv_at hl 5 rfl) ?_
                refine pf_get (v := .int sg_9) (C := "BigRunner$LongNumber") (T := FT4) (N := 3) hx hb (hw4 hB _) (fun _ h9 => h9) hown hK hP (lo_in hL t_y (by decide)) e8 rfl 0 (by decide) (wd_187 hB _) rfl d_NLongDivision_divide_168 ?_
                refine lv_imul hx hb d_NLongDivision_divide_171 ?_
                obtain ⟨sg_79, n_80, e78, c81⟩ := oc_5.of t_z (hI74.1 z)
                refine pcc_v (va_runV (C := "BigRunner$LongNumber") (As := [.int (nI ((n_3 - n_10) + 1)), .int (sg_2 * sg_9)]) (rest := []) ⟨hx, hb, hml, hown, tb_nil⟩ (c_finish l g H.size f68 z (((n_3 - n_10) + 1)) ((sg_2 * sg_9)) hL t_z hI74 (by omega)) ⟨(callB_of 2 (tb_one (wd_784 hB _)) tb_good1 rfl rfl rfl (wd_78 hB _) (wd_830 hB _) (by decide +kernel) ⟨Nat.le_of_ble_eq_true rfl, Nat.le_of_ble_eq_true rfl⟩), (wd_782 hB _), (wd_783 hB _)⟩ ⟨pe_bl, pg_recv (ci := 4) hK hP (lo_in hL t_z (by decide)) e78 rfl, pe_pre hB hK hP hD⟩ rfl rfl hl.1 rfl (lv_room (Nat.le_of_ble_eq_true rfl)) d_NLongDivision_divide_172 ⟨Nat.le_of_ble_eq_true rfl, Nat.le_of_ble_eq_true rfl⟩) hS (fun f83 H locs hq84 hP hD hS => ?_)
                obtain ⟨hI1_85, hu1_86⟩ := hq84
                have hu := hu.tr hu1_86 (by decide)
                have e19 := hu1_86.at t_D (by decide) e19
                have e72 := hu1_86.at (lo_k4_0 hL _ t_D) (by decide) e72
                have e73 := hu1_86.at (lo_k4_1 hL _ t_D) (by decide) e73
                exact pe_vret hx hb hr hlocks hK hP hD hS d_NLongDivision_divide_175 ⟨hI1_85, hu⟩
              · skip
                refine lv_aload_n hx hb d_NLongDivision_divide_138 rfl (lv_at hl 3 rfl) ?_
                refine lv_iload hx hb d_NLongDivision_divide_139 (lv_at hl 2 rfl) ?_
                refine lv_aload_n hx hb d_NLongDivision_divide_141 rfl (lv_at hl 6 rfl) ?_
                refine pcc_v (va_runV (C := "BigRunner$LongDivision") (As := [.int (nI sc), .ref z]) (rest := []) ⟨hx, hb, hml, hown, tb_nil⟩ (c_reduce l g H.size f68 D sc z n_10 hL t_D t_z hI74 e19 (by omega) (by omega)) ⟨(callB_of 2 (tb_one (wd_829 hB _)) tb_good1 rfl rfl rfl (wd_81 hB _) (wd_826 hB _) (by decide +kernel) ⟨Nat.le_of_ble_eq_true rfl, Nat.le_of_ble_eq_true rfl⟩), (wd_828 hB _), (wd_37 hB _)⟩ ⟨pe_bl, pg_recv (ci := 3) hK hP (lo_in hL t_D (by decide)) e19 rfl, pe_pre hB hK hP hD⟩ rfl rfl hl.1 rfl (lv_room (Nat.le_of_ble_eq_true rfl)) d_NLongDivision_divide_142 ⟨Nat.le_of_ble_eq_true rfl, Nat.le_of_ble_eq_true rfl⟩) hS (fun f88 H locs hq89 hP hD hS => ?_)
                obtain ⟨hI1_90, hu1_91⟩ := hq89
                have hu := hu.tr hu1_91 (by decide)
                have hv75 := hv75.tr hu1_91 (by decide)
                have e1 := hu1_91.at t_x (by decide) e1
                have e8 := hu1_91.at t_y (by decide) e8
                have e19 := hu1_91.at t_D (by decide) e19
                have e72 := hu1_91.at (lo_k4_0 hL _ t_D) (by decide) e72
                have e73 := hu1_91.at (lo_k4_1 hL _ t_D) (by decide) e73
                refine lv_aload_n hx hb d_NLongDivision_divide_145 rfl (lv_at hl 6 rfl) ?_
                refine lv_aload_n hx hb d_NLongDivision_divide_146 rfl (lv_at hl 3 rfl) ?_
                refine pf_get (v := .int (nI n_10)) (C := "BigRunner$LongDivision") (T := FT3) (N := 3) hx hb (hw3 hB _) (fun _ h9 => h9) hown hK hP (lo_in hL t_D (by decide)) e19 rfl 2 (by decide) (wd_321 hB _) rfl d_NLongDivision_divide_147 ?_
                refine lv_aload_n hx hb d_NLongDivision_divide_150 rfl (lv_at hl 4 rfl) ?_
                refine pf_get (v := .int sg_2) (C := "BigRunner$LongNumber") (T := FT4) (N := 3) hx hb (hw4 hB _) (fun _ h9 => h9) hown hK hP (lo_in hL t_x (by decide)) e1 rfl 0 (by decide) (wd_187 hB _) rfl d_NLongDivision_divide_151 ?_
                obtain ⟨sg_93, n_94, e92, c95⟩ := oc_5.of t_z (hI1_90.1 z)
                refine pcc_v (va_runV (C := "BigRunner$LongNumber") (As := [.int (nI n_10), .int sg_2]) (rest := []) ⟨hx, hb, hml, hown, tb_nil⟩ (c_finish l g H.size f88 z n_10 sg_2 hL t_z hI1_90 (by omega)) ⟨(callB_of 2 (tb_one (wd_784 hB _)) tb_good1 rfl rfl rfl (wd_78 hB _) (wd_830 hB _) (by decide +kernel) ⟨Nat.le_of_ble_eq_true rfl, Nat.le_of_ble_eq_true rfl⟩), (wd_782 hB _), (wd_783 hB _)⟩ ⟨pe_bl, pg_recv (ci := 4) hK hP (lo_in hL t_z (by decide)) e92 rfl, pe_pre hB hK hP hD⟩ rfl rfl hl.1 rfl (lv_room (Nat.le_of_ble_eq_true rfl)) d_NLongDivision_divide_154 ⟨Nat.le_of_ble_eq_true rfl, Nat.le_of_ble_eq_true rfl⟩) hS (fun f97 H locs hq98 hP hD hS => ?_)
                obtain ⟨hI1_99, hu1_100⟩ := hq98
                have hu := hu.tr hu1_100 (by decide)
                have e19 := hu1_100.at t_D (by decide) e19
                have e72 := hu1_100.at (lo_k4_0 hL _ t_D) (by decide) e72
                have e73 := hu1_100.at (lo_k4_1 hL _ t_D) (by decide) e73
                refine lv_goto (tgt := 175) hx hb d_NLongDivision_divide_157 (by decide) ?_
                exact pe_vret hx hb hr hlocks hK hP hD hS d_NLongDivision_divide_175 ⟨hI1_99, hu⟩
            · skip
              exact absurd (by decide) b76
          | succ j =>
            have hl : lv_has ls 8 [(7, .int (nI j)), (6, .int (nI ((n_3 - n_10) + 1))), (5, .int (nI sc)), (0, .ref D), (1, .ref x), (2, .ref y), (3, .ref z), (4, .int wr)] := by rw [nI_pr1] at hl; exact hl
            have hlt9 := kn_nx (h := dg hU) hR (dg_lt cU (j := j) (by omega))
            refine lv_iload hx hb d_NLongDivision_divide_103 (lv_at hl 0 rfl) ?_
            refine lv_if_lt (tgt := 133) hx hb d_NLongDivision_divide_105 (by decide) (fun b101 => ?_) (fun b101 => ?_)
            · skip
              replace b101 := (nI_ltI (a := j) (b := 0) (by omega) (by omega)).mp b101
              exfalso; omega
            · skip
              replace b101 := mt (nI_ltI (a := j) (b := 0) (by omega) (by omega)).mpr b101
              refine lv_aload_n hx hb d_NLongDivision_divide_108 rfl (lv_at hl 6 rfl) ?_
              obtain ⟨sg_103, n_104, e102, c105⟩ := oc_5.of t_z (hI74.1 z)
              refine pf_get (v := .ref (g.lk z 2)) (C := "BigRunner$LongNumber") (T := FT4) (N := 3) hx hb (hw4 hB _) (fun _ h9 => h9) hown hK hP (lo_in hL t_z (by decide)) e102 rfl 2 (by decide) (wd_193 hB _) rfl d_NLongDivision_divide_109 ?_
              refine lv_iload hx hb d_NLongDivision_divide_112 (lv_at hl 0 rfl) ?_
              refine lv_aload_n hx hb d_NLongDivision_divide_114 rfl (lv_at hl 3 rfl) ?_
              refine lv_aload_n hx hb d_NLongDivision_divide_115 rfl (lv_at hl 3 rfl) ?_
              refine lv_iload hx hb d_NLongDivision_divide_116 (lv_at hl 0 rfl) ?_
              refine pcc_l (va_runV (C := "BigRunner$LongDivision") (As := [.int (nI j)]) (rest := [.ref D, .int (nI j), .ref (g.lk z 2)]) ⟨hx, hb, hml, hown, tb_nil⟩ (c_guess l g H.size f68 D j n_10 hU hb62 hL t_D hI74.1 e19 e72 cU e73 c64 (by omega) (by omega) hlt9 hV4) ⟨(callB_of 1 (tb_one (wd_817 hB _)) tb_good1 rfl rfl rfl (wd_81 hB _) (wd_814 hB _) (by decide +kernel) ⟨Nat.le_of_ble_eq_true rfl, Nat.le_of_ble_eq_true rfl⟩), (wd_816 hB _), (wd_34 hB _)⟩ ⟨pe_bl, pg_recv (ci := 3) hK hP (lo_in hL t_D (by decide)) e19 rfl, pe_pre hB hK hP hD⟩ rfl rfl hl.1 rfl (lv_room (Nat.le_of_ble_eq_true rfl)) d_NLongDivision_divide_118 ⟨Nat.le_of_ble_eq_true rfl, Nat.le_of_ble_eq_true rfl⟩) hS (fun r106 f107 H locs hq108 hP hD hS => ?_)
              obtain ⟨gs_109, rfl⟩ := hq108
              obtain ⟨kr110, hkr110_0, hkr110_1, hkr110_2, rfl⟩ := gs_109
              refine lv_iload hx hb d_NLongDivision_divide_121 (lv_at hl 0 rfl) ?_
              refine pcc_i (va_runV (C := "BigRunner$LongDivision") (As := [.long (nL kr110), .int (nI j)]) (rest := [.int (nI j), .ref (g.lk z 2)]) ⟨hx, hb, hml, hown, tb_nil⟩ (c_takeAway l g H.size f68 D kr110 j n_10 hU hb62 z hL t_D hI74 e19 e72 cU e73 c64 (by omega) (by omega) (by omega) hkr110_1 hkr110_2) ⟨(callB_of 2 (tb_one (wd_821 hB _)) tb_good1 rfl rfl rfl (wd_81 hB _) (wd_818 hB _) (by decide +kernel) ⟨Nat.le_of_ble_eq_true rfl, Nat.le_of_ble_eq_true rfl⟩), (wd_820 hB _), (wd_35 hB _)⟩ ⟨pe_bl, pg_recv (ci := 3) hK hP (lo_in hL t_D (by decide)) e19 rfl, pe_pre hB hK hP hD⟩ rfl rfl hl.1 rfl (lv_room (Nat.le_of_ble_eq_true rfl)) d_NLongDivision_divide_123 ⟨Nat.le_of_ble_eq_true rfl, Nat.le_of_ble_eq_true rfl⟩) hS (fun r111 f112 H locs hq113 hP hD hS => ?_)
              obtain ⟨q1_114, q2_115, hI1_116, hk1_117⟩ := hq113
              obtain ⟨kr118, hkr118_0, rfl⟩ := q1_114
              have hu := hu.st hk1_117 (lo_k4_0 hL _ t_D) (by decide)
              have hv75 := hv75.st hk1_117 (lo_k4_0 hL _ t_D) (by decide)
              have e1 := (hk1_117 x (tg_ne t_x (lo_k4_0 hL _ t_D) (by decide))).trans e1
              have e8 := (hk1_117 y (tg_ne t_y (lo_k4_0 hL _ t_D) (by decide))).trans e8
              have e19 := (hk1_117 D (tg_ne t_D (lo_k4_0 hL _ t_D) (by decide))).trans e19
              have e73 := (hk1_117 (g.lk D 1) (Ne.symm (lo_ne4 hL _ t_D))).trans e73
              have e102 := (hk1_117 z (tg_ne t_z (lo_k4_0 hL _ t_D) (by decide))).trans e102
              obtain ⟨hb119, e120, c121, hq122⟩ := q2_115
              obtain ⟨h_124, e123, c125⟩ := oc_23.of (lo_k5_2 hL _ t_z) (hI1_116.1 (g.lk z 2))
              refine pf_iast (i := j) hx hb hK hP hD hS (lo_in hL (lo_k5_2 hL _ t_z) (by decide)) e123 (lo_t23 hL _ (lo_k5_2 hL _ t_z)) (by omega) (by decide) d_NLongDivision_divide_126 (fun f126 H locs e127 k128 hP hD hS => ?_)
              have e1 := (k128 x (tg_ne t_x (lo_k5_2 hL _ t_z) (by decide))).trans e1
              have e8 := (k128 y (tg_ne t_y (lo_k5_2 hL _ t_z) (by decide))).trans e8
              have e19 := (k128 D (tg_ne t_D (lo_k5_2 hL _ t_z) (by decide))).trans e19
              have e73 := (k128 (g.lk D 1) (tg_ne (lo_k4_1 hL _ t_D) (lo_k5_2 hL _ t_z) (by decide))).trans e73
              have e102 := (k128 z (tg_ne t_z (lo_k5_2 hL _ t_z) (by decide))).trans e102
              have e120 := (k128 (g.lk D 0) (tg_ne (lo_k4_0 hL _ t_D) (lo_k5_2 hL _ t_z) (by decide))).trans e120
              have hu := hu.st k128 (lo_k5_2 hL _ t_z) (by decide)
              have hv75 := hv75.st k128 (lo_k5_2 hL _ t_z) (by decide)
              have hk129 : ∀ b, b ≠ (g.lk z 2) → f126 b = f112 b := k128
              have c130 := lb_upd (n := 15) (i := j) (v := kr118) c125 (by omega)
              refine lv_iinc (k := 0) (v := nI j - nI 1) (lv' := [(7, .int (nI j - nI 1)), (6, .int (nI ((n_3 - n_10) + 1))), (5, .int (nI sc)), (0, .ref D), (1, .ref x), (2, .ref y), (3, .ref z), (4, .int wr)]) hx hb d_NLongDivision_divide_127 hl rfl (by rw [Int32.sub_eq_add_neg]; rfl) (by decide) rfl (fun ls hl => ?_)
              refine lv_goto (tgt := 103) hx hb d_NLongDivision_divide_130 (by decide) ?_
              have hI131 := ix_23 hI1_116 hL t_z hk129 (⟨_, e127, c130⟩)
              exact ih70 j hb119 f126 H locs ls (by omega) (by omega) c121 hq122 e120 e73 hI131 hv75 hl hP hD hS
      exact lp67 (((n_3 - n_10) + 1) + 1) ((n_3 - n_10) + 1) hb52 f57 H locs ls (by omega) (by omega) c54 hR0 e53 e63 hI66 un.rf hl hP hD hS
    · skip
      replace b43 := mt (nI_leI (a := n_10) (b := n_3) (by omega) (by omega)).mpr b43
      refine lv_aload_n hx hb d_NLongDivision_divide_26 rfl (lv_at hl 3 rfl) ?_
      refine lv_aload_n hx hb d_NLongDivision_divide_27 rfl (lv_at hl 1 rfl) ?_
      refine lv_aload_n hx hb d_NLongDivision_divide_28 rfl (lv_at hl 1 rfl) ?_
      refine pf_get (v := .int sg_2) (C := "BigRunner$LongNumber") (T := FT4) (N := 3) hx hb (hw4 hB _) (fun _ h9 => h9) hown hK hP (lo_in hL t_x (by decide)) e1 rfl 0 (by decide) (wd_187 hB _) rfl d_NLongDivision_divide_29 ?_
      have hI132 := iv_1 hI hL t_D (by decide) hk21 (oc_4.mk t_D (⟨n_10, e19, (by omega)⟩))
      obtain ⟨sg_134, n_135, e133, c136⟩ := oc_5.of t_z (hI132.1 z)
      refine pcc_v (va_runV (C := "BigRunner$LongNumber") (As := [.ref x, .int sg_2]) (rest := []) ⟨hx, hb, hml, hown, tb_nil⟩ (c_copy l g H.size f18 z x sg_2 hL t_z t_x hI132 h1) ⟨(callB_of 2 (tb_one (wd_746 hB _)) tb_good1 rfl rfl rfl (wd_78 hB _) (wd_807 hB _) (by decide +kernel) ⟨Nat.le_of_ble_eq_true rfl, Nat.le_of_ble_eq_true rfl⟩), (wd_744 hB _), (wd_745 hB _)⟩ ⟨pe_bl, pg_recv (ci := 4) hK hP (lo_in hL t_z (by decide)) e133 rfl, pe_pre hB hK hP hD⟩ rfl rfl hl.1 rfl (lv_room (Nat.le_of_ble_eq_true rfl)) d_NLongDivision_divide_32 ⟨Nat.le_of_ble_eq_true rfl, Nat.le_of_ble_eq_true rfl⟩) hS (fun f138 H locs hq139 hP hD hS => ?_)
      obtain ⟨hI1_140, hu1_141⟩ := hq139
      have hu := hu.tr hu1_141 (by decide)
      have e19 := hu1_141.at t_D (by decide) e19
      refine lv_iload hx hb d_NLongDivision_divide_35 (lv_at hl 4 rfl) ?_
      refine lv_if_ne (tgt := 45) hx hb d_NLongDivision_divide_37 (by decide) (fun b142 => ?_) (fun b142 => ?_)
      · skip
        exact pe_vret hx hb hr hlocks hK hP hD hS d_NLongDivision_divide_45 ⟨hI1_140, hu⟩
      · skip
        refine lv_aload_n hx hb d_NLongDivision_divide_40 rfl (lv_at hl 3 rfl) ?_
        refine lv_lconst (v := nL 0) hx hb d_NLongDivision_divide_41 (by decide) ?_
        obtain ⟨sg_144, n_145, e143, c146⟩ := oc_5.of t_z (hI1_140.1 z)
        refine pcc_v (va_runV (C := "BigRunner$LongNumber") (As := [.long (nL 0)]) (rest := []) ⟨hx, hb, hml, hown, tb_nil⟩ (c_setTo l g H.size f138 z ((nL 0)) hL t_z hI1_140) ⟨(callB_of 1 (tb_one (wd_680 hB _)) tb_good1 rfl rfl rfl (wd_78 hB _) (wd_808 hB _) (by decide +kernel) ⟨Nat.le_of_ble_eq_true rfl, Nat.le_of_ble_eq_true rfl⟩), (wd_678 hB _), (wd_679 hB _)⟩ ⟨pe_bl, pg_recv (ci := 4) hK hP (lo_in hL t_z (by decide)) e143 rfl, pe_pre hB hK hP hD⟩ rfl rfl hl.1 rfl (lv_room (Nat.le_of_ble_eq_true rfl)) d_NLongDivision_divide_42 ⟨Nat.le_of_ble_eq_true rfl, Nat.le_of_ble_eq_true rfl⟩) hS (fun f148 H locs hq149 hP hD hS => ?_)
        obtain ⟨hI1_150, hu1_151⟩ := hq149
        have hu := hu.tr hu1_151 (by decide)
        have e19 := hu1_151.at t_D (by decide) e19
        exact pe_vret hx hb hr hlocks hK hP hD hS d_NLongDivision_divide_45 ⟨hI1_150, hu⟩
