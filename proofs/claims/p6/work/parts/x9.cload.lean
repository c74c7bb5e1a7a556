def VZ (g : Lay) (f : Nat → va_E) (X i : Nat) (hM : Nat → Int64) : Prop := ∀ v, v < i → hM v = nL 0 ∧ LV g f (g.lk (g.lk X 4) v) 0
theorem VZ_s {g : Lay} {f f1 f2 : Nat → va_E} {X i : Nat} {hM : Nat → Int64} (hL : LO g) (hX : g.tg X = 9) (hi : i < 10) (h : VZ g f X i hM) (k1 : ∀ b, b ≠ g.lk X 3 → f1 b = f b) (k2 : ∀ b, b ≠ g.lk (g.lk X 4) i → b ≠ g.lk (g.lk (g.lk X 4) i) 2 → f2 b = f1 b) (hv : LV g f2 (g.lk (g.lk X 4) i) 0) : VZ g f2 X (i + 1) (vp_updL hM i (nL 0)) := fun v hv2 => by
  have t5i := lo_e28 hL _ (lo_k9_4 hL X hX) i hi
  by_cases q : v = i
  · subst q; exact ⟨updL_at _ _ _, hv⟩
  · have t5 := lo_e28 hL _ (lo_k9_4 hL X hX) v (by omega)
    have t23 := lo_k5_2 hL _ t5
    have t27 := lo_k9_3 hL X hX
    have ne := wv_ne hL hX (show v < 10 by omega) hi q
    have z := h v (by omega)
    exact ⟨(updL_ne hM _ q).trans z.1, LV_eq z.2 ⟨(k2 _ ne (tg_ne t5 (lo_k5_2 hL _ t5i) (by decide))).trans (k1 _ (tg_ne t5 t27 (by decide))), (k2 _ (tg_ne t23 t5i (by decide)) (fun y => ne (lo_inj5 hL _ _ t5 t5i y))).trans (k1 _ (tg_ne t23 t27 (by decide)))⟩⟩
theorem VZ_un {g : Lay} {f f1 : Nat → va_E} {X i : Nat} {hM : Nat → Int64} {W : List Nat} (hL : LO g) (hX : g.tg X = 9) (hi : i ≤ 10) (h : VZ g f X i hM) (hu : un W g f f1) (h5 : 5 ∉ W) (h23 : 23 ∉ W) : VZ g f1 X i hM := fun v hv => by
  have t5 := lo_e28 hL _ (lo_k9_4 hL X hX) v (by omega)
  exact ⟨(h v hv).1, LV_eq (h v hv).2 ⟨hu _ (by rw [t5]; exact h5), hu _ (by rw [lo_k5_2 hL _ t5]; exact h23)⟩⟩
theorem VARS_z {g : Lay} {f : Nat → va_E} {X : Nat} {en : Nat → IVL} {hM : Nat → Int64} (e : f (g.lk X 3) = .inl (g.ac (g.lk X 3), 10, .inr (.inl hM))) (h : VZ g f X 10 hM) : VARS g f X en (fun _ => 0) := ⟨hM, e, fun v hv => ⟨fun _ => by rw [(h v hv).1]; rfl, fun _ => (h v hv).2⟩⟩
theorem VIN_z {en : Nat → IVL} (h : zin en) : VIN en (fun _ => 0) := fun v _ => ⟨h v, by show 0 < T12; exact Nat.lt_of_le_of_lt (Nat.zero_le _) T12_big⟩
theorem OUTS_0 {g : Lay} {f : Nat → va_E} {X : Nat} : OUTS g f X [] := fun k _ h => absurd h (by show ¬ k < 0; omega)
theorem ivin_zz : zin (fun _ => zI) := fun _ => ivin_1 0
set_option maxHeartbeats 4000000 in
set_option maxRecDepth 100000 in
theorem v_begin (l : Launch) (g : Lay) (sz : Nat) (f : Nat → va_E) (X : Nat) (pr : Nat) (ix : Nat) (os : Nat) (st : Nat) (mo : Int32) (lo : Int32) (tr : Nat) (P2 : Nat) (hL : LO g) (t_X : g.tg X = 9) (t_pr : g.tg pr = 7) (t_P2 : g.tg P2 = 7) (hI : IV g f) (eX : f X = .inr (8, [.ref pr, .ref (g.lk X 1), .int (nI ix), .ref (g.lk X 3), .ref (g.lk X 4), .ref (g.lk X 5), .ref (g.lk X 6), .ref (g.lk X 7), .int (nI os), .int (nI st), .int mo, .int lo, .int (nI tr)])) (hix : ix ≤ 36) (hos : os ≤ st) (hst : st ≤ 3000) (htr : tr ≤ 3) : Met l ⟨"BigRunner$Runner", "begin", "(LBigRunner$Program;)V"⟩ [Cond.code ⟨"BigRunner$Runner", "begin", "(LBigRunner$Program;)V"⟩ prog_9_method_2_code 3 none] ({ frames := 2, cells := 0, slots := 0, locals := 65 }) (va_Pc [.ref X, .ref P2] (pc_in g sz f)) (va_Qv (fun f1 => (f1 X = .inr (8, [.ref P2, .ref (g.lk X 1), .int (nI 0), .ref (g.lk X 3), .ref (g.lk X 4), .ref (g.lk X 5), .ref (g.lk X 6), .ref (g.lk X 7), .int (nI 0), .int (nI 0), .int (nI 0), .int (nI 0), .int (nI 0)])) ∧ (∃ hM : Nat → Int64, f1 (g.lk X 3) = .inl (g.ac (g.lk X 3), 10, .inr (.inl hM)) ∧ VZ g f1 X 10 hM) ∧ (IV g f1) ∧ (un [5, 9, 23, 27] g f f1)) (pc_out g sz) (pc_A g sz)) 0 0 (pc_A g sz) := by
  refine pe_ofW (cc := prog_9_method_2_code) (maxL := 3) (ret := none) (lv := [(0, .ref X), (1, .ref P2)]) (by decide) (Nat.le_of_ble_eq_true rfl) rfl ?_
  intro p e s m args below meth c ls hx hb hr hml hlocks hown hB hP hK hD hsz hS hl
  subst hsz
  have hu : un [5, 9, 23, 27] g f f := un.rf
  refine lv_aload_n hx hb d_NRunner_begin_0 rfl (lv_at hl 0 rfl) ?_
  refine lv_aload_n hx hb d_NRunner_begin_1 rfl (lv_at hl 1 rfl) ?_
  refine pf_put (v := .ref P2) (ty := (.object "BigRunner$Program")) (fs' := [.ref P2, .ref (g.lk X 1), .int (nI ix), .ref (g.lk X 3), .ref (g.lk X 4), .ref (g.lk X 5), .ref (g.lk X 6), .ref (g.lk X 7), .int (nI os), .int (nI st), .int mo, .int lo, .int (nI tr)]) (C := "BigRunner$Runner") (T := FT8) (N := 13) hx hb (hw8 hB _) (fun _ h9 => h9) TY8 ok8 nm8 hown hK hP hD hS (lo_in hL t_X (by decide)) eX rfl 0 (by decide) (wd_330 hB _) rfl (by decide +kernel) rfl rfl (Nat.le_of_ble_eq_true rfl) rfl d_NRunner_begin_2 (fun f1 H locs e2 k3 hP hD hS => ?_)
  have hu := hu.st k3 t_X (by decide)
  have hk4 : ∀ b, b ≠ X → f1 b = f b := k3
  refine lv_aload_n hx hb d_NRunner_begin_5 rfl (lv_at hl 0 rfl) ?_
  refine lv_iconst (v := nI 0) hx hb d_NRunner_begin_6 (by decide) ?_
  refine pf_put (v := .int (nI 0)) (ty := .int) (fs' := [.ref P2, .ref (g.lk X 1), .int (nI 0), .ref (g.lk X 3), .ref (g.lk X 4), .ref (g.lk X 5), .ref (g.lk X 6), .ref (g.lk X 7), .int (nI os), .int (nI st), .int mo, .int lo, .int (nI tr)]) (C := "BigRunner$Runner") (T := FT8) (N := 13) hx hb (hw8 hB _) (fun _ h9 => h9) TY8 ok8 nm8 hown hK hP hD hS (lo_in hL t_X (by decide)) e2 rfl 2 (by decide) (wd_334 hB _) rfl (by decide +kernel) rfl rfl (Nat.le_of_ble_eq_true rfl) rfl d_NRunner_begin_7 (fun f5 H locs e6 k7 hP hD hS => ?_)
  have hu := hu.st k7 t_X (by decide)
  have hk8 : ∀ b, b ≠ X → f5 b = f b := fun b q0 => (k7 b q0).trans (hk4 b q0)
  refine lv_iconst (v := nI 0) hx hb d_NRunner_begin_10 (by decide) ?_
  refine lv_istore_n (lv' := [(2, .int (nI 0)), (0, .ref X), (1, .ref P2)]) hx hb d_NRunner_begin_11 rfl hl (by decide) rfl (fun ls hl => ?_)
  obtain ⟨h_10, e9⟩ := oc_27.of (lo_k9_3 hL _ t_X) (hI.1 (g.lk X 3))
  replace e9 := (hk8 (g.lk X 3) (tg_ne (lo_k9_3 hL _ t_X) t_X (by decide))).trans e9
  have hI12 := iv_1 hI hL t_X (by decide) hk8 (oc_9.mk t_X (⟨P2, 0, os, st, mo, lo, tr, e6, t_P2, (by omega), (by omega), (by omega), (by omega)⟩))
  have lp13 : ∀ (k15 : Nat) (i : Nat) (hM : Nat → Int64) (f14 : Nat → va_E) (H : Heap) (locs : List Loc) (ls : Array Slot), (10 < i + k15) → (i ≤ 10) → (VZ g f14 X i hM) → f14 (g.lk X 3) = .inl (g.ac (g.lk X 3), 10, .inr (.inl (hM))) → IV g f14 → un [5, 23, 27] g f5 f14 → lv_has ls 3 [(2, .int (nI i)), (0, .ref X), (1, .ref P2)] → va_P g.D vcl (va_pl g.LP f14) H → va_D (pc_A g s.heap.size) (va_pl g.LP f14) → va_S (pc_A g s.heap.size) s.heap H locs → W p l e ({ frames := 2, cells := 0, slots := 0, locals := 65 }) s m args below meth c H locs 0 0 (MQ below (va_Qv (fun f1 => (f1 X = .inr (8, [.ref P2, .ref (g.lk X 1), .int (nI 0), .ref (g.lk X 3), .ref (g.lk X 4), .ref (g.lk X 5), .ref (g.lk X 6), .ref (g.lk X 7), .int (nI 0), .int (nI 0), .int (nI 0), .int (nI 0), .int (nI 0)])) ∧ (∃ hM : Nat → Int64, f1 (g.lk X 3) = .inl (g.ac (g.lk X 3), 10, .inr (.inl hM)) ∧ VZ g f1 X 10 hM) ∧ (IV g f1) ∧ (un [5, 9, 23, 27] g f f1)) (pc_out g s.heap.size) (pc_A g s.heap.size)) args s 0 0 (pc_A g s.heap.size)) (F0 m 12 ls []) := by
    intro k15
    induction k15 with
    | zero => intros; exfalso; omega
    | succ k15 ih16 =>
      intro i hM f14 H locs ls hfu17 hi hz e18 hI19 hv20 hl hP hD hS
      have e6 := hv20.at t_X (by decide) e6
      have hu := hu.tr hv20 (by decide)
      refine lv_iload_n hx hb d_NRunner_begin_12 rfl (lv_at hl 0 rfl) ?_
      refine lv_bipush (v := nI 10) hx hb d_NRunner_begin_13 (by decide) ?_
      refine lv_icmp_ge (tgt := 41) hx hb d_NRunner_begin_15 (by decide) (fun b21 => ?_) (fun b21 => ?_)
      · skip
        replace b21 := (nI_leI (a := 10) (b := i) (by omega) (by omega)).mp b21
        have huZ : un [9] g f14 f14 := un.rf
        refine lv_aload_n hx hb d_NRunner_begin_41 rfl (lv_at hl 1 rfl) ?_
        refine lv_iconst (v := nI 0) hx hb d_NRunner_begin_42 (by decide) ?_
        refine pf_put (v := .int (nI 0)) (ty := .int) (fs' := [.ref P2, .ref (g.lk X 1), .int (nI 0), .ref (g.lk X 3), .ref (g.lk X 4), .ref (g.lk X 5), .ref (g.lk X 6), .ref (g.lk X 7), .int (nI 0), .int (nI st), .int mo, .int lo, .int (nI tr)]) (C := "BigRunner$Runner") (T := FT8) (N := 13) hx hb (hw8 hB _) (fun _ h9 => h9) TY8 ok8 nm8 hown hK hP hD hS (lo_in hL t_X (by decide)) e6 rfl 8 (by decide) (wd_341 hB _) rfl (by decide +kernel) rfl rfl (Nat.le_of_ble_eq_true rfl) rfl d_NRunner_begin_43 (fun f22 H locs e23 k24 hP hD hS => ?_)
        have e18 := (k24 (g.lk X 3) (tg_ne (lo_k9_3 hL _ t_X) t_X (by decide))).trans e18
        have hu := hu.st k24 t_X (by decide)
        have huZ := huZ.st k24 t_X (by decide)
        have hk25 : ∀ b, b ≠ X → f22 b = f14 b := k24
        refine lv_aload_n hx hb d_NRunner_begin_46 rfl (lv_at hl 1 rfl) ?_
        refine lv_iconst (v := nI 0) hx hb d_NRunner_begin_47 (by decide) ?_
        refine pf_put (v := .int (nI 0)) (ty := .int) (fs' := [.ref P2, .ref (g.lk X 1), .int (nI 0), .ref (g.lk X 3), .ref (g.lk X 4), .ref (g.lk X 5), .ref (g.lk X 6), .ref (g.lk X 7), .int (nI 0), .int (nI 0), .int mo, .int lo, .int (nI tr)]) (C := "BigRunner$Runner") (T := FT8) (N := 13) hx hb (hw8 hB _) (fun _ h9 => h9) TY8 ok8 nm8 hown hK hP hD hS (lo_in hL t_X (by decide)) e23 rfl 9 (by decide) (wd_343 hB _) rfl (by decide +kernel) rfl rfl (Nat.le_of_ble_eq_true rfl) rfl d_NRunner_begin_48 (fun f26 H locs e27 k28 hP hD hS => ?_)
        have e18 := (k28 (g.lk X 3) (tg_ne (lo_k9_3 hL _ t_X) t_X (by decide))).trans e18
        have hu := hu.st k28 t_X (by decide)
        have huZ := huZ.st k28 t_X (by decide)
        have hk29 : ∀ b, b ≠ X → f26 b = f14 b := fun b q0 => (k28 b q0).trans (hk25 b q0)
        refine lv_aload_n hx hb d_NRunner_begin_51 rfl (lv_at hl 1 rfl) ?_
        refine lv_iconst (v := nI 0) hx hb d_NRunner_begin_52 (by decide) ?_
        refine pf_put (v := .int (nI 0)) (ty := .int) (fs' := [.ref P2, .ref (g.lk X 1), .int (nI 0), .ref (g.lk X 3), .ref (g.lk X 4), .ref (g.lk X 5), .ref (g.lk X 6), .ref (g.lk X 7), .int (nI 0), .int (nI 0), .int (nI 0), .int lo, .int (nI tr)]) (C := "BigRunner$Runner") (T := FT8) (N := 13) hx hb (hw8 hB _) (fun _ h9 => h9) TY8 ok8 nm8 hown hK hP hD hS (lo_in hL t_X (by decide)) e27 rfl 10 (by decide) (wd_345 hB _) rfl (by decide +kernel) rfl rfl (Nat.le_of_ble_eq_true rfl) rfl d_NRunner_begin_53 (fun f30 H locs e31 k32 hP hD hS => ?_)
        have e18 := (k32 (g.lk X 3) (tg_ne (lo_k9_3 hL _ t_X) t_X (by decide))).trans e18
        have hu := hu.st k32 t_X (by decide)
        have huZ := huZ.st k32 t_X (by decide)
        have hk33 : ∀ b, b ≠ X → f30 b = f14 b := fun b q0 => (k32 b q0).trans (hk29 b q0)
        refine lv_aload_n hx hb d_NRunner_begin_56 rfl (lv_at hl 1 rfl) ?_
        refine lv_iconst (v := nI 0) hx hb d_NRunner_begin_57 (by decide) ?_
        refine pf_put (v := .int (nI 0)) (ty := .int) (fs' := [.ref P2, .ref (g.lk X 1), .int (nI 0), .ref (g.lk X 3), .ref (g.lk X 4), .ref (g.lk X 5), .ref (g.lk X 6), .ref (g.lk X 7), .int (nI 0), .int (nI 0), .int (nI 0), .int (nI 0), .int (nI tr)]) (C := "BigRunner$Runner") (T := FT8) (N := 13) hx hb (hw8 hB _) (fun _ h9 => h9) TY8 ok8 nm8 hown hK hP hD hS (lo_in hL t_X (by decide)) e31 rfl 11 (by decide) (wd_347 hB _) rfl (by decide +kernel) rfl rfl (Nat.le_of_ble_eq_true rfl) rfl d_NRunner_begin_58 (fun f34 H locs e35 k36 hP hD hS => ?_)
        have e18 := (k36 (g.lk X 3) (tg_ne (lo_k9_3 hL _ t_X) t_X (by decide))).trans e18
        have hu := hu.st k36 t_X (by decide)
        have huZ := huZ.st k36 t_X (by decide)
        have hk37 : ∀ b, b ≠ X → f34 b = f14 b := fun b q0 => (k36 b q0).trans (hk33 b q0)
        refine lv_aload_n hx hb d_NRunner_begin_61 rfl (lv_at hl 1 rfl) ?_
        refine lv_iconst (v := nI 0) hx hb d_NRunner_begin_62 (by decide) ?_
        refine pf_put (v := .int (nI 0)) (ty := .int) (fs' := [.ref P2, .ref (g.lk X 1), .int (nI 0), .ref (g.lk X 3), .ref (g.lk X 4), .ref (g.lk X 5), .ref (g.lk X 6), .ref (g.lk X 7), .int (nI 0), .int (nI 0), .int (nI 0), .int (nI 0), .int (nI 0)]) (C := "BigRunner$Runner") (T := FT8) (N := 13) hx hb (hw8 hB _) (fun _ h9 => h9) TY8 ok8 nm8 hown hK hP hD hS (lo_in hL t_X (by decide)) e35 rfl 12 (by decide) (wd_349 hB _) rfl (by decide +kernel) rfl rfl (Nat.le_of_ble_eq_true rfl) rfl d_NRunner_begin_63 (fun f38 H locs e39 k40 hP hD hS => ?_)
        have e18 := (k40 (g.lk X 3) (tg_ne (lo_k9_3 hL _ t_X) t_X (by decide))).trans e18
        have hu := hu.st k40 t_X (by decide)
        have huZ := huZ.st k40 t_X (by decide)
        have hk41 : ∀ b, b ≠ X → f38 b = f14 b := fun b q0 => (k40 b q0).trans (hk37 b q0)
        have hI42 := iv_1 hI19 hL t_X (by decide) hk41 (oc_9.mk t_X (⟨P2, 0, 0, 0, ((nI 0)), ((nI 0)), 0, e39, t_P2, (by omega), (by omega), (by omega), (by omega)⟩))
        exact pe_vret hx hb hr hlocks hK hP hD hS d_NRunner_begin_66 ⟨e39, ⟨hM, e18, VZ_un hL t_X (by omega) (by rw [show i = 10 by omega] at hz; exact hz) huZ (by decide) (by decide)⟩, hI42, hu⟩
      · skip
        replace b21 := mt (nI_leI (a := 10) (b := i) (by omega) (by omega)).mpr b21
        refine lv_aload_n hx hb d_NRunner_begin_18 rfl (lv_at hl 1 rfl) ?_
        refine pf_get (v := .ref (g.lk X 3)) (C := "BigRunner$Runner") (T := FT8) (N := 13) hx hb (hw8 hB _) (fun _ h9 => h9) hown hK hP (lo_in hL t_X (by decide)) e6 rfl 3 (by decide) (wd_335 hB _) rfl d_NRunner_begin_19 ?_
        refine lv_iload_n hx hb d_NRunner_begin_22 rfl (lv_at hl 0 rfl) ?_
        refine lv_lconst (v := nL 0) hx hb d_NRunner_begin_23 (by decide) ?_
        refine pf_last (i := i) hx hb hK hP hD hS (lo_in hL (lo_k9_3 hL _ t_X) (by decide)) e18 (lo_t27 hL _ (lo_k9_3 hL _ t_X)) (by omega) (by decide) d_NRunner_begin_24 (fun f43 H locs e44 k45 hP hD hS => ?_)
        have e6 := (k45 X (tg_ne t_X (lo_k9_3 hL _ t_X) (by decide))).trans e6
        have hu := hu.st k45 (lo_k9_3 hL _ t_X) (by decide)
        have hv20 := hv20.st k45 (lo_k9_3 hL _ t_X) (by decide)
        have hk46 : ∀ b, b ≠ (g.lk X 3) → f43 b = f14 b := k45
        have hbk1 := hk46
        refine lv_aload_n hx hb d_NRunner_begin_25 rfl (lv_at hl 1 rfl) ?_
        refine pf_get (v := .ref (g.lk X 4)) (C := "BigRunner$Runner") (T := FT8) (N := 13) hx hb (hw8 hB _) (fun _ h9 => h9) hown hK hP (lo_in hL t_X (by decide)) e6 rfl 4 (by decide) (wd_336 hB _) rfl d_NRunner_begin_26 ?_
        refine lv_iload_n hx hb d_NRunner_begin_29 rfl (lv_at hl 0 rfl) ?_
        have e47 := oc_28.of (lo_k9_4 hL _ t_X) (hI19.1 (g.lk X 4))
        replace e47 := (hk46 (g.lk X 4) (tg_ne (lo_k9_4 hL _ t_X) (lo_k9_3 hL _ t_X) (by decide))).trans e47
        refine pf_aald (i := i) hx hb hK hP (lo_in hL (lo_k9_4 hL _ t_X) (by decide)) e47 (lo_t28 hL _ (lo_k9_4 hL _ t_X)) (by omega) (by decide) d_NRunner_begin_30 ?_
        have t48 := lo_e28 hL _ (lo_k9_4 hL _ t_X) i (by omega)
        refine lv_lconst (v := nL 0) hx hb d_NRunner_begin_31 (by decide) ?_
        have hI49 := iv_1 hI19 hL (lo_k9_3 hL _ t_X) (by decide) hk46 (oc_27.mk (lo_k9_3 hL _ t_X) (⟨_, e44⟩))
        obtain ⟨sg_51, n_52, e50, c53⟩ := oc_5.of t48 (hI49.1 (g.lk (g.lk X 4) i))
        refine pcc_v (va_runV (C := "BigRunner$LongNumber") (As := [.long (nL 0)]) (rest := []) ⟨hx, hb, hml, hown, tb_nil⟩ (v_setTo l g H.size f43 ((g.lk (g.lk X 4) i)) ((nL 0)) hL t48 hI49 (by decide)) ⟨(callB_of 1 (tb_one (wd_680 hB _)) tb_good1 rfl rfl rfl (wd_78 hB _) (wd_677 hB _) (by decide +kernel) ⟨Nat.le_of_ble_eq_true rfl, Nat.le_of_ble_eq_true rfl⟩), (wd_678 hB _), (wd_679 hB _)⟩ ⟨pe_bl, pg_recv (ci := 4) hK hP (lo_in hL t48 (by decide)) e50 rfl, pe_pre hB hK hP hD⟩ rfl rfl hl.1 rfl (lv_room (Nat.le_of_ble_eq_true rfl)) d_NRunner_begin_32 ⟨Nat.le_of_ble_eq_true rfl, Nat.le_of_ble_eq_true rfl⟩) hS (fun f55 H locs hq56 hP hD hS => ?_)
        obtain ⟨lv_57, hI1_58, hk1_59⟩ := hq56
        have hu := hu.st2 hk1_59 t48 (lo_k5_2 hL _ t48) (by decide) (by decide)
        have hv20 := hv20.st2 hk1_59 t48 (lo_k5_2 hL _ t48) (by decide) (by decide)
        have e6 := (hk1_59 X (tg_ne t_X t48 (by decide)) (tg_ne t_X (lo_k5_2 hL _ t48) (by decide))).trans e6
        have e44 := (hk1_59 (g.lk X 3) (tg_ne (lo_k9_3 hL _ t_X) t48 (by decide)) (tg_ne (lo_k9_3 hL _ t_X) (lo_k5_2 hL _ t48) (by decide))).trans e44
        have e47 := (hk1_59 (g.lk X 4) (tg_ne (lo_k9_4 hL _ t_X) t48 (by decide)) (tg_ne (lo_k9_4 hL _ t_X) (lo_k5_2 hL _ t48) (by decide))).trans e47
        obtain ⟨sg60, nn61, dd62, e63, e64, hN65⟩ := lv_57
        have c66 : ∀ i, i < 15 → ∃ k, k < 1000000000 ∧ dd62 i = nI k := hN65.2.1
        have hnn61 : nn61 ≤ 15 := hN65.1
        refine lv_iinc (k := 0) (v := nI (i + 1)) (lv' := [(2, .int (nI (i + 1))), (0, .ref X), (1, .ref P2)]) hx hb d_NRunner_begin_35 hl rfl (by rw [nI_succ]; rfl) (by decide) rfl (fun ls hl => ?_)
        refine lv_goto (tgt := 12) hx hb d_NRunner_begin_38 (by decide) ?_
        exact ih16 (i + 1) (vp_updL hM i ((nL 0))) f55 H locs ls (by omega) (by omega) (VZ_s hL t_X (by omega) hz hbk1 hk1_59 ⟨_, _, _, e63, e64, (LNV_cast hN65 (by decide))⟩) e44 hI1_58 hv20 hl hP hD hS
  exact lp13 11 0 h_10 f5 H locs ls (by omega) (by omega) (fun _ h => absurd h (by omega)) e9 hI12 un.rf hl hP hD hS
theorem CVS_rd {g : Lay} {f f1 : Nat → va_E} {X pr sn nn ix os st tr : Nat} {ld : Int32} {o : Option (List (Nat × Nat))} {s : PS} (hL : LO g) (hX : g.tg X = 9) (hP : g.tg pr = 7) (h : CVS g f X pr sn nn ix os st tr ld o s) (fr : f1 pr = f pr ∧ (∀ i, i < 36 → f1 (g.lk (g.lk pr 0) i) = f (g.lk (g.lk pr 0) i)) ∧ ∀ i, i < 72 → f1 (g.lk (g.lk pr 2) i) = f (g.lk (g.lk pr 2) i)) (hu : un [6, 7, 8, 10] g f f1) : CVS g f1 X pr sn nn ix os st tr ld o s := by
  cases o with
  | none => exact ⟨h.1, h.2.1, INS_un hL hX h.2.2.1 hu (by decide) (by decide), h.2.2.2⟩
  | some L =>
    obtain ⟨h0, T, nb, en, h1, h2⟩ := h
    obtain ⟨r1, r2, r3, r4, r5, r6, r7, r8⟩ := h2
    refine ⟨h0, T, nb, en, h1, fun j hj => ?_, fun s hs => ?_, EV_un hL hP r3 hu (by decide), VARS_un hL hX r4 hu (by decide) (by decide) (by decide), r5, INS_un hL hX r6 hu (by decide) (by decide), OUTS_un hL hX r7 hu (by decide) (by decide), r8⟩
    · obtain ⟨mv, e, q⟩ := r1 j hj
      exact ⟨mv, (fr.2.2 j hj).trans e, q⟩
    · obtain ⟨la, e, q⟩ := r2 s hs
      exact ⟨la, (fr.2.1 s hs).trans e, q⟩
set_option maxHeartbeats 4000000 in
set_option maxRecDepth 100000 in
theorem v_load (l : Launch) (g : Lay) (sz : Nat) (f : Nat → va_E) (B : Nat) (n : Nat) (hT : Nat → Int32) (ld : Int32) (tx : Value) (ln0 : Nat) (ax0 : Nat) (PR : Nat) (pr : Nat) (ix : Nat) (os : Nat) (st : Nat) (mo : Int32) (lo : Int32) (tr : Nat) (sn : Nat) (nn : Nat) (o : Option (List (Nat × Nat))) (s9 : PS) (hL : LO g) (t_B : g.tg B = 1) (t_PR : g.tg PR = 7) (t_pr : g.tg pr = 7) (hI : IV g f) (eB : f B = .inr (0, [.ref (g.lk B 0), .int (nI n), .ref (g.lk B 2), .ref (g.lk B 3), .int ld])) (hn : n ≤ 72) (hld : ld = nI 0 ∨ ld = nI 1) (eT : f (g.lk B 0) = .inl (g.ac (g.lk B 0), 72, .inl hT)) (cT : ∀ i, i < 72 → vp_nar .char (hT i) = hT i) (eR : f (g.lk B 2) = .inr (7, [tx, .int (nI ln0), .int (nI ax0), .ref PR])) (hl0 : ln0 ≤ 72) (ha0 : ax0 ≤ 72) (eX : f (g.lk B 3) = .inr (8, [.ref pr, .ref (g.lk (g.lk B 3) 1), .int (nI ix), .ref (g.lk (g.lk B 3) 3), .ref (g.lk (g.lk B 3) 4), .ref (g.lk (g.lk B 3) 5), .ref (g.lk (g.lk B 3) 6), .ref (g.lk (g.lk B 3) 7), .int (nI os), .int (nI st), .int mo, .int lo, .int (nI tr)])) (hix : ix ≤ 36) (hos : os ≤ st) (hst : st ≤ 3000) (htr : tr ≤ 3) (hPR : PR ≠ pr) (eP : f pr = .inr (6, [.ref (g.lk pr 0), .int (nI sn), .ref (g.lk pr 2), .int (nI nn), .ref (g.lk pr 4), .ref (g.lk pr 5)])) (hsn : sn ≤ 36) (hnn : nn ≤ 72) (hSG : SG g f pr 0 sn) (hnj : sn ≤ ix ∨ nj g f pr ix) (hi1 : OIN g f PR) (hi2 : OIN g f pr) (hcv : CVS g f (g.lk B 3) pr sn nn ix os st tr ld o s9) (hLt : l.stackTraces = false) : tw_Met l ⟨"BigRunner", "load", "()I"⟩ [Cond.code ⟨"BigRunner", "load", "()I"⟩ prog_1_method_4_code 3 (some .int)] ({ frames := 1212, cells := 1, slots := 6, locals := 37044 }) (va_Pc [.ref B] (pt_in g sz f)) (tq (fun v9 f1 => ∃ r, v9 = some (.int r) ∧ (px_s (tk hT n) 400 1 1 0 = some n) ∧ (CV g B f1 0 hT (some (ox_s (tk hT n) (vc hT n) 400 1 1 0 0)) (PS.mk (fun _ => 0) s9.ins [] 0 0 0)) ∧ (IV g f1) ∧ (un [1, 3, 5, 6, 7, 8, 9, 10, 23, 27] g f f1)) (fun C9 f1 => (C9 = "java/lang/IllegalArgumentException") ∧ (px_s (tk hT n) 400 1 1 0 ≠ some n) ∧ (CV g B f1 n hT o s9) ∧ (IV g f1) ∧ (un [1, 3, 5, 6, 7, 8, 9, 10, 23, 27] g f f1)) g sz) 1 6 (pc_A g sz) := by
  refine pt_ofW (cc := prog_1_method_4_code) (maxL := 3) (ret := (some .int)) (lv := [(0, .ref B)]) (by decide) (Nat.le_of_ble_eq_true rfl) rfl ?_
  intro p e s m args below meth c ls hx hb hr hml hlocks hown hB hP hK hD hsz hS hl hno hTZ
  subst hsz
  have hu : un [1, 3, 5, 6, 7, 8, 9, 10, 23, 27] g f f := un.rf
  refine lv_aload_n hx hb d_B_load_0 rfl (lv_at hl 0 rfl) ?_
  refine pf_get (v := .ref (g.lk B 2)) (C := "BigRunner") (T := FT0) (N := 5) hx hb (hw0 hB _) (fun _ h9 => h9) hown hK hP (lo_in hL t_B (by decide)) eB rfl 2 (by decide) (wd_380 hB _) rfl d_B_load_1 ?_
  refine lv_aload_n hx hb d_B_load_4 rfl (lv_at hl 0 rfl) ?_
  refine pf_get (v := .ref (g.lk B 0)) (C := "BigRunner") (T := FT0) (N := 5) hx hb (hw0 hB _) (fun _ h9 => h9) hown hK hP (lo_in hL t_B (by decide)) eB rfl 0 (by decide) (wd_378 hB _) rfl d_B_load_5 ?_
  refine lv_aload_n hx hb d_B_load_8 rfl (lv_at hl 0 rfl) ?_
  refine pf_get (v := .int (nI n)) (C := "BigRunner") (T := FT0) (N := 5) hx hb (hw0 hB _) (fun _ h9 => h9) hown hK hP (lo_in hL t_B (by decide)) eB rfl 1 (by decide) (wd_379 hB _) rfl d_B_load_9 ?_
  obtain ⟨sc_2, nc_3, e1, c4, c5⟩ := oc_7.of t_PR (hI.1 PR)
  refine pcc_i (va_runV (C := "BigRunner$Reader") (As := [.ref (g.lk B 0), .int (nI n)]) (rest := []) ⟨hx, hb, hml, hown, tb_nil⟩ (c4_readsU l g s.heap.size f ((g.lk B 2)) ((g.lk B 0)) n PR hT tx ln0 ax0 sc_2 nc_3 pr hL (lo_k1_2 hL _ t_B) (lo_k1_0 hL _ t_B) t_PR t_pr hI eR eT cT (by omega) (by omega) (by omega) e1 (by omega) (by omega) hPR) ⟨(callB_of 2 (tb_one (wd_457 hB _)) tb_good1 rfl rfl rfl (wd_73 hB _) (wd_454 hB _) (by decide +kernel) ⟨Nat.le_of_ble_eq_true rfl, Nat.le_of_ble_eq_true rfl⟩), (wd_455 hB _), (wd_456 hB _)⟩ ⟨pe_bl, pg_recv (ci := 7) hK hP (lo_in hL (lo_k1_2 hL _ t_B) (by decide)) eR rfl, pe_pre hB hK hP hD⟩ rfl rfl hl.1 rfl (lv_room (Nat.le_of_ble_eq_true rfl)) d_B_load_12 ⟨Nat.le_of_ble_eq_true rfl, Nat.le_of_ble_eq_true rfl⟩) hS (fun r6 f7 H locs hq8 hP hD hS => ?_)
  obtain ⟨rs_9, fr_10, hI1_11, hu1_12⟩ := hq8
  have hu := hu.tr hu1_12 (by decide)
  have eB := hu1_12.at t_B (by decide) eB
  have eT := hu1_12.at (lo_k1_0 hL _ t_B) (by decide) eT
  have eX := hu1_12.at (lo_k1_3 hL _ t_B) (by decide) eX
  have e25 := fr_10.1.trans eP
  have hi1 := hi1.un hL t_PR hu1_12 (by decide)
  have hi2 := hi2.un hL t_pr hu1_12 (by decide)
  have hins9 := INS_un hL (lo_k1_3 hL _ t_B) (CVS_ins hcv).1 hu1_12 (by decide) (by decide)
  rcases rs_9 with ⟨s1_13, n1_14, c15, c16, c17, c18, e19, e20, hsg21, hnj22, hsp23, rfl⟩ | ⟨c24, ⟨a9_26, c27, e28⟩, rfl⟩
  · skip
    have hub : un [1, 3, 5, 6, 8, 9, 23, 27] g f7 f7 := un.rf
    have hub8 : un [8] g f7 f7 := un.rf
    obtain ⟨hren9, hprs9⟩ := hsp23
    have hPRS9 := hprs9 _ (NBA_ex (ox_s (tk hT n) (vc hT n) 400 1 1 0 0) 0 0 0)
    have hL10 := PRS_10 hsg21 (ox_s (tk hT n) (vc hT n) 400 1 1 0 0) _ _ _ _ _ _ _ _ ox_s_b.2 hren9 (Nat.le_refl _) hPRS9
    refine lv_if_ne (tgt := 28) hx hb d_B_load_15 (by decide) (fun b29 => ?_) (fun b29 => ?_)
    · skip
      replace b29 := mt (nI_eq (a := 1) (b := 0) (by omega) (by omega)).mpr b29
      refine lv_aload_n hx hb d_B_load_28 rfl (lv_at hl 0 rfl) ?_
      refine pf_get (v := .ref (g.lk B 2)) (C := "BigRunner") (T := FT0) (N := 5) hx hb (hw0 hB _) (fun _ h9 => h9) hown hK hP (lo_in hL t_B (by decide)) eB rfl 2 (by decide) (wd_380 hB _) rfl d_B_load_29 ?_
      refine pf_get (v := .ref PR) (C := "BigRunner$Reader") (T := FT7) (N := 4) hx hb (hw7 hB _) (fun _ h9 => h9) hown hK hP (lo_in hL (lo_k1_2 hL _ t_B) (by decide)) e19 rfl 3 (by decide) (wd_274 hB _) rfl d_B_load_32 ?_
      refine lv_astore_n (lv' := [(1, .ref PR), (0, .ref B)]) hx hb d_B_load_35 rfl hl (by decide) rfl (fun ls hl => ?_)
      refine lv_aload_n hx hb d_B_load_36 rfl (lv_at hl 1 rfl) ?_
      refine pf_get (v := .ref (g.lk B 2)) (C := "BigRunner") (T := FT0) (N := 5) hx hb (hw0 hB _) (fun _ h9 => h9) hown hK hP (lo_in hL t_B (by decide)) eB rfl 2 (by decide) (wd_380 hB _) rfl d_B_load_37 ?_
      refine lv_aload_n hx hb d_B_load_40 rfl (lv_at hl 1 rfl) ?_
      refine pf_get (v := .ref (g.lk B 3)) (C := "BigRunner") (T := FT0) (N := 5) hx hb (hw0 hB _) (fun _ h9 => h9) hown hK hP (lo_in hL t_B (by decide)) eB rfl 3 (by decide) (wd_381 hB _) rfl d_B_load_41 ?_
      refine pf_get (v := .ref pr) (C := "BigRunner$Runner") (T := FT8) (N := 13) hx hb (hw8 hB _) (fun _ h9 => h9) hown hK hP (lo_in hL (lo_k1_3 hL _ t_B) (by decide)) eX rfl 0 (by decide) (wd_331 hB _) rfl d_B_load_44 ?_
      refine pf_put (v := .ref pr) (ty := (.object "BigRunner$Program")) (fs' := [.ref (g.lk B 0), .int (nI n), .int (nI n), .ref pr]) (C := "BigRunner$Reader") (T := FT7) (N := 4) hx hb (hw7 hB _) (fun _ h9 => h9) TY7 ok7 nm7 hown hK hP hD hS (lo_in hL (lo_k1_2 hL _ t_B) (by decide)) e19 rfl 3 (by decide) (wd_274 hB _) rfl (by decide +kernel) rfl rfl (Nat.le_of_ble_eq_true rfl) rfl d_B_load_47 (fun f30 H locs e31 k32 hP hD hS => ?_)
      have eB := (k32 B (tg_ne t_B (lo_k1_2 hL _ t_B) (by decide))).trans eB
      have eT := (k32 (g.lk B 0) (tg_ne (lo_k1_0 hL _ t_B) (lo_k1_2 hL _ t_B) (by decide))).trans eT
      have eX := (k32 (g.lk B 3) (tg_ne (lo_k1_3 hL _ t_B) (lo_k1_2 hL _ t_B) (by decide))).trans eX
      have e25 := (k32 pr (tg_ne t_pr (lo_k1_2 hL _ t_B) (by decide))).trans e25
      have e20 := (k32 PR (tg_ne t_PR (lo_k1_2 hL _ t_B) (by decide))).trans e20
      have hu := hu.st k32 (lo_k1_2 hL _ t_B) (by decide)
      have hub := hub.st k32 (lo_k1_2 hL _ t_B) (by decide)
      have hub8 := hub8.st k32 (lo_k1_2 hL _ t_B) (by decide)
      have hk33 : ∀ b, b ≠ (g.lk B 2) → f30 b = f7 b := k32
      refine lv_aload_n hx hb d_B_load_50 rfl (lv_at hl 0 rfl) ?_
      have hin9 := (hi1.un hL t_PR hub8 (by decide)).in
      have hI34 := iv_1 hI1_11 hL (lo_k1_2 hL _ t_B) (by decide) hk33 (oc_8.mk (lo_k1_2 hL _ t_B) (⟨(.ref (g.lk B 0)), n, n, pr, e31, (by omega), (by omega), t_pr⟩))
      refine pcc_i (va_runV (C := "BigRunner$Program") (As := []) (rest := []) ⟨hx, hb, hml, hown, tb_nil⟩ (v_findIntervals l g H.size f30 PR s1_13 n1_14 (((ox_s (tk hT n) (vc hT n) 400 1 1 0 0))) ((nbm 0 0 0 (ox_s (tk hT n) (vc hT n) 400 1 1 0 0))) hL t_PR hI34 e20 (by omega) (by omega) (PRS_eq _ _ _ _ _ _ _ _ _ hren9 hPRS9 (fun j h1 h2 => hub8 _ (by rw [lo_e24 hL _ (lo_k7_0 hL PR t_PR) j (by omega)]; decide)) (fun j h1 h2 => hub8 _ (by rw [lo_e25 hL _ (lo_k7_2 hL PR t_PR) j (by omega)]; decide))) hren9 ox_s_b.1 hL10 hin9) ⟨(callB_of 0 (tb_one (wd_594 hB _)) tb_good1 rfl rfl rfl (wd_74 hB _) (wd_591 hB _) (by decide +kernel) ⟨Nat.le_of_ble_eq_true rfl, Nat.le_of_ble_eq_true rfl⟩), (wd_592 hB _), (wd_593 hB _)⟩ ⟨pe_bl, pg_recv (ci := 6) hK hP (lo_in hL t_PR (by decide)) e20 rfl, pe_pre hB hK hP hD⟩ rfl rfl hl.1 rfl (lv_room (Nat.le_of_ble_eq_true rfl)) d_B_load_51 ⟨Nat.le_of_ble_eq_true rfl, Nat.le_of_ble_eq_true rfl⟩) hS (fun r35 f36 H locs hq37 hP hD hS => ?_)
      obtain ⟨qv_38, ev_39, r24_40, fr_41, sb_42, pr9_43, hI1_44, hu1_45⟩ := hq37
      subst qv_38
      have hu := hu.tr hu1_45 (by decide)
      have hub := hub.tr hu1_45 (by decide)
      have eB := hu1_45.at t_B (by decide) eB
      have eT := hu1_45.at (lo_k1_0 hL _ t_B) (by decide) eT
      have eX := hu1_45.at (lo_k1_3 hL _ t_B) (by decide) eX
      have e25 := hu1_45.at t_pr (by decide) e25
      have e20 := hu1_45.at t_PR (by decide) e20
      have e31 := hu1_45.at (lo_k1_2 hL _ t_B) (by decide) e31
      have hev9 := ev_39
      have hj1 : OIN g f36 PR := (fr_41 PR t_PR).trans (hi1.un hL t_PR hub8 (by decide))
      have hj2 : OIN g f36 pr := (fr_41 pr t_pr).trans (hi2.un hL t_pr hub8 (by decide))
      have hub3 : un [1, 5, 9, 23, 27] g f36 f36 := un.rf
      obtain ⟨wd9, hfx9⟩ := rds_fix (L := (ox_s (tk hT n) (vc hT n) 400 1 1 0 0)) 30 1 (fun _ => zI) (by have z9 := r24_40; omega)
      have hSG9 := SG_un hsg21 hL t_PR (by omega) hub (by decide)
      have hnj9 := nj_un hnj22 hL t_PR (by omega) hub (by decide)
      have hPT9 := PT_of hL t_PR hI1_44.1 (by omega) (by omega) pr9_43 hren9 (NBA_ex (ox_s (tk hT n) (vc hT n) 400 1 1 0 0) 0 0 0) (nbm_end (ox_s (tk hT n) (vc hT n) 400 1 1 0 0) 0 0 0 [] _ _ hren9) sb_42 hfx9 (ox_s_g _ _ _ _ _ _ _).1 (fun x hx h11 => Nat.le_trans (ox_s_j _ _ _ _ _ _ _ x hx h11) (by rw [Nat.zero_add]; exact Nat.le_refl _)) hSG9 ox_s_b.1 hL10 hev9.1
      have hTk9 := Tof_ok hL t_PR hI1_44.1
      have hkd0 : Tof g f36 PR 5 0 < 5 := by obtain ⟨k8, n8, f8, l8, t8, e8, q8⟩ := hnj9; rw [(Tof_s e8).1 (by omega)]; exact q8
      refine lv_istore_n (lv' := [(2, .int (nI (rds ((ox_s (tk hT n) (vc hT n) 400 1 1 0 0)) 30 1 (fun _ => zI)).1)), (1, .ref PR), (0, .ref B)]) hx hb d_B_load_54 rfl hl (by decide) rfl (fun ls hl => ?_)
      refine lv_aload_n hx hb d_B_load_55 rfl (lv_at hl 2 rfl) ?_
      refine pf_get (v := .ref (g.lk B 3)) (C := "BigRunner") (T := FT0) (N := 5) hx hb (hw0 hB _) (fun _ h9 => h9) hown hK hP (lo_in hL t_B (by decide)) eB rfl 3 (by decide) (wd_381 hB _) rfl d_B_load_56 ?_
      refine lv_aload_n hx hb d_B_load_59 rfl (lv_at hl 1 rfl) ?_
      refine pcc_v (va_runV (C := "BigRunner$Runner") (As := [.ref PR]) (rest := []) ⟨hx, hb, hml, hown, tb_nil⟩ (v_begin l g H.size f36 ((g.lk B 3)) pr ix os st mo lo tr PR hL (lo_k1_3 hL _ t_B) t_pr t_PR hI1_44 eX (by omega) (by omega) (by omega) (by omega)) ⟨(callB_of 1 (tb_one (wd_676 hB _)) tb_good1 rfl rfl rfl (wd_79 hB _) (wd_673 hB _) (by decide +kernel) ⟨Nat.le_of_ble_eq_true rfl, Nat.le_of_ble_eq_true rfl⟩), (wd_674 hB _), (wd_675 hB _)⟩ ⟨pe_bl, pg_recv (ci := 8) hK hP (lo_in hL (lo_k1_3 hL _ t_B) (by decide)) eX rfl, pe_pre hB hK hP hD⟩ rfl rfl hl.1 rfl (lv_room (Nat.le_of_ble_eq_true rfl)) d_B_load_60 ⟨Nat.le_of_ble_eq_true rfl, Nat.le_of_ble_eq_true rfl⟩) hS (fun f47 H locs hq48 hP hD hS => ?_)
      obtain ⟨x1_49, vz_50, hI1_51, hu1_52⟩ := hq48
      have hu := hu.tr hu1_52 (by decide)
      have hub := hub.tr hu1_52 (by decide)
      have hub3 := hub3.tr hu1_52 (by decide)
      have eB := hu1_52.at t_B (by decide) eB
      have eT := hu1_52.at (lo_k1_0 hL _ t_B) (by decide) eT
      have e25 := hu1_52.at t_pr (by decide) e25
      have e20 := hu1_52.at t_PR (by decide) e20
      have e31 := hu1_52.at (lo_k1_2 hL _ t_B) (by decide) e31
      obtain ⟨hM9, eM9, hVZ9⟩ := vz_50
      have hub1 : un [1] g f47 f47 := un.rf
      refine lv_aload_n hx hb d_B_load_63 rfl (lv_at hl 2 rfl) ?_
      refine lv_iconst (v := nI 1) hx hb d_B_load_64 (by decide) ?_
      refine pf_put (v := .int (nI 1)) (ty := .boolean) (fs' := [.ref (g.lk B 0), .int (nI n), .ref (g.lk B 2), .ref (g.lk B 3), .int (nI 1)]) (C := "BigRunner") (T := FT0) (N := 5) hx hb (hw0 hB _) (fun _ h9 => h9) TY0 ok0 nm0 hown hK hP hD hS (lo_in hL t_B (by decide)) eB rfl 4 (by decide) (wd_382 hB _) rfl (by decide +kernel) rfl rfl (Nat.le_of_ble_eq_true rfl) rfl d_B_load_65 (fun f53 H locs e54 k55 hP hD hS => ?_)
      have eT := (k55 (g.lk B 0) (tg_ne (lo_k1_0 hL _ t_B) t_B (by decide))).trans eT
      have e25 := (k55 pr (tg_ne t_pr t_B (by decide))).trans e25
      have e20 := (k55 PR (tg_ne t_PR t_B (by decide))).trans e20
      have e31 := (k55 (g.lk B 2) (tg_ne (lo_k1_2 hL _ t_B) t_B (by decide))).trans e31
      have x1_49 := (k55 (g.lk B 3) (tg_ne (lo_k1_3 hL _ t_B) t_B (by decide))).trans x1_49
      have hu := hu.st k55 t_B (by decide)
      have hub := hub.st k55 t_B (by decide)
      have hub3 := hub3.st k55 t_B (by decide)
      have hub1 := hub1.st k55 t_B (by decide)
      have hk56 : ∀ b, b ≠ B → f53 b = f47 b := k55
      refine lv_aload_n hx hb d_B_load_68 rfl (lv_at hl 2 rfl) ?_
      refine lv_iconst (v := nI 0) hx hb d_B_load_69 (by decide) ?_
      refine pf_put (v := .int (nI 0)) (ty := .int) (fs' := [.ref (g.lk B 0), .int (nI 0), .ref (g.lk B 2), .ref (g.lk B 3), .int (nI 1)]) (C := "BigRunner") (T := FT0) (N := 5) hx hb (hw0 hB _) (fun _ h9 => h9) TY0 ok0 nm0 hown hK hP hD hS (lo_in hL t_B (by decide)) e54 rfl 1 (by decide) (wd_379 hB _) rfl (by decide +kernel) rfl rfl (Nat.le_of_ble_eq_true rfl) rfl d_B_load_70 (fun f57 H locs e58 k59 hP hD hS => ?_)
      have eT := (k59 (g.lk B 0) (tg_ne (lo_k1_0 hL _ t_B) t_B (by decide))).trans eT
      have e25 := (k59 pr (tg_ne t_pr t_B (by decide))).trans e25
      have e20 := (k59 PR (tg_ne t_PR t_B (by decide))).trans e20
      have e31 := (k59 (g.lk B 2) (tg_ne (lo_k1_2 hL _ t_B) t_B (by decide))).trans e31
      have x1_49 := (k59 (g.lk B 3) (tg_ne (lo_k1_3 hL _ t_B) t_B (by decide))).trans x1_49
      have hu := hu.st k59 t_B (by decide)
      have hub := hub.st k59 t_B (by decide)
      have hub3 := hub3.st k59 t_B (by decide)
      have hub1 := hub1.st k59 t_B (by decide)
      have hk60 : ∀ b, b ≠ B → f57 b = f47 b := fun b q0 => (k59 b q0).trans (hk56 b q0)
      refine lv_iload_n hx hb d_B_load_73 rfl (lv_at hl 0 rfl) ?_
      have hI61 := iv_1 hI1_51 hL t_B (by decide) hk60 (oc_1.mk t_B (⟨0, ((nI 1)), e58, (by omega), (Or.inr rfl)⟩))
      have hins8 := INS_un hL (lo_k1_3 hL _ t_B) hins9 hub (by decide) (by decide)
      have huE9 := hub3
      exact pt_iret hx hb hr hlocks hK hP hD hS d_B_load_74 ⟨_, rfl, ⟨c18, ⟨(nI 1), (.ref (g.lk B 0)), n, n, pr, PR, 0, 0, 0, (nI 0), (nI 0), 0, s1_13, n1_14, t_pr, t_PR, e58, by omega, (Or.inr rfl), eT, cT, e31, by omega, by omega, x1_49, by omega, by omega, by omega, by omega, (Ne.symm hPR), e20, by omega, by omega, SG_un hsg21 hL t_PR (by omega) hub (by decide), (Or.inr (nj_un hnj22 hL t_PR (by omega) hub (by decide))), hj2.un hL t_pr hub3 (by decide), hj1.un hL t_PR hub3 (by decide), ⟨rfl, (Tof g f36 PR), nbm 0 0 0 (ox_s (tk hT n) (vc hT n) 400 1 1 0 0), (rds (ox_s (tk hT n) (vc hT n) 400 1 1 0 0) 30 1 (fun _ => zI)).2, hPT9, TPN_un hL t_PR hTk9.1 huE9 (by decide), TPS_un hL t_PR hTk9.2.1 huE9 (by decide), EV_un hL t_PR hev9 huE9 (by decide), VARS_un hL (lo_k1_3 hL _ t_B) (VARS_z eM9 hVZ9) hub1 (by decide) (by decide) (by decide), VIN_z (zin_rds _ _ _ ivin_zz), hins8, OUTS_0, rfl, rfl, rfl, Nat.zero_le _, (by show 0 = 0 + nbm 0 0 0 (ox_s (tk hT n) (vc hT n) 400 1 1 0 0) 0; rw [hPT9.2.2.2.1]), fun _ => hkd0⟩⟩, hI61, hu⟩⟩
    · skip
      replace b29 := (nI_eq (a := 1) (b := 0) (by omega) (by omega)).mp b29
      exfalso; omega
  · skip
    have hcv9 := CVS_rd hL (lo_k1_3 hL _ t_B) t_pr hcv fr_10 hu1_12
    refine lv_if_ne (tgt := 28) hx hb d_B_load_15 (by decide) (fun b62 => ?_) (fun b62 => ?_)
    · skip
      replace b62 := mt (nI_eq (a := 0) (b := 0) (by omega) (by omega)).mpr b62
      exfalso; omega
    · skip
      replace b62 := (nI_eq (a := 0) (b := 0) (by omega) (by omega)).mp b62
      exact pt_throw (own := "BigRunner") (cls := "java/lang/IllegalArgumentException") (text := "the line is no PROGRAM") (names := ["java/lang/RuntimeException", "java/lang/Exception"]) hx hb (hl.1.trans hml.symm) hlocks hno hLt hown (by decide +kernel) (by decide +kernel) hB hTZ (fun U hB hH => ⟨(wd_521 hB _), (wd_522 hB _), (wd_87 hB _), (wd_564 hB _), oa_2 hB hH _⟩) hK hP hD hS d_B_load_18 d_B_load_21 d_B_load_22 d_B_load_24 d_B_load_27 (Nat.le_of_ble_eq_true rfl) (Nat.le_of_ble_eq_true rfl) (Nat.le_of_ble_eq_true rfl) (Nat.le_of_ble_eq_true rfl) ⟨rfl, c24, ⟨ld, (.ref (g.lk B 0)), n, a9_26, PR, pr, ix, os, st, mo, lo, tr, sn, nn, t_PR, t_pr, eB, by omega, hld, eT, cT, e28, by omega, by omega, eX, by omega, by omega, by omega, by omega, hPR, e25, by omega, by omega, SG_eq hSG (fun i _ q => fr_10.2.1 i (by omega)), (by rcases Nat.lt_or_ge ix sn with q | q; exact Or.inr (nj_eq (hnj.resolve_left (by omega)) (fr_10.2.1 ix (by omega))); exact Or.inl q), hi1, hi2, hcv9⟩, hI1_11, hu⟩

