set_option maxHeartbeats 4000000 in
set_option maxRecDepth 100000 in
theorem c_proceed (l : Launch) (g : Lay) (sz : Nat) (f : Nat → va_E) (X : Nat) (pr : Nat) (ix : Nat) (os : Nat) (st : Nat) (mo : Int32) (lo : Int32) (tr : Nat) (sn : Nat) (nn : Nat) (t9 : Nat) (hL : LO g) (t_X : g.tg X = 9) (t_pr : g.tg pr = 7) (hI : IV g f) (eX : f X = .inr (8, [.ref pr, .ref (g.lk X 1), .int (nI ix), .ref (g.lk X 3), .ref (g.lk X 4), .ref (g.lk X 5), .ref (g.lk X 6), .ref (g.lk X 7), .int (nI os), .int (nI st), .int mo, .int lo, .int (nI tr)])) (hix : ix ≤ 36) (hos : os ≤ st) (hst : st ≤ 3000) (htr : tr ≤ 3) (eP : f pr = .inr (6, [.ref (g.lk pr 0), .int (nI sn), .ref (g.lk pr 2), .int (nI nn), .ref (g.lk pr 4), .ref (g.lk pr 5)])) (hsn : sn ≤ 36) (hnn : nn ≤ 72) (hSG : SG g f pr 0 sn) (ht9 : t9 ≤ 36) : Met l ⟨"BigRunner$Runner", "proceed", "(I)V"⟩ [Cond.code ⟨"BigRunner$Runner", "proceed", "(I)V"⟩ prog_9_method_9_code 3 none] ({ frames := 1, cells := 0, slots := 0, locals := 20 }) (va_Pc [.ref X, .int (nI t9)] (pc_in g sz f)) (va_Qv (fun f1 => (∃ (ix1 : Nat), (ix1 ≤ 36) ∧ (sn ≤ ix1 ∨ nj g f1 pr ix1) ∧ f1 X = .inr (8, [.ref pr, .ref (g.lk X 1), .int (nI ix1), .ref (g.lk X 3), .ref (g.lk X 4), .ref (g.lk X 5), .ref (g.lk X 6), .ref (g.lk X 7), .int (nI os), .int (nI st), .int mo, .int lo, .int (nI tr)])) ∧ (IV g f1) ∧ (un [9] g f f1)) (pc_out g sz) (pc_A g sz)) 0 0 (pc_A g sz) := by
  refine pe_ofW (cc := prog_9_method_9_code) (maxL := 3) (ret := none) (lv := [(0, .ref X), (1, .int (nI t9))]) (by decide) (Nat.le_of_ble_eq_true rfl) rfl ?_
  intro p e s m args below meth c ls hx hb hr hml hlocks hown hB hP hK hD hsz hS hl
  subst hsz
  have hu : un [9] g f f := un.rf
  refine lv_aload_n hx hb d_NRunner_proceed_0 rfl (lv_at hl 0 rfl) ?_
  refine lv_iload_n hx hb d_NRunner_proceed_1 rfl (lv_at hl 1 rfl) ?_
  refine pf_put (v := .int (nI t9)) (ty := .int) (fs' := [.ref pr, .ref (g.lk X 1), .int (nI t9), .ref (g.lk X 3), .ref (g.lk X 4), .ref (g.lk X 5), .ref (g.lk X 6), .ref (g.lk X 7), .int (nI os), .int (nI st), .int mo, .int lo, .int (nI tr)]) (C := "BigRunner$Runner") (T := FT8) (N := 13) hx hb (hw8 hB _) (fun _ h9 => h9) TY8 ok8 nm8 hown hK hP hD hS (lo_in hL t_X (by decide)) eX rfl 2 (by decide) (wd_334 hB _) rfl (by decide +kernel) rfl rfl (Nat.le_of_ble_eq_true rfl) rfl d_NRunner_proceed_2 (fun f1 H locs e2 k3 hP hD hS => ?_)
  have eP := (k3 pr (tg_ne t_pr t_X (by decide))).trans eP
  have hu := hu.st k3 t_X (by decide)
  have hk4 : ∀ b, b ≠ X → f1 b = f b := k3
  refine lv_iconst (v := nI 0) hx hb d_NRunner_proceed_5 (by decide) ?_
  refine lv_istore_n (lv' := [(2, .int (nI 0)), (0, .ref X), (1, .int (nI t9))]) hx hb d_NRunner_proceed_6 rfl hl (by decide) rfl (fun ls hl => ?_)
  have hI5 := iv_1 hI hL t_X (by decide) hk4 (oc_9.mk t_X (⟨pr, t9, os, st, mo, lo, tr, e2, t_pr, (by omega), (by omega), (by omega), (by omega)⟩))
  have lp6 : ∀ (k8 : Nat) (ii : Nat) (jx : Nat) (f7 : Nat → va_E) (H : Heap) (locs : List Loc) (ls : Array Slot), (36 < ii + k8) → (jx ≤ 36) → (ii ≤ 36) → (ii ≤ jx ∨ nj g f pr jx) → f7 X = .inr (8, [.ref pr, .ref (g.lk X 1), .int (nI jx), .ref (g.lk X 3), .ref (g.lk X 4), .ref (g.lk X 5), .ref (g.lk X 6), .ref (g.lk X 7), .int (nI os), .int (nI st), .int mo, .int lo, .int (nI tr)]) → IV g f7 → un [9] g f1 f7 → lv_has ls 3 [(2, .int (nI ii)), (0, .ref X), (1, .int (nI t9))] → va_P g.D vcl (va_pl g.LP f7) H → va_D (pc_A g s.heap.size) (va_pl g.LP f7) → va_S (pc_A g s.heap.size) s.heap H locs → W p l e ({ frames := 1, cells := 0, slots := 0, locals := 20 }) s m args below meth c H locs 0 0 (MQ below (va_Qv (fun f1 => (∃ (ix1 : Nat), (ix1 ≤ 36) ∧ (sn ≤ ix1 ∨ nj g f1 pr ix1) ∧ f1 X = .inr (8, [.ref pr, .ref (g.lk X 1), .int (nI ix1), .ref (g.lk X 3), .ref (g.lk X 4), .ref (g.lk X 5), .ref (g.lk X 6), .ref (g.lk X 7), .int (nI os), .int (nI st), .int mo, .int lo, .int (nI tr)])) ∧ (IV g f1) ∧ (un [9] g f f1)) (pc_out g s.heap.size) (pc_A g s.heap.size)) args s 0 0 (pc_A g s.heap.size)) (F0 m 7 ls []) := by
    intro k8
    induction k8 with
    | zero => intros; exfalso; omega
    | succ k8 ih9 =>
      intro ii jx f7 H locs ls hfu10 hjx hii hv9 e11 hI12 hv13 hl hP hD hS
      have eP := hv13.at t_pr (by decide) eP
      have hu := hu.tr hv13 (by decide)
      rcases hv9 with hv9 | hv9
      · skip
        refine lv_iload_n hx hb d_NRunner_proceed_7 rfl (lv_at hl 0 rfl) ?_
        refine lv_bipush (v := nI 36) hx hb d_NRunner_proceed_8 (by decide) ?_
        refine lv_icmp_ge (tgt := 65) hx hb d_NRunner_proceed_10 (by decide) (fun b14 => ?_) (fun b14 => ?_)
        · skip
          replace b14 := (nI_leI (a := 36) (b := ii) (by omega) (by omega)).mp b14
          exact pe_vret hx hb hr hlocks hK hP hD hS d_NRunner_proceed_65 ⟨⟨jx, (by omega), (by first | exact Or.inl (by omega) | (rcases Nat.lt_or_ge jx 36 with q | q; exact Or.inr (nj_un hv9 hL t_pr q hu (by decide)); exact Or.inl (by omega))), e11⟩, hI12, hu⟩
        · skip
          replace b14 := mt (nI_leI (a := 36) (b := ii) (by omega) (by omega)).mpr b14
          refine lv_aload_n hx hb d_NRunner_proceed_13 rfl (lv_at hl 1 rfl) ?_
          refine pcc_i (va_runV (C := "BigRunner$Runner") (As := []) (rest := []) ⟨hx, hb, hml, hown, tb_nil⟩ (c_ended l g H.size f7 X pr jx os st mo lo tr sn nn hL t_X t_pr hI12.1 e11 (by omega) (by omega) (by omega) (by omega) eP (by omega) (by omega)) ⟨(callB_of 0 (tb_one (wd_423 hB _)) tb_good1 rfl rfl rfl (wd_79 hB _) (wd_428 hB _) (by decide +kernel) ⟨Nat.le_of_ble_eq_true rfl, Nat.le_of_ble_eq_true rfl⟩), (wd_421 hB _), (wd_422 hB _)⟩ ⟨pe_bl, pg_recv (ci := 8) hK hP (lo_in hL t_X (by decide)) e11 rfl, pe_pre hB hK hP hD⟩ rfl rfl hl.1 rfl (lv_room (Nat.le_of_ble_eq_true rfl)) d_NRunner_proceed_14 ⟨Nat.le_of_ble_eq_true rfl, Nat.le_of_ble_eq_true rfl⟩) hS (fun r15 f16 H locs hq17 hP hD hS => ?_)
          obtain ⟨bo_18, i0_19, i1_20, rfl⟩ := hq17
          refine lv_if_ne (tgt := 65) hx hb d_NRunner_proceed_17 (by decide) (fun b21 => ?_) (fun b21 => ?_)
          · skip
            have hr22 : r15 = nI 1 := (bl_1 bo_18 b21)
            have hi23 := i1_20 hr22
            exact pe_vret hx hb hr hlocks hK hP hD hS d_NRunner_proceed_65 ⟨⟨jx, (by omega), (by first | exact Or.inl (by omega) | (rcases Nat.lt_or_ge jx 36 with q | q; exact Or.inr (nj_un hv9 hL t_pr q hu (by decide)); exact Or.inl (by omega))), e11⟩, hI12, hu⟩
          · skip
            have hr24 : r15 = nI 0 := b21
            have hi25 := i0_19 hr24
            refine lv_aload_n hx hb d_NRunner_proceed_20 rfl (lv_at hl 1 rfl) ?_
            refine pf_get (v := .ref pr) (C := "BigRunner$Runner") (T := FT8) (N := 13) hx hb (hw8 hB _) (fun _ h9 => h9) hown hK hP (lo_in hL t_X (by decide)) e11 rfl 0 (by decide) (wd_330 hB _) rfl d_NRunner_proceed_21 ?_
            refine pf_get (v := .ref (g.lk pr 0)) (C := "BigRunner$Program") (T := FT6) (N := 6) hx hb (hw6 hB _) (fun _ h9 => h9) hown hK hP (lo_in hL t_pr (by decide)) eP rfl 0 (by decide) (wd_243 hB _) rfl d_NRunner_proceed_24 ?_
            refine lv_aload_n hx hb d_NRunner_proceed_27 rfl (lv_at hl 1 rfl) ?_
            refine pf_get (v := .int (nI jx)) (C := "BigRunner$Runner") (T := FT8) (N := 13) hx hb (hw8 hB _) (fun _ h9 => h9) hown hK hP (lo_in hL t_X (by decide)) e11 rfl 2 (by decide) (wd_334 hB _) rfl d_NRunner_proceed_28 ?_
            have e26 := oc_24.of (lo_k7_0 hL _ t_pr) (hI12.1 (g.lk pr 0))
            refine pf_aald (i := jx) hx hb hK hP (lo_in hL (lo_k7_0 hL _ t_pr) (by decide)) e26 (lo_t24 hL _ (lo_k7_0 hL _ t_pr)) (by omega) (by decide) d_NRunner_proceed_31 ?_
            have t27 := lo_e24 hL _ (lo_k7_0 hL _ t_pr) jx (by omega)
            obtain ⟨kd_28, nm_29, fn_30, la_31, ta_32, e33, c34, c35, c36, c37, c38, c39⟩ := hSG jx (by omega) (by omega)
            have e33 := hu.at t27 (by decide) e33
            refine pf_get (v := .int (nI kd_28)) (C := "BigRunner$Statement") (T := FT9) (N := 5) hx hb (hw9 hB _) (fun _ h9 => h9) hown hK hP (lo_in hL t27 (by decide)) e33 rfl 0 (by decide) (wd_145 hB _) rfl d_NRunner_proceed_32 ?_
            refine lv_iconst (v := nI 5) hx hb d_NRunner_proceed_35 (by decide) ?_
            refine lv_icmp_eq (tgt := 40) hx hb d_NRunner_proceed_36 (by decide) (fun b40 => ?_) (fun b40 => ?_)
            · skip
              replace b40 := (nI_eq (a := kd_28) (b := 5) (by omega) (by omega)).mp b40
              refine lv_aload_n hx hb d_NRunner_proceed_40 rfl (lv_at hl 1 rfl) ?_
              refine lv_aload_n hx hb d_NRunner_proceed_41 rfl (lv_at hl 1 rfl) ?_
              refine pf_get (v := .ref pr) (C := "BigRunner$Runner") (T := FT8) (N := 13) hx hb (hw8 hB _) (fun _ h9 => h9) hown hK hP (lo_in hL t_X (by decide)) e11 rfl 0 (by decide) (wd_330 hB _) rfl d_NRunner_proceed_42 ?_
              refine pf_get (v := .ref (g.lk pr 0)) (C := "BigRunner$Program") (T := FT6) (N := 6) hx hb (hw6 hB _) (fun _ h9 => h9) hown hK hP (lo_in hL t_pr (by decide)) eP rfl 0 (by decide) (wd_243 hB _) rfl d_NRunner_proceed_45 ?_
              refine lv_aload_n hx hb d_NRunner_proceed_48 rfl (lv_at hl 1 rfl) ?_
              refine pf_get (v := .int (nI jx)) (C := "BigRunner$Runner") (T := FT8) (N := 13) hx hb (hw8 hB _) (fun _ h9 => h9) hown hK hP (lo_in hL t_X (by decide)) e11 rfl 2 (by decide) (wd_334 hB _) rfl d_NRunner_proceed_49 ?_
              refine pf_aald (i := jx) hx hb hK hP (lo_in hL (lo_k7_0 hL _ t_pr) (by decide)) e26 (lo_t24 hL _ (lo_k7_0 hL _ t_pr)) (by omega) (by decide) d_NRunner_proceed_52 ?_
              refine pf_get (v := .int (nI ta_32)) (C := "BigRunner$Statement") (T := FT9) (N := 5) hx hb (hw9 hB _) (fun _ h9 => h9) hown hK hP (lo_in hL t27 (by decide)) e33 rfl 4 (by decide) (wd_160 hB _) rfl d_NRunner_proceed_53 ?_
              refine pf_put (v := .int (nI ta_32)) (ty := .int) (fs' := [.ref pr, .ref (g.lk X 1), .int (nI ta_32), .ref (g.lk X 3), .ref (g.lk X 4), .ref (g.lk X 5), .ref (g.lk X 6), .ref (g.lk X 7), .int (nI os), .int (nI st), .int mo, .int lo, .int (nI tr)]) (C := "BigRunner$Runner") (T := FT8) (N := 13) hx hb (hw8 hB _) (fun _ h9 => h9) TY8 ok8 nm8 hown hK hP hD hS (lo_in hL t_X (by decide)) e11 rfl 2 (by decide) (wd_334 hB _) rfl (by decide +kernel) rfl rfl (Nat.le_of_ble_eq_true rfl) rfl d_NRunner_proceed_56 (fun f41 H locs e42 k43 hP hD hS => ?_)
              have eP := (k43 pr (tg_ne t_pr t_X (by decide))).trans eP
              have e26 := (k43 (g.lk pr 0) (tg_ne (lo_k7_0 hL _ t_pr) t_X (by decide))).trans e26
              have e33 := (k43 (g.lk (g.lk pr 0) jx) (tg_ne t27 t_X (by decide))).trans e33
              have hu := hu.st k43 t_X (by decide)
              have hv13 := hv13.st k43 t_X (by decide)
              have hk44 : ∀ b, b ≠ X → f41 b = f7 b := k43
              refine lv_iinc (k := 0) (v := nI (ii + 1)) (lv' := [(2, .int (nI (ii + 1))), (0, .ref X), (1, .int (nI t9))]) hx hb d_NRunner_proceed_59 hl rfl (by rw [nI_succ]; rfl) (by decide) rfl (fun ls hl => ?_)
              refine lv_goto (tgt := 7) hx hb d_NRunner_proceed_62 (by decide) ?_
              have hI45 := iv_1 hI12 hL t_X (by decide) hk44 (oc_9.mk t_X (⟨pr, ta_32, os, st, mo, lo, tr, e42, t_pr, (by omega), (by omega), (by omega), (by omega)⟩))
              exact ih9 (ii + 1) ta_32 f41 H locs ls (by omega) (by omega) (by omega) (by rcases c39 (by omega) with q | q; exact Or.inl (by omega); exact Or.inr q.2.2) e42 hI45 hv13 hl hP hD hS
            · skip
              replace b40 := mt (nI_eq (a := kd_28) (b := 5) (by omega) (by omega)).mpr b40
              exact pe_vret hx hb hr hlocks hK hP hD hS d_NRunner_proceed_39 ⟨⟨jx, (by omega), (Or.inr ⟨kd_28, nm_29, fn_30, la_31, ta_32, e33, by omega⟩), e11⟩, hI12, hu⟩
      · skip
        refine lv_iload_n hx hb d_NRunner_proceed_7 rfl (lv_at hl 0 rfl) ?_
        refine lv_bipush (v := nI 36) hx hb d_NRunner_proceed_8 (by decide) ?_
        refine lv_icmp_ge (tgt := 65) hx hb d_NRunner_proceed_10 (by decide) (fun b46 => ?_) (fun b46 => ?_)
        · skip
          replace b46 := (nI_leI (a := 36) (b := ii) (by omega) (by omega)).mp b46
          exact pe_vret hx hb hr hlocks hK hP hD hS d_NRunner_proceed_65 ⟨⟨jx, (by omega), (by first | exact Or.inl (by omega) | (rcases Nat.lt_or_ge jx 36 with q | q; exact Or.inr (nj_un hv9 hL t_pr q hu (by decide)); exact Or.inl (by omega))), e11⟩, hI12, hu⟩
        · skip
          replace b46 := mt (nI_leI (a := 36) (b := ii) (by omega) (by omega)).mpr b46
          refine lv_aload_n hx hb d_NRunner_proceed_13 rfl (lv_at hl 1 rfl) ?_
          refine pcc_i (va_runV (C := "BigRunner$Runner") (As := []) (rest := []) ⟨hx, hb, hml, hown, tb_nil⟩ (c_ended l g H.size f7 X pr jx os st mo lo tr sn nn hL t_X t_pr hI12.1 e11 (by omega) (by omega) (by omega) (by omega) eP (by omega) (by omega)) ⟨(callB_of 0 (tb_one (wd_423 hB _)) tb_good1 rfl rfl rfl (wd_79 hB _) (wd_428 hB _) (by decide +kernel) ⟨Nat.le_of_ble_eq_true rfl, Nat.le_of_ble_eq_true rfl⟩), (wd_421 hB _), (wd_422 hB _)⟩ ⟨pe_bl, pg_recv (ci := 8) hK hP (lo_in hL t_X (by decide)) e11 rfl, pe_pre hB hK hP hD⟩ rfl rfl hl.1 rfl (lv_room (Nat.le_of_ble_eq_true rfl)) d_NRunner_proceed_14 ⟨Nat.le_of_ble_eq_true rfl, Nat.le_of_ble_eq_true rfl⟩) hS (fun r47 f48 H locs hq49 hP hD hS => ?_)
          obtain ⟨bo_50, i0_51, i1_52, rfl⟩ := hq49
          refine lv_if_ne (tgt := 65) hx hb d_NRunner_proceed_17 (by decide) (fun b53 => ?_) (fun b53 => ?_)
          · skip
            have hr54 : r47 = nI 1 := (bl_1 bo_50 b53)
            have hi55 := i1_52 hr54
            exact pe_vret hx hb hr hlocks hK hP hD hS d_NRunner_proceed_65 ⟨⟨jx, (by omega), (by first | exact Or.inl (by omega) | (rcases Nat.lt_or_ge jx 36 with q | q; exact Or.inr (nj_un hv9 hL t_pr q hu (by decide)); exact Or.inl (by omega))), e11⟩, hI12, hu⟩
          · skip
            have hr56 : r47 = nI 0 := b53
            have hi57 := i0_51 hr56
            refine lv_aload_n hx hb d_NRunner_proceed_20 rfl (lv_at hl 1 rfl) ?_
            refine pf_get (v := .ref pr) (C := "BigRunner$Runner") (T := FT8) (N := 13) hx hb (hw8 hB _) (fun _ h9 => h9) hown hK hP (lo_in hL t_X (by decide)) e11 rfl 0 (by decide) (wd_330 hB _) rfl d_NRunner_proceed_21 ?_
            refine pf_get (v := .ref (g.lk pr 0)) (C := "BigRunner$Program") (T := FT6) (N := 6) hx hb (hw6 hB _) (fun _ h9 => h9) hown hK hP (lo_in hL t_pr (by decide)) eP rfl 0 (by decide) (wd_243 hB _) rfl d_NRunner_proceed_24 ?_
            refine lv_aload_n hx hb d_NRunner_proceed_27 rfl (lv_at hl 1 rfl) ?_
            refine pf_get (v := .int (nI jx)) (C := "BigRunner$Runner") (T := FT8) (N := 13) hx hb (hw8 hB _) (fun _ h9 => h9) hown hK hP (lo_in hL t_X (by decide)) e11 rfl 2 (by decide) (wd_334 hB _) rfl d_NRunner_proceed_28 ?_
            have e58 := oc_24.of (lo_k7_0 hL _ t_pr) (hI12.1 (g.lk pr 0))
            refine pf_aald (i := jx) hx hb hK hP (lo_in hL (lo_k7_0 hL _ t_pr) (by decide)) e58 (lo_t24 hL _ (lo_k7_0 hL _ t_pr)) (by omega) (by decide) d_NRunner_proceed_31 ?_
            have t59 := lo_e24 hL _ (lo_k7_0 hL _ t_pr) jx (by omega)
            obtain ⟨kd_60, nm_61, fn_62, la_63, ta_64, e65, c66⟩ := hv9
            have e65 := hu.at t59 (by decide) e65
            refine pf_get (v := .int (nI kd_60)) (C := "BigRunner$Statement") (T := FT9) (N := 5) hx hb (hw9 hB _) (fun _ h9 => h9) hown hK hP (lo_in hL t59 (by decide)) e65 rfl 0 (by decide) (wd_145 hB _) rfl d_NRunner_proceed_32 ?_
            refine lv_iconst (v := nI 5) hx hb d_NRunner_proceed_35 (by decide) ?_
            refine lv_icmp_eq (tgt := 40) hx hb d_NRunner_proceed_36 (by decide) (fun b72 => ?_) (fun b72 => ?_)
            · skip
              replace b72 := (nI_eq (a := kd_60) (b := 5) (by omega) (by omega)).mp b72
              refine lv_aload_n hx hb d_NRunner_proceed_40 rfl (lv_at hl 1 rfl) ?_
              refine lv_aload_n hx hb d_NRunner_proceed_41 rfl (lv_at hl 1 rfl) ?_
              refine pf_get (v := .ref pr) (C := "BigRunner$Runner") (T := FT8) (N := 13) hx hb (hw8 hB _) (fun _ h9 => h9) hown hK hP (lo_in hL t_X (by decide)) e11 rfl 0 (by decide) (wd_330 hB _) rfl d_NRunner_proceed_42 ?_
              refine pf_get (v := .ref (g.lk pr 0)) (C := "BigRunner$Program") (T := FT6) (N := 6) hx hb (hw6 hB _) (fun _ h9 => h9) hown hK hP (lo_in hL t_pr (by decide)) eP rfl 0 (by decide) (wd_243 hB _) rfl d_NRunner_proceed_45 ?_
              refine lv_aload_n hx hb d_NRunner_proceed_48 rfl (lv_at hl 1 rfl) ?_
              refine pf_get (v := .int (nI jx)) (C := "BigRunner$Runner") (T := FT8) (N := 13) hx hb (hw8 hB _) (fun _ h9 => h9) hown hK hP (lo_in hL t_X (by decide)) e11 rfl 2 (by decide) (wd_334 hB _) rfl d_NRunner_proceed_49 ?_
              refine pf_aald (i := jx) hx hb hK hP (lo_in hL (lo_k7_0 hL _ t_pr) (by decide)) e58 (lo_t24 hL _ (lo_k7_0 hL _ t_pr)) (by omega) (by decide) d_NRunner_proceed_52 ?_
              refine pf_get (v := .int (nI ta_64)) (C := "BigRunner$Statement") (T := FT9) (N := 5) hx hb (hw9 hB _) (fun _ h9 => h9) hown hK hP (lo_in hL t59 (by decide)) e65 rfl 4 (by decide) (wd_160 hB _) rfl d_NRunner_proceed_53 ?_
              refine pf_put (v := .int (nI ta_64)) (ty := .int) (fs' := [.ref pr, .ref (g.lk X 1), .int (nI ta_64), .ref (g.lk X 3), .ref (g.lk X 4), .ref (g.lk X 5), .ref (g.lk X 6), .ref (g.lk X 7), .int (nI os), .int (nI st), .int mo, .int lo, .int (nI tr)]) (C := "BigRunner$Runner") (T := FT8) (N := 13) hx hb (hw8 hB _) (fun _ h9 => h9) TY8 ok8 nm8 hown hK hP hD hS (lo_in hL t_X (by decide)) e11 rfl 2 (by decide) (wd_334 hB _) rfl (by decide +kernel) rfl rfl (Nat.le_of_ble_eq_true rfl) rfl d_NRunner_proceed_56 (fun f73 H locs e74 k75 hP hD hS => ?_)
              have eP := (k75 pr (tg_ne t_pr t_X (by decide))).trans eP
              have e58 := (k75 (g.lk pr 0) (tg_ne (lo_k7_0 hL _ t_pr) t_X (by decide))).trans e58
              have e65 := (k75 (g.lk (g.lk pr 0) jx) (tg_ne t59 t_X (by decide))).trans e65
              have hu := hu.st k75 t_X (by decide)
              have hv13 := hv13.st k75 t_X (by decide)
              have hk76 : ∀ b, b ≠ X → f73 b = f7 b := k75
              refine lv_iinc (k := 0) (v := nI (ii + 1)) (lv' := [(2, .int (nI (ii + 1))), (0, .ref X), (1, .int (nI t9))]) hx hb d_NRunner_proceed_59 hl rfl (by rw [nI_succ]; rfl) (by decide) rfl (fun ls hl => ?_)
              refine lv_goto (tgt := 7) hx hb d_NRunner_proceed_62 (by decide) ?_
              have hI77 := iv_1 hI12 hL t_X (by decide) hk76 (oc_9.mk t_X (⟨pr, ta_64, os, st, mo, lo, tr, e74, t_pr, (by omega), (by omega), (by omega), (by omega)⟩))
              exact ih9 (ii + 1) ta_64 f73 H locs ls (by omega) (by omega) (by omega) (by exfalso; omega) e74 hI77 hv13 hl hP hD hS
            · skip
              replace b72 := mt (nI_eq (a := kd_60) (b := 5) (by omega) (by omega)).mpr b72
              exact pe_vret hx hb hr hlocks hK hP hD hS d_NRunner_proceed_39 ⟨⟨jx, (by omega), (Or.inr ⟨kd_60, nm_61, fn_62, la_63, ta_64, e65, by omega⟩), e11⟩, hI12, hu⟩
  exact lp6 37 0 t9 f1 H locs ls (by omega) (by omega) (by omega) (by omega) e2 hI5 un.rf hl hP hD hS
set_option maxHeartbeats 4000000 in
set_option maxRecDepth 100000 in
theorem c_begin (l : Launch) (g : Lay) (sz : Nat) (f : Nat → va_E) (X : Nat) (pr : Nat) (ix : Nat) (os : Nat) (st : Nat) (mo : Int32) (lo : Int32) (tr : Nat) (P2 : Nat) (hL : LO g) (t_X : g.tg X = 9) (t_pr : g.tg pr = 7) (t_P2 : g.tg P2 = 7) (hI : IV g f) (eX : f X = .inr (8, [.ref pr, .ref (g.lk X 1), .int (nI ix), .ref (g.lk X 3), .ref (g.lk X 4), .ref (g.lk X 5), .ref (g.lk X 6), .ref (g.lk X 7), .int (nI os), .int (nI st), .int mo, .int lo, .int (nI tr)])) (hix : ix ≤ 36) (hos : os ≤ st) (hst : st ≤ 3000) (htr : tr ≤ 3) : Met l ⟨"BigRunner$Runner", "begin", "(LBigRunner$Program;)V"⟩ [Cond.code ⟨"BigRunner$Runner", "begin", "(LBigRunner$Program;)V"⟩ prog_9_method_2_code 3 none] ({ frames := 2, cells := 0, slots := 0, locals := 65 }) (va_Pc [.ref X, .ref P2] (pc_in g sz f)) (va_Qv (fun f1 => (f1 X = .inr (8, [.ref P2, .ref (g.lk X 1), .int (nI 0), .ref (g.lk X 3), .ref (g.lk X 4), .ref (g.lk X 5), .ref (g.lk X 6), .ref (g.lk X 7), .int (nI 0), .int (nI 0), .int (nI 0), .int (nI 0), .int (nI 0)])) ∧ (IV g f1) ∧ (un [5, 9, 23, 27] g f f1)) (pc_out g sz) (pc_A g sz)) 0 0 (pc_A g sz) := by
  refine pe_ofW (cc := prog_9_method_2_code) (maxL := 3) (ret := none) (lv := [(0, .ref X), (1, .ref P2)]) (by decide) (Nat.le_of_ble_eq_true rfl) rfl ?_
  intro p e s m args below meth c ls hx hb hr hml hlocks hown hB hP hK hD hsz hS hl
  subst hsz
  have hu : un [5, 9, 23, 27] g f f := un.rf
  refine lv_aload_n hx hb d_NRunner_begin_0 rfl (lv_at hl 0 rfl) ?_
  refine lv_aload_n hx hb d_NRunner_begin_1 rfl (lv_at hl 1 rfl) ?_
  refine pf_put (v := .ref P2) (ty := (.object "BigRunner$Program")) (fs' := [.ref P2, .ref (g.lk X 1), .int (nI ix), .ref (g.lk X 3), .ref (g.lk X 4), .ref (g.lk X 5), .ref (g.lk X 6), .ref (g.lk X 7), .int (nI os), .int (nI st), .int mo, .int lo, .int (nI tr)]) (C := "BigRunner$Runner") (T := FT8) (N := 13) hx hb (hw8 hB _) (fun _ h9 => h9) TY8 ok8 nm8 hown hK hP hD hS (lo_in hL t_X (by decide)) eX rfl 0 (by decide) (wd_330 hB _) rfl (by decide +kernel) rfl rfl (Nat.le_of_ble_eq_true rfl) rfl d_NRunner_begin_2 (fun f1 H locs e2 k3 hP hD hS => ?_)
  have hu := hu.st k3 t_X (by decide)
  have hk4 : ∀ b, b ≠ X → f1 b = f b := k3
  refine lv_aload_n hx hb d_NRunner_begin_5 rfl (lv_at hl 0 rfl) ?_
  refine lv_iconst (v := nI 0) hx hb d_NRunner_begin_6 (by decide) ?_
  refine pf_put (v := .int (nI 0)) (ty := .int) (fs' := [.ref P2, .ref (g.lk X 1), .int (nI 0), .ref (g.lk X 3), .ref (g.lk X 4), .ref (g.lk X 5), .ref (g.lk X 6), .ref (g.lk X 7), .int (nI os), .int (nI st), .int mo, .int lo, .int (nI tr)]) (C := "BigRunner$Runner") (T := FT8) (N := 13) hx hb (hw8 hB _) (fun _ h9 => h9) TY8 ok8 nm8 hown hK hP hD hS (lo_in hL t_X (by decide)) e2 rfl 2 (by decide) (wd_334 hB _) rfl (by decide +kernel) rfl rfl (Nat.le_of_ble_eq_true rfl) rfl d_NRunner_begin_7 (fun f5 H locs e6 k7 hP hD hS => ?_)
  have hu := hu.st k7 t_X (by decide)
  have hk8 : ∀ b, b ≠ X → f5 b = f b := fun b q0 => (k7 b q0).trans (hk4 b q0)
  refine lv_iconst (v := nI 0) hx hb d_NRunner_begin_10 (by decide) ?_
  refine lv_istore_n (lv' := [(2, .int (nI 0)), (0, .ref X), (1, .ref P2)]) hx hb d_NRunner_begin_11 rfl hl (by decide) rfl (fun ls hl => ?_)
  have hI9 := iv_1 hI hL t_X (by decide) hk8 (oc_9.mk t_X (⟨P2, 0, os, st, mo, lo, tr, e6, t_P2, (by omega), (by omega), (by omega), (by omega)⟩))
  have lp10 : ∀ (k12 : Nat) (i : Nat) (f11 : Nat → va_E) (H : Heap) (locs : List Loc) (ls : Array Slot), (10 < i + k12) → (i ≤ 10) → IV g f11 → un [5, 23, 27] g f5 f11 → lv_has ls 3 [(2, .int (nI i)), (0, .ref X), (1, .ref P2)] → va_P g.D vcl (va_pl g.LP f11) H → va_D (pc_A g s.heap.size) (va_pl g.LP f11) → va_S (pc_A g s.heap.size) s.heap H locs → W p l e ({ frames := 2, cells := 0, slots := 0, locals := 65 }) s m args below meth c H locs 0 0 (MQ below (va_Qv (fun f1 => (f1 X = .inr (8, [.ref P2, .ref (g.lk X 1), .int (nI 0), .ref (g.lk X 3), .ref (g.lk X 4), .ref (g.lk X 5), .ref (g.lk X 6), .ref (g.lk X 7), .int (nI 0), .int (nI 0), .int (nI 0), .int (nI 0), .int (nI 0)])) ∧ (IV g f1) ∧ (un [5, 9, 23, 27] g f f1)) (pc_out g s.heap.size) (pc_A g s.heap.size)) args s 0 0 (pc_A g s.heap.size)) (F0 m 12 ls []) := by
    intro k12
    induction k12 with
    | zero => intros; exfalso; omega
    | succ k12 ih13 =>
      intro i f11 H locs ls hfu14 hi hI15 hv16 hl hP hD hS
      have e6 := hv16.at t_X (by decide) e6
      have hu := hu.tr hv16 (by decide)
      refine lv_iload_n hx hb d_NRunner_begin_12 rfl (lv_at hl 0 rfl) ?_
      refine lv_bipush (v := nI 10) hx hb d_NRunner_begin_13 (by decide) ?_
      refine lv_icmp_ge (tgt := 41) hx hb d_NRunner_begin_15 (by decide) (fun b17 => ?_) (fun b17 => ?_)
      · skip
        replace b17 := (nI_leI (a := 10) (b := i) (by omega) (by omega)).mp b17
        refine lv_aload_n hx hb d_NRunner_begin_41 rfl (lv_at hl 1 rfl) ?_
        refine lv_iconst (v := nI 0) hx hb d_NRunner_begin_42 (by decide) ?_
        refine pf_put (v := .int (nI 0)) (ty := .int) (fs' := [.ref P2, .ref (g.lk X 1), .int (nI 0), .ref (g.lk X 3), .ref (g.lk X 4), .ref (g.lk X 5), .ref (g.lk X 6), .ref (g.lk X 7), .int (nI 0), .int (nI st), .int mo, .int lo, .int (nI tr)]) (C := "BigRunner$Runner") (T := FT8) (N := 13) hx hb (hw8 hB _) (fun _ h9 => h9) TY8 ok8 nm8 hown hK hP hD hS (lo_in hL t_X (by decide)) e6 rfl 8 (by decide) (wd_341 hB _) rfl (by decide +kernel) rfl rfl (Nat.le_of_ble_eq_true rfl) rfl d_NRunner_begin_43 (fun f18 H locs e19 k20 hP hD hS => ?_)
        have hu := hu.st k20 t_X (by decide)
        have hk21 : ∀ b, b ≠ X → f18 b = f11 b := k20
        refine lv_aload_n hx hb d_NRunner_begin_46 rfl (lv_at hl 1 rfl) ?_
        refine lv_iconst (v := nI 0) hx hb d_NRunner_begin_47 (by decide) ?_
        refine pf_put (v := .int (nI 0)) (ty := .int) (fs' := [.ref P2, .ref (g.lk X 1), .int (nI 0), .ref (g.lk X 3), .ref (g.lk X 4), .ref (g.lk X 5), .ref (g.lk X 6), .ref (g.lk X 7), .int (nI 0), .int (nI 0), .int mo, .int lo, .int (nI tr)]) (C := "BigRunner$Runner") (T := FT8) (N := 13) hx hb (hw8 hB _) (fun _ h9 => h9) TY8 ok8 nm8 hown hK hP hD hS (lo_in hL t_X (by decide)) e19 rfl 9 (by decide) (wd_343 hB _) rfl (by decide +kernel) rfl rfl (Nat.le_of_ble_eq_true rfl) rfl d_NRunner_begin_48 (fun f22 H locs e23 k24 hP hD hS => ?_)
        have hu := hu.st k24 t_X (by decide)
        have hk25 : ∀ b, b ≠ X → f22 b = f11 b := fun b q0 => (k24 b q0).trans (hk21 b q0)
        refine lv_aload_n hx hb d_NRunner_begin_51 rfl (lv_at hl 1 rfl) ?_
        refine lv_iconst (v := nI 0) hx hb d_NRunner_begin_52 (by decide) ?_
        refine pf_put (v := .int (nI 0)) (ty := .int) (fs' := [.ref P2, .ref (g.lk X 1), .int (nI 0), .ref (g.lk X 3), .ref (g.lk X 4), .ref (g.lk X 5), .ref (g.lk X 6), .ref (g.lk X 7), .int (nI 0), .int (nI 0), .int (nI 0), .int lo, .int (nI tr)]) (C := "BigRunner$Runner") (T := FT8) (N := 13) hx hb (hw8 hB _) (fun _ h9 => h9) TY8 ok8 nm8 hown hK hP hD hS (lo_in hL t_X (by decide)) e23 rfl 10 (by decide) (wd_345 hB _) rfl (by decide +kernel) rfl rfl (Nat.le_of_ble_eq_true rfl) rfl d_NRunner_begin_53 (fun f26 H locs e27 k28 hP hD hS => ?_)
        have hu := hu.st k28 t_X (by decide)
        have hk29 : ∀ b, b ≠ X → f26 b = f11 b := fun b q0 => (k28 b q0).trans (hk25 b q0)
        refine lv_aload_n hx hb d_NRunner_begin_56 rfl (lv_at hl 1 rfl) ?_
        refine lv_iconst (v := nI 0) hx hb d_NRunner_begin_57 (by decide) ?_
        refine pf_put (v := .int (nI 0)) (ty := .int) (fs' := [.ref P2, .ref (g.lk X 1), .int (nI 0), .ref (g.lk X 3), .ref (g.lk X 4), .ref (g.lk X 5), .ref (g.lk X 6), .ref (g.lk X 7), .int (nI 0), .int (nI 0), .int (nI 0), .int (nI 0), .int (nI tr)]) (C := "BigRunner$Runner") (T := FT8) (N := 13) hx hb (hw8 hB _) (fun _ h9 => h9) TY8 ok8 nm8 hown hK hP hD hS (lo_in hL t_X (by decide)) e27 rfl 11 (by decide) (wd_347 hB _) rfl (by decide +kernel) rfl rfl (Nat.le_of_ble_eq_true rfl) rfl d_NRunner_begin_58 (fun f30 H locs e31 k32 hP hD hS => ?_)
        have hu := hu.st k32 t_X (by decide)
        have hk33 : ∀ b, b ≠ X → f30 b = f11 b := fun b q0 => (k32 b q0).trans (hk29 b q0)
        refine lv_aload_n hx hb d_NRunner_begin_61 rfl (lv_at hl 1 rfl) ?_
        refine lv_iconst (v := nI 0) hx hb d_NRunner_begin_62 (by decide) ?_
        refine pf_put (v := .int (nI 0)) (ty := .int) (fs' := [.ref P2, .ref (g.lk X 1), .int (nI 0), .ref (g.lk X 3), .ref (g.lk X 4), .ref (g.lk X 5), .ref (g.lk X 6), .ref (g.lk X 7), .int (nI 0), .int (nI 0), .int (nI 0), .int (nI 0), .int (nI 0)]) (C := "BigRunner$Runner") (T := FT8) (N := 13) hx hb (hw8 hB _) (fun _ h9 => h9) TY8 ok8 nm8 hown hK hP hD hS (lo_in hL t_X (by decide)) e31 rfl 12 (by decide) (wd_349 hB _) rfl (by decide +kernel) rfl rfl (Nat.le_of_ble_eq_true rfl) rfl d_NRunner_begin_63 (fun f34 H locs e35 k36 hP hD hS => ?_)
        have hu := hu.st k36 t_X (by decide)
        have hk37 : ∀ b, b ≠ X → f34 b = f11 b := fun b q0 => (k36 b q0).trans (hk33 b q0)
        have hI38 := iv_1 hI15 hL t_X (by decide) hk37 (oc_9.mk t_X (⟨P2, 0, 0, 0, ((nI 0)), ((nI 0)), 0, e35, t_P2, (by omega), (by omega), (by omega), (by omega)⟩))
        exact pe_vret hx hb hr hlocks hK hP hD hS d_NRunner_begin_66 ⟨e35, hI38, hu⟩
      · skip
        replace b17 := mt (nI_leI (a := 10) (b := i) (by omega) (by omega)).mpr b17
        refine lv_aload_n hx hb d_NRunner_begin_18 rfl (lv_at hl 1 rfl) ?_
        refine pf_get (v := .ref (g.lk X 3)) (C := "BigRunner$Runner") (T := FT8) (N := 13) hx hb (hw8 hB _) (fun _ h9 => h9) hown hK hP (lo_in hL t_X (by decide)) e6 rfl 3 (by decide) (wd_335 hB _) rfl d_NRunner_begin_19 ?_
        refine lv_iload_n hx hb d_NRunner_begin_22 rfl (lv_at hl 0 rfl) ?_
        refine lv_lconst (v := nL 0) hx hb d_NRunner_begin_23 (by decide) ?_
        obtain ⟨h_40, e39⟩ := oc_27.of (lo_k9_3 hL _ t_X) (hI15.1 (g.lk X 3))
        refine pf_last (i := i) hx hb hK hP hD hS (lo_in hL (lo_k9_3 hL _ t_X) (by decide)) e39 (lo_t27 hL _ (lo_k9_3 hL _ t_X)) (by omega) (by decide) d_NRunner_begin_24 (fun f42 H locs e43 k44 hP hD hS => ?_)
        have e6 := (k44 X (tg_ne t_X (lo_k9_3 hL _ t_X) (by decide))).trans e6
        have hu := hu.st k44 (lo_k9_3 hL _ t_X) (by decide)
        have hv16 := hv16.st k44 (lo_k9_3 hL _ t_X) (by decide)
        have hk45 : ∀ b, b ≠ (g.lk X 3) → f42 b = f11 b := k44
        refine lv_aload_n hx hb d_NRunner_begin_25 rfl (lv_at hl 1 rfl) ?_
        refine pf_get (v := .ref (g.lk X 4)) (C := "BigRunner$Runner") (T := FT8) (N := 13) hx hb (hw8 hB _) (fun _ h9 => h9) hown hK hP (lo_in hL t_X (by decide)) e6 rfl 4 (by decide) (wd_336 hB _) rfl d_NRunner_begin_26 ?_
        refine lv_iload_n hx hb d_NRunner_begin_29 rfl (lv_at hl 0 rfl) ?_
        have e46 := oc_28.of (lo_k9_4 hL _ t_X) (hI15.1 (g.lk X 4))
        replace e46 := (hk45 (g.lk X 4) (tg_ne (lo_k9_4 hL _ t_X) (lo_k9_3 hL _ t_X) (by decide))).trans e46
        refine pf_aald (i := i) hx hb hK hP (lo_in hL (lo_k9_4 hL _ t_X) (by decide)) e46 (lo_t28 hL _ (lo_k9_4 hL _ t_X)) (by omega) (by decide) d_NRunner_begin_30 ?_
        have t47 := lo_e28 hL _ (lo_k9_4 hL _ t_X) i (by omega)
        refine lv_lconst (v := nL 0) hx hb d_NRunner_begin_31 (by decide) ?_
        have hI48 := iv_1 hI15 hL (lo_k9_3 hL _ t_X) (by decide) hk45 (oc_27.mk (lo_k9_3 hL _ t_X) (⟨_, e43⟩))
        obtain ⟨sg_50, n_51, e49, c52⟩ := oc_5.of t47 (hI48.1 (g.lk (g.lk X 4) i))
        refine pcc_v (va_runV (C := "BigRunner$LongNumber") (As := [.long (nL 0)]) (rest := []) ⟨hx, hb, hml, hown, tb_nil⟩ (c_setTo l g H.size f42 ((g.lk (g.lk X 4) i)) ((nL 0)) hL t47 hI48) ⟨(callB_of 1 (tb_one (wd_680 hB _)) tb_good1 rfl rfl rfl (wd_78 hB _) (wd_677 hB _) (by decide +kernel) ⟨Nat.le_of_ble_eq_true rfl, Nat.le_of_ble_eq_true rfl⟩), (wd_678 hB _), (wd_679 hB _)⟩ ⟨pe_bl, pg_recv (ci := 4) hK hP (lo_in hL t47 (by decide)) e49 rfl, pe_pre hB hK hP hD⟩ rfl rfl hl.1 rfl (lv_room (Nat.le_of_ble_eq_true rfl)) d_NRunner_begin_32 ⟨Nat.le_of_ble_eq_true rfl, Nat.le_of_ble_eq_true rfl⟩) hS (fun f54 H locs hq55 hP hD hS => ?_)
        obtain ⟨hI1_56, hu1_57⟩ := hq55
        have hu := hu.tr hu1_57 (by decide)
        have hv16 := hv16.tr hu1_57 (by decide)
        have e6 := hu1_57.at t_X (by decide) e6
        have e43 := hu1_57.at (lo_k9_3 hL _ t_X) (by decide) e43
        have e46 := hu1_57.at (lo_k9_4 hL _ t_X) (by decide) e46
        refine lv_iinc (k := 0) (v := nI (i + 1)) (lv' := [(2, .int (nI (i + 1))), (0, .ref X), (1, .ref P2)]) hx hb d_NRunner_begin_35 hl rfl (by rw [nI_succ]; rfl) (by decide) rfl (fun ls hl => ?_)
        refine lv_goto (tgt := 12) hx hb d_NRunner_begin_38 (by decide) ?_
        exact ih13 (i + 1) f54 H locs ls (by omega) (by omega) hI1_56 hv16 hl hP hD hS
  exact lp10 11 0 f5 H locs ls (by omega) (by omega) hI9 un.rf hl hP hD hS
set_option maxHeartbeats 4000000 in
set_option maxRecDepth 100000 in
theorem c_makeStep (l : Launch) (g : Lay) (sz : Nat) (f : Nat → va_E) (X : Nat) (pr : Nat) (ix : Nat) (os : Nat) (st : Nat) (mo : Int32) (lo : Int32) (tr : Nat) (sn : Nat) (nn : Nat) (hL : LO g) (t_X : g.tg X = 9) (t_pr : g.tg pr = 7) (hI : IV g f) (eX : f X = .inr (8, [.ref pr, .ref (g.lk X 1), .int (nI ix), .ref (g.lk X 3), .ref (g.lk X 4), .ref (g.lk X 5), .ref (g.lk X 6), .ref (g.lk X 7), .int (nI os), .int (nI st), .int mo, .int lo, .int (nI tr)])) (hix : ix ≤ 36) (hos : os ≤ st) (hst : st ≤ 3000) (htr : tr ≤ 3) (eP : f pr = .inr (6, [.ref (g.lk pr 0), .int (nI sn), .ref (g.lk pr 2), .int (nI nn), .ref (g.lk pr 4), .ref (g.lk pr 5)])) (hsn : sn ≤ 36) (hnn : nn ≤ 72) (hSG : SG g f pr 0 sn) (hin : ix < sn) (hnj : nj g f pr ix) : Met l ⟨"BigRunner$Runner", "makeStep", "()V"⟩ [Cond.code ⟨"BigRunner$Runner", "makeStep", "()V"⟩ prog_9_method_8_code 3 none] ({ frames := 6, cells := 0, slots := 0, locals := 160 }) (va_Pc [.ref X] (pc_in g sz f)) (va_Qv (fun f1 => (∃ (ix1 : Nat) (os1 : Nat) (st1 : Nat) (mo1 : Int32) (lo1 : Int32) (tr1 : Nat), (ix1 ≤ 36) ∧ (os1 ≤ st1) ∧ (st1 ≤ 3000) ∧ (tr1 ≤ 3) ∧ (sn ≤ ix1 ∨ nj g f1 pr ix1) ∧ f1 X = .inr (8, [.ref pr, .ref (g.lk X 1), .int (nI ix1), .ref (g.lk X 3), .ref (g.lk X 4), .ref (g.lk X 5), .ref (g.lk X 6), .ref (g.lk X 7), .int (nI os1), .int (nI st1), .int mo1, .int lo1, .int (nI tr1)])) ∧ (IV g f1) ∧ (un [2, 4, 5, 6, 9, 22, 23, 27] g f f1)) (pc_out g sz) (pc_A g sz)) 0 0 (pc_A g sz) := by
  refine pe_ofW (cc := prog_9_method_8_code) (maxL := 3) (ret := none) (lv := [(0, .ref X)]) (by decide) (Nat.le_of_ble_eq_true rfl) rfl ?_
  intro p e s m args below meth c ls hx hb hr hml hlocks hown hB hP hK hD hsz hS hl
  subst hsz
  have hu : un [2, 4, 5, 6, 9, 22, 23, 27] g f f := un.rf
  refine lv_aload_n hx hb d_NRunner_makeStep_0 rfl (lv_at hl 0 rfl) ?_
  refine pf_get (v := .int (nI st)) (C := "BigRunner$Runner") (T := FT8) (N := 13) hx hb (hw8 hB _) (fun _ h9 => h9) hown hK hP (lo_in hL t_X (by decide)) eX rfl 9 (by decide) (wd_343 hB _) rfl d_NRunner_makeStep_1 ?_
  refine lv_sipush (v := nI 3000) hx hb d_NRunner_makeStep_4 (by decide) ?_
  refine lv_icmp_lt (tgt := 16) hx hb d_NRunner_makeStep_7 (by decide) (fun b1 => ?_) (fun b1 => ?_)
  · skip
    replace b1 := (nI_ltI (a := st) (b := 3000) (by omega) (by omega)).mp b1
    refine lv_aload_n hx hb d_NRunner_makeStep_16 rfl (lv_at hl 0 rfl) ?_
    refine lv_dup hx hb d_NRunner_makeStep_17 rfl ?_
    refine pf_get (v := .int (nI st)) (C := "BigRunner$Runner") (T := FT8) (N := 13) hx hb (hw8 hB _) (fun _ h9 => h9) hown hK hP (lo_in hL t_X (by decide)) eX rfl 9 (by decide) (wd_343 hB _) rfl d_NRunner_makeStep_18 ?_
    refine lv_iconst (v := nI 1) hx hb d_NRunner_makeStep_21 (by decide) ?_
    refine pf_iaddN (x := st) (y := 1) hx hb d_NRunner_makeStep_22 ?_
    refine pf_put (v := .int (nI (st + 1))) (ty := .int) (fs' := [.ref pr, .ref (g.lk X 1), .int (nI ix), .ref (g.lk X 3), .ref (g.lk X 4), .ref (g.lk X 5), .ref (g.lk X 6), .ref (g.lk X 7), .int (nI os), .int (nI (st + 1)), .int mo, .int lo, .int (nI tr)]) (C := "BigRunner$Runner") (T := FT8) (N := 13) hx hb (hw8 hB _) (fun _ h9 => h9) TY8 ok8 nm8 hown hK hP hD hS (lo_in hL t_X (by decide)) eX rfl 9 (by decide) (wd_343 hB _) rfl (by decide +kernel) rfl rfl (Nat.le_of_ble_eq_true rfl) rfl d_NRunner_makeStep_23 (fun f2 H locs e3 k4 hP hD hS => ?_)
    have eP := (k4 pr (tg_ne t_pr t_X (by decide))).trans eP
    have hu := hu.st k4 t_X (by decide)
    have hk5 : ∀ b, b ≠ X → f2 b = f b := k4
    refine lv_aload_n hx hb d_NRunner_makeStep_26 rfl (lv_at hl 0 rfl) ?_
    refine pf_get (v := .ref pr) (C := "BigRunner$Runner") (T := FT8) (N := 13) hx hb (hw8 hB _) (fun _ h9 => h9) hown hK hP (lo_in hL t_X (by decide)) e3 rfl 0 (by decide) (wd_330 hB _) rfl d_NRunner_makeStep_27 ?_
    refine pf_get (v := .ref (g.lk pr 0)) (C := "BigRunner$Program") (T := FT6) (N := 6) hx hb (hw6 hB _) (fun _ h9 => h9) hown hK hP (lo_in hL t_pr (by decide)) eP rfl 0 (by decide) (wd_243 hB _) rfl d_NRunner_makeStep_30 ?_
    refine lv_aload_n hx hb d_NRunner_makeStep_33 rfl (lv_at hl 0 rfl) ?_
    refine pf_get (v := .int (nI ix)) (C := "BigRunner$Runner") (T := FT8) (N := 13) hx hb (hw8 hB _) (fun _ h9 => h9) hown hK hP (lo_in hL t_X (by decide)) e3 rfl 2 (by decide) (wd_334 hB _) rfl d_NRunner_makeStep_34 ?_
    have e6 := oc_24.of (lo_k7_0 hL _ t_pr) (hI.1 (g.lk pr 0))
    replace e6 := (hk5 (g.lk pr 0) (tg_ne (lo_k7_0 hL _ t_pr) t_X (by decide))).trans e6
    refine pf_aald (i := ix) hx hb hK hP (lo_in hL (lo_k7_0 hL _ t_pr) (by decide)) e6 (lo_t24 hL _ (lo_k7_0 hL _ t_pr)) (by omega) (by decide) d_NRunner_makeStep_37 ?_
    have t7 := lo_e24 hL _ (lo_k7_0 hL _ t_pr) ix (by omega)
    obtain ⟨kd_8, nm_9, fn_10, la_11, ta_12, e13, c14, c15, c16, c17, c18, c19⟩ := hSG ix (by omega) (by omega)
    have hkd5 := nj_5 e13 c14 hnj
    have e13 := hu.at t7 (by decide) e13
    refine lv_astore_n (lv' := [(1, .ref (g.lk (g.lk pr 0) ix)), (0, .ref X)]) hx hb d_NRunner_makeStep_38 rfl hl (by decide) rfl (fun ls hl => ?_)
    refine lv_aload_n hx hb d_NRunner_makeStep_39 rfl (lv_at hl 0 rfl) ?_
    refine pf_get (v := .int (nI kd_8)) (C := "BigRunner$Statement") (T := FT9) (N := 5) hx hb (hw9 hB _) (fun _ h9 => h9) hown hK hP (lo_in hL t7 (by decide)) e13 rfl 0 (by decide) (wd_145 hB _) rfl d_NRunner_makeStep_40 ?_
    refine lv_iconst (v := nI 1) hx hb d_NRunner_makeStep_43 (by decide) ?_
    refine lv_icmp_ne (tgt := 74) hx hb d_NRunner_makeStep_44 (by decide) (fun b20 => ?_) (fun b20 => ?_)
    · skip
      replace b20 := mt (nI_eq (a := kd_8) (b := 1) (by omega) (by omega)).mpr b20
      obtain ⟨j21, hj21, rfl⟩ := c18 (by omega) (by omega)
      refine lv_aload_n hx hb d_NRunner_makeStep_74 rfl (lv_at hl 1 rfl) ?_
      refine lv_aload_n hx hb d_NRunner_makeStep_75 rfl (lv_at hl 1 rfl) ?_
      refine lv_aload_n hx hb d_NRunner_makeStep_76 rfl (lv_at hl 0 rfl) ?_
      have hI22 := iv_1 hI hL t_X (by decide) hk5 (oc_9.mk t_X (⟨pr, ix, os, (st + 1), mo, lo, tr, e3, t_pr, (by omega), (by omega), (by omega), (by omega)⟩))
      refine pcc_i (va_runV (C := "BigRunner$Runner") (As := [.ref (g.lk (g.lk pr 0) ix)]) (rest := [.ref X]) ⟨hx, hb, hml, hown, tb_nil⟩ (c_workOut l g H.size f2 X pr ix os ((st + 1)) mo lo tr ((g.lk (g.lk pr 0) ix)) kd_8 nm_9 fn_10 j21 ta_12 hL t_X t_pr t7 hI22 e3 (by omega) (by omega) (by omega) (by omega) e13 (by omega) (by omega)) ⟨(callB_of 1 (tb_one (wd_738 hB _)) tb_good1 rfl rfl rfl (wd_79 hB _) (wd_735 hB _) (by decide +kernel) ⟨Nat.le_of_ble_eq_true rfl, Nat.le_of_ble_eq_true rfl⟩), (wd_737 hB _), (wd_26 hB _)⟩ ⟨pe_bl, pg_recv (ci := 8) hK hP (lo_in hL t_X (by decide)) e3 rfl, pe_pre hB hK hP hD⟩ rfl rfl hl.1 rfl (lv_room (Nat.le_of_ble_eq_true rfl)) d_NRunner_makeStep_77 ⟨Nat.le_of_ble_eq_true rfl, Nat.le_of_ble_eq_true rfl⟩) hS (fun r23 f24 H locs hq25 hP hD hS => ?_)
      obtain ⟨x1_26, q3_27, hI1_28, hu1_29⟩ := hq25
      obtain ⟨kr30, hkr30_0, rfl⟩ := q3_27
      have hu := hu.tr hu1_29 (by decide)
      have eP := hu1_29.at t_pr (by decide) eP
      have e6 := hu1_29.at (lo_k7_0 hL _ t_pr) (by decide) e6
      have e13 := hu1_29.at t7 (by decide) e13
      obtain ⟨mo1_31, lo1_32, e33⟩ := x1_26
      refine pf_put (v := .int (nI kr30)) (ty := .int) (fs' := [.ref pr, .ref (g.lk X 1), .int (nI ix), .ref (g.lk X 3), .ref (g.lk X 4), .ref (g.lk X 5), .ref (g.lk X 6), .ref (g.lk X 7), .int (nI os), .int (nI (st + 1)), .int mo1_31, .int lo1_32, .int (nI kr30)]) (C := "BigRunner$Runner") (T := FT8) (N := 13) hx hb (hw8 hB _) (fun _ h9 => h9) TY8 ok8 nm8 hown hK hP hD hS (lo_in hL t_X (by decide)) e33 rfl 12 (by decide) (wd_349 hB _) rfl (by decide +kernel) rfl rfl (Nat.le_of_ble_eq_true rfl) rfl d_NRunner_makeStep_80 (fun f34 H locs e35 k36 hP hD hS => ?_)
      have eP := (k36 pr (tg_ne t_pr t_X (by decide))).trans eP
      have e6 := (k36 (g.lk pr 0) (tg_ne (lo_k7_0 hL _ t_pr) t_X (by decide))).trans e6
      have e13 := (k36 (g.lk (g.lk pr 0) ix) (tg_ne t7 t_X (by decide))).trans e13
      have hu := hu.st k36 t_X (by decide)
      have hk37 : ∀ b, b ≠ X → f34 b = f24 b := k36
      refine lv_aload_n hx hb d_NRunner_makeStep_83 rfl (lv_at hl 1 rfl) ?_
      refine pf_get (v := .int (nI kr30)) (C := "BigRunner$Runner") (T := FT8) (N := 13) hx hb (hw8 hB _) (fun _ h9 => h9) hown hK hP (lo_in hL t_X (by decide)) e35 rfl 12 (by decide) (wd_349 hB _) rfl d_NRunner_makeStep_84 ?_
      refine lv_if_eq (tgt := 91) hx hb d_NRunner_makeStep_87 (by decide) (fun b38 => ?_) (fun b38 => ?_)
      · skip
        replace b38 := (nI_eq (a := kr30) (b := 0) (by omega) (by omega)).mp b38
        refine lv_aload_n hx hb d_NRunner_makeStep_91 rfl (lv_at hl 1 rfl) ?_
        refine pf_get (v := .ref pr) (C := "BigRunner$Runner") (T := FT8) (N := 13) hx hb (hw8 hB _) (fun _ h9 => h9) hown hK hP (lo_in hL t_X (by decide)) e35 rfl 0 (by decide) (wd_330 hB _) rfl d_NRunner_makeStep_92 ?_
        refine pf_get (v := .ref (g.lk pr 2)) (C := "BigRunner$Program") (T := FT6) (N := 6) hx hb (hw6 hB _) (fun _ h9 => h9) hown hK hP (lo_in hL t_pr (by decide)) eP rfl 2 (by decide) (wd_249 hB _) rfl d_NRunner_makeStep_95 ?_
        refine lv_aload_n hx hb d_NRunner_makeStep_98 rfl (lv_at hl 0 rfl) ?_
        refine pf_get (v := .int (nI j21)) (C := "BigRunner$Statement") (T := FT9) (N := 5) hx hb (hw9 hB _) (fun _ h9 => h9) hown hK hP (lo_in hL t7 (by decide)) e13 rfl 3 (by decide) (wd_157 hB _) rfl d_NRunner_makeStep_99 ?_
        have e39 := oc_25.of (lo_k7_2 hL _ t_pr) (hI1_28.1 (g.lk pr 2))
        replace e39 := (hk37 (g.lk pr 2) (tg_ne (lo_k7_2 hL _ t_pr) t_X (by decide))).trans e39
        refine pf_aald (i := j21) hx hb hK hP (lo_in hL (lo_k7_2 hL _ t_pr) (by decide)) e39 (lo_t25 hL _ (lo_k7_2 hL _ t_pr)) (by omega) (by decide) d_NRunner_makeStep_102 ?_
        have t40 := lo_e25 hL _ (lo_k7_2 hL _ t_pr) j21 (by omega)
        refine lv_astore_n (lv' := [(2, .ref (g.lk (g.lk pr 2) j21)), (1, .ref (g.lk (g.lk pr 0) ix)), (0, .ref X)]) hx hb d_NRunner_makeStep_103 rfl hl (by decide) rfl (fun ls hl => ?_)
        refine lv_aload_n hx hb d_NRunner_makeStep_104 rfl (lv_at hl 1 rfl) ?_
        refine pf_get (v := .int (nI kd_8)) (C := "BigRunner$Statement") (T := FT9) (N := 5) hx hb (hw9 hB _) (fun _ h9 => h9) hown hK hP (lo_in hL t7 (by decide)) e13 rfl 0 (by decide) (wd_145 hB _) rfl d_NRunner_makeStep_105 ?_
        refine lv_if_ne (tgt := 123) hx hb d_NRunner_makeStep_108 (by decide) (fun b41 => ?_) (fun b41 => ?_)
        · skip
          replace b41 := mt (nI_eq (a := kd_8) (b := 0) (by omega) (by omega)).mpr b41
          refine lv_aload_n hx hb d_NRunner_makeStep_123 rfl (lv_at hl 1 rfl) ?_
          refine pf_get (v := .int (nI kd_8)) (C := "BigRunner$Statement") (T := FT9) (N := 5) hx hb (hw9 hB _) (fun _ h9 => h9) hown hK hP (lo_in hL t7 (by decide)) e13 rfl 0 (by decide) (wd_145 hB _) rfl d_NRunner_makeStep_124 ?_
          refine lv_iconst (v := nI 2) hx hb d_NRunner_makeStep_127 (by decide) ?_
          refine lv_icmp_ne (tgt := 139) hx hb d_NRunner_makeStep_128 (by decide) (fun b42 => ?_) (fun b42 => ?_)
          · skip
            replace b42 := mt (nI_eq (a := kd_8) (b := 2) (by omega) (by omega)).mpr b42
            refine lv_aload_n hx hb d_NRunner_makeStep_139 rfl (lv_at hl 0 rfl) ?_
            have hI43 := iv_1 hI1_28 hL t_X (by decide) hk37 (oc_9.mk t_X (⟨pr, ix, os, (st + 1), mo1_31, lo1_32, kr30, e35, t_pr, (by omega), (by omega), (by omega), (by omega)⟩))
            obtain ⟨kd_45, le_46, ri_47, sm_48, mv_49, e44, c50, c51, c52, c53, c54, c55⟩ := oc_6.of t40 (hI43.1 (g.lk (g.lk pr 2) j21))
            refine pcc_i (va_runV (C := "BigRunner$Node") (As := []) (rest := []) ⟨hx, hb, hml, hown, tb_nil⟩ (c_nsign l g H.size f34 ((g.lk (g.lk pr 2) j21)) hL t40 hI43.1) ⟨(callB_of 0 (tb_one (wd_846 hB _)) tb_good1 rfl rfl rfl (wd_77 hB _) (wd_843 hB _) (by decide +kernel) ⟨Nat.le_of_ble_eq_true rfl, Nat.le_of_ble_eq_true rfl⟩), (wd_844 hB _), (wd_845 hB _)⟩ ⟨pe_bl, pg_recv (ci := 5) hK hP (lo_in hL t40 (by decide)) e44 rfl, pe_pre hB hK hP hD⟩ rfl rfl hl.1 rfl (lv_room (Nat.le_of_ble_eq_true rfl)) d_NRunner_makeStep_140 ⟨Nat.le_of_ble_eq_true rfl, Nat.le_of_ble_eq_true rfl⟩) hS (fun r56 f57 H locs hq58 hP hD hS => ?_)
            subst hq58
            refine lv_if_gt (tgt := 155) hx hb d_NRunner_makeStep_143 (by decide) (fun b59 => ?_) (fun b59 => ?_)
            · skip
              refine lv_aload_n hx hb d_NRunner_makeStep_155 rfl (lv_at hl 2 rfl) ?_
              refine lv_aload_n hx hb d_NRunner_makeStep_156 rfl (lv_at hl 2 rfl) ?_
              refine pf_get (v := .int (nI ix)) (C := "BigRunner$Runner") (T := FT8) (N := 13) hx hb (hw8 hB _) (fun _ h9 => h9) hown hK hP (lo_in hL t_X (by decide)) e35 rfl 2 (by decide) (wd_334 hB _) rfl d_NRunner_makeStep_157 ?_
              refine lv_iconst (v := nI 1) hx hb d_NRunner_makeStep_160 (by decide) ?_
              refine pf_iaddN (x := ix) (y := 1) hx hb d_NRunner_makeStep_161 ?_
              refine pcc_v (va_runV (C := "BigRunner$Runner") (As := [.int (nI (ix + 1))]) (rest := []) ⟨hx, hb, hml, hown, tb_nil⟩ (c_proceed l g H.size f34 X pr ix os ((st + 1)) mo1_31 lo1_32 kr30 sn nn ((ix + 1)) hL t_X t_pr hI43 e35 (by omega) (by omega) (by omega) (by omega) eP (by omega) (by omega) (SG_un hSG hL t_pr hsn hu (by decide)) (by omega)) ⟨(callB_of 1 (tb_one (wd_734 hB _)) tb_good1 rfl rfl rfl (wd_79 hB _) (wd_731 hB _) (by decide +kernel) ⟨Nat.le_of_ble_eq_true rfl, Nat.le_of_ble_eq_true rfl⟩), (wd_733 hB _), (wd_25 hB _)⟩ ⟨pe_bl, pg_recv (ci := 8) hK hP (lo_in hL t_X (by decide)) e35 rfl, pe_pre hB hK hP hD⟩ rfl rfl hl.1 rfl (lv_room (Nat.le_of_ble_eq_true rfl)) d_NRunner_makeStep_162 ⟨Nat.le_of_ble_eq_true rfl, Nat.le_of_ble_eq_true rfl⟩) hS (fun f61 H locs hq62 hP hD hS => ?_)
              obtain ⟨x1_63, hI1_64, hu1_65⟩ := hq62
              have hu := hu.tr hu1_65 (by decide)
              have eP := hu1_65.at t_pr (by decide) eP
              have e6 := hu1_65.at (lo_k7_0 hL _ t_pr) (by decide) e6
              have e13 := hu1_65.at t7 (by decide) e13
              have e39 := hu1_65.at (lo_k7_2 hL _ t_pr) (by decide) e39
              have e44 := hu1_65.at t40 (by decide) e44
              obtain ⟨ix1_66, c67, c68, e69⟩ := x1_63
              exact pe_vret hx hb hr hlocks hK hP hD hS d_NRunner_makeStep_165 ⟨⟨ix1_66, os, (st + 1), mo1_31, lo1_32, kr30, (by omega), (by omega), (by omega), (by omega), c68, e69⟩, hI1_64, hu⟩
            · skip
              refine lv_aload_n hx hb d_NRunner_makeStep_146 rfl (lv_at hl 2 rfl) ?_
              refine lv_aload_n hx hb d_NRunner_makeStep_147 rfl (lv_at hl 1 rfl) ?_
              refine pf_get (v := .int (nI ta_12)) (C := "BigRunner$Statement") (T := FT9) (N := 5) hx hb (hw9 hB _) (fun _ h9 => h9) hown hK hP (lo_in hL t7 (by decide)) e13 rfl 4 (by decide) (wd_160 hB _) rfl d_NRunner_makeStep_148 ?_
              refine pcc_v (va_runV (C := "BigRunner$Runner") (As := [.int (nI ta_12)]) (rest := []) ⟨hx, hb, hml, hown, tb_nil⟩ (c_proceed l g H.size f34 X pr ix os ((st + 1)) mo1_31 lo1_32 kr30 sn nn ta_12 hL t_X t_pr hI43 e35 (by omega) (by omega) (by omega) (by omega) eP (by omega) (by omega) (SG_un hSG hL t_pr hsn hu (by decide)) (by omega)) ⟨(callB_of 1 (tb_one (wd_734 hB _)) tb_good1 rfl rfl rfl (wd_79 hB _) (wd_731 hB _) (by decide +kernel) ⟨Nat.le_of_ble_eq_true rfl, Nat.le_of_ble_eq_true rfl⟩), (wd_733 hB _), (wd_25 hB _)⟩ ⟨pe_bl, pg_recv (ci := 8) hK hP (lo_in hL t_X (by decide)) e35 rfl, pe_pre hB hK hP hD⟩ rfl rfl hl.1 rfl (lv_room (Nat.le_of_ble_eq_true rfl)) d_NRunner_makeStep_151 ⟨Nat.le_of_ble_eq_true rfl, Nat.le_of_ble_eq_true rfl⟩) hS (fun f71 H locs hq72 hP hD hS => ?_)
              obtain ⟨x1_73, hI1_74, hu1_75⟩ := hq72
              have hu := hu.tr hu1_75 (by decide)
              have eP := hu1_75.at t_pr (by decide) eP
              have e6 := hu1_75.at (lo_k7_0 hL _ t_pr) (by decide) e6
              have e13 := hu1_75.at t7 (by decide) e13
              have e39 := hu1_75.at (lo_k7_2 hL _ t_pr) (by decide) e39
              have e44 := hu1_75.at t40 (by decide) e44
              obtain ⟨ix1_76, c77, c78, e79⟩ := x1_73
              exact pe_vret hx hb hr hlocks hK hP hD hS d_NRunner_makeStep_154 ⟨⟨ix1_76, os, (st + 1), mo1_31, lo1_32, kr30, (by omega), (by omega), (by omega), (by omega), c78, e79⟩, hI1_74, hu⟩
          · skip
            replace b42 := (nI_eq (a := kd_8) (b := 2) (by omega) (by omega)).mp b42
            refine lv_aload_n hx hb d_NRunner_makeStep_131 rfl (lv_at hl 2 rfl) ?_
            refine lv_aload_n hx hb d_NRunner_makeStep_132 rfl (lv_at hl 0 rfl) ?_
            have hI80 := iv_1 hI1_28 hL t_X (by decide) hk37 (oc_9.mk t_X (⟨pr, ix, os, (st + 1), mo1_31, lo1_32, kr30, e35, t_pr, (by omega), (by omega), (by omega), (by omega)⟩))
            refine pcc_v (va_runV (C := "BigRunner$Runner") (As := [.ref (g.lk (g.lk pr 2) j21)]) (rest := []) ⟨hx, hb, hml, hown, tb_nil⟩ (c_keep l g H.size f34 X pr ix os ((st + 1)) mo1_31 lo1_32 kr30 ((g.lk (g.lk pr 2) j21)) hL t_X t_pr t40 hI80 e35 (by omega) (by omega) (by omega) (by omega) (by omega) (Nat.lt_of_le_of_lt (Nat.le_of_eq (lo_n25 hL _ (lo_k7_2 hL _ t_pr) _ (by omega))) (by omega))) ⟨(callB_of 1 (tb_one (wd_842 hB _)) tb_good1 rfl rfl rfl (wd_79 hB _) (wd_839 hB _) (by decide +kernel) ⟨Nat.le_of_ble_eq_true rfl, Nat.le_of_ble_eq_true rfl⟩), (wd_841 hB _), (wd_39 hB _)⟩ ⟨pe_bl, pg_recv (ci := 8) hK hP (lo_in hL t_X (by decide)) e35 rfl, pe_pre hB hK hP hD⟩ rfl rfl hl.1 rfl (lv_room (Nat.le_of_ble_eq_true rfl)) d_NRunner_makeStep_133 ⟨Nat.le_of_ble_eq_true rfl, Nat.le_of_ble_eq_true rfl⟩) hS (fun f82 H locs hq83 hP hD hS => ?_)
            obtain ⟨x1_84, hI1_85, hu1_86⟩ := hq83
            have hu := hu.tr hu1_86 (by decide)
            have eP := hu1_86.at t_pr (by decide) eP
            have e6 := hu1_86.at (lo_k7_0 hL _ t_pr) (by decide) e6
            have e13 := hu1_86.at t7 (by decide) e13
            have e39 := hu1_86.at (lo_k7_2 hL _ t_pr) (by decide) e39
            refine lv_goto (tgt := 155) hx hb d_NRunner_makeStep_136 (by decide) ?_
            refine lv_aload_n hx hb d_NRunner_makeStep_155 rfl (lv_at hl 2 rfl) ?_
            refine lv_aload_n hx hb d_NRunner_makeStep_156 rfl (lv_at hl 2 rfl) ?_
            refine pf_get (v := .int (nI ix)) (C := "BigRunner$Runner") (T := FT8) (N := 13) hx hb (hw8 hB _) (fun _ h9 => h9) hown hK hP (lo_in hL t_X (by decide)) x1_84 rfl 2 (by decide) (wd_334 hB _) rfl d_NRunner_makeStep_157 ?_
            refine lv_iconst (v := nI 1) hx hb d_NRunner_makeStep_160 (by decide) ?_
            refine pf_iaddN (x := ix) (y := 1) hx hb d_NRunner_makeStep_161 ?_
            refine pcc_v (va_runV (C := "BigRunner$Runner") (As := [.int (nI (ix + 1))]) (rest := []) ⟨hx, hb, hml, hown, tb_nil⟩ (c_proceed l g H.size f82 X pr ix ((os + 1)) ((st + 1)) mo1_31 lo1_32 kr30 sn nn ((ix + 1)) hL t_X t_pr hI1_85 x1_84 (by omega) (by omega) (by omega) (by omega) eP (by omega) (by omega) (SG_un hSG hL t_pr hsn hu (by decide)) (by omega)) ⟨(callB_of 1 (tb_one (wd_734 hB _)) tb_good1 rfl rfl rfl (wd_79 hB _) (wd_731 hB _) (by decide +kernel) ⟨Nat.le_of_ble_eq_true rfl, Nat.le_of_ble_eq_true rfl⟩), (wd_733 hB _), (wd_25 hB _)⟩ ⟨pe_bl, pg_recv (ci := 8) hK hP (lo_in hL t_X (by decide)) x1_84 rfl, pe_pre hB hK hP hD⟩ rfl rfl hl.1 rfl (lv_room (Nat.le_of_ble_eq_true rfl)) d_NRunner_makeStep_162 ⟨Nat.le_of_ble_eq_true rfl, Nat.le_of_ble_eq_true rfl⟩) hS (fun f88 H locs hq89 hP hD hS => ?_)
            obtain ⟨x1_90, hI1_91, hu1_92⟩ := hq89
            have hu := hu.tr hu1_92 (by decide)
            have eP := hu1_92.at t_pr (by decide) eP
            have e6 := hu1_92.at (lo_k7_0 hL _ t_pr) (by decide) e6
            have e13 := hu1_92.at t7 (by decide) e13
            have e39 := hu1_92.at (lo_k7_2 hL _ t_pr) (by decide) e39
            obtain ⟨ix1_93, c94, c95, e96⟩ := x1_90
            exact pe_vret hx hb hr hlocks hK hP hD hS d_NRunner_makeStep_165 ⟨⟨ix1_93, (os + 1), (st + 1), mo1_31, lo1_32, kr30, (by omega), (by omega), (by omega), (by omega), c95, e96⟩, hI1_91, hu⟩
        · skip
          replace b41 := (nI_eq (a := kd_8) (b := 0) (by omega) (by omega)).mp b41
          refine lv_aload_n hx hb d_NRunner_makeStep_111 rfl (lv_at hl 2 rfl) ?_
          refine lv_aload_n hx hb d_NRunner_makeStep_112 rfl (lv_at hl 1 rfl) ?_
          refine pf_get (v := .int (nI nm_9)) (C := "BigRunner$Statement") (T := FT9) (N := 5) hx hb (hw9 hB _) (fun _ h9 => h9) hown hK hP (lo_in hL t7 (by decide)) e13 rfl 1 (by decide) (wd_149 hB _) rfl d_NRunner_makeStep_113 ?_
          refine lv_aload_n hx hb d_NRunner_makeStep_116 rfl (lv_at hl 0 rfl) ?_
          have hI97 := iv_1 hI1_28 hL t_X (by decide) hk37 (oc_9.mk t_X (⟨pr, ix, os, (st + 1), mo1_31, lo1_32, kr30, e35, t_pr, (by omega), (by omega), (by omega), (by omega)⟩))
          refine pcc_v (va_runV (C := "BigRunner$Runner") (As := [.int (nI nm_9), .ref (g.lk (g.lk pr 2) j21)]) (rest := []) ⟨hx, hb, hml, hown, tb_nil⟩ (c_assign l g H.size f34 X pr ix os ((st + 1)) mo1_31 lo1_32 kr30 nm_9 ((g.lk (g.lk pr 2) j21)) hL t_X t_pr t40 hI97 e35 (by omega) (by omega) (by omega) (by omega) (by omega) (Nat.lt_of_le_of_lt (Nat.le_of_eq (lo_n25 hL _ (lo_k7_2 hL _ t_pr) _ (by omega))) (by omega))) ⟨(callB_of 2 (tb_one (wd_834 hB _)) tb_good1 rfl rfl rfl (wd_79 hB _) (wd_831 hB _) (by decide +kernel) ⟨Nat.le_of_ble_eq_true rfl, Nat.le_of_ble_eq_true rfl⟩), (wd_833 hB _), (wd_38 hB _)⟩ ⟨pe_bl, pg_recv (ci := 8) hK hP (lo_in hL t_X (by decide)) e35 rfl, pe_pre hB hK hP hD⟩ rfl rfl hl.1 rfl (lv_room (Nat.le_of_ble_eq_true rfl)) d_NRunner_makeStep_117 ⟨Nat.le_of_ble_eq_true rfl, Nat.le_of_ble_eq_true rfl⟩) hS (fun f99 H locs hq100 hP hD hS => ?_)
          obtain ⟨hI1_101, hu1_102⟩ := hq100
          have hu := hu.tr hu1_102 (by decide)
          have eP := hu1_102.at t_pr (by decide) eP
          have e6 := hu1_102.at (lo_k7_0 hL _ t_pr) (by decide) e6
          have e13 := hu1_102.at t7 (by decide) e13
          have e35 := hu1_102.at t_X (by decide) e35
          have e39 := hu1_102.at (lo_k7_2 hL _ t_pr) (by decide) e39
          refine lv_goto (tgt := 155) hx hb d_NRunner_makeStep_120 (by decide) ?_
          refine lv_aload_n hx hb d_NRunner_makeStep_155 rfl (lv_at hl 2 rfl) ?_
          refine lv_aload_n hx hb d_NRunner_makeStep_156 rfl (lv_at hl 2 rfl) ?_
          refine pf_get (v := .int (nI ix)) (C := "BigRunner$Runner") (T := FT8) (N := 13) hx hb (hw8 hB _) (fun _ h9 => h9) hown hK hP (lo_in hL t_X (by decide)) e35 rfl 2 (by decide) (wd_334 hB _) rfl d_NRunner_makeStep_157 ?_
          refine lv_iconst (v := nI 1) hx hb d_NRunner_makeStep_160 (by decide) ?_
          refine pf_iaddN (x := ix) (y := 1) hx hb d_NRunner_makeStep_161 ?_
          refine pcc_v (va_runV (C := "BigRunner$Runner") (As := [.int (nI (ix + 1))]) (rest := []) ⟨hx, hb, hml, hown, tb_nil⟩ (c_proceed l g H.size f99 X pr ix os ((st + 1)) mo1_31 lo1_32 kr30 sn nn ((ix + 1)) hL t_X t_pr hI1_101 e35 (by omega) (by omega) (by omega) (by omega) eP (by omega) (by omega) (SG_un hSG hL t_pr hsn hu (by decide)) (by omega)) ⟨(callB_of 1 (tb_one (wd_734 hB _)) tb_good1 rfl rfl rfl (wd_79 hB _) (wd_731 hB _) (by decide +kernel) ⟨Nat.le_of_ble_eq_true rfl, Nat.le_of_ble_eq_true rfl⟩), (wd_733 hB _), (wd_25 hB _)⟩ ⟨pe_bl, pg_recv (ci := 8) hK hP (lo_in hL t_X (by decide)) e35 rfl, pe_pre hB hK hP hD⟩ rfl rfl hl.1 rfl (lv_room (Nat.le_of_ble_eq_true rfl)) d_NRunner_makeStep_162 ⟨Nat.le_of_ble_eq_true rfl, Nat.le_of_ble_eq_true rfl⟩) hS (fun f104 H locs hq105 hP hD hS => ?_)
          obtain ⟨x1_106, hI1_107, hu1_108⟩ := hq105
          have hu := hu.tr hu1_108 (by decide)
          have eP := hu1_108.at t_pr (by decide) eP
          have e6 := hu1_108.at (lo_k7_0 hL _ t_pr) (by decide) e6
          have e13 := hu1_108.at t7 (by decide) e13
          have e39 := hu1_108.at (lo_k7_2 hL _ t_pr) (by decide) e39
          obtain ⟨ix1_109, c110, c111, e112⟩ := x1_106
          exact pe_vret hx hb hr hlocks hK hP hD hS d_NRunner_makeStep_165 ⟨⟨ix1_109, os, (st + 1), mo1_31, lo1_32, kr30, (by omega), (by omega), (by omega), (by omega), c111, e112⟩, hI1_107, hu⟩
      · skip
        replace b38 := mt (nI_eq (a := kr30) (b := 0) (by omega) (by omega)).mpr b38
        have hI113 := iv_1 hI1_28 hL t_X (by decide) hk37 (oc_9.mk t_X (⟨pr, ix, os, (st + 1), mo1_31, lo1_32, kr30, e35, t_pr, (by omega), (by omega), (by omega), (by omega)⟩))
        exact pe_vret hx hb hr hlocks hK hP hD hS d_NRunner_makeStep_90 ⟨⟨ix, os, (st + 1), mo1_31, lo1_32, kr30, (by omega), (by omega), (by omega), (by omega), (Or.inr (nj_un hnj hL t_pr (by omega) hu (by decide))), e35⟩, hI113, hu⟩
    · skip
      replace b20 := (nI_eq (a := kd_8) (b := 1) (by omega) (by omega)).mp b20
      refine lv_aload_n hx hb d_NRunner_makeStep_47 rfl (lv_at hl 1 rfl) ?_
      refine lv_aload_n hx hb d_NRunner_makeStep_48 rfl (lv_at hl 0 rfl) ?_
      refine pf_get (v := .int (nI nm_9)) (C := "BigRunner$Statement") (T := FT9) (N := 5) hx hb (hw9 hB _) (fun _ h9 => h9) hown hK hP (lo_in hL t7 (by decide)) e13 rfl 1 (by decide) (wd_149 hB _) rfl d_NRunner_makeStep_49 ?_
      refine lv_aload_n hx hb d_NRunner_makeStep_52 rfl (lv_at hl 1 rfl) ?_
      refine pf_get (v := .ref (g.lk X 1)) (C := "BigRunner$Runner") (T := FT8) (N := 13) hx hb (hw8 hB _) (fun _ h9 => h9) hown hK hP (lo_in hL t_X (by decide)) e3 rfl 1 (by decide) (wd_332 hB _) rfl d_NRunner_makeStep_53 ?_
      have hI114 := iv_1 hI hL t_X (by decide) hk5 (oc_9.mk t_X (⟨pr, ix, os, (st + 1), mo, lo, tr, e3, t_pr, (by omega), (by omega), (by omega), (by omega)⟩))
      obtain ⟨fi_116, wa_117, e115, c118, c119⟩ := oc_2.of (lo_k9_1 hL _ t_X) (hI114.1 (g.lk X 1))
      refine pcc_i (va_runV (C := "BigRunner$Inputs") (As := []) (rest := [.int (nI nm_9), .ref X]) ⟨hx, hb, hml, hown, tb_nil⟩ (c_take l g H.size f2 ((g.lk X 1)) hL (lo_k9_1 hL _ t_X) hI114) ⟨(callB_of 0 (tb_one (wd_725 hB _)) tb_good1 rfl rfl rfl (wd_80 hB _) (wd_722 hB _) (by decide +kernel) ⟨Nat.le_of_ble_eq_true rfl, Nat.le_of_ble_eq_true rfl⟩), (wd_723 hB _), (wd_724 hB _)⟩ ⟨pe_bl, pg_recv (ci := 1) hK hP (lo_in hL (lo_k9_1 hL _ t_X) (by decide)) e115 rfl, pe_pre hB hK hP hD⟩ rfl rfl hl.1 rfl (lv_room (Nat.le_of_ble_eq_true rfl)) d_NRunner_makeStep_56 ⟨Nat.le_of_ble_eq_true rfl, Nat.le_of_ble_eq_true rfl⟩) hS (fun r120 f121 H locs hq122 hP hD hS => ?_)
      obtain ⟨hI1_123, hu1_124⟩ := hq122
      have hu := hu.tr hu1_124 (by decide)
      have eP := hu1_124.at t_pr (by decide) eP
      have e3 := hu1_124.at t_X (by decide) e3
      have e6 := hu1_124.at (lo_k7_0 hL _ t_pr) (by decide) e6
      have e13 := hu1_124.at t7 (by decide) e13
      refine lv_i2l hx hb d_NRunner_makeStep_59 rfl ?_
      refine pcc_v (va_runV (C := "BigRunner$Runner") (As := [.int (nI nm_9), .long r120.toInt64]) (rest := []) ⟨hx, hb, hml, hown, tb_nil⟩ (c_store l g H.size f121 X pr ix os ((st + 1)) mo lo tr nm_9 r120.toInt64 hL t_X t_pr hI1_123 e3 (by omega) (by omega) (by omega) (by omega) (by omega)) ⟨(callB_of 2 (tb_one (wd_729 hB _)) tb_good1 rfl rfl rfl (wd_79 hB _) (wd_726 hB _) (by decide +kernel) ⟨Nat.le_of_ble_eq_true rfl, Nat.le_of_ble_eq_true rfl⟩), (wd_728 hB _), (wd_24 hB _)⟩ ⟨pe_bl, pg_recv (ci := 8) hK hP (lo_in hL t_X (by decide)) e3 rfl, pe_pre hB hK hP hD⟩ rfl rfl hl.1 rfl (lv_room (Nat.le_of_ble_eq_true rfl)) d_NRunner_makeStep_60 ⟨Nat.le_of_ble_eq_true rfl, Nat.le_of_ble_eq_true rfl⟩) hS (fun f126 H locs hq127 hP hD hS => ?_)
      obtain ⟨hI1_128, hu1_129⟩ := hq127
      have hu := hu.tr hu1_129 (by decide)
      have eP := hu1_129.at t_pr (by decide) eP
      have e3 := hu1_129.at t_X (by decide) e3
      have e6 := hu1_129.at (lo_k7_0 hL _ t_pr) (by decide) e6
      have e13 := hu1_129.at t7 (by decide) e13
      refine lv_aload_n hx hb d_NRunner_makeStep_63 rfl (lv_at hl 1 rfl) ?_
      refine lv_aload_n hx hb d_NRunner_makeStep_64 rfl (lv_at hl 1 rfl) ?_
      refine pf_get (v := .int (nI ix)) (C := "BigRunner$Runner") (T := FT8) (N := 13) hx hb (hw8 hB _) (fun _ h9 => h9) hown hK hP (lo_in hL t_X (by decide)) e3 rfl 2 (by decide) (wd_334 hB _) rfl d_NRunner_makeStep_65 ?_
      refine lv_iconst (v := nI 1) hx hb d_NRunner_makeStep_68 (by decide) ?_
      refine pf_iaddN (x := ix) (y := 1) hx hb d_NRunner_makeStep_69 ?_
      refine pcc_v (va_runV (C := "BigRunner$Runner") (As := [.int (nI (ix + 1))]) (rest := []) ⟨hx, hb, hml, hown, tb_nil⟩ (c_proceed l g H.size f126 X pr ix os ((st + 1)) mo lo tr sn nn ((ix + 1)) hL t_X t_pr hI1_128 e3 (by omega) (by omega) (by omega) (by omega) eP (by omega) (by omega) (SG_un hSG hL t_pr hsn hu (by decide)) (by omega)) ⟨(callB_of 1 (tb_one (wd_734 hB _)) tb_good1 rfl rfl rfl (wd_79 hB _) (wd_731 hB _) (by decide +kernel) ⟨Nat.le_of_ble_eq_true rfl, Nat.le_of_ble_eq_true rfl⟩), (wd_733 hB _), (wd_25 hB _)⟩ ⟨pe_bl, pg_recv (ci := 8) hK hP (lo_in hL t_X (by decide)) e3 rfl, pe_pre hB hK hP hD⟩ rfl rfl hl.1 rfl (lv_room (Nat.le_of_ble_eq_true rfl)) d_NRunner_makeStep_70 ⟨Nat.le_of_ble_eq_true rfl, Nat.le_of_ble_eq_true rfl⟩) hS (fun f131 H locs hq132 hP hD hS => ?_)
      obtain ⟨x1_133, hI1_134, hu1_135⟩ := hq132
      have hu := hu.tr hu1_135 (by decide)
      have eP := hu1_135.at t_pr (by decide) eP
      have e6 := hu1_135.at (lo_k7_0 hL _ t_pr) (by decide) e6
      have e13 := hu1_135.at t7 (by decide) e13
      obtain ⟨ix1_136, c137, c138, e139⟩ := x1_133
      exact pe_vret hx hb hr hlocks hK hP hD hS d_NRunner_makeStep_73 ⟨⟨ix1_136, os, (st + 1), mo, lo, tr, (by omega), (by omega), (by omega), (by omega), c138, e139⟩, hI1_134, hu⟩
  · skip
    replace b1 := mt (nI_ltI (a := st) (b := 3000) (by omega) (by omega)).mpr b1
    refine lv_aload_n hx hb d_NRunner_makeStep_10 rfl (lv_at hl 0 rfl) ?_
    refine lv_iconst (v := nI 3) hx hb d_NRunner_makeStep_11 (by decide) ?_
    refine pf_put (v := .int (nI 3)) (ty := .int) (fs' := [.ref pr, .ref (g.lk X 1), .int (nI ix), .ref (g.lk X 3), .ref (g.lk X 4), .ref (g.lk X 5), .ref (g.lk X 6), .ref (g.lk X 7), .int (nI os), .int (nI st), .int mo, .int lo, .int (nI 3)]) (C := "BigRunner$Runner") (T := FT8) (N := 13) hx hb (hw8 hB _) (fun _ h9 => h9) TY8 ok8 nm8 hown hK hP hD hS (lo_in hL t_X (by decide)) eX rfl 12 (by decide) (wd_349 hB _) rfl (by decide +kernel) rfl rfl (Nat.le_of_ble_eq_true rfl) rfl d_NRunner_makeStep_12 (fun f140 H locs e141 k142 hP hD hS => ?_)
    have eP := (k142 pr (tg_ne t_pr t_X (by decide))).trans eP
    have hu := hu.st k142 t_X (by decide)
    have hk143 : ∀ b, b ≠ X → f140 b = f b := k142
    have hI144 := iv_1 hI hL t_X (by decide) hk143 (oc_9.mk t_X (⟨pr, ix, os, st, mo, lo, 3, e141, t_pr, (by omega), (by omega), (by omega), (by omega)⟩))
    exact pe_vret hx hb hr hlocks hK hP hD hS d_NRunner_makeStep_15 ⟨⟨ix, os, st, mo, lo, 3, (by omega), (by omega), (by omega), (by omega), (Or.inr (nj_un hnj hL t_pr (by omega) hu (by decide))), e141⟩, hI144, hu⟩
