set_option maxHeartbeats 4000000 in
set_option maxRecDepth 100000 in
theorem m2_joined (l : Launch) (g : Lay) (sz : Nat) (f : Nat → va_E) (M : Nat) (v9 : Nat) (wd : Bool) (hLW : Nat → Int64) (hHG : Nat → Int64) (hUN : Nat → Int32) (hOV : Nat → Int32) (hUA : Nat → Int32) (hUB : Nat → Int32) (hAA : Nat → Int64) (hBB : Nat → Int64) (hL : LO g) (t_M : g.tg M = 11) (hI : IV g f) (hv9 : v9 < 10) (eLW : f (g.lk M 17) = .inl (g.ac (g.lk M 17), 10, .inr (.inl hLW))) (eHG : f (g.lk M 18) = .inl (g.ac (g.lk M 18), 10, .inr (.inl hHG))) (eUN : f (g.lk M 19) = .inl (g.ac (g.lk M 19), 10, .inl hUN)) (eOV : f (g.lk M 20) = .inl (g.ac (g.lk M 20), 10, .inl hOV)) (eUA : f (g.lk M 23) = .inl (g.ac (g.lk M 23), 80, .inl hUA)) (eUB : f (g.lk M 24) = .inl (g.ac (g.lk M 24), 80, .inl hUB)) (eAA : f (g.lk M 21) = .inl (g.ac (g.lk M 21), 80, .inr (.inl hAA))) (eBB : f (g.lk M 22) = .inl (g.ac (g.lk M 22), 80, .inr (.inl hBB))) : Met l ⟨"BigRunnerModel", "joined", "(IZ)Z"⟩ [Cond.code ⟨"BigRunnerModel", "joined", "(IZ)Z"⟩ prog_12_method_23_code 5 (some .boolean)] ({ frames := 0, cells := 0, slots := 0, locals := 0 }) (va_Pc [.ref M, .int (nI v9), .int (bI wd)] (pc_in g sz f)) (va_Qi (fun r f1 => (r = bI (jdn (hUN v9) (hUA 0) (hLW v9) (hAA 0) || jup (hOV v9) (hUB 0) (hHG v9) (hBB 0))) ∧ (f1 (g.lk M 17) = .inl (g.ac (g.lk M 17), 10, .inr (.inl (if jdn (hUN v9) (hUA 0) (hLW v9) (hAA 0) = true then vp_updL hLW v9 (hAA 0) else hLW)))) ∧ (f1 (g.lk M 18) = .inl (g.ac (g.lk M 18), 10, .inr (.inl (if jup (hOV v9) (hUB 0) (hHG v9) (hBB 0) = true then vp_updL hHG v9 (hBB 0) else hHG)))) ∧ (f1 (g.lk M 19) = .inl (g.ac (g.lk M 19), 10, .inl (if jdn (hUN v9) (hUA 0) (hLW v9) (hAA 0) = true then upd hUN v9 (bI (nzf (hUA 0) || wd)) else hUN))) ∧ (f1 (g.lk M 20) = .inl (g.ac (g.lk M 20), 10, .inl (if jup (hOV v9) (hUB 0) (hHG v9) (hBB 0) = true then upd hOV v9 (bI (nzf (hUB 0) || wd)) else hOV))) ∧ (IV g f1) ∧ (un [49, 50, 51, 52] g f f1)) (pc_out g sz) (pc_A g sz)) 0 0 (pc_A g sz) := by
  refine pe_ofW (cc := prog_12_method_23_code) (maxL := 5) (ret := (some .boolean)) (lv := [(0, .ref M), (1, .int (nI v9)), (2, .int (bI wd))]) (by decide) (Nat.le_of_ble_eq_true rfl) rfl ?_
  intro p e s m args below meth c ls hx hb hr hml hlocks hown hB hP hK hD hsz hS hl
  subst hsz
  have hu : un [49, 50, 51, 52] g f f := un.rf
  have jn1 : ∀ (bj2 : Int32), bj2 = (bI (jdn (hUN v9) (hUA 0) (hLW v9) (hAA 0))) → ∀ (H : Heap) (locs : List Loc), va_P g.D vcl (va_pl g.LP f) H → va_D (pc_A g s.heap.size) (va_pl g.LP f) → va_S (pc_A g s.heap.size) s.heap H locs → W p l e ({ frames := 0, cells := 0, slots := 0, locals := 0 }) s m args below meth c H locs 0 0 (MQ below (va_Qi (fun r f1 => (r = bI (jdn (hUN v9) (hUA 0) (hLW v9) (hAA 0) || jup (hOV v9) (hUB 0) (hHG v9) (hBB 0))) ∧ (f1 (g.lk M 17) = .inl (g.ac (g.lk M 17), 10, .inr (.inl (if jdn (hUN v9) (hUA 0) (hLW v9) (hAA 0) = true then vp_updL hLW v9 (hAA 0) else hLW)))) ∧ (f1 (g.lk M 18) = .inl (g.ac (g.lk M 18), 10, .inr (.inl (if jup (hOV v9) (hUB 0) (hHG v9) (hBB 0) = true then vp_updL hHG v9 (hBB 0) else hHG)))) ∧ (f1 (g.lk M 19) = .inl (g.ac (g.lk M 19), 10, .inl (if jdn (hUN v9) (hUA 0) (hLW v9) (hAA 0) = true then upd hUN v9 (bI (nzf (hUA 0) || wd)) else hUN))) ∧ (f1 (g.lk M 20) = .inl (g.ac (g.lk M 20), 10, .inl (if jup (hOV v9) (hUB 0) (hHG v9) (hBB 0) = true then upd hOV v9 (bI (nzf (hUB 0) || wd)) else hOV))) ∧ (IV g f1) ∧ (un [49, 50, 51, 52] g f f1)) (pc_out g s.heap.size) (pc_A g s.heap.size)) args s 0 0 (pc_A g s.heap.size)) (F0 m 39 ls [.int bj2]) := by
    intro bj2 hbj3 H locs hP hD hS
    subst hbj3
    refine lv_istore_n (lv' := [(3, .int (bI (jdn (hUN v9) (hUA 0) (hLW v9) (hAA 0)))), (0, .ref M), (1, .int (nI v9)), (2, .int (bI wd))]) hx hb d_M_joined_39 rfl hl (by decide) rfl (fun ls hl => ?_)
    have jn4 : ∀ (bj5 : Int32), bj5 = (bI (jup (hOV v9) (hUB 0) (hHG v9) (hBB 0))) → ∀ (H : Heap) (locs : List Loc), va_P g.D vcl (va_pl g.LP f) H → va_D (pc_A g s.heap.size) (va_pl g.LP f) → va_S (pc_A g s.heap.size) s.heap H locs → W p l e ({ frames := 0, cells := 0, slots := 0, locals := 0 }) s m args below meth c H locs 0 0 (MQ below (va_Qi (fun r f1 => (r = bI (jdn (hUN v9) (hUA 0) (hLW v9) (hAA 0) || jup (hOV v9) (hUB 0) (hHG v9) (hBB 0))) ∧ (f1 (g.lk M 17) = .inl (g.ac (g.lk M 17), 10, .inr (.inl (if jdn (hUN v9) (hUA 0) (hLW v9) (hAA 0) = true then vp_updL hLW v9 (hAA 0) else hLW)))) ∧ (f1 (g.lk M 18) = .inl (g.ac (g.lk M 18), 10, .inr (.inl (if jup (hOV v9) (hUB 0) (hHG v9) (hBB 0) = true then vp_updL hHG v9 (hBB 0) else hHG)))) ∧ (f1 (g.lk M 19) = .inl (g.ac (g.lk M 19), 10, .inl (if jdn (hUN v9) (hUA 0) (hLW v9) (hAA 0) = true then upd hUN v9 (bI (nzf (hUA 0) || wd)) else hUN))) ∧ (f1 (g.lk M 20) = .inl (g.ac (g.lk M 20), 10, .inl (if jup (hOV v9) (hUB 0) (hHG v9) (hBB 0) = true then upd hOV v9 (bI (nzf (hUB 0) || wd)) else hOV))) ∧ (IV g f1) ∧ (un [49, 50, 51, 52] g f f1)) (pc_out g s.heap.size) (pc_A g s.heap.size)) args s 0 0 (pc_A g s.heap.size)) (F0 m 79 ls [.int bj5]) := by
      intro bj5 hbj6 H locs hP hD hS
      subst hbj6
      refine lv_istore (lv' := [(4, .int (bI (jup (hOV v9) (hUB 0) (hHG v9) (hBB 0)))), (3, .int (bI (jdn (hUN v9) (hUA 0) (hLW v9) (hAA 0)))), (0, .ref M), (1, .int (nI v9)), (2, .int (bI wd))]) hx hb d_M_joined_79 hl (by decide) rfl (fun ls hl => ?_)
      refine lv_iload_n hx hb d_M_joined_81 rfl (lv_at hl 1 rfl) ?_
      refine lv_if_eq (tgt := 121) hx hb d_M_joined_82 (by decide) (fun b7 => ?_) (fun b7 => ?_)
      · skip
        replace b7 : (bI (jdn (hUN v9) (hUA 0) (hLW v9) (hAA 0))) = nI 0 := b7
        replace b7 := bI_0 b7
        refine lv_iload hx hb d_M_joined_121 (lv_at hl 0 rfl) ?_
        refine lv_if_eq (tgt := 162) hx hb d_M_joined_123 (by decide) (fun b8 => ?_) (fun b8 => ?_)
        · skip
          replace b8 : (bI (jup (hOV v9) (hUB 0) (hHG v9) (hBB 0))) = nI 0 := b8
          replace b8 := bI_0 b8
          have jn9 : ∀ (bj10 : Int32), bj10 = (bI (jdn (hUN v9) (hUA 0) (hLW v9) (hAA 0) || jup (hOV v9) (hUB 0) (hHG v9) (hBB 0))) → ∀ (H : Heap) (locs : List Loc), va_P g.D vcl (va_pl g.LP f) H → va_D (pc_A g s.heap.size) (va_pl g.LP f) → va_S (pc_A g s.heap.size) s.heap H locs → W p l e ({ frames := 0, cells := 0, slots := 0, locals := 0 }) s m args below meth c H locs 0 0 (MQ below (va_Qi (fun r f1 => (r = bI (jdn (hUN v9) (hUA 0) (hLW v9) (hAA 0) || jup (hOV v9) (hUB 0) (hHG v9) (hBB 0))) ∧ (f1 (g.lk M 17) = .inl (g.ac (g.lk M 17), 10, .inr (.inl (if jdn (hUN v9) (hUA 0) (hLW v9) (hAA 0) = true then vp_updL hLW v9 (hAA 0) else hLW)))) ∧ (f1 (g.lk M 18) = .inl (g.ac (g.lk M 18), 10, .inr (.inl (if jup (hOV v9) (hUB 0) (hHG v9) (hBB 0) = true then vp_updL hHG v9 (hBB 0) else hHG)))) ∧ (f1 (g.lk M 19) = .inl (g.ac (g.lk M 19), 10, .inl (if jdn (hUN v9) (hUA 0) (hLW v9) (hAA 0) = true then upd hUN v9 (bI (nzf (hUA 0) || wd)) else hUN))) ∧ (f1 (g.lk M 20) = .inl (g.ac (g.lk M 20), 10, .inl (if jup (hOV v9) (hUB 0) (hHG v9) (hBB 0) = true then upd hOV v9 (bI (nzf (hUB 0) || wd)) else hOV))) ∧ (IV g f1) ∧ (un [49, 50, 51, 52] g f f1)) (pc_out g s.heap.size) (pc_A g s.heap.size)) args s 0 0 (pc_A g s.heap.size)) (F0 m 176 ls [.int bj10]) := by
            intro bj10 hbj11 H locs hP hD hS
            subst hbj11
            exact pe_zret hx hb hr hlocks hK hP hD hS d_M_joined_176 (by rcases (bI_bo _) with h9 | h9 <;> rw [h9] <;> rfl) ⟨rfl, (eLW.trans (by first | (simp [nar_b, b7, b8]; done) | contradiction)), (eHG.trans (by first | (simp [nar_b, b7, b8]; done) | contradiction)), (eUN.trans (by first | (simp [nar_b, b7, b8]; done) | contradiction)), (eOV.trans (by first | (simp [nar_b, b7, b8]; done) | contradiction)), hI, hu⟩
          refine lv_iload_n hx hb d_M_joined_162 rfl (lv_at hl 1 rfl) ?_
          refine lv_if_ne (tgt := 171) hx hb d_M_joined_163 (by decide) (fun b12 => ?_) (fun b12 => ?_)
          · skip
            replace b12 : ¬ (bI (jdn (hUN v9) (hUA 0) (hLW v9) (hAA 0))) = nI 0 := b12
            exact absurd (b7.symm.trans (show _ = true from bI_1 b12)) (by decide)
          · skip
            replace b12 : (bI (jdn (hUN v9) (hUA 0) (hLW v9) (hAA 0))) = nI 0 := b12
            replace b12 := bI_0 b12
            refine lv_iload hx hb d_M_joined_166 (lv_at hl 0 rfl) ?_
            refine lv_if_eq (tgt := 175) hx hb d_M_joined_168 (by decide) (fun b13 => ?_) (fun b13 => ?_)
            · skip
              replace b13 : (bI (jup (hOV v9) (hUB 0) (hHG v9) (hBB 0))) = nI 0 := b13
              replace b13 := bI_0 b13
              refine lv_iconst (v := nI 0) hx hb d_M_joined_175 (by decide) ?_
              exact jn9 ((nI 0)) (by first | (simp [bI, b7, b8, b12, b13]; done) | contradiction) _ _ hP hD hS
            · skip
              replace b13 : ¬ (bI (jup (hOV v9) (hUB 0) (hHG v9) (hBB 0))) = nI 0 := b13
              exact absurd (b8.symm.trans (show _ = true from bI_1 b13)) (by decide)
        · skip
          replace b8 : ¬ (bI (jup (hOV v9) (hUB 0) (hHG v9) (hBB 0))) = nI 0 := b8
          replace b8 := bI_1 b8
          refine lv_aload_n hx hb d_M_joined_126 rfl (lv_at hl 2 rfl) ?_
          obtain ⟨th_15, n_16, dr_17, sz_18, ix_19, dp_20, wt_21, op_22, tp_23, wa_24, gi_25, pc_26, st_27, tr_28, sp_29, ma_30, lg_31, du_32, e14, c33, c34, c35, c36, c37, c38, c39, c40, c41, c42, c43, c44, c45, c46, c47⟩ := oc_11.of t_M (hI.1 M)
          refine pf_get (v := .ref (g.lk M 18)) (C := "BigRunnerModel") (T := FT10) (N := 45) hx hb (hw10 hB _) (fun _ h9 => h9) hown hK hP (lo_in hL t_M (by decide)) e14 rfl 18 (by decide) (wd_965 hB _) rfl d_M_joined_127 ?_
          refine lv_iload_n hx hb d_M_joined_130 rfl (lv_at hl 3 rfl) ?_
          refine lv_aload_n hx hb d_M_joined_131 rfl (lv_at hl 2 rfl) ?_
          refine pf_get (v := .ref (g.lk M 22)) (C := "BigRunnerModel") (T := FT10) (N := 45) hx hb (hw10 hB _) (fun _ h9 => h9) hown hK hP (lo_in hL t_M (by decide)) e14 rfl 22 (by decide) (wd_969 hB _) rfl d_M_joined_132 ?_
          refine lv_iconst (v := nI 0) hx hb d_M_joined_135 (by decide) ?_
          refine pf_lald (i := 0) hx hb hK hP (lo_in hL (lo_k11_22 hL _ t_M) (by decide)) eBB (lo_t54 hL _ (lo_k11_22 hL _ t_M)) (by omega) (by decide) d_M_joined_136 ?_
          refine pf_last (i := v9) hx hb hK hP hD hS (lo_in hL (lo_k11_18 hL _ t_M) (by decide)) eHG (lo_t50 hL _ (lo_k11_18 hL _ t_M)) (by omega) (by decide) d_M_joined_137 (fun f48 H locs e49 k50 hP hD hS => ?_)
          have eUN := (k50 (g.lk M 19) (tg_ne (lo_k11_19 hL _ t_M) (lo_k11_18 hL _ t_M) (by decide))).trans eUN
          have eOV := (k50 (g.lk M 20) (tg_ne (lo_k11_20 hL _ t_M) (lo_k11_18 hL _ t_M) (by decide))).trans eOV
          have eUA := (k50 (g.lk M 23) (tg_ne (lo_k11_23 hL _ t_M) (lo_k11_18 hL _ t_M) (by decide))).trans eUA
          have eUB := (k50 (g.lk M 24) (tg_ne (lo_k11_24 hL _ t_M) (lo_k11_18 hL _ t_M) (by decide))).trans eUB
          have eLW := (k50 (g.lk M 17) (tg_ne (lo_k11_17 hL _ t_M) (lo_k11_18 hL _ t_M) (by decide))).trans eLW
          have eAA := (k50 (g.lk M 21) (tg_ne (lo_k11_21 hL _ t_M) (lo_k11_18 hL _ t_M) (by decide))).trans eAA
          have eBB := (k50 (g.lk M 22) (tg_ne (lo_k11_22 hL _ t_M) (lo_k11_18 hL _ t_M) (by decide))).trans eBB
          have e14 := (k50 M (tg_ne t_M (lo_k11_18 hL _ t_M) (by decide))).trans e14
          have hu := hu.st k50 (lo_k11_18 hL _ t_M) (by decide)
          have hk51 : ∀ b, b ≠ (g.lk M 18) → f48 b = f b := k50
          refine lv_aload_n hx hb d_M_joined_138 rfl (lv_at hl 2 rfl) ?_
          refine pf_get (v := .ref (g.lk M 20)) (C := "BigRunnerModel") (T := FT10) (N := 45) hx hb (hw10 hB _) (fun _ h9 => h9) hown hK hP (lo_in hL t_M (by decide)) e14 rfl 20 (by decide) (wd_967 hB _) rfl d_M_joined_139 ?_
          refine lv_iload_n hx hb d_M_joined_142 rfl (lv_at hl 3 rfl) ?_
          have jn52 : ∀ (bj53 : Int32), bj53 = (bI (nzf (hUB 0) || wd)) → ∀ (H : Heap) (locs : List Loc), va_P g.D vcl (va_pl g.LP f48) H → va_D (pc_A g s.heap.size) (va_pl g.LP f48) → va_S (pc_A g s.heap.size) s.heap H locs → W p l e ({ frames := 0, cells := 0, slots := 0, locals := 0 }) s m args below meth c H locs 0 0 (MQ below (va_Qi (fun r f1 => (r = bI (jdn (hUN v9) (hUA 0) (hLW v9) (hAA 0) || jup (hOV v9) (hUB 0) (hHG v9) (hBB 0))) ∧ (f1 (g.lk M 17) = .inl (g.ac (g.lk M 17), 10, .inr (.inl (if jdn (hUN v9) (hUA 0) (hLW v9) (hAA 0) = true then vp_updL hLW v9 (hAA 0) else hLW)))) ∧ (f1 (g.lk M 18) = .inl (g.ac (g.lk M 18), 10, .inr (.inl (if jup (hOV v9) (hUB 0) (hHG v9) (hBB 0) = true then vp_updL hHG v9 (hBB 0) else hHG)))) ∧ (f1 (g.lk M 19) = .inl (g.ac (g.lk M 19), 10, .inl (if jdn (hUN v9) (hUA 0) (hLW v9) (hAA 0) = true then upd hUN v9 (bI (nzf (hUA 0) || wd)) else hUN))) ∧ (f1 (g.lk M 20) = .inl (g.ac (g.lk M 20), 10, .inl (if jup (hOV v9) (hUB 0) (hHG v9) (hBB 0) = true then upd hOV v9 (bI (nzf (hUB 0) || wd)) else hOV))) ∧ (IV g f1) ∧ (un [49, 50, 51, 52] g f f1)) (pc_out g s.heap.size) (pc_A g s.heap.size)) args s 0 0 (pc_A g s.heap.size)) (F0 m 161 ls [.int bj53, .int (nI v9), .ref (g.lk M 20)]) := by
            intro bj53 hbj54 H locs hP hD hS
            subst hbj54
            have hI55 := iv_1 hI hL (lo_k11_18 hL _ t_M) (by decide) hk51 (oc_50.mk (lo_k11_18 hL _ t_M) (⟨_, e49⟩))
            refine pf_zast (i := v9) hx hb hK hP hD hS (lo_in hL (lo_k11_20 hL _ t_M) (by decide)) eOV (lo_t52 hL _ (lo_k11_20 hL _ t_M)) (by omega) (by decide) d_M_joined_161 (fun f56 H locs e57 k58 hP hD hS => ?_)
            have eUN := (k58 (g.lk M 19) (tg_ne (lo_k11_19 hL _ t_M) (lo_k11_20 hL _ t_M) (by decide))).trans eUN
            have eUA := (k58 (g.lk M 23) (tg_ne (lo_k11_23 hL _ t_M) (lo_k11_20 hL _ t_M) (by decide))).trans eUA
            have eUB := (k58 (g.lk M 24) (tg_ne (lo_k11_24 hL _ t_M) (lo_k11_20 hL _ t_M) (by decide))).trans eUB
            have eLW := (k58 (g.lk M 17) (tg_ne (lo_k11_17 hL _ t_M) (lo_k11_20 hL _ t_M) (by decide))).trans eLW
            have eAA := (k58 (g.lk M 21) (tg_ne (lo_k11_21 hL _ t_M) (lo_k11_20 hL _ t_M) (by decide))).trans eAA
            have eBB := (k58 (g.lk M 22) (tg_ne (lo_k11_22 hL _ t_M) (lo_k11_20 hL _ t_M) (by decide))).trans eBB
            have e14 := (k58 M (tg_ne t_M (lo_k11_20 hL _ t_M) (by decide))).trans e14
            have e49 := (k58 (g.lk M 18) (tg_ne (lo_k11_18 hL _ t_M) (lo_k11_20 hL _ t_M) (by decide))).trans e49
            have hu := hu.st k58 (lo_k11_20 hL _ t_M) (by decide)
            have hk59 : ∀ b, b ≠ (g.lk M 20) → f56 b = f48 b := k58
            have jn60 : ∀ (bj61 : Int32), bj61 = (bI (jdn (hUN v9) (hUA 0) (hLW v9) (hAA 0) || jup (hOV v9) (hUB 0) (hHG v9) (hBB 0))) → ∀ (H : Heap) (locs : List Loc), va_P g.D vcl (va_pl g.LP f56) H → va_D (pc_A g s.heap.size) (va_pl g.LP f56) → va_S (pc_A g s.heap.size) s.heap H locs → W p l e ({ frames := 0, cells := 0, slots := 0, locals := 0 }) s m args below meth c H locs 0 0 (MQ below (va_Qi (fun r f1 => (r = bI (jdn (hUN v9) (hUA 0) (hLW v9) (hAA 0) || jup (hOV v9) (hUB 0) (hHG v9) (hBB 0))) ∧ (f1 (g.lk M 17) = .inl (g.ac (g.lk M 17), 10, .inr (.inl (if jdn (hUN v9) (hUA 0) (hLW v9) (hAA 0) = true then vp_updL hLW v9 (hAA 0) else hLW)))) ∧ (f1 (g.lk M 18) = .inl (g.ac (g.lk M 18), 10, .inr (.inl (if jup (hOV v9) (hUB 0) (hHG v9) (hBB 0) = true then vp_updL hHG v9 (hBB 0) else hHG)))) ∧ (f1 (g.lk M 19) = .inl (g.ac (g.lk M 19), 10, .inl (if jdn (hUN v9) (hUA 0) (hLW v9) (hAA 0) = true then upd hUN v9 (bI (nzf (hUA 0) || wd)) else hUN))) ∧ (f1 (g.lk M 20) = .inl (g.ac (g.lk M 20), 10, .inl (if jup (hOV v9) (hUB 0) (hHG v9) (hBB 0) = true then upd hOV v9 (bI (nzf (hUB 0) || wd)) else hOV))) ∧ (IV g f1) ∧ (un [49, 50, 51, 52] g f f1)) (pc_out g s.heap.size) (pc_A g s.heap.size)) args s 0 0 (pc_A g s.heap.size)) (F0 m 176 ls [.int bj61]) := by
              intro bj61 hbj62 H locs hP hD hS
              subst hbj62
              have hI63 := iv_1 hI55 hL (lo_k11_20 hL _ t_M) (by decide) hk59 (oc_52.mk (lo_k11_20 hL _ t_M) (⟨_, e57⟩))
              exact pe_zret hx hb hr hlocks hK hP hD hS d_M_joined_176 (by rcases (bI_bo _) with h9 | h9 <;> rw [h9] <;> rfl) ⟨rfl, (eLW.trans (by first | (simp [nar_b, b7, b8]; done) | contradiction)), (e49.trans (by first | (simp [nar_b, b7, b8]; done) | contradiction)), (eUN.trans (by first | (simp [nar_b, b7, b8]; done) | contradiction)), (e57.trans (by first | (simp [nar_b, b7, b8]; done) | contradiction)), hI63, hu⟩
            refine lv_iload_n hx hb d_M_joined_162 rfl (lv_at hl 1 rfl) ?_
            refine lv_if_ne (tgt := 171) hx hb d_M_joined_163 (by decide) (fun b64 => ?_) (fun b64 => ?_)
            · skip
              replace b64 : ¬ (bI (jdn (hUN v9) (hUA 0) (hLW v9) (hAA 0))) = nI 0 := b64
              exact absurd (b7.symm.trans (show _ = true from bI_1 b64)) (by decide)
            · skip
              replace b64 : (bI (jdn (hUN v9) (hUA 0) (hLW v9) (hAA 0))) = nI 0 := b64
              replace b64 := bI_0 b64
              refine lv_iload hx hb d_M_joined_166 (lv_at hl 0 rfl) ?_
              refine lv_if_eq (tgt := 175) hx hb d_M_joined_168 (by decide) (fun b65 => ?_) (fun b65 => ?_)
              · skip
                replace b65 : (bI (jup (hOV v9) (hUB 0) (hHG v9) (hBB 0))) = nI 0 := b65
                exact absurd (b8.symm.trans (show _ = false from bI_0 b65)) (by decide)
              · skip
                replace b65 : ¬ (bI (jup (hOV v9) (hUB 0) (hHG v9) (hBB 0))) = nI 0 := b65
                replace b65 := bI_1 b65
                refine lv_iconst (v := nI 1) hx hb d_M_joined_171 (by decide) ?_
                refine lv_goto (tgt := 176) hx hb d_M_joined_172 (by decide) ?_
                exact jn60 ((nI 1)) (by first | (simp [bI, b7, b8, b64, b65]; done) | contradiction) _ _ hP hD hS
          refine lv_aload_n hx hb d_M_joined_143 rfl (lv_at hl 2 rfl) ?_
          refine pf_get (v := .ref (g.lk M 24)) (C := "BigRunnerModel") (T := FT10) (N := 45) hx hb (hw10 hB _) (fun _ h9 => h9) hown hK hP (lo_in hL t_M (by decide)) e14 rfl 24 (by decide) (wd_971 hB _) rfl d_M_joined_144 ?_
          refine lv_iconst (v := nI 0) hx hb d_M_joined_147 (by decide) ?_
          refine pf_zald (i := 0) hx hb hK hP (lo_in hL (lo_k11_24 hL _ t_M) (by decide)) eUB (lo_t56 hL _ (lo_k11_24 hL _ t_M)) (by omega) (by decide) d_M_joined_148 ?_
          refine lv_if_ne (tgt := 156) hx hb d_M_joined_149 (by decide) (fun b66 => ?_) (fun b66 => ?_)
          · skip
            replace b66 : ¬ (hUB 0) = nI 0 := b66
            refine lv_iconst (v := nI 1) hx hb d_M_joined_156 (by decide) ?_
            refine lv_goto (tgt := 161) hx hb d_M_joined_157 (by decide) ?_
            exact jn52 ((nI 1)) (by first | (simp [nzf, bI, b7, b8, b66]; done) | contradiction) _ _ hP hD hS
          · skip
            replace b66 : (hUB 0) = nI 0 := b66
            refine lv_iload_n hx hb d_M_joined_152 rfl (lv_at hl 4 rfl) ?_
            refine lv_if_eq (tgt := 160) hx hb d_M_joined_153 (by decide) (fun b67 => ?_) (fun b67 => ?_)
            · skip
              replace b67 : (bI wd) = nI 0 := b67
              replace b67 := bI_0 b67
              refine lv_iconst (v := nI 0) hx hb d_M_joined_160 (by decide) ?_
              exact jn52 ((nI 0)) (by first | (simp [nzf, bI, b7, b8, b66, b67]; done) | (simp [nzf, bI, b7, b8, b66]; done) | contradiction) _ _ hP hD hS
            · skip
              replace b67 : ¬ (bI wd) = nI 0 := b67
              replace b67 := bI_1 b67
              refine lv_iconst (v := nI 1) hx hb d_M_joined_156 (by decide) ?_
              refine lv_goto (tgt := 161) hx hb d_M_joined_157 (by decide) ?_
              exact jn52 ((nI 1)) (by first | (simp [nzf, bI, b7, b8, b66, b67]; done) | (simp [nzf, bI, b7, b8, b66]; done) | contradiction) _ _ hP hD hS
      · skip
        replace b7 : ¬ (bI (jdn (hUN v9) (hUA 0) (hLW v9) (hAA 0))) = nI 0 := b7
        replace b7 := bI_1 b7
        refine lv_aload_n hx hb d_M_joined_85 rfl (lv_at hl 2 rfl) ?_
        obtain ⟨th_69, n_70, dr_71, sz_72, ix_73, dp_74, wt_75, op_76, tp_77, wa_78, gi_79, pc_80, st_81, tr_82, sp_83, ma_84, lg_85, du_86, e68, c87, c88, c89, c90, c91, c92, c93, c94, c95, c96, c97, c98, c99, c100, c101⟩ := oc_11.of t_M (hI.1 M)
        refine pf_get (v := .ref (g.lk M 17)) (C := "BigRunnerModel") (T := FT10) (N := 45) hx hb (hw10 hB _) (fun _ h9 => h9) hown hK hP (lo_in hL t_M (by decide)) e68 rfl 17 (by decide) (wd_964 hB _) rfl d_M_joined_86 ?_
        refine lv_iload_n hx hb d_M_joined_89 rfl (lv_at hl 3 rfl) ?_
        refine lv_aload_n hx hb d_M_joined_90 rfl (lv_at hl 2 rfl) ?_
        refine pf_get (v := .ref (g.lk M 21)) (C := "BigRunnerModel") (T := FT10) (N := 45) hx hb (hw10 hB _) (fun _ h9 => h9) hown hK hP (lo_in hL t_M (by decide)) e68 rfl 21 (by decide) (wd_968 hB _) rfl d_M_joined_91 ?_
        refine lv_iconst (v := nI 0) hx hb d_M_joined_94 (by decide) ?_
        refine pf_lald (i := 0) hx hb hK hP (lo_in hL (lo_k11_21 hL _ t_M) (by decide)) eAA (lo_t53 hL _ (lo_k11_21 hL _ t_M)) (by omega) (by decide) d_M_joined_95 ?_
        refine pf_last (i := v9) hx hb hK hP hD hS (lo_in hL (lo_k11_17 hL _ t_M) (by decide)) eLW (lo_t49 hL _ (lo_k11_17 hL _ t_M)) (by omega) (by decide) d_M_joined_96 (fun f102 H locs e103 k104 hP hD hS => ?_)
        have eUN := (k104 (g.lk M 19) (tg_ne (lo_k11_19 hL _ t_M) (lo_k11_17 hL _ t_M) (by decide))).trans eUN
        have eOV := (k104 (g.lk M 20) (tg_ne (lo_k11_20 hL _ t_M) (lo_k11_17 hL _ t_M) (by decide))).trans eOV
        have eUA := (k104 (g.lk M 23) (tg_ne (lo_k11_23 hL _ t_M) (lo_k11_17 hL _ t_M) (by decide))).trans eUA
        have eUB := (k104 (g.lk M 24) (tg_ne (lo_k11_24 hL _ t_M) (lo_k11_17 hL _ t_M) (by decide))).trans eUB
        have eHG := (k104 (g.lk M 18) (tg_ne (lo_k11_18 hL _ t_M) (lo_k11_17 hL _ t_M) (by decide))).trans eHG
        have eAA := (k104 (g.lk M 21) (tg_ne (lo_k11_21 hL _ t_M) (lo_k11_17 hL _ t_M) (by decide))).trans eAA
        have eBB := (k104 (g.lk M 22) (tg_ne (lo_k11_22 hL _ t_M) (lo_k11_17 hL _ t_M) (by decide))).trans eBB
        have e68 := (k104 M (tg_ne t_M (lo_k11_17 hL _ t_M) (by decide))).trans e68
        have hu := hu.st k104 (lo_k11_17 hL _ t_M) (by decide)
        have hk105 : ∀ b, b ≠ (g.lk M 17) → f102 b = f b := k104
        refine lv_aload_n hx hb d_M_joined_97 rfl (lv_at hl 2 rfl) ?_
        refine pf_get (v := .ref (g.lk M 19)) (C := "BigRunnerModel") (T := FT10) (N := 45) hx hb (hw10 hB _) (fun _ h9 => h9) hown hK hP (lo_in hL t_M (by decide)) e68 rfl 19 (by decide) (wd_966 hB _) rfl d_M_joined_98 ?_
        refine lv_iload_n hx hb d_M_joined_101 rfl (lv_at hl 3 rfl) ?_
        have jn106 : ∀ (bj107 : Int32), bj107 = (bI (nzf (hUA 0) || wd)) → ∀ (H : Heap) (locs : List Loc), va_P g.D vcl (va_pl g.LP f102) H → va_D (pc_A g s.heap.size) (va_pl g.LP f102) → va_S (pc_A g s.heap.size) s.heap H locs → W p l e ({ frames := 0, cells := 0, slots := 0, locals := 0 }) s m args below meth c H locs 0 0 (MQ below (va_Qi (fun r f1 => (r = bI (jdn (hUN v9) (hUA 0) (hLW v9) (hAA 0) || jup (hOV v9) (hUB 0) (hHG v9) (hBB 0))) ∧ (f1 (g.lk M 17) = .inl (g.ac (g.lk M 17), 10, .inr (.inl (if jdn (hUN v9) (hUA 0) (hLW v9) (hAA 0) = true then vp_updL hLW v9 (hAA 0) else hLW)))) ∧ (f1 (g.lk M 18) = .inl (g.ac (g.lk M 18), 10, .inr (.inl (if jup (hOV v9) (hUB 0) (hHG v9) (hBB 0) = true then vp_updL hHG v9 (hBB 0) else hHG)))) ∧ (f1 (g.lk M 19) = .inl (g.ac (g.lk M 19), 10, .inl (if jdn (hUN v9) (hUA 0) (hLW v9) (hAA 0) = true then upd hUN v9 (bI (nzf (hUA 0) || wd)) else hUN))) ∧ (f1 (g.lk M 20) = .inl (g.ac (g.lk M 20), 10, .inl (if jup (hOV v9) (hUB 0) (hHG v9) (hBB 0) = true then upd hOV v9 (bI (nzf (hUB 0) || wd)) else hOV))) ∧ (IV g f1) ∧ (un [49, 50, 51, 52] g f f1)) (pc_out g s.heap.size) (pc_A g s.heap.size)) args s 0 0 (pc_A g s.heap.size)) (F0 m 120 ls [.int bj107, .int (nI v9), .ref (g.lk M 19)]) := by
          intro bj107 hbj108 H locs hP hD hS
          subst hbj108
          have hI109 := iv_1 hI hL (lo_k11_17 hL _ t_M) (by decide) hk105 (oc_49.mk (lo_k11_17 hL _ t_M) (⟨_, e103⟩))
          refine pf_zast (i := v9) hx hb hK hP hD hS (lo_in hL (lo_k11_19 hL _ t_M) (by decide)) eUN (lo_t51 hL _ (lo_k11_19 hL _ t_M)) (by omega) (by decide) d_M_joined_120 (fun f110 H locs e111 k112 hP hD hS => ?_)
          have eOV := (k112 (g.lk M 20) (tg_ne (lo_k11_20 hL _ t_M) (lo_k11_19 hL _ t_M) (by decide))).trans eOV
          have eUA := (k112 (g.lk M 23) (tg_ne (lo_k11_23 hL _ t_M) (lo_k11_19 hL _ t_M) (by decide))).trans eUA
          have eUB := (k112 (g.lk M 24) (tg_ne (lo_k11_24 hL _ t_M) (lo_k11_19 hL _ t_M) (by decide))).trans eUB
          have eHG := (k112 (g.lk M 18) (tg_ne (lo_k11_18 hL _ t_M) (lo_k11_19 hL _ t_M) (by decide))).trans eHG
          have eAA := (k112 (g.lk M 21) (tg_ne (lo_k11_21 hL _ t_M) (lo_k11_19 hL _ t_M) (by decide))).trans eAA
          have eBB := (k112 (g.lk M 22) (tg_ne (lo_k11_22 hL _ t_M) (lo_k11_19 hL _ t_M) (by decide))).trans eBB
          have e68 := (k112 M (tg_ne t_M (lo_k11_19 hL _ t_M) (by decide))).trans e68
          have e103 := (k112 (g.lk M 17) (tg_ne (lo_k11_17 hL _ t_M) (lo_k11_19 hL _ t_M) (by decide))).trans e103
          have hu := hu.st k112 (lo_k11_19 hL _ t_M) (by decide)
          have hk113 : ∀ b, b ≠ (g.lk M 19) → f110 b = f102 b := k112
          refine lv_iload hx hb d_M_joined_121 (lv_at hl 0 rfl) ?_
          refine lv_if_eq (tgt := 162) hx hb d_M_joined_123 (by decide) (fun b114 => ?_) (fun b114 => ?_)
          · skip
            replace b114 : (bI (jup (hOV v9) (hUB 0) (hHG v9) (hBB 0))) = nI 0 := b114
            replace b114 := bI_0 b114
            have jn115 : ∀ (bj116 : Int32), bj116 = (bI (jdn (hUN v9) (hUA 0) (hLW v9) (hAA 0) || jup (hOV v9) (hUB 0) (hHG v9) (hBB 0))) → ∀ (H : Heap) (locs : List Loc), va_P g.D vcl (va_pl g.LP f110) H → va_D (pc_A g s.heap.size) (va_pl g.LP f110) → va_S (pc_A g s.heap.size) s.heap H locs → W p l e ({ frames := 0, cells := 0, slots := 0, locals := 0 }) s m args below meth c H locs 0 0 (MQ below (va_Qi (fun r f1 => (r = bI (jdn (hUN v9) (hUA 0) (hLW v9) (hAA 0) || jup (hOV v9) (hUB 0) (hHG v9) (hBB 0))) ∧ (f1 (g.lk M 17) = .inl (g.ac (g.lk M 17), 10, .inr (.inl (if jdn (hUN v9) (hUA 0) (hLW v9) (hAA 0) = true then vp_updL hLW v9 (hAA 0) else hLW)))) ∧ (f1 (g.lk M 18) = .inl (g.ac (g.lk M 18), 10, .inr (.inl (if jup (hOV v9) (hUB 0) (hHG v9) (hBB 0) = true then vp_updL hHG v9 (hBB 0) else hHG)))) ∧ (f1 (g.lk M 19) = .inl (g.ac (g.lk M 19), 10, .inl (if jdn (hUN v9) (hUA 0) (hLW v9) (hAA 0) = true then upd hUN v9 (bI (nzf (hUA 0) || wd)) else hUN))) ∧ (f1 (g.lk M 20) = .inl (g.ac (g.lk M 20), 10, .inl (if jup (hOV v9) (hUB 0) (hHG v9) (hBB 0) = true then upd hOV v9 (bI (nzf (hUB 0) || wd)) else hOV))) ∧ (IV g f1) ∧ (un [49, 50, 51, 52] g f f1)) (pc_out g s.heap.size) (pc_A g s.heap.size)) args s 0 0 (pc_A g s.heap.size)) (F0 m 176 ls [.int bj116]) := by
              intro bj116 hbj117 H locs hP hD hS
              subst hbj117
              have hI118 := iv_1 hI109 hL (lo_k11_19 hL _ t_M) (by decide) hk113 (oc_51.mk (lo_k11_19 hL _ t_M) (⟨_, e111⟩))
              exact pe_zret hx hb hr hlocks hK hP hD hS d_M_joined_176 (by rcases (bI_bo _) with h9 | h9 <;> rw [h9] <;> rfl) ⟨rfl, (e103.trans (by first | (simp [nar_b, b7, b114]; done) | contradiction)), (eHG.trans (by first | (simp [nar_b, b7, b114]; done) | contradiction)), (e111.trans (by first | (simp [nar_b, b7, b114]; done) | contradiction)), (eOV.trans (by first | (simp [nar_b, b7, b114]; done) | contradiction)), hI118, hu⟩
            refine lv_iload_n hx hb d_M_joined_162 rfl (lv_at hl 1 rfl) ?_
            refine lv_if_ne (tgt := 171) hx hb d_M_joined_163 (by decide) (fun b119 => ?_) (fun b119 => ?_)
            · skip
              replace b119 : ¬ (bI (jdn (hUN v9) (hUA 0) (hLW v9) (hAA 0))) = nI 0 := b119
              replace b119 := bI_1 b119
              refine lv_iconst (v := nI 1) hx hb d_M_joined_171 (by decide) ?_
              refine lv_goto (tgt := 176) hx hb d_M_joined_172 (by decide) ?_
              exact jn115 ((nI 1)) (by first | (simp [bI, b7, b114, b119]; done) | contradiction) _ _ hP hD hS
            · skip
              replace b119 : (bI (jdn (hUN v9) (hUA 0) (hLW v9) (hAA 0))) = nI 0 := b119
              exact absurd (b7.symm.trans (show _ = false from bI_0 b119)) (by decide)
          · skip
            replace b114 : ¬ (bI (jup (hOV v9) (hUB 0) (hHG v9) (hBB 0))) = nI 0 := b114
            replace b114 := bI_1 b114
            refine lv_aload_n hx hb d_M_joined_126 rfl (lv_at hl 2 rfl) ?_
            refine pf_get (v := .ref (g.lk M 18)) (C := "BigRunnerModel") (T := FT10) (N := 45) hx hb (hw10 hB _) (fun _ h9 => h9) hown hK hP (lo_in hL t_M (by decide)) e68 rfl 18 (by decide) (wd_965 hB _) rfl d_M_joined_127 ?_
            refine lv_iload_n hx hb d_M_joined_130 rfl (lv_at hl 3 rfl) ?_
            refine lv_aload_n hx hb d_M_joined_131 rfl (lv_at hl 2 rfl) ?_
            refine pf_get (v := .ref (g.lk M 22)) (C := "BigRunnerModel") (T := FT10) (N := 45) hx hb (hw10 hB _) (fun _ h9 => h9) hown hK hP (lo_in hL t_M (by decide)) e68 rfl 22 (by decide) (wd_969 hB _) rfl d_M_joined_132 ?_
            refine lv_iconst (v := nI 0) hx hb d_M_joined_135 (by decide) ?_
            refine pf_lald (i := 0) hx hb hK hP (lo_in hL (lo_k11_22 hL _ t_M) (by decide)) eBB (lo_t54 hL _ (lo_k11_22 hL _ t_M)) (by omega) (by decide) d_M_joined_136 ?_
            have hI120 := iv_1 hI109 hL (lo_k11_19 hL _ t_M) (by decide) hk113 (oc_51.mk (lo_k11_19 hL _ t_M) (⟨_, e111⟩))
            refine pf_last (i := v9) hx hb hK hP hD hS (lo_in hL (lo_k11_18 hL _ t_M) (by decide)) eHG (lo_t50 hL _ (lo_k11_18 hL _ t_M)) (by omega) (by decide) d_M_joined_137 (fun f121 H locs e122 k123 hP hD hS => ?_)
            have eOV := (k123 (g.lk M 20) (tg_ne (lo_k11_20 hL _ t_M) (lo_k11_18 hL _ t_M) (by decide))).trans eOV
            have eUA := (k123 (g.lk M 23) (tg_ne (lo_k11_23 hL _ t_M) (lo_k11_18 hL _ t_M) (by decide))).trans eUA
            have eUB := (k123 (g.lk M 24) (tg_ne (lo_k11_24 hL _ t_M) (lo_k11_18 hL _ t_M) (by decide))).trans eUB
            have eAA := (k123 (g.lk M 21) (tg_ne (lo_k11_21 hL _ t_M) (lo_k11_18 hL _ t_M) (by decide))).trans eAA
            have eBB := (k123 (g.lk M 22) (tg_ne (lo_k11_22 hL _ t_M) (lo_k11_18 hL _ t_M) (by decide))).trans eBB
            have e68 := (k123 M (tg_ne t_M (lo_k11_18 hL _ t_M) (by decide))).trans e68
            have e103 := (k123 (g.lk M 17) (tg_ne (lo_k11_17 hL _ t_M) (lo_k11_18 hL _ t_M) (by decide))).trans e103
            have e111 := (k123 (g.lk M 19) (tg_ne (lo_k11_19 hL _ t_M) (lo_k11_18 hL _ t_M) (by decide))).trans e111
            have hu := hu.st k123 (lo_k11_18 hL _ t_M) (by decide)
            have hk124 : ∀ b, b ≠ (g.lk M 18) → f121 b = f110 b := k123
            refine lv_aload_n hx hb d_M_joined_138 rfl (lv_at hl 2 rfl) ?_
            refine pf_get (v := .ref (g.lk M 20)) (C := "BigRunnerModel") (T := FT10) (N := 45) hx hb (hw10 hB _) (fun _ h9 => h9) hown hK hP (lo_in hL t_M (by decide)) e68 rfl 20 (by decide) (wd_967 hB _) rfl d_M_joined_139 ?_
            refine lv_iload_n hx hb d_M_joined_142 rfl (lv_at hl 3 rfl) ?_
            have jn125 : ∀ (bj126 : Int32), bj126 = (bI (nzf (hUB 0) || wd)) → ∀ (H : Heap) (locs : List Loc), va_P g.D vcl (va_pl g.LP f121) H → va_D (pc_A g s.heap.size) (va_pl g.LP f121) → va_S (pc_A g s.heap.size) s.heap H locs → W p l e ({ frames := 0, cells := 0, slots := 0, locals := 0 }) s m args below meth c H locs 0 0 (MQ below (va_Qi (fun r f1 => (r = bI (jdn (hUN v9) (hUA 0) (hLW v9) (hAA 0) || jup (hOV v9) (hUB 0) (hHG v9) (hBB 0))) ∧ (f1 (g.lk M 17) = .inl (g.ac (g.lk M 17), 10, .inr (.inl (if jdn (hUN v9) (hUA 0) (hLW v9) (hAA 0) = true then vp_updL hLW v9 (hAA 0) else hLW)))) ∧ (f1 (g.lk M 18) = .inl (g.ac (g.lk M 18), 10, .inr (.inl (if jup (hOV v9) (hUB 0) (hHG v9) (hBB 0) = true then vp_updL hHG v9 (hBB 0) else hHG)))) ∧ (f1 (g.lk M 19) = .inl (g.ac (g.lk M 19), 10, .inl (if jdn (hUN v9) (hUA 0) (hLW v9) (hAA 0) = true then upd hUN v9 (bI (nzf (hUA 0) || wd)) else hUN))) ∧ (f1 (g.lk M 20) = .inl (g.ac (g.lk M 20), 10, .inl (if jup (hOV v9) (hUB 0) (hHG v9) (hBB 0) = true then upd hOV v9 (bI (nzf (hUB 0) || wd)) else hOV))) ∧ (IV g f1) ∧ (un [49, 50, 51, 52] g f f1)) (pc_out g s.heap.size) (pc_A g s.heap.size)) args s 0 0 (pc_A g s.heap.size)) (F0 m 161 ls [.int bj126, .int (nI v9), .ref (g.lk M 20)]) := by
              intro bj126 hbj127 H locs hP hD hS
              subst hbj127
              have hI128 := iv_1 hI120 hL (lo_k11_18 hL _ t_M) (by decide) hk124 (oc_50.mk (lo_k11_18 hL _ t_M) (⟨_, e122⟩))
              refine pf_zast (i := v9) hx hb hK hP hD hS (lo_in hL (lo_k11_20 hL _ t_M) (by decide)) eOV (lo_t52 hL _ (lo_k11_20 hL _ t_M)) (by omega) (by decide) d_M_joined_161 (fun f129 H locs e130 k131 hP hD hS => ?_)
              have eUA := (k131 (g.lk M 23) (tg_ne (lo_k11_23 hL _ t_M) (lo_k11_20 hL _ t_M) (by decide))).trans eUA
              have eUB := (k131 (g.lk M 24) (tg_ne (lo_k11_24 hL _ t_M) (lo_k11_20 hL _ t_M) (by decide))).trans eUB
              have eAA := (k131 (g.lk M 21) (tg_ne (lo_k11_21 hL _ t_M) (lo_k11_20 hL _ t_M) (by decide))).trans eAA
              have eBB := (k131 (g.lk M 22) (tg_ne (lo_k11_22 hL _ t_M) (lo_k11_20 hL _ t_M) (by decide))).trans eBB
              have e68 := (k131 M (tg_ne t_M (lo_k11_20 hL _ t_M) (by decide))).trans e68
              have e103 := (k131 (g.lk M 17) (tg_ne (lo_k11_17 hL _ t_M) (lo_k11_20 hL _ t_M) (by decide))).trans e103
              have e111 := (k131 (g.lk M 19) (tg_ne (lo_k11_19 hL _ t_M) (lo_k11_20 hL _ t_M) (by decide))).trans e111
              have e122 := (k131 (g.lk M 18) (tg_ne (lo_k11_18 hL _ t_M) (lo_k11_20 hL _ t_M) (by decide))).trans e122
              have hu := hu.st k131 (lo_k11_20 hL _ t_M) (by decide)
              have hk132 : ∀ b, b ≠ (g.lk M 20) → f129 b = f121 b := k131
              have jn133 : ∀ (bj134 : Int32), bj134 = (bI (jdn (hUN v9) (hUA 0) (hLW v9) (hAA 0) || jup (hOV v9) (hUB 0) (hHG v9) (hBB 0))) → ∀ (H : Heap) (locs : List Loc), va_P g.D vcl (va_pl g.LP f129) H → va_D (pc_A g s.heap.size) (va_pl g.LP f129) → va_S (pc_A g s.heap.size) s.heap H locs → W p l e ({ frames := 0, cells := 0, slots := 0, locals := 0 }) s m args below meth c H locs 0 0 (MQ below (va_Qi (fun r f1 => (r = bI (jdn (hUN v9) (hUA 0) (hLW v9) (hAA 0) || jup (hOV v9) (hUB 0) (hHG v9) (hBB 0))) ∧ (f1 (g.lk M 17) = .inl (g.ac (g.lk M 17), 10, .inr (.inl (if jdn (hUN v9) (hUA 0) (hLW v9) (hAA 0) = true then vp_updL hLW v9 (hAA 0) else hLW)))) ∧ (f1 (g.lk M 18) = .inl (g.ac (g.lk M 18), 10, .inr (.inl (if jup (hOV v9) (hUB 0) (hHG v9) (hBB 0) = true then vp_updL hHG v9 (hBB 0) else hHG)))) ∧ (f1 (g.lk M 19) = .inl (g.ac (g.lk M 19), 10, .inl (if jdn (hUN v9) (hUA 0) (hLW v9) (hAA 0) = true then upd hUN v9 (bI (nzf (hUA 0) || wd)) else hUN))) ∧ (f1 (g.lk M 20) = .inl (g.ac (g.lk M 20), 10, .inl (if jup (hOV v9) (hUB 0) (hHG v9) (hBB 0) = true then upd hOV v9 (bI (nzf (hUB 0) || wd)) else hOV))) ∧ (IV g f1) ∧ (un [49, 50, 51, 52] g f f1)) (pc_out g s.heap.size) (pc_A g s.heap.size)) args s 0 0 (pc_A g s.heap.size)) (F0 m 176 ls [.int bj134]) := by
                intro bj134 hbj135 H locs hP hD hS
                subst hbj135
                have hI136 := iv_1 hI128 hL (lo_k11_20 hL _ t_M) (by decide) hk132 (oc_52.mk (lo_k11_20 hL _ t_M) (⟨_, e130⟩))
                exact pe_zret hx hb hr hlocks hK hP hD hS d_M_joined_176 (by rcases (bI_bo _) with h9 | h9 <;> rw [h9] <;> rfl) ⟨rfl, (e103.trans (by first | (simp [nar_b, b7, b114]; done) | contradiction)), (e122.trans (by first | (simp [nar_b, b7, b114]; done) | contradiction)), (e111.trans (by first | (simp [nar_b, b7, b114]; done) | contradiction)), (e130.trans (by first | (simp [nar_b, b7, b114]; done) | contradiction)), hI136, hu⟩
              refine lv_iload_n hx hb d_M_joined_162 rfl (lv_at hl 1 rfl) ?_
              refine lv_if_ne (tgt := 171) hx hb d_M_joined_163 (by decide) (fun b137 => ?_) (fun b137 => ?_)
              · skip
                replace b137 : ¬ (bI (jdn (hUN v9) (hUA 0) (hLW v9) (hAA 0))) = nI 0 := b137
                replace b137 := bI_1 b137
                refine lv_iconst (v := nI 1) hx hb d_M_joined_171 (by decide) ?_
                refine lv_goto (tgt := 176) hx hb d_M_joined_172 (by decide) ?_
                exact jn133 ((nI 1)) (by first | (simp [bI, b7, b114, b137]; done) | contradiction) _ _ hP hD hS
              · skip
                replace b137 : (bI (jdn (hUN v9) (hUA 0) (hLW v9) (hAA 0))) = nI 0 := b137
                exact absurd (b7.symm.trans (show _ = false from bI_0 b137)) (by decide)
            refine lv_aload_n hx hb d_M_joined_143 rfl (lv_at hl 2 rfl) ?_
            refine pf_get (v := .ref (g.lk M 24)) (C := "BigRunnerModel") (T := FT10) (N := 45) hx hb (hw10 hB _) (fun _ h9 => h9) hown hK hP (lo_in hL t_M (by decide)) e68 rfl 24 (by decide) (wd_971 hB _) rfl d_M_joined_144 ?_
            refine lv_iconst (v := nI 0) hx hb d_M_joined_147 (by decide) ?_
            refine pf_zald (i := 0) hx hb hK hP (lo_in hL (lo_k11_24 hL _ t_M) (by decide)) eUB (lo_t56 hL _ (lo_k11_24 hL _ t_M)) (by omega) (by decide) d_M_joined_148 ?_
            refine lv_if_ne (tgt := 156) hx hb d_M_joined_149 (by decide) (fun b138 => ?_) (fun b138 => ?_)
            · skip
              replace b138 : ¬ (hUB 0) = nI 0 := b138
              refine lv_iconst (v := nI 1) hx hb d_M_joined_156 (by decide) ?_
              refine lv_goto (tgt := 161) hx hb d_M_joined_157 (by decide) ?_
              exact jn125 ((nI 1)) (by first | (simp [nzf, bI, b7, b114, b138]; done) | contradiction) _ _ hP hD hS
            · skip
              replace b138 : (hUB 0) = nI 0 := b138
              refine lv_iload_n hx hb d_M_joined_152 rfl (lv_at hl 4 rfl) ?_
              refine lv_if_eq (tgt := 160) hx hb d_M_joined_153 (by decide) (fun b139 => ?_) (fun b139 => ?_)
              · skip
                replace b139 : (bI wd) = nI 0 := b139
                replace b139 := bI_0 b139
                refine lv_iconst (v := nI 0) hx hb d_M_joined_160 (by decide) ?_
                exact jn125 ((nI 0)) (by first | (simp [nzf, bI, b7, b114, b138, b139]; done) | (simp [nzf, bI, b7, b114, b138]; done) | contradiction) _ _ hP hD hS
              · skip
                replace b139 : ¬ (bI wd) = nI 0 := b139
                replace b139 := bI_1 b139
                refine lv_iconst (v := nI 1) hx hb d_M_joined_156 (by decide) ?_
                refine lv_goto (tgt := 161) hx hb d_M_joined_157 (by decide) ?_
                exact jn125 ((nI 1)) (by first | (simp [nzf, bI, b7, b114, b138, b139]; done) | (simp [nzf, bI, b7, b114, b138]; done) | contradiction) _ _ hP hD hS
        refine lv_aload_n hx hb d_M_joined_102 rfl (lv_at hl 2 rfl) ?_
        refine pf_get (v := .ref (g.lk M 23)) (C := "BigRunnerModel") (T := FT10) (N := 45) hx hb (hw10 hB _) (fun _ h9 => h9) hown hK hP (lo_in hL t_M (by decide)) e68 rfl 23 (by decide) (wd_970 hB _) rfl d_M_joined_103 ?_
        refine lv_iconst (v := nI 0) hx hb d_M_joined_106 (by decide) ?_
        refine pf_zald (i := 0) hx hb hK hP (lo_in hL (lo_k11_23 hL _ t_M) (by decide)) eUA (lo_t55 hL _ (lo_k11_23 hL _ t_M)) (by omega) (by decide) d_M_joined_107 ?_
        refine lv_if_ne (tgt := 115) hx hb d_M_joined_108 (by decide) (fun b140 => ?_) (fun b140 => ?_)
        · skip
          replace b140 : ¬ (hUA 0) = nI 0 := b140
          refine lv_iconst (v := nI 1) hx hb d_M_joined_115 (by decide) ?_
          refine lv_goto (tgt := 120) hx hb d_M_joined_116 (by decide) ?_
          exact jn106 ((nI 1)) (by first | (simp [nzf, bI, b7, b140]; done) | contradiction) _ _ hP hD hS
        · skip
          replace b140 : (hUA 0) = nI 0 := b140
          refine lv_iload_n hx hb d_M_joined_111 rfl (lv_at hl 4 rfl) ?_
          refine lv_if_eq (tgt := 119) hx hb d_M_joined_112 (by decide) (fun b141 => ?_) (fun b141 => ?_)
          · skip
            replace b141 : (bI wd) = nI 0 := b141
            replace b141 := bI_0 b141
            refine lv_iconst (v := nI 0) hx hb d_M_joined_119 (by decide) ?_
            exact jn106 ((nI 0)) (by first | (simp [nzf, bI, b7, b140, b141]; done) | (simp [nzf, bI, b7, b140]; done) | contradiction) _ _ hP hD hS
          · skip
            replace b141 : ¬ (bI wd) = nI 0 := b141
            replace b141 := bI_1 b141
            refine lv_iconst (v := nI 1) hx hb d_M_joined_115 (by decide) ?_
            refine lv_goto (tgt := 120) hx hb d_M_joined_116 (by decide) ?_
            exact jn106 ((nI 1)) (by first | (simp [nzf, bI, b7, b140, b141]; done) | (simp [nzf, bI, b7, b140]; done) | contradiction) _ _ hP hD hS
    refine lv_aload_n hx hb d_M_joined_40 rfl (lv_at hl 1 rfl) ?_
    obtain ⟨th_143, n_144, dr_145, sz_146, ix_147, dp_148, wt_149, op_150, tp_151, wa_152, gi_153, pc_154, st_155, tr_156, sp_157, ma_158, lg_159, du_160, e142, c161, c162, c163, c164, c165, c166, c167, c168, c169, c170, c171, c172, c173, c174, c175⟩ := oc_11.of t_M (hI.1 M)
    refine pf_get (v := .ref (g.lk M 20)) (C := "BigRunnerModel") (T := FT10) (N := 45) hx hb (hw10 hB _) (fun _ h9 => h9) hown hK hP (lo_in hL t_M (by decide)) e142 rfl 20 (by decide) (wd_967 hB _) rfl d_M_joined_41 ?_
    refine lv_iload_n hx hb d_M_joined_44 rfl (lv_at hl 2 rfl) ?_
    refine pf_zald (i := v9) hx hb hK hP (lo_in hL (lo_k11_20 hL _ t_M) (by decide)) eOV (lo_t52 hL _ (lo_k11_20 hL _ t_M)) (by omega) (by decide) d_M_joined_45 ?_
    refine lv_if_ne (tgt := 78) hx hb d_M_joined_46 (by decide) (fun b176 => ?_) (fun b176 => ?_)
    · skip
      replace b176 : ¬ (hOV v9) = nI 0 := b176
      refine lv_iconst (v := nI 0) hx hb d_M_joined_78 (by decide) ?_
      exact jn4 ((nI 0)) (by first | (simp [jup, nzf, bI, b176]; done) | contradiction) _ _ hP hD hS
    · skip
      replace b176 : (hOV v9) = nI 0 := b176
      refine lv_aload_n hx hb d_M_joined_49 rfl (lv_at hl 1 rfl) ?_
      refine pf_get (v := .ref (g.lk M 24)) (C := "BigRunnerModel") (T := FT10) (N := 45) hx hb (hw10 hB _) (fun _ h9 => h9) hown hK hP (lo_in hL t_M (by decide)) e142 rfl 24 (by decide) (wd_971 hB _) rfl d_M_joined_50 ?_
      refine lv_iconst (v := nI 0) hx hb d_M_joined_53 (by decide) ?_
      refine pf_zald (i := 0) hx hb hK hP (lo_in hL (lo_k11_24 hL _ t_M) (by decide)) eUB (lo_t56 hL _ (lo_k11_24 hL _ t_M)) (by omega) (by decide) d_M_joined_54 ?_
      refine lv_if_ne (tgt := 74) hx hb d_M_joined_55 (by decide) (fun b177 => ?_) (fun b177 => ?_)
      · skip
        replace b177 : ¬ (hUB 0) = nI 0 := b177
        refine lv_iconst (v := nI 1) hx hb d_M_joined_74 (by decide) ?_
        refine lv_goto (tgt := 79) hx hb d_M_joined_75 (by decide) ?_
        exact jn4 ((nI 1)) (by first | (simp [jup, nzf, bI, b176, b177]; done) | contradiction) _ _ hP hD hS
      · skip
        replace b177 : (hUB 0) = nI 0 := b177
        refine lv_aload_n hx hb d_M_joined_58 rfl (lv_at hl 1 rfl) ?_
        refine pf_get (v := .ref (g.lk M 22)) (C := "BigRunnerModel") (T := FT10) (N := 45) hx hb (hw10 hB _) (fun _ h9 => h9) hown hK hP (lo_in hL t_M (by decide)) e142 rfl 22 (by decide) (wd_969 hB _) rfl d_M_joined_59 ?_
        refine lv_iconst (v := nI 0) hx hb d_M_joined_62 (by decide) ?_
        refine pf_lald (i := 0) hx hb hK hP (lo_in hL (lo_k11_22 hL _ t_M) (by decide)) eBB (lo_t54 hL _ (lo_k11_22 hL _ t_M)) (by omega) (by decide) d_M_joined_63 ?_
        refine lv_aload_n hx hb d_M_joined_64 rfl (lv_at hl 1 rfl) ?_
        refine pf_get (v := .ref (g.lk M 18)) (C := "BigRunnerModel") (T := FT10) (N := 45) hx hb (hw10 hB _) (fun _ h9 => h9) hown hK hP (lo_in hL t_M (by decide)) e142 rfl 18 (by decide) (wd_965 hB _) rfl d_M_joined_65 ?_
        refine lv_iload_n hx hb d_M_joined_68 rfl (lv_at hl 2 rfl) ?_
        refine pf_lald (i := v9) hx hb hK hP (lo_in hL (lo_k11_18 hL _ t_M) (by decide)) eHG (lo_t50 hL _ (lo_k11_18 hL _ t_M)) (by omega) (by decide) d_M_joined_69 ?_
        refine W.lcmp hx hb d_M_joined_70 ?_
        refine lv_if_le (tgt := 78) hx hb d_M_joined_71 (by decide) (fun b178 => ?_) (fun b178 => ?_)
        · skip
          replace b178 := pl_le.mp b178
          replace b178 := Int64.not_lt.mpr b178
          refine lv_iconst (v := nI 0) hx hb d_M_joined_78 (by decide) ?_
          exact jn4 ((nI 0)) (by first | (simp [jup, nzf, bI, b176, b177, b178]; done) | contradiction) _ _ hP hD hS
        · skip
          replace b178 := mt pl_le.mpr b178
          replace b178 := Int64.not_le.mp b178
          refine lv_iconst (v := nI 1) hx hb d_M_joined_74 (by decide) ?_
          refine lv_goto (tgt := 79) hx hb d_M_joined_75 (by decide) ?_
          exact jn4 ((nI 1)) (by first | (simp [jup, nzf, bI, b176, b177, b178]; done) | contradiction) _ _ hP hD hS
  refine lv_aload_n hx hb d_M_joined_0 rfl (lv_at hl 0 rfl) ?_
  obtain ⟨th_180, n_181, dr_182, sz_183, ix_184, dp_185, wt_186, op_187, tp_188, wa_189, gi_190, pc_191, st_192, tr_193, sp_194, ma_195, lg_196, du_197, e179, c198, c199, c200, c201, c202, c203, c204, c205, c206, c207, c208, c209, c210, c211, c212⟩ := oc_11.of t_M (hI.1 M)
  refine pf_get (v := .ref (g.lk M 19)) (C := "BigRunnerModel") (T := FT10) (N := 45) hx hb (hw10 hB _) (fun _ h9 => h9) hown hK hP (lo_in hL t_M (by decide)) e179 rfl 19 (by decide) (wd_966 hB _) rfl d_M_joined_1 ?_
  refine lv_iload_n hx hb d_M_joined_4 rfl (lv_at hl 1 rfl) ?_
  refine pf_zald (i := v9) hx hb hK hP (lo_in hL (lo_k11_19 hL _ t_M) (by decide)) eUN (lo_t51 hL _ (lo_k11_19 hL _ t_M)) (by omega) (by decide) d_M_joined_5 ?_
  refine lv_if_ne (tgt := 38) hx hb d_M_joined_6 (by decide) (fun b213 => ?_) (fun b213 => ?_)
  · skip
    replace b213 : ¬ (hUN v9) = nI 0 := b213
    refine lv_iconst (v := nI 0) hx hb d_M_joined_38 (by decide) ?_
    exact jn1 ((nI 0)) (by first | (simp [jdn, nzf, bI, b213]; done) | contradiction) _ _ hP hD hS
  · skip
    replace b213 : (hUN v9) = nI 0 := b213
    refine lv_aload_n hx hb d_M_joined_9 rfl (lv_at hl 0 rfl) ?_
    refine pf_get (v := .ref (g.lk M 23)) (C := "BigRunnerModel") (T := FT10) (N := 45) hx hb (hw10 hB _) (fun _ h9 => h9) hown hK hP (lo_in hL t_M (by decide)) e179 rfl 23 (by decide) (wd_970 hB _) rfl d_M_joined_10 ?_
    refine lv_iconst (v := nI 0) hx hb d_M_joined_13 (by decide) ?_
    refine pf_zald (i := 0) hx hb hK hP (lo_in hL (lo_k11_23 hL _ t_M) (by decide)) eUA (lo_t55 hL _ (lo_k11_23 hL _ t_M)) (by omega) (by decide) d_M_joined_14 ?_
    refine lv_if_ne (tgt := 34) hx hb d_M_joined_15 (by decide) (fun b214 => ?_) (fun b214 => ?_)
    · skip
      replace b214 : ¬ (hUA 0) = nI 0 := b214
      refine lv_iconst (v := nI 1) hx hb d_M_joined_34 (by decide) ?_
      refine lv_goto (tgt := 39) hx hb d_M_joined_35 (by decide) ?_
      exact jn1 ((nI 1)) (by first | (simp [jdn, nzf, bI, b213, b214]; done) | contradiction) _ _ hP hD hS
    · skip
      replace b214 : (hUA 0) = nI 0 := b214
      refine lv_aload_n hx hb d_M_joined_18 rfl (lv_at hl 0 rfl) ?_
      refine pf_get (v := .ref (g.lk M 21)) (C := "BigRunnerModel") (T := FT10) (N := 45) hx hb (hw10 hB _) (fun _ h9 => h9) hown hK hP (lo_in hL t_M (by decide)) e179 rfl 21 (by decide) (wd_968 hB _) rfl d_M_joined_19 ?_
      refine lv_iconst (v := nI 0) hx hb d_M_joined_22 (by decide) ?_
      refine pf_lald (i := 0) hx hb hK hP (lo_in hL (lo_k11_21 hL _ t_M) (by decide)) eAA (lo_t53 hL _ (lo_k11_21 hL _ t_M)) (by omega) (by decide) d_M_joined_23 ?_
      refine lv_aload_n hx hb d_M_joined_24 rfl (lv_at hl 0 rfl) ?_
      refine pf_get (v := .ref (g.lk M 17)) (C := "BigRunnerModel") (T := FT10) (N := 45) hx hb (hw10 hB _) (fun _ h9 => h9) hown hK hP (lo_in hL t_M (by decide)) e179 rfl 17 (by decide) (wd_964 hB _) rfl d_M_joined_25 ?_
      refine lv_iload_n hx hb d_M_joined_28 rfl (lv_at hl 1 rfl) ?_
      refine pf_lald (i := v9) hx hb hK hP (lo_in hL (lo_k11_17 hL _ t_M) (by decide)) eLW (lo_t49 hL _ (lo_k11_17 hL _ t_M)) (by omega) (by decide) d_M_joined_29 ?_
      refine W.lcmp hx hb d_M_joined_30 ?_
      refine lv_if_ge (tgt := 38) hx hb d_M_joined_31 (by decide) (fun b215 => ?_) (fun b215 => ?_)
      · skip
        replace b215 := pl_ge.mp b215
        replace b215 := Int64.not_lt.mpr b215
        refine lv_iconst (v := nI 0) hx hb d_M_joined_38 (by decide) ?_
        exact jn1 ((nI 0)) (by first | (simp [jdn, nzf, bI, b213, b214, b215]; done) | contradiction) _ _ hP hD hS
      · skip
        replace b215 := mt pl_ge.mpr b215
        replace b215 := Int64.not_le.mp b215
        refine lv_iconst (v := nI 1) hx hb d_M_joined_34 (by decide) ?_
        refine lv_goto (tgt := 39) hx hb d_M_joined_35 (by decide) ?_
        exact jn1 ((nI 1)) (by first | (simp [jdn, nzf, bI, b213, b214, b215]; done) | contradiction) _ _ hP hD hS
set_option maxHeartbeats 4000000 in
set_option maxRecDepth 100000 in
theorem m2_spanOf (l : Launch) (g : Lay) (sz : Nat) (f : Nat → va_E) (M : Nat) (mth : Int32) (mn : Nat) (mdr : Nat) (msz : Nat) (mix : Nat) (mdp : Nat) (mwt : Nat) (mop : Nat) (mtp : Nat) (mwa : Nat) (mgi : Nat) (mpc : Nat) (mst : Nat) (mtr : Nat) (msp : Nat) (mma : Int32) (mlg : Int32) (mdu : Int32) (hC : Nat → Int32) (hA : Nat → Int32) (p9 : Nat) (w : Nat) (v : Nat) (hLW : Nat → Int64) (hHG : Nat → Int64) (hUN : Nat → Int32) (hOV : Nat → Int32) (hUA : Nat → Int32) (hUB : Nat → Int32) (hAA : Nat → Int64) (hBB : Nat → Int64) (S : List IVL) (en : Nat → IVL) (hL : LO g) (t_M : g.tg M = 11) (hI : IV g f) (eM : f M = .inr (10, [.int mth, .ref (g.lk M 1), .int (nI mn), .ref (g.lk M 3), .ref (g.lk M 4), .int (nI mdr), .ref (g.lk M 6), .ref (g.lk M 7), .ref (g.lk M 8), .int (nI msz), .int (nI mix), .int (nI mdp), .ref (g.lk M 12), .int (nI mwt), .ref (g.lk M 14), .ref (g.lk M 15), .int (nI mop), .ref (g.lk M 17), .ref (g.lk M 18), .ref (g.lk M 19), .ref (g.lk M 20), .ref (g.lk M 21), .ref (g.lk M 22), .ref (g.lk M 23), .ref (g.lk M 24), .ref (g.lk M 25), .ref (g.lk M 26), .ref (g.lk M 27), .ref (g.lk M 28), .ref (g.lk M 29), .ref (g.lk M 30), .ref (g.lk M 31), .int (nI mtp), .ref (g.lk M 33), .ref (g.lk M 34), .ref (g.lk M 35), .int (nI mwa), .int (nI mgi), .int (nI mpc), .int (nI mst), .int (nI mtr), .int (nI msp), .int mma, .int mlg, .int mdu])) (hMB : mn ≤ 72 ∧ mdr ≤ 100 ∧ msz ≤ 100 ∧ mix ≤ 100 ∧ mdp ≤ 20 ∧ mwt ≤ 72 ∧ mop ≤ 40 ∧ mtp ≤ 80 ∧ mwa ≤ 20 ∧ mgi ≤ msp ∧ mpc ≤ 100 ∧ mst ≤ 4 ∧ mtr ≤ 3 ∧ msp ≤ 3000 ∧ (mdu = 0 ∨ mdu = 1)) (eC : f (g.lk M 6) = .inl (g.ac (g.lk M 6), 100, .inl hC)) (eA : f (g.lk M 7) = .inl (g.ac (g.lk M 7), 100, .inl hA)) (hw : hC p9 = nI w) (hv : hA p9 = nI v) (hp9 : p9 < 100) (hv3 : w < 2 → v < 1000000000) (hws : WS w v mtp) (hw8 : w < 8) (eLW : f (g.lk M 17) = .inl (g.ac (g.lk M 17), 10, .inr (.inl hLW))) (eHG : f (g.lk M 18) = .inl (g.ac (g.lk M 18), 10, .inr (.inl hHG))) (eUN : f (g.lk M 19) = .inl (g.ac (g.lk M 19), 10, .inl hUN)) (eOV : f (g.lk M 20) = .inl (g.ac (g.lk M 20), 10, .inl hOV)) (eUA : f (g.lk M 23) = .inl (g.ac (g.lk M 23), 80, .inl hUA)) (eUB : f (g.lk M 24) = .inl (g.ac (g.lk M 24), 80, .inl hUB)) (eAA : f (g.lk M 21) = .inl (g.ac (g.lk M 21), 80, .inr (.inl hAA))) (eBB : f (g.lk M 22) = .inl (g.ac (g.lk M 22), 80, .inr (.inl hBB))) (hMR : MR hUA hAA hUB hBB mtp S) (hVR : VR hLW hHG hUN hOV en) : Met l ⟨"BigRunnerModel", "spanOf", "(I)V"⟩ [Cond.code ⟨"BigRunnerModel", "spanOf", "(I)V"⟩ prog_12_method_22_code 4 none] ({ frames := 3, cells := 0, slots := 0, locals := 77 }) (va_Pc [.ref M, .int (nI p9)] (pc_in g sz f)) (va_Qv (fun f1 => (∃ (tp1 : Nat), (tp1 ≤ 80) ∧ (TR w mtp tp1) ∧ (∃ (ua1 : Nat → Int32) (a1 : Nat → Int64) (ub1 : Nat → Int32) (b1 : Nat → Int64), f1 (g.lk M 23) = .inl (g.ac (g.lk M 23), 80, .inl ua1) ∧ f1 (g.lk M 21) = .inl (g.ac (g.lk M 21), 80, .inr (.inl a1)) ∧ f1 (g.lk M 24) = .inl (g.ac (g.lk M 24), 80, .inl ub1) ∧ f1 (g.lk M 22) = .inl (g.ac (g.lk M 22), 80, .inr (.inl b1)) ∧ MR ua1 a1 ub1 b1 tp1 (xst en S w v)) ∧ f1 M = .inr (10, [.int mth, .ref (g.lk M 1), .int (nI mn), .ref (g.lk M 3), .ref (g.lk M 4), .int (nI mdr), .ref (g.lk M 6), .ref (g.lk M 7), .ref (g.lk M 8), .int (nI msz), .int (nI mix), .int (nI mdp), .ref (g.lk M 12), .int (nI mwt), .ref (g.lk M 14), .ref (g.lk M 15), .int (nI mop), .ref (g.lk M 17), .ref (g.lk M 18), .ref (g.lk M 19), .ref (g.lk M 20), .ref (g.lk M 21), .ref (g.lk M 22), .ref (g.lk M 23), .ref (g.lk M 24), .ref (g.lk M 25), .ref (g.lk M 26), .ref (g.lk M 27), .ref (g.lk M 28), .ref (g.lk M 29), .ref (g.lk M 30), .ref (g.lk M 31), .int (nI tp1), .ref (g.lk M 33), .ref (g.lk M 34), .ref (g.lk M 35), .int (nI mwa), .int (nI mgi), .int (nI mpc), .int (nI mst), .int (nI mtr), .int (nI msp), .int mma, .int mlg, .int mdu])) ∧ (IV g f1) ∧ (un [11, 45, 53, 54, 55, 56, 57] g f f1)) (pc_out g sz) (pc_A g sz)) 0 0 (pc_A g sz) := by
  refine pe_ofW (cc := prog_12_method_22_code) (maxL := 4) (ret := none) (lv := [(0, .ref M), (1, .int (nI p9))]) (by decide) (Nat.le_of_ble_eq_true rfl) rfl ?_
  intro p e s m args below meth c ls hx hb hr hml hlocks hown hB hP hK hD hsz hS hl
  subst hsz
  have hu : un [11, 45, 53, 54, 55, 56, 57] g f f := un.rf
  obtain ⟨hmb0, hmb1, hmb2, hmb3, hmb4, hmb5, hmb6, hmb7, hmb8, hmb9, hmb10, hmb11, hmb12, hmb13, hmb14⟩ := hMB
  obtain ⟨hw1, hwt, hw7, hw2⟩ := hws
  rcases (show w = 0 ∨ w = 1 ∨ w = 2 ∨ w = 3 ∨ w = 4 ∨ w = 5 ∨ w = 6 ∨ w = 7 by omega) with hwq | hwq | hwq | hwq | hwq | hwq | hwq | hwq
  · skip
    rw [hwq] at hw
    have hv3 := hv3 (by omega)
    have hwt := hwt (by omega)
    clear hw1
    clear hw7
    clear hw2
    refine lv_aload_n hx hb d_M_spanOf_0 rfl (lv_at hl 0 rfl) ?_
    refine pf_get (v := .ref (g.lk M 6)) (C := "BigRunnerModel") (T := FT10) (N := 45) hx hb (hw10 hB _) (fun _ h9 => h9) hown hK hP (lo_in hL t_M (by decide)) eM rfl 6 (by decide) (wd_953 hB _) rfl d_M_spanOf_1 ?_
    refine lv_iload_n hx hb d_M_spanOf_4 rfl (lv_at hl 1 rfl) ?_
    refine pf_iald (i := p9) hx hb hK hP (lo_in hL (lo_k11_6 hL _ t_M) (by decide)) eC (lo_t43 hL _ (lo_k11_6 hL _ t_M)) (by omega) (by decide) d_M_spanOf_5 ?_
    refine lv_topi (fun z_ hz_ => ?_)
    obtain rfl : z_ = nI 0 := hz_.trans hw
    refine lv_istore_n (lv' := [(2, .int (nI 0)), (0, .ref M), (1, .int (nI p9))]) hx hb d_M_spanOf_6 rfl hl (by decide) rfl (fun ls hl => ?_)
    refine lv_iload_n hx hb d_M_spanOf_7 rfl (lv_at hl 0 rfl) ?_
    refine lv_iconst (v := nI 2) hx hb d_M_spanOf_8 (by decide) ?_
    refine lv_icmp_ge (tgt := 121) hx hb d_M_spanOf_9 (by decide) (fun b1 => ?_) (fun b1 => ?_)
    · skip
      replace b1 := (nI_leI (a := 2) (b := 0) (by omega) (by omega)).mp b1
      exfalso; omega
    · skip
      replace b1 := mt (nI_leI (a := 2) (b := 0) (by omega) (by omega)).mpr b1
      refine lv_aload_n hx hb d_M_spanOf_12 rfl (lv_at hl 1 rfl) ?_
      refine pf_get (v := .ref (g.lk M 7)) (C := "BigRunnerModel") (T := FT10) (N := 45) hx hb (hw10 hB _) (fun _ h9 => h9) hown hK hP (lo_in hL t_M (by decide)) eM rfl 7 (by decide) (wd_954 hB _) rfl d_M_spanOf_13 ?_
      refine lv_iload_n hx hb d_M_spanOf_16 rfl (lv_at hl 2 rfl) ?_
      refine pf_iald (i := p9) hx hb hK hP (lo_in hL (lo_k11_7 hL _ t_M) (by decide)) eA (lo_t44 hL _ (lo_k11_7 hL _ t_M)) (by omega) (by decide) d_M_spanOf_17 ?_
      refine lv_topi (fun z_ hz_ => ?_)
      obtain rfl : z_ = nI v := hz_.trans hv
      refine lv_istore_n (lv' := [(3, .int (nI v)), (2, .int (nI 0)), (0, .ref M), (1, .int (nI p9))]) hx hb d_M_spanOf_18 rfl hl (by decide) rfl (fun ls hl => ?_)
      refine lv_iload_n hx hb d_M_spanOf_19 rfl (lv_at hl 1 rfl) ?_
      refine lv_if_ne (tgt := 40) hx hb d_M_spanOf_20 (by decide) (fun b2 => ?_) (fun b2 => ?_)
      · skip
        replace b2 := mt (nI_eq (a := 0) (b := 0) (by omega) (by omega)).mpr b2
        exfalso; omega
      · skip
        replace b2 := (nI_eq (a := 0) (b := 0) (by omega) (by omega)).mp b2
        refine lv_aload_n hx hb d_M_spanOf_23 rfl (lv_at hl 2 rfl) ?_
        refine lv_aload_n hx hb d_M_spanOf_24 rfl (lv_at hl 2 rfl) ?_
        refine pf_get (v := .int (nI mtp)) (C := "BigRunnerModel") (T := FT10) (N := 45) hx hb (hw10 hB _) (fun _ h9 => h9) hown hK hP (lo_in hL t_M (by decide)) eM rfl 32 (by decide) (wd_979 hB _) rfl d_M_spanOf_25 ?_
        refine lv_iload_n hx hb d_M_spanOf_28 rfl (lv_at hl 0 rfl) ?_
        refine pf_i2lN hx hb (by omega) d_M_spanOf_29 ?_
        refine lv_iload_n hx hb d_M_spanOf_30 rfl (lv_at hl 0 rfl) ?_
        refine pf_i2lN hx hb (by omega) d_M_spanOf_31 ?_
        refine lv_iconst (v := nI 0) hx hb d_M_spanOf_32 (by decide) ?_
        refine lv_iconst (v := nI 0) hx hb d_M_spanOf_33 (by decide) ?_
        refine pcc_v (va_runV (C := "BigRunnerModel") (As := [.int (nI mtp), .long (nL v), .long (nL v), .int (nI 0), .int (nI 0)]) (rest := []) ⟨hx, hb, hml, hown, tb_nil⟩ (m2_interval l g s.heap.size f M mtp ((nL v)) ((nL v)) false false hUA hUB hAA hBB hL t_M hI (by omega) eUA eUB eAA eBB) ⟨(callB_of 5 (tb_one (wd_1160 hB _)) tb_good1 rfl rfl rfl (wd_82 hB _) (wd_1157 hB _) (by decide +kernel) ⟨Nat.le_of_ble_eq_true rfl, Nat.le_of_ble_eq_true rfl⟩), (wd_1159 hB _), (wd_53 hB _)⟩ ⟨pe_bl, pg_recv (ci := 10) hK hP (lo_in hL t_M (by decide)) eM rfl, pe_pre hB hK hP hD⟩ rfl rfl hl.1 rfl (lv_room (Nat.le_of_ble_eq_true rfl)) d_M_spanOf_34 ⟨Nat.le_of_ble_eq_true rfl, Nat.le_of_ble_eq_true rfl⟩) hS (fun f4 H locs hq5 hP hD hS => ?_)
        obtain ⟨aUA_6, aUB_7, aAA_8, aBB_9, hI1_10, hu1_11⟩ := hq5
        have hu := hu.tr hu1_11 (by decide)
        have eM := hu1_11.at t_M (by decide) eM
        have eC := hu1_11.at (lo_k11_6 hL _ t_M) (by decide) eC
        have eA := hu1_11.at (lo_k11_7 hL _ t_M) (by decide) eA
        have eUN := hu1_11.at (lo_k11_19 hL _ t_M) (by decide) eUN
        have eOV := hu1_11.at (lo_k11_20 hL _ t_M) (by decide) eOV
        have eLW := hu1_11.at (lo_k11_17 hL _ t_M) (by decide) eLW
        have eHG := hu1_11.at (lo_k11_18 hL _ t_M) (by decide) eHG
        refine lv_goto (tgt := 72) hx hb d_M_spanOf_37 (by decide) ?_
        refine lv_aload_n hx hb d_M_spanOf_72 rfl (lv_at hl 2 rfl) ?_
        refine pf_get (v := .ref (g.lk M 25)) (C := "BigRunnerModel") (T := FT10) (N := 45) hx hb (hw10 hB _) (fun _ h9 => h9) hown hK hP (lo_in hL t_M (by decide)) eM rfl 25 (by decide) (wd_972 hB _) rfl d_M_spanOf_73 ?_
        refine lv_aload_n hx hb d_M_spanOf_76 rfl (lv_at hl 2 rfl) ?_
        refine pf_get (v := .int (nI mtp)) (C := "BigRunnerModel") (T := FT10) (N := 45) hx hb (hw10 hB _) (fun _ h9 => h9) hown hK hP (lo_in hL t_M (by decide)) eM rfl 32 (by decide) (wd_979 hB _) rfl d_M_spanOf_77 ?_
        have jn12 : ∀ (bj13 : Int32) (H : Heap) (locs : List Loc), va_P g.D vcl (va_pl g.LP f4) H → va_D (pc_A g s.heap.size) (va_pl g.LP f4) → va_S (pc_A g s.heap.size) s.heap H locs → W p l e ({ frames := 3, cells := 0, slots := 0, locals := 77 }) s m args below meth c H locs 0 0 (MQ below (va_Qv (fun f1 => (∃ (tp1 : Nat), (tp1 ≤ 80) ∧ (TR w mtp tp1) ∧ (∃ (ua1 : Nat → Int32) (a1 : Nat → Int64) (ub1 : Nat → Int32) (b1 : Nat → Int64), f1 (g.lk M 23) = .inl (g.ac (g.lk M 23), 80, .inl ua1) ∧ f1 (g.lk M 21) = .inl (g.ac (g.lk M 21), 80, .inr (.inl a1)) ∧ f1 (g.lk M 24) = .inl (g.ac (g.lk M 24), 80, .inl ub1) ∧ f1 (g.lk M 22) = .inl (g.ac (g.lk M 22), 80, .inr (.inl b1)) ∧ MR ua1 a1 ub1 b1 tp1 (xst en S w v)) ∧ f1 M = .inr (10, [.int mth, .ref (g.lk M 1), .int (nI mn), .ref (g.lk M 3), .ref (g.lk M 4), .int (nI mdr), .ref (g.lk M 6), .ref (g.lk M 7), .ref (g.lk M 8), .int (nI msz), .int (nI mix), .int (nI mdp), .ref (g.lk M 12), .int (nI mwt), .ref (g.lk M 14), .ref (g.lk M 15), .int (nI mop), .ref (g.lk M 17), .ref (g.lk M 18), .ref (g.lk M 19), .ref (g.lk M 20), .ref (g.lk M 21), .ref (g.lk M 22), .ref (g.lk M 23), .ref (g.lk M 24), .ref (g.lk M 25), .ref (g.lk M 26), .ref (g.lk M 27), .ref (g.lk M 28), .ref (g.lk M 29), .ref (g.lk M 30), .ref (g.lk M 31), .int (nI tp1), .ref (g.lk M 33), .ref (g.lk M 34), .ref (g.lk M 35), .int (nI mwa), .int (nI mgi), .int (nI mpc), .int (nI mst), .int (nI mtr), .int (nI msp), .int mma, .int mlg, .int mdu])) ∧ (IV g f1) ∧ (un [11, 45, 53, 54, 55, 56, 57] g f f1)) (pc_out g s.heap.size) (pc_A g s.heap.size)) args s 0 0 (pc_A g s.heap.size)) (F0 m 109 ls [.int bj13, .int (nI mtp), .ref (g.lk M 25)]) := by
          intro bj13 H locs hP hD hS
          obtain ⟨h_15, e14⟩ := oc_57.of (lo_k11_25 hL _ t_M) (hI1_10.1 (g.lk M 25))
          refine pf_zast (i := mtp) hx hb hK hP hD hS (lo_in hL (lo_k11_25 hL _ t_M) (by decide)) e14 (lo_t57 hL _ (lo_k11_25 hL _ t_M)) (by omega) (by decide) d_M_spanOf_109 (fun f17 H locs e18 k19 hP hD hS => ?_)
          have eM := (k19 M (tg_ne t_M (lo_k11_25 hL _ t_M) (by decide))).trans eM
          have eC := (k19 (g.lk M 6) (tg_ne (lo_k11_6 hL _ t_M) (lo_k11_25 hL _ t_M) (by decide))).trans eC
          have eA := (k19 (g.lk M 7) (tg_ne (lo_k11_7 hL _ t_M) (lo_k11_25 hL _ t_M) (by decide))).trans eA
          have eUN := (k19 (g.lk M 19) (tg_ne (lo_k11_19 hL _ t_M) (lo_k11_25 hL _ t_M) (by decide))).trans eUN
          have eOV := (k19 (g.lk M 20) (tg_ne (lo_k11_20 hL _ t_M) (lo_k11_25 hL _ t_M) (by decide))).trans eOV
          have eLW := (k19 (g.lk M 17) (tg_ne (lo_k11_17 hL _ t_M) (lo_k11_25 hL _ t_M) (by decide))).trans eLW
          have eHG := (k19 (g.lk M 18) (tg_ne (lo_k11_18 hL _ t_M) (lo_k11_25 hL _ t_M) (by decide))).trans eHG
          have aUA_6 := (k19 (g.lk M 23) (tg_ne (lo_k11_23 hL _ t_M) (lo_k11_25 hL _ t_M) (by decide))).trans aUA_6
          have aUB_7 := (k19 (g.lk M 24) (tg_ne (lo_k11_24 hL _ t_M) (lo_k11_25 hL _ t_M) (by decide))).trans aUB_7
          have aAA_8 := (k19 (g.lk M 21) (tg_ne (lo_k11_21 hL _ t_M) (lo_k11_25 hL _ t_M) (by decide))).trans aAA_8
          have aBB_9 := (k19 (g.lk M 22) (tg_ne (lo_k11_22 hL _ t_M) (lo_k11_25 hL _ t_M) (by decide))).trans aBB_9
          have hu := hu.st k19 (lo_k11_25 hL _ t_M) (by decide)
          have hk20 : ∀ b, b ≠ (g.lk M 25) → f17 b = f4 b := k19
          refine lv_aload_n hx hb d_M_spanOf_110 rfl (lv_at hl 2 rfl) ?_
          refine lv_dup hx hb d_M_spanOf_111 rfl ?_
          refine pf_get (v := .int (nI mtp)) (C := "BigRunnerModel") (T := FT10) (N := 45) hx hb (hw10 hB _) (fun _ h9 => h9) hown hK hP (lo_in hL t_M (by decide)) eM rfl 32 (by decide) (wd_979 hB _) rfl d_M_spanOf_112 ?_
          refine lv_iconst (v := nI 1) hx hb d_M_spanOf_115 (by decide) ?_
          refine pf_iaddN (x := mtp) (y := 1) hx hb d_M_spanOf_116 ?_
          have hI21 := iv_1 hI1_10 hL (lo_k11_25 hL _ t_M) (by decide) hk20 (oc_57.mk (lo_k11_25 hL _ t_M) (⟨_, e18⟩))
          refine pf_put (v := .int (nI (mtp + 1))) (ty := .int) (fs' := [.int mth, .ref (g.lk M 1), .int (nI mn), .ref (g.lk M 3), .ref (g.lk M 4), .int (nI mdr), .ref (g.lk M 6), .ref (g.lk M 7), .ref (g.lk M 8), .int (nI msz), .int (nI mix), .int (nI mdp), .ref (g.lk M 12), .int (nI mwt), .ref (g.lk M 14), .ref (g.lk M 15), .int (nI mop), .ref (g.lk M 17), .ref (g.lk M 18), .ref (g.lk M 19), .ref (g.lk M 20), .ref (g.lk M 21), .ref (g.lk M 22), .ref (g.lk M 23), .ref (g.lk M 24), .ref (g.lk M 25), .ref (g.lk M 26), .ref (g.lk M 27), .ref (g.lk M 28), .ref (g.lk M 29), .ref (g.lk M 30), .ref (g.lk M 31), .int (nI (mtp + 1)), .ref (g.lk M 33), .ref (g.lk M 34), .ref (g.lk M 35), .int (nI mwa), .int (nI mgi), .int (nI mpc), .int (nI mst), .int (nI mtr), .int (nI msp), .int mma, .int mlg, .int mdu]) (C := "BigRunnerModel") (T := FT10) (N := 45) hx hb (hw10 hB _) (fun _ h9 => h9) TY10 ok10 nm10 hown hK hP hD hS (lo_in hL t_M (by decide)) eM rfl 32 (by decide) (wd_979 hB _) rfl (by decide +kernel) rfl rfl (Nat.le_of_ble_eq_true rfl) rfl d_M_spanOf_117 (fun f22 H locs e23 k24 hP hD hS => ?_)
          have eC := (k24 (g.lk M 6) (tg_ne (lo_k11_6 hL _ t_M) t_M (by decide))).trans eC
          have eA := (k24 (g.lk M 7) (tg_ne (lo_k11_7 hL _ t_M) t_M (by decide))).trans eA
          have eUN := (k24 (g.lk M 19) (tg_ne (lo_k11_19 hL _ t_M) t_M (by decide))).trans eUN
          have eOV := (k24 (g.lk M 20) (tg_ne (lo_k11_20 hL _ t_M) t_M (by decide))).trans eOV
          have eLW := (k24 (g.lk M 17) (tg_ne (lo_k11_17 hL _ t_M) t_M (by decide))).trans eLW
          have eHG := (k24 (g.lk M 18) (tg_ne (lo_k11_18 hL _ t_M) t_M (by decide))).trans eHG
          have aUA_6 := (k24 (g.lk M 23) (tg_ne (lo_k11_23 hL _ t_M) t_M (by decide))).trans aUA_6
          have aUB_7 := (k24 (g.lk M 24) (tg_ne (lo_k11_24 hL _ t_M) t_M (by decide))).trans aUB_7
          have aAA_8 := (k24 (g.lk M 21) (tg_ne (lo_k11_21 hL _ t_M) t_M (by decide))).trans aAA_8
          have aBB_9 := (k24 (g.lk M 22) (tg_ne (lo_k11_22 hL _ t_M) t_M (by decide))).trans aBB_9
          have e18 := (k24 (g.lk M 25) (tg_ne (lo_k11_25 hL _ t_M) t_M (by decide))).trans e18
          have hu := hu.st k24 t_M (by decide)
          have hk25 : ∀ b, b ≠ M → f22 b = f17 b := k24
          have hI26 := iv_1 hI21 hL t_M (by decide) hk25 (oc_11.mk t_M (⟨mth, mn, mdr, msz, mix, mdp, mwt, mop, (mtp + 1), mwa, mgi, mpc, mst, mtr, msp, mma, mlg, mdu, e23, (by omega), (by omega), (by omega), (by omega), (by omega), (by omega), (by omega), (by omega), (by omega), (by omega), (by omega), (by omega), (by omega), (by omega), hmb14⟩))
          exact pe_vret hx hb hr hlocks hK hP hD hS d_M_spanOf_120 ⟨⟨(mtp + 1), by omega, (TR.mk (fun _ => by omega) (fun _ => by omega) (fun _ _ => by omega)), ⟨_, _, _, _, aUA_6, aAA_8, aUB_7, aBB_9, (by rw [hwq]; exact MR_v (o := (some (v : Int), some (v : Int))) rfl hMR (r_num hv3) (r_num hv3))⟩, e23⟩, hI26, hu⟩
        refine lv_aload_n hx hb d_M_spanOf_80 rfl (lv_at hl 2 rfl) ?_
        refine pf_get (v := .ref (g.lk M 23)) (C := "BigRunnerModel") (T := FT10) (N := 45) hx hb (hw10 hB _) (fun _ h9 => h9) hown hK hP (lo_in hL t_M (by decide)) eM rfl 23 (by decide) (wd_970 hB _) rfl d_M_spanOf_81 ?_
        refine lv_aload_n hx hb d_M_spanOf_84 rfl (lv_at hl 2 rfl) ?_
        refine pf_get (v := .int (nI mtp)) (C := "BigRunnerModel") (T := FT10) (N := 45) hx hb (hw10 hB _) (fun _ h9 => h9) hown hK hP (lo_in hL t_M (by decide)) eM rfl 32 (by decide) (wd_979 hB _) rfl d_M_spanOf_85 ?_
        refine pf_zald (i := mtp) hx hb hK hP (lo_in hL (lo_k11_23 hL _ t_M) (by decide)) aUA_6 (lo_t55 hL _ (lo_k11_23 hL _ t_M)) (by omega) (by decide) d_M_spanOf_88 ?_
        refine lv_if_ne (tgt := 108) hx hb d_M_spanOf_89 (by decide) (fun b27 => ?_) (fun b27 => ?_)
        · skip
          replace b27 : ¬ ((upd hUA mtp (bI (mU false (nL v)))) mtp) = nI 0 := b27
          refine lv_iconst (v := nI 0) hx hb d_M_spanOf_108 (by decide) ?_
          exact jn12 ((nI 0)) _ _ hP hD hS
        · skip
          replace b27 : ((upd hUA mtp (bI (mU false (nL v)))) mtp) = nI 0 := b27
          refine lv_aload_n hx hb d_M_spanOf_92 rfl (lv_at hl 2 rfl) ?_
          refine pf_get (v := .ref (g.lk M 24)) (C := "BigRunnerModel") (T := FT10) (N := 45) hx hb (hw10 hB _) (fun _ h9 => h9) hown hK hP (lo_in hL t_M (by decide)) eM rfl 24 (by decide) (wd_971 hB _) rfl d_M_spanOf_93 ?_
          refine lv_aload_n hx hb d_M_spanOf_96 rfl (lv_at hl 2 rfl) ?_
          refine pf_get (v := .int (nI mtp)) (C := "BigRunnerModel") (T := FT10) (N := 45) hx hb (hw10 hB _) (fun _ h9 => h9) hown hK hP (lo_in hL t_M (by decide)) eM rfl 32 (by decide) (wd_979 hB _) rfl d_M_spanOf_97 ?_
          refine pf_zald (i := mtp) hx hb hK hP (lo_in hL (lo_k11_24 hL _ t_M) (by decide)) aUB_7 (lo_t56 hL _ (lo_k11_24 hL _ t_M)) (by omega) (by decide) d_M_spanOf_100 ?_
          refine lv_if_ne (tgt := 108) hx hb d_M_spanOf_101 (by decide) (fun b28 => ?_) (fun b28 => ?_)
          · skip
            replace b28 : ¬ ((upd hUB mtp (bI (mU false (nL v)))) mtp) = nI 0 := b28
            refine lv_iconst (v := nI 0) hx hb d_M_spanOf_108 (by decide) ?_
            exact jn12 ((nI 0)) _ _ hP hD hS
          · skip
            replace b28 : ((upd hUB mtp (bI (mU false (nL v)))) mtp) = nI 0 := b28
            refine lv_iconst (v := nI 1) hx hb d_M_spanOf_104 (by decide) ?_
            refine lv_goto (tgt := 109) hx hb d_M_spanOf_105 (by decide) ?_
            exact jn12 ((nI 1)) _ _ hP hD hS
  · skip
    rw [hwq] at hw
    have hv3 := hv3 (by omega)
    have hwt := hwt (by omega)
    have hw1 := hw1 hwq
    clear hw7
    clear hw2
    refine lv_aload_n hx hb d_M_spanOf_0 rfl (lv_at hl 0 rfl) ?_
    refine pf_get (v := .ref (g.lk M 6)) (C := "BigRunnerModel") (T := FT10) (N := 45) hx hb (hw10 hB _) (fun _ h9 => h9) hown hK hP (lo_in hL t_M (by decide)) eM rfl 6 (by decide) (wd_953 hB _) rfl d_M_spanOf_1 ?_
    refine lv_iload_n hx hb d_M_spanOf_4 rfl (lv_at hl 1 rfl) ?_
    refine pf_iald (i := p9) hx hb hK hP (lo_in hL (lo_k11_6 hL _ t_M) (by decide)) eC (lo_t43 hL _ (lo_k11_6 hL _ t_M)) (by omega) (by decide) d_M_spanOf_5 ?_
    refine lv_topi (fun z_ hz_ => ?_)
    obtain rfl : z_ = nI 1 := hz_.trans hw
    refine lv_istore_n (lv' := [(2, .int (nI 1)), (0, .ref M), (1, .int (nI p9))]) hx hb d_M_spanOf_6 rfl hl (by decide) rfl (fun ls hl => ?_)
    refine lv_iload_n hx hb d_M_spanOf_7 rfl (lv_at hl 0 rfl) ?_
    refine lv_iconst (v := nI 2) hx hb d_M_spanOf_8 (by decide) ?_
    refine lv_icmp_ge (tgt := 121) hx hb d_M_spanOf_9 (by decide) (fun b29 => ?_) (fun b29 => ?_)
    · skip
      replace b29 := (nI_leI (a := 2) (b := 1) (by omega) (by omega)).mp b29
      exfalso; omega
    · skip
      replace b29 := mt (nI_leI (a := 2) (b := 1) (by omega) (by omega)).mpr b29
      refine lv_aload_n hx hb d_M_spanOf_12 rfl (lv_at hl 1 rfl) ?_
      refine pf_get (v := .ref (g.lk M 7)) (C := "BigRunnerModel") (T := FT10) (N := 45) hx hb (hw10 hB _) (fun _ h9 => h9) hown hK hP (lo_in hL t_M (by decide)) eM rfl 7 (by decide) (wd_954 hB _) rfl d_M_spanOf_13 ?_
      refine lv_iload_n hx hb d_M_spanOf_16 rfl (lv_at hl 2 rfl) ?_
      refine pf_iald (i := p9) hx hb hK hP (lo_in hL (lo_k11_7 hL _ t_M) (by decide)) eA (lo_t44 hL _ (lo_k11_7 hL _ t_M)) (by omega) (by decide) d_M_spanOf_17 ?_
      refine lv_topi (fun z_ hz_ => ?_)
      obtain rfl : z_ = nI v := hz_.trans hv
      refine lv_istore_n (lv' := [(3, .int (nI v)), (2, .int (nI 1)), (0, .ref M), (1, .int (nI p9))]) hx hb d_M_spanOf_18 rfl hl (by decide) rfl (fun ls hl => ?_)
      refine lv_iload_n hx hb d_M_spanOf_19 rfl (lv_at hl 1 rfl) ?_
      refine lv_if_ne (tgt := 40) hx hb d_M_spanOf_20 (by decide) (fun b30 => ?_) (fun b30 => ?_)
      · skip
        replace b30 := mt (nI_eq (a := 1) (b := 0) (by omega) (by omega)).mpr b30
        refine lv_aload_n hx hb d_M_spanOf_40 rfl (lv_at hl 2 rfl) ?_
        refine lv_aload_n hx hb d_M_spanOf_41 rfl (lv_at hl 2 rfl) ?_
        refine pf_get (v := .int (nI mtp)) (C := "BigRunnerModel") (T := FT10) (N := 45) hx hb (hw10 hB _) (fun _ h9 => h9) hown hK hP (lo_in hL t_M (by decide)) eM rfl 32 (by decide) (wd_979 hB _) rfl d_M_spanOf_42 ?_
        refine lv_aload_n hx hb d_M_spanOf_45 rfl (lv_at hl 2 rfl) ?_
        refine pf_get (v := .ref (g.lk M 17)) (C := "BigRunnerModel") (T := FT10) (N := 45) hx hb (hw10 hB _) (fun _ h9 => h9) hown hK hP (lo_in hL t_M (by decide)) eM rfl 17 (by decide) (wd_964 hB _) rfl d_M_spanOf_46 ?_
        refine lv_iload_n hx hb d_M_spanOf_49 rfl (lv_at hl 0 rfl) ?_
        refine pf_lald (i := v) hx hb hK hP (lo_in hL (lo_k11_17 hL _ t_M) (by decide)) eLW (lo_t49 hL _ (lo_k11_17 hL _ t_M)) (by omega) (by decide) d_M_spanOf_50 ?_
        refine lv_aload_n hx hb d_M_spanOf_51 rfl (lv_at hl 2 rfl) ?_
        refine pf_get (v := .ref (g.lk M 18)) (C := "BigRunnerModel") (T := FT10) (N := 45) hx hb (hw10 hB _) (fun _ h9 => h9) hown hK hP (lo_in hL t_M (by decide)) eM rfl 18 (by decide) (wd_965 hB _) rfl d_M_spanOf_52 ?_
        refine lv_iload_n hx hb d_M_spanOf_55 rfl (lv_at hl 0 rfl) ?_
        refine pf_lald (i := v) hx hb hK hP (lo_in hL (lo_k11_18 hL _ t_M) (by decide)) eHG (lo_t50 hL _ (lo_k11_18 hL _ t_M)) (by omega) (by decide) d_M_spanOf_56 ?_
        refine lv_aload_n hx hb d_M_spanOf_57 rfl (lv_at hl 2 rfl) ?_
        refine pf_get (v := .ref (g.lk M 19)) (C := "BigRunnerModel") (T := FT10) (N := 45) hx hb (hw10 hB _) (fun _ h9 => h9) hown hK hP (lo_in hL t_M (by decide)) eM rfl 19 (by decide) (wd_966 hB _) rfl d_M_spanOf_58 ?_
        refine lv_iload_n hx hb d_M_spanOf_61 rfl (lv_at hl 0 rfl) ?_
        refine pf_zald (i := v) hx hb hK hP (lo_in hL (lo_k11_19 hL _ t_M) (by decide)) eUN (lo_t51 hL _ (lo_k11_19 hL _ t_M)) (by omega) (by decide) d_M_spanOf_62 ?_
        refine lv_topi (fun z_ hz_ => ?_)
        obtain rfl : z_ = bI (nzf (hUN v)) := hz_.trans (RV_nz (hVR.2 v hw1).1).2
        refine lv_aload_n hx hb d_M_spanOf_63 rfl (lv_at hl 2 rfl) ?_
        refine pf_get (v := .ref (g.lk M 20)) (C := "BigRunnerModel") (T := FT10) (N := 45) hx hb (hw10 hB _) (fun _ h9 => h9) hown hK hP (lo_in hL t_M (by decide)) eM rfl 20 (by decide) (wd_967 hB _) rfl d_M_spanOf_64 ?_
        refine lv_iload_n hx hb d_M_spanOf_67 rfl (lv_at hl 0 rfl) ?_
        refine pf_zald (i := v) hx hb hK hP (lo_in hL (lo_k11_20 hL _ t_M) (by decide)) eOV (lo_t52 hL _ (lo_k11_20 hL _ t_M)) (by omega) (by decide) d_M_spanOf_68 ?_
        refine lv_topi (fun z_ hz_ => ?_)
        obtain rfl : z_ = bI (nzf (hOV v)) := hz_.trans (RV_nz (hVR.2 v hw1).2).2
        refine pcc_v (va_runV (C := "BigRunnerModel") (As := [.int (nI mtp), .long (hLW v), .long (hHG v), .int (bI (nzf (hUN v))), .int (bI (nzf (hOV v)))]) (rest := []) ⟨hx, hb, hml, hown, tb_nil⟩ (m2_interval l g s.heap.size f M mtp ((hLW v)) ((hHG v)) ((nzf (hUN v))) ((nzf (hOV v))) hUA hUB hAA hBB hL t_M hI (by omega) eUA eUB eAA eBB) ⟨(callB_of 5 (tb_one (wd_1160 hB _)) tb_good1 rfl rfl rfl (wd_82 hB _) (wd_1157 hB _) (by decide +kernel) ⟨Nat.le_of_ble_eq_true rfl, Nat.le_of_ble_eq_true rfl⟩), (wd_1159 hB _), (wd_53 hB _)⟩ ⟨pe_bl, pg_recv (ci := 10) hK hP (lo_in hL t_M (by decide)) eM rfl, pe_pre hB hK hP hD⟩ rfl rfl hl.1 rfl (lv_room (Nat.le_of_ble_eq_true rfl)) d_M_spanOf_69 ⟨Nat.le_of_ble_eq_true rfl, Nat.le_of_ble_eq_true rfl⟩) hS (fun f32 H locs hq33 hP hD hS => ?_)
        obtain ⟨aUA_34, aUB_35, aAA_36, aBB_37, hI1_38, hu1_39⟩ := hq33
        have hu := hu.tr hu1_39 (by decide)
        have eM := hu1_39.at t_M (by decide) eM
        have eC := hu1_39.at (lo_k11_6 hL _ t_M) (by decide) eC
        have eA := hu1_39.at (lo_k11_7 hL _ t_M) (by decide) eA
        have eUN := hu1_39.at (lo_k11_19 hL _ t_M) (by decide) eUN
        have eOV := hu1_39.at (lo_k11_20 hL _ t_M) (by decide) eOV
        have eLW := hu1_39.at (lo_k11_17 hL _ t_M) (by decide) eLW
        have eHG := hu1_39.at (lo_k11_18 hL _ t_M) (by decide) eHG
        refine lv_aload_n hx hb d_M_spanOf_72 rfl (lv_at hl 2 rfl) ?_
        refine pf_get (v := .ref (g.lk M 25)) (C := "BigRunnerModel") (T := FT10) (N := 45) hx hb (hw10 hB _) (fun _ h9 => h9) hown hK hP (lo_in hL t_M (by decide)) eM rfl 25 (by decide) (wd_972 hB _) rfl d_M_spanOf_73 ?_
        refine lv_aload_n hx hb d_M_spanOf_76 rfl (lv_at hl 2 rfl) ?_
        refine pf_get (v := .int (nI mtp)) (C := "BigRunnerModel") (T := FT10) (N := 45) hx hb (hw10 hB _) (fun _ h9 => h9) hown hK hP (lo_in hL t_M (by decide)) eM rfl 32 (by decide) (wd_979 hB _) rfl d_M_spanOf_77 ?_
        have jn40 : ∀ (bj41 : Int32) (H : Heap) (locs : List Loc), va_P g.D vcl (va_pl g.LP f32) H → va_D (pc_A g s.heap.size) (va_pl g.LP f32) → va_S (pc_A g s.heap.size) s.heap H locs → W p l e ({ frames := 3, cells := 0, slots := 0, locals := 77 }) s m args below meth c H locs 0 0 (MQ below (va_Qv (fun f1 => (∃ (tp1 : Nat), (tp1 ≤ 80) ∧ (TR w mtp tp1) ∧ (∃ (ua1 : Nat → Int32) (a1 : Nat → Int64) (ub1 : Nat → Int32) (b1 : Nat → Int64), f1 (g.lk M 23) = .inl (g.ac (g.lk M 23), 80, .inl ua1) ∧ f1 (g.lk M 21) = .inl (g.ac (g.lk M 21), 80, .inr (.inl a1)) ∧ f1 (g.lk M 24) = .inl (g.ac (g.lk M 24), 80, .inl ub1) ∧ f1 (g.lk M 22) = .inl (g.ac (g.lk M 22), 80, .inr (.inl b1)) ∧ MR ua1 a1 ub1 b1 tp1 (xst en S w v)) ∧ f1 M = .inr (10, [.int mth, .ref (g.lk M 1), .int (nI mn), .ref (g.lk M 3), .ref (g.lk M 4), .int (nI mdr), .ref (g.lk M 6), .ref (g.lk M 7), .ref (g.lk M 8), .int (nI msz), .int (nI mix), .int (nI mdp), .ref (g.lk M 12), .int (nI mwt), .ref (g.lk M 14), .ref (g.lk M 15), .int (nI mop), .ref (g.lk M 17), .ref (g.lk M 18), .ref (g.lk M 19), .ref (g.lk M 20), .ref (g.lk M 21), .ref (g.lk M 22), .ref (g.lk M 23), .ref (g.lk M 24), .ref (g.lk M 25), .ref (g.lk M 26), .ref (g.lk M 27), .ref (g.lk M 28), .ref (g.lk M 29), .ref (g.lk M 30), .ref (g.lk M 31), .int (nI tp1), .ref (g.lk M 33), .ref (g.lk M 34), .ref (g.lk M 35), .int (nI mwa), .int (nI mgi), .int (nI mpc), .int (nI mst), .int (nI mtr), .int (nI msp), .int mma, .int mlg, .int mdu])) ∧ (IV g f1) ∧ (un [11, 45, 53, 54, 55, 56, 57] g f f1)) (pc_out g s.heap.size) (pc_A g s.heap.size)) args s 0 0 (pc_A g s.heap.size)) (F0 m 109 ls [.int bj41, .int (nI mtp), .ref (g.lk M 25)]) := by
          intro bj41 H locs hP hD hS
          obtain ⟨h_43, e42⟩ := oc_57.of (lo_k11_25 hL _ t_M) (hI1_38.1 (g.lk M 25))
          refine pf_zast (i := mtp) hx hb hK hP hD hS (lo_in hL (lo_k11_25 hL _ t_M) (by decide)) e42 (lo_t57 hL _ (lo_k11_25 hL _ t_M)) (by omega) (by decide) d_M_spanOf_109 (fun f45 H locs e46 k47 hP hD hS => ?_)
          have eM := (k47 M (tg_ne t_M (lo_k11_25 hL _ t_M) (by decide))).trans eM
          have eC := (k47 (g.lk M 6) (tg_ne (lo_k11_6 hL _ t_M) (lo_k11_25 hL _ t_M) (by decide))).trans eC
          have eA := (k47 (g.lk M 7) (tg_ne (lo_k11_7 hL _ t_M) (lo_k11_25 hL _ t_M) (by decide))).trans eA
          have eUN := (k47 (g.lk M 19) (tg_ne (lo_k11_19 hL _ t_M) (lo_k11_25 hL _ t_M) (by decide))).trans eUN
          have eOV := (k47 (g.lk M 20) (tg_ne (lo_k11_20 hL _ t_M) (lo_k11_25 hL _ t_M) (by decide))).trans eOV
          have eLW := (k47 (g.lk M 17) (tg_ne (lo_k11_17 hL _ t_M) (lo_k11_25 hL _ t_M) (by decide))).trans eLW
          have eHG := (k47 (g.lk M 18) (tg_ne (lo_k11_18 hL _ t_M) (lo_k11_25 hL _ t_M) (by decide))).trans eHG
          have aUA_34 := (k47 (g.lk M 23) (tg_ne (lo_k11_23 hL _ t_M) (lo_k11_25 hL _ t_M) (by decide))).trans aUA_34
          have aUB_35 := (k47 (g.lk M 24) (tg_ne (lo_k11_24 hL _ t_M) (lo_k11_25 hL _ t_M) (by decide))).trans aUB_35
          have aAA_36 := (k47 (g.lk M 21) (tg_ne (lo_k11_21 hL _ t_M) (lo_k11_25 hL _ t_M) (by decide))).trans aAA_36
          have aBB_37 := (k47 (g.lk M 22) (tg_ne (lo_k11_22 hL _ t_M) (lo_k11_25 hL _ t_M) (by decide))).trans aBB_37
          have hu := hu.st k47 (lo_k11_25 hL _ t_M) (by decide)
          have hk48 : ∀ b, b ≠ (g.lk M 25) → f45 b = f32 b := k47
          refine lv_aload_n hx hb d_M_spanOf_110 rfl (lv_at hl 2 rfl) ?_
          refine lv_dup hx hb d_M_spanOf_111 rfl ?_
          refine pf_get (v := .int (nI mtp)) (C := "BigRunnerModel") (T := FT10) (N := 45) hx hb (hw10 hB _) (fun _ h9 => h9) hown hK hP (lo_in hL t_M (by decide)) eM rfl 32 (by decide) (wd_979 hB _) rfl d_M_spanOf_112 ?_
          refine lv_iconst (v := nI 1) hx hb d_M_spanOf_115 (by decide) ?_
          refine pf_iaddN (x := mtp) (y := 1) hx hb d_M_spanOf_116 ?_
          have hI49 := iv_1 hI1_38 hL (lo_k11_25 hL _ t_M) (by decide) hk48 (oc_57.mk (lo_k11_25 hL _ t_M) (⟨_, e46⟩))
          refine pf_put (v := .int (nI (mtp + 1))) (ty := .int) (fs' := [.int mth, .ref (g.lk M 1), .int (nI mn), .ref (g.lk M 3), .ref (g.lk M 4), .int (nI mdr), .ref (g.lk M 6), .ref (g.lk M 7), .ref (g.lk M 8), .int (nI msz), .int (nI mix), .int (nI mdp), .ref (g.lk M 12), .int (nI mwt), .ref (g.lk M 14), .ref (g.lk M 15), .int (nI mop), .ref (g.lk M 17), .ref (g.lk M 18), .ref (g.lk M 19), .ref (g.lk M 20), .ref (g.lk M 21), .ref (g.lk M 22), .ref (g.lk M 23), .ref (g.lk M 24), .ref (g.lk M 25), .ref (g.lk M 26), .ref (g.lk M 27), .ref (g.lk M 28), .ref (g.lk M 29), .ref (g.lk M 30), .ref (g.lk M 31), .int (nI (mtp + 1)), .ref (g.lk M 33), .ref (g.lk M 34), .ref (g.lk M 35), .int (nI mwa), .int (nI mgi), .int (nI mpc), .int (nI mst), .int (nI mtr), .int (nI msp), .int mma, .int mlg, .int mdu]) (C := "BigRunnerModel") (T := FT10) (N := 45) hx hb (hw10 hB _) (fun _ h9 => h9) TY10 ok10 nm10 hown hK hP hD hS (lo_in hL t_M (by decide)) eM rfl 32 (by decide) (wd_979 hB _) rfl (by decide +kernel) rfl rfl (Nat.le_of_ble_eq_true rfl) rfl d_M_spanOf_117 (fun f50 H locs e51 k52 hP hD hS => ?_)
          have eC := (k52 (g.lk M 6) (tg_ne (lo_k11_6 hL _ t_M) t_M (by decide))).trans eC
          have eA := (k52 (g.lk M 7) (tg_ne (lo_k11_7 hL _ t_M) t_M (by decide))).trans eA
          have eUN := (k52 (g.lk M 19) (tg_ne (lo_k11_19 hL _ t_M) t_M (by decide))).trans eUN
          have eOV := (k52 (g.lk M 20) (tg_ne (lo_k11_20 hL _ t_M) t_M (by decide))).trans eOV
          have eLW := (k52 (g.lk M 17) (tg_ne (lo_k11_17 hL _ t_M) t_M (by decide))).trans eLW
          have eHG := (k52 (g.lk M 18) (tg_ne (lo_k11_18 hL _ t_M) t_M (by decide))).trans eHG
          have aUA_34 := (k52 (g.lk M 23) (tg_ne (lo_k11_23 hL _ t_M) t_M (by decide))).trans aUA_34
          have aUB_35 := (k52 (g.lk M 24) (tg_ne (lo_k11_24 hL _ t_M) t_M (by decide))).trans aUB_35
          have aAA_36 := (k52 (g.lk M 21) (tg_ne (lo_k11_21 hL _ t_M) t_M (by decide))).trans aAA_36
          have aBB_37 := (k52 (g.lk M 22) (tg_ne (lo_k11_22 hL _ t_M) t_M (by decide))).trans aBB_37
          have e46 := (k52 (g.lk M 25) (tg_ne (lo_k11_25 hL _ t_M) t_M (by decide))).trans e46
          have hu := hu.st k52 t_M (by decide)
          have hk53 : ∀ b, b ≠ M → f50 b = f45 b := k52
          have hI54 := iv_1 hI49 hL t_M (by decide) hk53 (oc_11.mk t_M (⟨mth, mn, mdr, msz, mix, mdp, mwt, mop, (mtp + 1), mwa, mgi, mpc, mst, mtr, msp, mma, mlg, mdu, e51, (by omega), (by omega), (by omega), (by omega), (by omega), (by omega), (by omega), (by omega), (by omega), (by omega), (by omega), (by omega), (by omega), (by omega), hmb14⟩))
          exact pe_vret hx hb hr hlocks hK hP hD hS d_M_spanOf_120 ⟨⟨(mtp + 1), by omega, (TR.mk (fun _ => by omega) (fun _ => by omega) (fun _ _ => by omega)), ⟨_, _, _, _, aUA_34, aAA_36, aUB_35, aBB_37, (by rw [hwq]; exact MR_v (o := en v) rfl hMR (r_one (hVR.2 v hw1).1) (r_one (hVR.2 v hw1).2))⟩, e51⟩, hI54, hu⟩
        refine lv_aload_n hx hb d_M_spanOf_80 rfl (lv_at hl 2 rfl) ?_
        refine pf_get (v := .ref (g.lk M 23)) (C := "BigRunnerModel") (T := FT10) (N := 45) hx hb (hw10 hB _) (fun _ h9 => h9) hown hK hP (lo_in hL t_M (by decide)) eM rfl 23 (by decide) (wd_970 hB _) rfl d_M_spanOf_81 ?_
        refine lv_aload_n hx hb d_M_spanOf_84 rfl (lv_at hl 2 rfl) ?_
        refine pf_get (v := .int (nI mtp)) (C := "BigRunnerModel") (T := FT10) (N := 45) hx hb (hw10 hB _) (fun _ h9 => h9) hown hK hP (lo_in hL t_M (by decide)) eM rfl 32 (by decide) (wd_979 hB _) rfl d_M_spanOf_85 ?_
        refine pf_zald (i := mtp) hx hb hK hP (lo_in hL (lo_k11_23 hL _ t_M) (by decide)) aUA_34 (lo_t55 hL _ (lo_k11_23 hL _ t_M)) (by omega) (by decide) d_M_spanOf_88 ?_
        refine lv_if_ne (tgt := 108) hx hb d_M_spanOf_89 (by decide) (fun b55 => ?_) (fun b55 => ?_)
        · skip
          replace b55 : ¬ ((upd hUA mtp (bI (mU (nzf (hUN v)) (hLW v)))) mtp) = nI 0 := b55
          refine lv_iconst (v := nI 0) hx hb d_M_spanOf_108 (by decide) ?_
          exact jn40 ((nI 0)) _ _ hP hD hS
        · skip
          replace b55 : ((upd hUA mtp (bI (mU (nzf (hUN v)) (hLW v)))) mtp) = nI 0 := b55
          refine lv_aload_n hx hb d_M_spanOf_92 rfl (lv_at hl 2 rfl) ?_
          refine pf_get (v := .ref (g.lk M 24)) (C := "BigRunnerModel") (T := FT10) (N := 45) hx hb (hw10 hB _) (fun _ h9 => h9) hown hK hP (lo_in hL t_M (by decide)) eM rfl 24 (by decide) (wd_971 hB _) rfl d_M_spanOf_93 ?_
          refine lv_aload_n hx hb d_M_spanOf_96 rfl (lv_at hl 2 rfl) ?_
          refine pf_get (v := .int (nI mtp)) (C := "BigRunnerModel") (T := FT10) (N := 45) hx hb (hw10 hB _) (fun _ h9 => h9) hown hK hP (lo_in hL t_M (by decide)) eM rfl 32 (by decide) (wd_979 hB _) rfl d_M_spanOf_97 ?_
          refine pf_zald (i := mtp) hx hb hK hP (lo_in hL (lo_k11_24 hL _ t_M) (by decide)) aUB_35 (lo_t56 hL _ (lo_k11_24 hL _ t_M)) (by omega) (by decide) d_M_spanOf_100 ?_
          refine lv_if_ne (tgt := 108) hx hb d_M_spanOf_101 (by decide) (fun b56 => ?_) (fun b56 => ?_)
          · skip
            replace b56 : ¬ ((upd hUB mtp (bI (mU (nzf (hOV v)) (hHG v)))) mtp) = nI 0 := b56
            refine lv_iconst (v := nI 0) hx hb d_M_spanOf_108 (by decide) ?_
            exact jn40 ((nI 0)) _ _ hP hD hS
          · skip
            replace b56 : ((upd hUB mtp (bI (mU (nzf (hOV v)) (hHG v)))) mtp) = nI 0 := b56
            refine lv_iconst (v := nI 1) hx hb d_M_spanOf_104 (by decide) ?_
            refine lv_goto (tgt := 109) hx hb d_M_spanOf_105 (by decide) ?_
            exact jn40 ((nI 1)) _ _ hP hD hS
      · skip
        replace b30 := (nI_eq (a := 1) (b := 0) (by omega) (by omega)).mp b30
        exfalso; omega
  · skip
    rw [hwq] at hw
    clear hv3 hwt
    clear hw1
    clear hw7
    have hw2 := hw2 (by omega) (by omega)
    obtain ⟨Y9, S8, hS8, hY1, hY2, hMR8⟩ := MR_pop hMR (by omega)
    obtain ⟨X9, S9, hS9, hX1, hX2, hMR9⟩ := MR_pop hMR8 (by omega)
    rw [hS9] at hS8
    refine lv_aload_n hx hb d_M_spanOf_0 rfl (lv_at hl 0 rfl) ?_
    refine pf_get (v := .ref (g.lk M 6)) (C := "BigRunnerModel") (T := FT10) (N := 45) hx hb (hw10 hB _) (fun _ h9 => h9) hown hK hP (lo_in hL t_M (by decide)) eM rfl 6 (by decide) (wd_953 hB _) rfl d_M_spanOf_1 ?_
    refine lv_iload_n hx hb d_M_spanOf_4 rfl (lv_at hl 1 rfl) ?_
    refine pf_iald (i := p9) hx hb hK hP (lo_in hL (lo_k11_6 hL _ t_M) (by decide)) eC (lo_t43 hL _ (lo_k11_6 hL _ t_M)) (by omega) (by decide) d_M_spanOf_5 ?_
    refine lv_topi (fun z_ hz_ => ?_)
    obtain rfl : z_ = nI 2 := hz_.trans hw
    refine lv_istore_n (lv' := [(2, .int (nI 2)), (0, .ref M), (1, .int (nI p9))]) hx hb d_M_spanOf_6 rfl hl (by decide) rfl (fun ls hl => ?_)
    refine lv_iload_n hx hb d_M_spanOf_7 rfl (lv_at hl 0 rfl) ?_
    refine lv_iconst (v := nI 2) hx hb d_M_spanOf_8 (by decide) ?_
    refine lv_icmp_ge (tgt := 121) hx hb d_M_spanOf_9 (by decide) (fun b57 => ?_) (fun b57 => ?_)
    · skip
      replace b57 := (nI_leI (a := 2) (b := 2) (by omega) (by omega)).mp b57
      refine lv_iload_n hx hb d_M_spanOf_121 rfl (lv_at hl 0 rfl) ?_
      refine lv_bipush (v := nI 7) hx hb d_M_spanOf_122 (by decide) ?_
      refine lv_icmp_ne (tgt := 201) hx hb d_M_spanOf_124 (by decide) (fun b58 => ?_) (fun b58 => ?_)
      · skip
        replace b58 := mt (nI_eq (a := 2) (b := 7) (by omega) (by omega)).mpr b58
        refine lv_aload_n hx hb d_M_spanOf_201 rfl (lv_at hl 1 rfl) ?_
        refine lv_dup hx hb d_M_spanOf_202 rfl ?_
        refine pf_get (v := .int (nI mtp)) (C := "BigRunnerModel") (T := FT10) (N := 45) hx hb (hw10 hB _) (fun _ h9 => h9) hown hK hP (lo_in hL t_M (by decide)) eM rfl 32 (by decide) (wd_979 hB _) rfl d_M_spanOf_203 ?_
        refine lv_iconst (v := nI 1) hx hb d_M_spanOf_206 (by decide) ?_
        refine pf_isubN (x := mtp) (y := 1) hx hb (by omega) d_M_spanOf_207 ?_
        refine pf_put (v := .int (nI (mtp - 1))) (ty := .int) (fs' := [.int mth, .ref (g.lk M 1), .int (nI mn), .ref (g.lk M 3), .ref (g.lk M 4), .int (nI mdr), .ref (g.lk M 6), .ref (g.lk M 7), .ref (g.lk M 8), .int (nI msz), .int (nI mix), .int (nI mdp), .ref (g.lk M 12), .int (nI mwt), .ref (g.lk M 14), .ref (g.lk M 15), .int (nI mop), .ref (g.lk M 17), .ref (g.lk M 18), .ref (g.lk M 19), .ref (g.lk M 20), .ref (g.lk M 21), .ref (g.lk M 22), .ref (g.lk M 23), .ref (g.lk M 24), .ref (g.lk M 25), .ref (g.lk M 26), .ref (g.lk M 27), .ref (g.lk M 28), .ref (g.lk M 29), .ref (g.lk M 30), .ref (g.lk M 31), .int (nI (mtp - 1)), .ref (g.lk M 33), .ref (g.lk M 34), .ref (g.lk M 35), .int (nI mwa), .int (nI mgi), .int (nI mpc), .int (nI mst), .int (nI mtr), .int (nI msp), .int mma, .int mlg, .int mdu]) (C := "BigRunnerModel") (T := FT10) (N := 45) hx hb (hw10 hB _) (fun _ h9 => h9) TY10 ok10 nm10 hown hK hP hD hS (lo_in hL t_M (by decide)) eM rfl 32 (by decide) (wd_979 hB _) rfl (by decide +kernel) rfl rfl (Nat.le_of_ble_eq_true rfl) rfl d_M_spanOf_208 (fun f59 H locs e60 k61 hP hD hS => ?_)
        have eC := (k61 (g.lk M 6) (tg_ne (lo_k11_6 hL _ t_M) t_M (by decide))).trans eC
        have eA := (k61 (g.lk M 7) (tg_ne (lo_k11_7 hL _ t_M) t_M (by decide))).trans eA
        have eUN := (k61 (g.lk M 19) (tg_ne (lo_k11_19 hL _ t_M) t_M (by decide))).trans eUN
        have eOV := (k61 (g.lk M 20) (tg_ne (lo_k11_20 hL _ t_M) t_M (by decide))).trans eOV
        have eUA := (k61 (g.lk M 23) (tg_ne (lo_k11_23 hL _ t_M) t_M (by decide))).trans eUA
        have eUB := (k61 (g.lk M 24) (tg_ne (lo_k11_24 hL _ t_M) t_M (by decide))).trans eUB
        have eLW := (k61 (g.lk M 17) (tg_ne (lo_k11_17 hL _ t_M) t_M (by decide))).trans eLW
        have eHG := (k61 (g.lk M 18) (tg_ne (lo_k11_18 hL _ t_M) t_M (by decide))).trans eHG
        have eAA := (k61 (g.lk M 21) (tg_ne (lo_k11_21 hL _ t_M) t_M (by decide))).trans eAA
        have eBB := (k61 (g.lk M 22) (tg_ne (lo_k11_22 hL _ t_M) t_M (by decide))).trans eBB
        have hu := hu.st k61 t_M (by decide)
        have hk62 : ∀ b, b ≠ M → f59 b = f b := k61
        refine lv_aload_n hx hb d_M_spanOf_211 rfl (lv_at hl 1 rfl) ?_
        refine pf_get (v := .int (nI (mtp - 1))) (C := "BigRunnerModel") (T := FT10) (N := 45) hx hb (hw10 hB _) (fun _ h9 => h9) hown hK hP (lo_in hL t_M (by decide)) e60 rfl 32 (by decide) (wd_979 hB _) rfl d_M_spanOf_212 ?_
        refine lv_iconst (v := nI 1) hx hb d_M_spanOf_215 (by decide) ?_
        refine pf_isubN (x := mtp - 1) (y := 1) hx hb (by omega) d_M_spanOf_216 ?_
        refine lv_istore_n (lv' := [(3, .int (nI ((mtp - 1) - 1))), (2, .int (nI 2)), (0, .ref M), (1, .int (nI p9))]) hx hb d_M_spanOf_217 rfl hl (by decide) rfl (fun ls hl => ?_)
        refine lv_iload_n hx hb d_M_spanOf_218 rfl (lv_at hl 1 rfl) ?_
        refine lv_iconst (v := nI 2) hx hb d_M_spanOf_219 (by decide) ?_
        refine lv_icmp_ne (tgt := 315) hx hb d_M_spanOf_220 (by decide) (fun b63 => ?_) (fun b63 => ?_)
        · skip
          replace b63 := mt (nI_eq (a := 2) (b := 2) (by omega) (by omega)).mpr b63
          exfalso; omega
        · skip
          replace b63 := (nI_eq (a := 2) (b := 2) (by omega) (by omega)).mp b63
          refine lv_aload_n hx hb d_M_spanOf_223 rfl (lv_at hl 2 rfl) ?_
          refine lv_iload_n hx hb d_M_spanOf_224 rfl (lv_at hl 0 rfl) ?_
          refine lv_aload_n hx hb d_M_spanOf_225 rfl (lv_at hl 2 rfl) ?_
          refine pf_get (v := .ref (g.lk M 21)) (C := "BigRunnerModel") (T := FT10) (N := 45) hx hb (hw10 hB _) (fun _ h9 => h9) hown hK hP (lo_in hL t_M (by decide)) e60 rfl 21 (by decide) (wd_968 hB _) rfl d_M_spanOf_226 ?_
          refine lv_iload_n hx hb d_M_spanOf_229 rfl (lv_at hl 0 rfl) ?_
          refine pf_lald (i := (mtp - 1) - 1) hx hb hK hP (lo_in hL (lo_k11_21 hL _ t_M) (by decide)) eAA (lo_t53 hL _ (lo_k11_21 hL _ t_M)) (by omega) (by decide) d_M_spanOf_230 ?_
          refine lv_aload_n hx hb d_M_spanOf_231 rfl (lv_at hl 2 rfl) ?_
          refine pf_get (v := .ref (g.lk M 21)) (C := "BigRunnerModel") (T := FT10) (N := 45) hx hb (hw10 hB _) (fun _ h9 => h9) hown hK hP (lo_in hL t_M (by decide)) e60 rfl 21 (by decide) (wd_968 hB _) rfl d_M_spanOf_232 ?_
          refine lv_aload_n hx hb d_M_spanOf_235 rfl (lv_at hl 2 rfl) ?_
          refine pf_get (v := .int (nI (mtp - 1))) (C := "BigRunnerModel") (T := FT10) (N := 45) hx hb (hw10 hB _) (fun _ h9 => h9) hown hK hP (lo_in hL t_M (by decide)) e60 rfl 32 (by decide) (wd_979 hB _) rfl d_M_spanOf_236 ?_
          refine pf_lald (i := mtp - 1) hx hb hK hP (lo_in hL (lo_k11_21 hL _ t_M) (by decide)) eAA (lo_t53 hL _ (lo_k11_21 hL _ t_M)) (by omega) (by decide) d_M_spanOf_239 ?_
          refine lv_ladd hx hb d_M_spanOf_240 ?_
          refine lv_aload_n hx hb d_M_spanOf_241 rfl (lv_at hl 2 rfl) ?_
          refine pf_get (v := .ref (g.lk M 22)) (C := "BigRunnerModel") (T := FT10) (N := 45) hx hb (hw10 hB _) (fun _ h9 => h9) hown hK hP (lo_in hL t_M (by decide)) e60 rfl 22 (by decide) (wd_969 hB _) rfl d_M_spanOf_242 ?_
          refine lv_iload_n hx hb d_M_spanOf_245 rfl (lv_at hl 0 rfl) ?_
          refine pf_lald (i := (mtp - 1) - 1) hx hb hK hP (lo_in hL (lo_k11_22 hL _ t_M) (by decide)) eBB (lo_t54 hL _ (lo_k11_22 hL _ t_M)) (by omega) (by decide) d_M_spanOf_246 ?_
          refine lv_aload_n hx hb d_M_spanOf_247 rfl (lv_at hl 2 rfl) ?_
          refine pf_get (v := .ref (g.lk M 22)) (C := "BigRunnerModel") (T := FT10) (N := 45) hx hb (hw10 hB _) (fun _ h9 => h9) hown hK hP (lo_in hL t_M (by decide)) e60 rfl 22 (by decide) (wd_969 hB _) rfl d_M_spanOf_248 ?_
          refine lv_aload_n hx hb d_M_spanOf_251 rfl (lv_at hl 2 rfl) ?_
          refine pf_get (v := .int (nI (mtp - 1))) (C := "BigRunnerModel") (T := FT10) (N := 45) hx hb (hw10 hB _) (fun _ h9 => h9) hown hK hP (lo_in hL t_M (by decide)) e60 rfl 32 (by decide) (wd_979 hB _) rfl d_M_spanOf_252 ?_
          refine pf_lald (i := mtp - 1) hx hb hK hP (lo_in hL (lo_k11_22 hL _ t_M) (by decide)) eBB (lo_t54 hL _ (lo_k11_22 hL _ t_M)) (by omega) (by decide) d_M_spanOf_255 ?_
          refine lv_ladd hx hb d_M_spanOf_256 ?_
          have jn64 : ∀ (bj65 : Int32), bj65 = (bI (nzf (hUA (mtp - 1 - 1)) || nzf (hUA (mtp - 1)))) → ∀ (H : Heap) (locs : List Loc), va_P g.D vcl (va_pl g.LP f59) H → va_D (pc_A g s.heap.size) (va_pl g.LP f59) → va_S (pc_A g s.heap.size) s.heap H locs → W p l e ({ frames := 3, cells := 0, slots := 0, locals := 77 }) s m args below meth c H locs 0 0 (MQ below (va_Qv (fun f1 => (∃ (tp1 : Nat), (tp1 ≤ 80) ∧ (TR w mtp tp1) ∧ (∃ (ua1 : Nat → Int32) (a1 : Nat → Int64) (ub1 : Nat → Int32) (b1 : Nat → Int64), f1 (g.lk M 23) = .inl (g.ac (g.lk M 23), 80, .inl ua1) ∧ f1 (g.lk M 21) = .inl (g.ac (g.lk M 21), 80, .inr (.inl a1)) ∧ f1 (g.lk M 24) = .inl (g.ac (g.lk M 24), 80, .inl ub1) ∧ f1 (g.lk M 22) = .inl (g.ac (g.lk M 22), 80, .inr (.inl b1)) ∧ MR ua1 a1 ub1 b1 tp1 (xst en S w v)) ∧ f1 M = .inr (10, [.int mth, .ref (g.lk M 1), .int (nI mn), .ref (g.lk M 3), .ref (g.lk M 4), .int (nI mdr), .ref (g.lk M 6), .ref (g.lk M 7), .ref (g.lk M 8), .int (nI msz), .int (nI mix), .int (nI mdp), .ref (g.lk M 12), .int (nI mwt), .ref (g.lk M 14), .ref (g.lk M 15), .int (nI mop), .ref (g.lk M 17), .ref (g.lk M 18), .ref (g.lk M 19), .ref (g.lk M 20), .ref (g.lk M 21), .ref (g.lk M 22), .ref (g.lk M 23), .ref (g.lk M 24), .ref (g.lk M 25), .ref (g.lk M 26), .ref (g.lk M 27), .ref (g.lk M 28), .ref (g.lk M 29), .ref (g.lk M 30), .ref (g.lk M 31), .int (nI tp1), .ref (g.lk M 33), .ref (g.lk M 34), .ref (g.lk M 35), .int (nI mwa), .int (nI mgi), .int (nI mpc), .int (nI mst), .int (nI mtr), .int (nI msp), .int mma, .int mlg, .int mdu])) ∧ (IV g f1) ∧ (un [11, 45, 53, 54, 55, 56, 57] g f f1)) (pc_out g s.heap.size) (pc_A g s.heap.size)) args s 0 0 (pc_A g s.heap.size)) (F0 m 283 ls [.int bj65, .long (((hBB ((mtp - 1) - 1))) + ((hBB (mtp - 1)))), .long (((hAA ((mtp - 1) - 1))) + ((hAA (mtp - 1)))), .int (nI ((mtp - 1) - 1)), .ref M]) := by
            intro bj65 hbj66 H locs hP hD hS
            subst hbj66
            have jn67 : ∀ (bj68 : Int32), bj68 = (bI (nzf (hUB (mtp - 1 - 1)) || nzf (hUB (mtp - 1)))) → ∀ (H : Heap) (locs : List Loc), va_P g.D vcl (va_pl g.LP f59) H → va_D (pc_A g s.heap.size) (va_pl g.LP f59) → va_S (pc_A g s.heap.size) s.heap H locs → W p l e ({ frames := 3, cells := 0, slots := 0, locals := 77 }) s m args below meth c H locs 0 0 (MQ below (va_Qv (fun f1 => (∃ (tp1 : Nat), (tp1 ≤ 80) ∧ (TR w mtp tp1) ∧ (∃ (ua1 : Nat → Int32) (a1 : Nat → Int64) (ub1 : Nat → Int32) (b1 : Nat → Int64), f1 (g.lk M 23) = .inl (g.ac (g.lk M 23), 80, .inl ua1) ∧ f1 (g.lk M 21) = .inl (g.ac (g.lk M 21), 80, .inr (.inl a1)) ∧ f1 (g.lk M 24) = .inl (g.ac (g.lk M 24), 80, .inl ub1) ∧ f1 (g.lk M 22) = .inl (g.ac (g.lk M 22), 80, .inr (.inl b1)) ∧ MR ua1 a1 ub1 b1 tp1 (xst en S w v)) ∧ f1 M = .inr (10, [.int mth, .ref (g.lk M 1), .int (nI mn), .ref (g.lk M 3), .ref (g.lk M 4), .int (nI mdr), .ref (g.lk M 6), .ref (g.lk M 7), .ref (g.lk M 8), .int (nI msz), .int (nI mix), .int (nI mdp), .ref (g.lk M 12), .int (nI mwt), .ref (g.lk M 14), .ref (g.lk M 15), .int (nI mop), .ref (g.lk M 17), .ref (g.lk M 18), .ref (g.lk M 19), .ref (g.lk M 20), .ref (g.lk M 21), .ref (g.lk M 22), .ref (g.lk M 23), .ref (g.lk M 24), .ref (g.lk M 25), .ref (g.lk M 26), .ref (g.lk M 27), .ref (g.lk M 28), .ref (g.lk M 29), .ref (g.lk M 30), .ref (g.lk M 31), .int (nI tp1), .ref (g.lk M 33), .ref (g.lk M 34), .ref (g.lk M 35), .int (nI mwa), .int (nI mgi), .int (nI mpc), .int (nI mst), .int (nI mtr), .int (nI msp), .int mma, .int mlg, .int mdu])) ∧ (IV g f1) ∧ (un [11, 45, 53, 54, 55, 56, 57] g f f1)) (pc_out g s.heap.size) (pc_A g s.heap.size)) args s 0 0 (pc_A g s.heap.size)) (F0 m 309 ls [.int bj68, .int (bI (nzf (hUA (mtp - 1 - 1)) || nzf (hUA (mtp - 1)))), .long (((hBB ((mtp - 1) - 1))) + ((hBB (mtp - 1)))), .long (((hAA ((mtp - 1) - 1))) + ((hAA (mtp - 1)))), .int (nI ((mtp - 1) - 1)), .ref M]) := by
              intro bj68 hbj69 H locs hP hD hS
              subst hbj69
              have hI70 := iv_1 hI hL t_M (by decide) hk62 (oc_11.mk t_M (⟨mth, mn, mdr, msz, mix, mdp, mwt, mop, (mtp - 1), mwa, mgi, mpc, mst, mtr, msp, mma, mlg, mdu, e60, (by omega), (by omega), (by omega), (by omega), (by omega), (by omega), (by omega), (by omega), (by omega), (by omega), (by omega), (by omega), (by omega), (by omega), hmb14⟩))
              refine pcc_v (va_runV (C := "BigRunnerModel") (As := [.int (nI ((mtp - 1) - 1)), .long (((hAA ((mtp - 1) - 1))) + ((hAA (mtp - 1)))), .long (((hBB ((mtp - 1) - 1))) + ((hBB (mtp - 1)))), .int (bI (nzf (hUA (mtp - 1 - 1)) || nzf (hUA (mtp - 1)))), .int (bI (nzf (hUB (mtp - 1 - 1)) || nzf (hUB (mtp - 1))))]) (rest := []) ⟨hx, hb, hml, hown, tb_nil⟩ (m2_interval l g H.size f59 M (((mtp - 1) - 1)) ((((hAA ((mtp - 1) - 1))) + ((hAA (mtp - 1))))) ((((hBB ((mtp - 1) - 1))) + ((hBB (mtp - 1))))) ((nzf (hUA (mtp - 1 - 1)) || nzf (hUA (mtp - 1)))) ((nzf (hUB (mtp - 1 - 1)) || nzf (hUB (mtp - 1)))) hUA hUB hAA hBB hL t_M hI70 (by omega) eUA eUB eAA eBB) ⟨(callB_of 5 (tb_one (wd_1160 hB _)) tb_good1 rfl rfl rfl (wd_82 hB _) (wd_1157 hB _) (by decide +kernel) ⟨Nat.le_of_ble_eq_true rfl, Nat.le_of_ble_eq_true rfl⟩), (wd_1159 hB _), (wd_53 hB _)⟩ ⟨pe_bl, pg_recv (ci := 10) hK hP (lo_in hL t_M (by decide)) e60 rfl, pe_pre hB hK hP hD⟩ rfl rfl hl.1 rfl (lv_room (Nat.le_of_ble_eq_true rfl)) d_M_spanOf_309 ⟨Nat.le_of_ble_eq_true rfl, Nat.le_of_ble_eq_true rfl⟩) hS (fun f72 H locs hq73 hP hD hS => ?_)
              obtain ⟨aUA_74, aUB_75, aAA_76, aBB_77, hI1_78, hu1_79⟩ := hq73
              have hu := hu.tr hu1_79 (by decide)
              have eC := hu1_79.at (lo_k11_6 hL _ t_M) (by decide) eC
              have eA := hu1_79.at (lo_k11_7 hL _ t_M) (by decide) eA
              have eUN := hu1_79.at (lo_k11_19 hL _ t_M) (by decide) eUN
              have eOV := hu1_79.at (lo_k11_20 hL _ t_M) (by decide) eOV
              have eLW := hu1_79.at (lo_k11_17 hL _ t_M) (by decide) eLW
              have eHG := hu1_79.at (lo_k11_18 hL _ t_M) (by decide) eHG
              have e60 := hu1_79.at t_M (by decide) e60
              refine lv_goto (tgt := 441) hx hb d_M_spanOf_312 (by decide) ?_
              refine lv_aload_n hx hb d_M_spanOf_441 rfl (lv_at hl 2 rfl) ?_
              refine pf_get (v := .ref (g.lk M 25)) (C := "BigRunnerModel") (T := FT10) (N := 45) hx hb (hw10 hB _) (fun _ h9 => h9) hown hK hP (lo_in hL t_M (by decide)) e60 rfl 25 (by decide) (wd_972 hB _) rfl d_M_spanOf_442 ?_
              refine lv_iload_n hx hb d_M_spanOf_445 rfl (lv_at hl 0 rfl) ?_
              have jn80 : ∀ (bj81 : Int32) (H : Heap) (locs : List Loc), va_P g.D vcl (va_pl g.LP f72) H → va_D (pc_A g s.heap.size) (va_pl g.LP f72) → va_S (pc_A g s.heap.size) s.heap H locs → W p l e ({ frames := 3, cells := 0, slots := 0, locals := 77 }) s m args below meth c H locs 0 0 (MQ below (va_Qv (fun f1 => (∃ (tp1 : Nat), (tp1 ≤ 80) ∧ (TR w mtp tp1) ∧ (∃ (ua1 : Nat → Int32) (a1 : Nat → Int64) (ub1 : Nat → Int32) (b1 : Nat → Int64), f1 (g.lk M 23) = .inl (g.ac (g.lk M 23), 80, .inl ua1) ∧ f1 (g.lk M 21) = .inl (g.ac (g.lk M 21), 80, .inr (.inl a1)) ∧ f1 (g.lk M 24) = .inl (g.ac (g.lk M 24), 80, .inl ub1) ∧ f1 (g.lk M 22) = .inl (g.ac (g.lk M 22), 80, .inr (.inl b1)) ∧ MR ua1 a1 ub1 b1 tp1 (xst en S w v)) ∧ f1 M = .inr (10, [.int mth, .ref (g.lk M 1), .int (nI mn), .ref (g.lk M 3), .ref (g.lk M 4), .int (nI mdr), .ref (g.lk M 6), .ref (g.lk M 7), .ref (g.lk M 8), .int (nI msz), .int (nI mix), .int (nI mdp), .ref (g.lk M 12), .int (nI mwt), .ref (g.lk M 14), .ref (g.lk M 15), .int (nI mop), .ref (g.lk M 17), .ref (g.lk M 18), .ref (g.lk M 19), .ref (g.lk M 20), .ref (g.lk M 21), .ref (g.lk M 22), .ref (g.lk M 23), .ref (g.lk M 24), .ref (g.lk M 25), .ref (g.lk M 26), .ref (g.lk M 27), .ref (g.lk M 28), .ref (g.lk M 29), .ref (g.lk M 30), .ref (g.lk M 31), .int (nI tp1), .ref (g.lk M 33), .ref (g.lk M 34), .ref (g.lk M 35), .int (nI mwa), .int (nI mgi), .int (nI mpc), .int (nI mst), .int (nI mtr), .int (nI msp), .int mma, .int mlg, .int mdu])) ∧ (IV g f1) ∧ (un [11, 45, 53, 54, 55, 56, 57] g f f1)) (pc_out g s.heap.size) (pc_A g s.heap.size)) args s 0 0 (pc_A g s.heap.size)) (F0 m 490 ls [.int bj81, .int (nI ((mtp - 1) - 1)), .ref (g.lk M 25)]) := by
                intro bj81 H locs hP hD hS
                obtain ⟨h_83, e82⟩ := oc_57.of (lo_k11_25 hL _ t_M) (hI1_78.1 (g.lk M 25))
                refine pf_zast (i := (mtp - 1) - 1) hx hb hK hP hD hS (lo_in hL (lo_k11_25 hL _ t_M) (by decide)) e82 (lo_t57 hL _ (lo_k11_25 hL _ t_M)) (by omega) (by decide) d_M_spanOf_490 (fun f85 H locs e86 k87 hP hD hS => ?_)
                have eC := (k87 (g.lk M 6) (tg_ne (lo_k11_6 hL _ t_M) (lo_k11_25 hL _ t_M) (by decide))).trans eC
                have eA := (k87 (g.lk M 7) (tg_ne (lo_k11_7 hL _ t_M) (lo_k11_25 hL _ t_M) (by decide))).trans eA
                have eUN := (k87 (g.lk M 19) (tg_ne (lo_k11_19 hL _ t_M) (lo_k11_25 hL _ t_M) (by decide))).trans eUN
                have eOV := (k87 (g.lk M 20) (tg_ne (lo_k11_20 hL _ t_M) (lo_k11_25 hL _ t_M) (by decide))).trans eOV
                have eLW := (k87 (g.lk M 17) (tg_ne (lo_k11_17 hL _ t_M) (lo_k11_25 hL _ t_M) (by decide))).trans eLW
                have eHG := (k87 (g.lk M 18) (tg_ne (lo_k11_18 hL _ t_M) (lo_k11_25 hL _ t_M) (by decide))).trans eHG
                have e60 := (k87 M (tg_ne t_M (lo_k11_25 hL _ t_M) (by decide))).trans e60
                have aUA_74 := (k87 (g.lk M 23) (tg_ne (lo_k11_23 hL _ t_M) (lo_k11_25 hL _ t_M) (by decide))).trans aUA_74
                have aUB_75 := (k87 (g.lk M 24) (tg_ne (lo_k11_24 hL _ t_M) (lo_k11_25 hL _ t_M) (by decide))).trans aUB_75
                have aAA_76 := (k87 (g.lk M 21) (tg_ne (lo_k11_21 hL _ t_M) (lo_k11_25 hL _ t_M) (by decide))).trans aAA_76
                have aBB_77 := (k87 (g.lk M 22) (tg_ne (lo_k11_22 hL _ t_M) (lo_k11_25 hL _ t_M) (by decide))).trans aBB_77
                have hu := hu.st k87 (lo_k11_25 hL _ t_M) (by decide)
                have hk88 : ∀ b, b ≠ (g.lk M 25) → f85 b = f72 b := k87
                refine lv_aload_n hx hb d_M_spanOf_491 rfl (lv_at hl 2 rfl) ?_
                refine pf_get (v := .ref (g.lk M 8)) (C := "BigRunnerModel") (T := FT10) (N := 45) hx hb (hw10 hB _) (fun _ h9 => h9) hown hK hP (lo_in hL t_M (by decide)) e60 rfl 8 (by decide) (wd_955 hB _) rfl d_M_spanOf_492 ?_
                refine lv_iload_n hx hb d_M_spanOf_495 rfl (lv_at hl 3 rfl) ?_
                refine lv_aload_n hx hb d_M_spanOf_496 rfl (lv_at hl 2 rfl) ?_
                refine pf_get (v := .ref (g.lk M 25)) (C := "BigRunnerModel") (T := FT10) (N := 45) hx hb (hw10 hB _) (fun _ h9 => h9) hown hK hP (lo_in hL t_M (by decide)) e60 rfl 25 (by decide) (wd_972 hB _) rfl d_M_spanOf_497 ?_
                refine lv_iload_n hx hb d_M_spanOf_500 rfl (lv_at hl 0 rfl) ?_
                refine pf_zald (i := (mtp - 1) - 1) hx hb hK hP (lo_in hL (lo_k11_25 hL _ t_M) (by decide)) e86 (lo_t57 hL _ (lo_k11_25 hL _ t_M)) (by omega) (by decide) d_M_spanOf_501 ?_
                have hI89 := iv_1 hI1_78 hL (lo_k11_25 hL _ t_M) (by decide) hk88 (oc_57.mk (lo_k11_25 hL _ t_M) (⟨_, e86⟩))
                obtain ⟨h_91, e90⟩ := oc_45.of (lo_k11_8 hL _ t_M) (hI89.1 (g.lk M 8))
                refine pf_zast (i := p9) hx hb hK hP hD hS (lo_in hL (lo_k11_8 hL _ t_M) (by decide)) e90 (lo_t45 hL _ (lo_k11_8 hL _ t_M)) (by omega) (by decide) d_M_spanOf_502 (fun f93 H locs e94 k95 hP hD hS => ?_)
                have eC := (k95 (g.lk M 6) (tg_ne (lo_k11_6 hL _ t_M) (lo_k11_8 hL _ t_M) (by decide))).trans eC
                have eA := (k95 (g.lk M 7) (tg_ne (lo_k11_7 hL _ t_M) (lo_k11_8 hL _ t_M) (by decide))).trans eA
                have eUN := (k95 (g.lk M 19) (tg_ne (lo_k11_19 hL _ t_M) (lo_k11_8 hL _ t_M) (by decide))).trans eUN
                have eOV := (k95 (g.lk M 20) (tg_ne (lo_k11_20 hL _ t_M) (lo_k11_8 hL _ t_M) (by decide))).trans eOV
                have eLW := (k95 (g.lk M 17) (tg_ne (lo_k11_17 hL _ t_M) (lo_k11_8 hL _ t_M) (by decide))).trans eLW
                have eHG := (k95 (g.lk M 18) (tg_ne (lo_k11_18 hL _ t_M) (lo_k11_8 hL _ t_M) (by decide))).trans eHG
                have e60 := (k95 M (tg_ne t_M (lo_k11_8 hL _ t_M) (by decide))).trans e60
                have aUA_74 := (k95 (g.lk M 23) (tg_ne (lo_k11_23 hL _ t_M) (lo_k11_8 hL _ t_M) (by decide))).trans aUA_74
                have aUB_75 := (k95 (g.lk M 24) (tg_ne (lo_k11_24 hL _ t_M) (lo_k11_8 hL _ t_M) (by decide))).trans aUB_75
                have aAA_76 := (k95 (g.lk M 21) (tg_ne (lo_k11_21 hL _ t_M) (lo_k11_8 hL _ t_M) (by decide))).trans aAA_76
                have aBB_77 := (k95 (g.lk M 22) (tg_ne (lo_k11_22 hL _ t_M) (lo_k11_8 hL _ t_M) (by decide))).trans aBB_77
                have e86 := (k95 (g.lk M 25) (tg_ne (lo_k11_25 hL _ t_M) (lo_k11_8 hL _ t_M) (by decide))).trans e86
                have hu := hu.st k95 (lo_k11_8 hL _ t_M) (by decide)
                have hk96 : ∀ b, b ≠ (g.lk M 8) → f93 b = f85 b := k95
                have hI97 := iv_1 hI89 hL (lo_k11_8 hL _ t_M) (by decide) hk96 (oc_45.mk (lo_k11_8 hL _ t_M) (⟨_, e94⟩))
                exact pe_vret hx hb hr hlocks hK hP hD hS d_M_spanOf_503 ⟨⟨(mtp - 1), by omega, (TR.mk (fun _ => by omega) (fun _ => by omega) (fun _ _ => by omega)), ⟨_, _, _, _, aUA_74, aAA_76, aUB_75, aBB_77, (by rw [hwq, hS8]; exact MR_v (o := isum X9 Y9) (show mtp - 1 = mtp - 1 - 1 + 1 by omega) hMR9 (r_add hX1 hY1) (r_add hX2 hY2))⟩, e60⟩, hI97, hu⟩
              refine lv_aload_n hx hb d_M_spanOf_446 rfl (lv_at hl 2 rfl) ?_
              refine pf_get (v := .ref (g.lk M 25)) (C := "BigRunnerModel") (T := FT10) (N := 45) hx hb (hw10 hB _) (fun _ h9 => h9) hown hK hP (lo_in hL t_M (by decide)) e60 rfl 25 (by decide) (wd_972 hB _) rfl d_M_spanOf_447 ?_
              refine lv_iload_n hx hb d_M_spanOf_450 rfl (lv_at hl 0 rfl) ?_
              obtain ⟨h_99, e98⟩ := oc_57.of (lo_k11_25 hL _ t_M) (hI1_78.1 (g.lk M 25))
              refine pf_zald (i := (mtp - 1) - 1) hx hb hK hP (lo_in hL (lo_k11_25 hL _ t_M) (by decide)) e98 (lo_t57 hL _ (lo_k11_25 hL _ t_M)) (by omega) (by decide) d_M_spanOf_451 ?_
              refine lv_if_eq (tgt := 489) hx hb d_M_spanOf_452 (by decide) (fun b101 => ?_) (fun b101 => ?_)
              · skip
                replace b101 : (h_99 ((mtp - 1) - 1)) = nI 0 := b101
                refine lv_iconst (v := nI 0) hx hb d_M_spanOf_489 (by decide) ?_
                exact jn80 ((nI 0)) _ _ hP hD hS
              · skip
                replace b101 : ¬ (h_99 ((mtp - 1) - 1)) = nI 0 := b101
                refine lv_aload_n hx hb d_M_spanOf_455 rfl (lv_at hl 2 rfl) ?_
                refine pf_get (v := .ref (g.lk M 25)) (C := "BigRunnerModel") (T := FT10) (N := 45) hx hb (hw10 hB _) (fun _ h9 => h9) hown hK hP (lo_in hL t_M (by decide)) e60 rfl 25 (by decide) (wd_972 hB _) rfl d_M_spanOf_456 ?_
                refine lv_aload_n hx hb d_M_spanOf_459 rfl (lv_at hl 2 rfl) ?_
                refine pf_get (v := .int (nI (mtp - 1))) (C := "BigRunnerModel") (T := FT10) (N := 45) hx hb (hw10 hB _) (fun _ h9 => h9) hown hK hP (lo_in hL t_M (by decide)) e60 rfl 32 (by decide) (wd_979 hB _) rfl d_M_spanOf_460 ?_
                refine pf_zald (i := mtp - 1) hx hb hK hP (lo_in hL (lo_k11_25 hL _ t_M) (by decide)) e98 (lo_t57 hL _ (lo_k11_25 hL _ t_M)) (by omega) (by decide) d_M_spanOf_463 ?_
                refine lv_if_eq (tgt := 489) hx hb d_M_spanOf_464 (by decide) (fun b102 => ?_) (fun b102 => ?_)
                · skip
                  replace b102 : (h_99 (mtp - 1)) = nI 0 := b102
                  refine lv_iconst (v := nI 0) hx hb d_M_spanOf_489 (by decide) ?_
                  exact jn80 ((nI 0)) _ _ hP hD hS
                · skip
                  replace b102 : ¬ (h_99 (mtp - 1)) = nI 0 := b102
                  refine lv_aload_n hx hb d_M_spanOf_467 rfl (lv_at hl 2 rfl) ?_
                  refine pf_get (v := .ref (g.lk M 23)) (C := "BigRunnerModel") (T := FT10) (N := 45) hx hb (hw10 hB _) (fun _ h9 => h9) hown hK hP (lo_in hL t_M (by decide)) e60 rfl 23 (by decide) (wd_970 hB _) rfl d_M_spanOf_468 ?_
                  refine lv_iload_n hx hb d_M_spanOf_471 rfl (lv_at hl 0 rfl) ?_
                  refine pf_zald (i := (mtp - 1) - 1) hx hb hK hP (lo_in hL (lo_k11_23 hL _ t_M) (by decide)) aUA_74 (lo_t55 hL _ (lo_k11_23 hL _ t_M)) (by omega) (by decide) d_M_spanOf_472 ?_
                  refine lv_if_ne (tgt := 489) hx hb d_M_spanOf_473 (by decide) (fun b103 => ?_) (fun b103 => ?_)
                  · skip
                    replace b103 : ¬ ((upd hUA ((mtp - 1) - 1) (bI (mU (nzf (hUA (mtp - 1 - 1)) || nzf (hUA (mtp - 1))) (((hAA ((mtp - 1) - 1))) + ((hAA (mtp - 1))))))) ((mtp - 1) - 1)) = nI 0 := b103
                    refine lv_iconst (v := nI 0) hx hb d_M_spanOf_489 (by decide) ?_
                    exact jn80 ((nI 0)) _ _ hP hD hS
                  · skip
                    replace b103 : ((upd hUA ((mtp - 1) - 1) (bI (mU (nzf (hUA (mtp - 1 - 1)) || nzf (hUA (mtp - 1))) (((hAA ((mtp - 1) - 1))) + ((hAA (mtp - 1))))))) ((mtp - 1) - 1)) = nI 0 := b103
                    refine lv_aload_n hx hb d_M_spanOf_476 rfl (lv_at hl 2 rfl) ?_
                    refine pf_get (v := .ref (g.lk M 24)) (C := "BigRunnerModel") (T := FT10) (N := 45) hx hb (hw10 hB _) (fun _ h9 => h9) hown hK hP (lo_in hL t_M (by decide)) e60 rfl 24 (by decide) (wd_971 hB _) rfl d_M_spanOf_477 ?_
                    refine lv_iload_n hx hb d_M_spanOf_480 rfl (lv_at hl 0 rfl) ?_
                    refine pf_zald (i := (mtp - 1) - 1) hx hb hK hP (lo_in hL (lo_k11_24 hL _ t_M) (by decide)) aUB_75 (lo_t56 hL _ (lo_k11_24 hL _ t_M)) (by omega) (by decide) d_M_spanOf_481 ?_
                    refine lv_if_ne (tgt := 489) hx hb d_M_spanOf_482 (by decide) (fun b104 => ?_) (fun b104 => ?_)
                    · skip
                      replace b104 : ¬ ((upd hUB ((mtp - 1) - 1) (bI (mU (nzf (hUB (mtp - 1 - 1)) || nzf (hUB (mtp - 1))) (((hBB ((mtp - 1) - 1))) + ((hBB (mtp - 1))))))) ((mtp - 1) - 1)) = nI 0 := b104
                      refine lv_iconst (v := nI 0) hx hb d_M_spanOf_489 (by decide) ?_
                      exact jn80 ((nI 0)) _ _ hP hD hS
                    · skip
                      replace b104 : ((upd hUB ((mtp - 1) - 1) (bI (mU (nzf (hUB (mtp - 1 - 1)) || nzf (hUB (mtp - 1))) (((hBB ((mtp - 1) - 1))) + ((hBB (mtp - 1))))))) ((mtp - 1) - 1)) = nI 0 := b104
                      refine lv_iconst (v := nI 1) hx hb d_M_spanOf_485 (by decide) ?_
                      refine lv_goto (tgt := 490) hx hb d_M_spanOf_486 (by decide) ?_
                      exact jn80 ((nI 1)) _ _ hP hD hS
            refine lv_aload_n hx hb d_M_spanOf_283 rfl (lv_at hl 2 rfl) ?_
            refine pf_get (v := .ref (g.lk M 24)) (C := "BigRunnerModel") (T := FT10) (N := 45) hx hb (hw10 hB _) (fun _ h9 => h9) hown hK hP (lo_in hL t_M (by decide)) e60 rfl 24 (by decide) (wd_971 hB _) rfl d_M_spanOf_284 ?_
            refine lv_iload_n hx hb d_M_spanOf_287 rfl (lv_at hl 0 rfl) ?_
            refine pf_zald (i := (mtp - 1) - 1) hx hb hK hP (lo_in hL (lo_k11_24 hL _ t_M) (by decide)) eUB (lo_t56 hL _ (lo_k11_24 hL _ t_M)) (by omega) (by decide) d_M_spanOf_288 ?_
            refine lv_if_ne (tgt := 304) hx hb d_M_spanOf_289 (by decide) (fun b105 => ?_) (fun b105 => ?_)
            · skip
              replace b105 : ¬ (hUB ((mtp - 1) - 1)) = nI 0 := b105
              refine lv_iconst (v := nI 1) hx hb d_M_spanOf_304 (by decide) ?_
              refine lv_goto (tgt := 309) hx hb d_M_spanOf_305 (by decide) ?_
              exact jn67 ((nI 1)) (by first | (simp [nzf, bI, b57, b58, b63, b105]; done) | contradiction) _ _ hP hD hS
            · skip
              replace b105 : (hUB ((mtp - 1) - 1)) = nI 0 := b105
              refine lv_aload_n hx hb d_M_spanOf_292 rfl (lv_at hl 2 rfl) ?_
              refine pf_get (v := .ref (g.lk M 24)) (C := "BigRunnerModel") (T := FT10) (N := 45) hx hb (hw10 hB _) (fun _ h9 => h9) hown hK hP (lo_in hL t_M (by decide)) e60 rfl 24 (by decide) (wd_971 hB _) rfl d_M_spanOf_293 ?_
              refine lv_aload_n hx hb d_M_spanOf_296 rfl (lv_at hl 2 rfl) ?_
              refine pf_get (v := .int (nI (mtp - 1))) (C := "BigRunnerModel") (T := FT10) (N := 45) hx hb (hw10 hB _) (fun _ h9 => h9) hown hK hP (lo_in hL t_M (by decide)) e60 rfl 32 (by decide) (wd_979 hB _) rfl d_M_spanOf_297 ?_
              refine pf_zald (i := mtp - 1) hx hb hK hP (lo_in hL (lo_k11_24 hL _ t_M) (by decide)) eUB (lo_t56 hL _ (lo_k11_24 hL _ t_M)) (by omega) (by decide) d_M_spanOf_300 ?_
              refine lv_if_eq (tgt := 308) hx hb d_M_spanOf_301 (by decide) (fun b106 => ?_) (fun b106 => ?_)
              · skip
                replace b106 : (hUB (mtp - 1)) = nI 0 := b106
                refine lv_iconst (v := nI 0) hx hb d_M_spanOf_308 (by decide) ?_
                exact jn67 ((nI 0)) (by first | (simp [nzf, bI, b57, b58, b63, b105, b106]; done) | contradiction) _ _ hP hD hS
              · skip
                replace b106 : ¬ (hUB (mtp - 1)) = nI 0 := b106
                refine lv_iconst (v := nI 1) hx hb d_M_spanOf_304 (by decide) ?_
                refine lv_goto (tgt := 309) hx hb d_M_spanOf_305 (by decide) ?_
                exact jn67 ((nI 1)) (by first | (simp [nzf, bI, b57, b58, b63, b105, b106]; done) | contradiction) _ _ hP hD hS
          refine lv_aload_n hx hb d_M_spanOf_257 rfl (lv_at hl 2 rfl) ?_
          refine pf_get (v := .ref (g.lk M 23)) (C := "BigRunnerModel") (T := FT10) (N := 45) hx hb (hw10 hB _) (fun _ h9 => h9) hown hK hP (lo_in hL t_M (by decide)) e60 rfl 23 (by decide) (wd_970 hB _) rfl d_M_spanOf_258 ?_
          refine lv_iload_n hx hb d_M_spanOf_261 rfl (lv_at hl 0 rfl) ?_
          refine pf_zald (i := (mtp - 1) - 1) hx hb hK hP (lo_in hL (lo_k11_23 hL _ t_M) (by decide)) eUA (lo_t55 hL _ (lo_k11_23 hL _ t_M)) (by omega) (by decide) d_M_spanOf_262 ?_
          refine lv_if_ne (tgt := 278) hx hb d_M_spanOf_263 (by decide) (fun b107 => ?_) (fun b107 => ?_)
          · skip
            replace b107 : ¬ (hUA ((mtp - 1) - 1)) = nI 0 := b107
            refine lv_iconst (v := nI 1) hx hb d_M_spanOf_278 (by decide) ?_
            refine lv_goto (tgt := 283) hx hb d_M_spanOf_279 (by decide) ?_
            exact jn64 ((nI 1)) (by first | (simp [nzf, bI, b57, b58, b63, b107]; done) | contradiction) _ _ hP hD hS
          · skip
            replace b107 : (hUA ((mtp - 1) - 1)) = nI 0 := b107
            refine lv_aload_n hx hb d_M_spanOf_266 rfl (lv_at hl 2 rfl) ?_
            refine pf_get (v := .ref (g.lk M 23)) (C := "BigRunnerModel") (T := FT10) (N := 45) hx hb (hw10 hB _) (fun _ h9 => h9) hown hK hP (lo_in hL t_M (by decide)) e60 rfl 23 (by decide) (wd_970 hB _) rfl d_M_spanOf_267 ?_
            refine lv_aload_n hx hb d_M_spanOf_270 rfl (lv_at hl 2 rfl) ?_
            refine pf_get (v := .int (nI (mtp - 1))) (C := "BigRunnerModel") (T := FT10) (N := 45) hx hb (hw10 hB _) (fun _ h9 => h9) hown hK hP (lo_in hL t_M (by decide)) e60 rfl 32 (by decide) (wd_979 hB _) rfl d_M_spanOf_271 ?_
            refine pf_zald (i := mtp - 1) hx hb hK hP (lo_in hL (lo_k11_23 hL _ t_M) (by decide)) eUA (lo_t55 hL _ (lo_k11_23 hL _ t_M)) (by omega) (by decide) d_M_spanOf_274 ?_
            refine lv_if_eq (tgt := 282) hx hb d_M_spanOf_275 (by decide) (fun b108 => ?_) (fun b108 => ?_)
            · skip
              replace b108 : (hUA (mtp - 1)) = nI 0 := b108
              refine lv_iconst (v := nI 0) hx hb d_M_spanOf_282 (by decide) ?_
              exact jn64 ((nI 0)) (by first | (simp [nzf, bI, b57, b58, b63, b107, b108]; done) | contradiction) _ _ hP hD hS
            · skip
              replace b108 : ¬ (hUA (mtp - 1)) = nI 0 := b108
              refine lv_iconst (v := nI 1) hx hb d_M_spanOf_278 (by decide) ?_
              refine lv_goto (tgt := 283) hx hb d_M_spanOf_279 (by decide) ?_
              exact jn64 ((nI 1)) (by first | (simp [nzf, bI, b57, b58, b63, b107, b108]; done) | contradiction) _ _ hP hD hS
      · skip
        replace b58 := (nI_eq (a := 2) (b := 7) (by omega) (by omega)).mp b58
        exfalso; omega
    · skip
      replace b57 := mt (nI_leI (a := 2) (b := 2) (by omega) (by omega)).mpr b57
      exfalso; omega
  · skip
    rw [hwq] at hw
    clear hv3 hwt
    clear hw1
    clear hw7
    have hw2 := hw2 (by omega) (by omega)
    obtain ⟨Y9, S8, hS8, hY1, hY2, hMR8⟩ := MR_pop hMR (by omega)
    obtain ⟨X9, S9, hS9, hX1, hX2, hMR9⟩ := MR_pop hMR8 (by omega)
    rw [hS9] at hS8
    refine lv_aload_n hx hb d_M_spanOf_0 rfl (lv_at hl 0 rfl) ?_
    refine pf_get (v := .ref (g.lk M 6)) (C := "BigRunnerModel") (T := FT10) (N := 45) hx hb (hw10 hB _) (fun _ h9 => h9) hown hK hP (lo_in hL t_M (by decide)) eM rfl 6 (by decide) (wd_953 hB _) rfl d_M_spanOf_1 ?_
    refine lv_iload_n hx hb d_M_spanOf_4 rfl (lv_at hl 1 rfl) ?_
    refine pf_iald (i := p9) hx hb hK hP (lo_in hL (lo_k11_6 hL _ t_M) (by decide)) eC (lo_t43 hL _ (lo_k11_6 hL _ t_M)) (by omega) (by decide) d_M_spanOf_5 ?_
    refine lv_topi (fun z_ hz_ => ?_)
    obtain rfl : z_ = nI 3 := hz_.trans hw
    refine lv_istore_n (lv' := [(2, .int (nI 3)), (0, .ref M), (1, .int (nI p9))]) hx hb d_M_spanOf_6 rfl hl (by decide) rfl (fun ls hl => ?_)
    refine lv_iload_n hx hb d_M_spanOf_7 rfl (lv_at hl 0 rfl) ?_
    refine lv_iconst (v := nI 2) hx hb d_M_spanOf_8 (by decide) ?_
    refine lv_icmp_ge (tgt := 121) hx hb d_M_spanOf_9 (by decide) (fun b109 => ?_) (fun b109 => ?_)
    · skip
      replace b109 := (nI_leI (a := 2) (b := 3) (by omega) (by omega)).mp b109
      refine lv_iload_n hx hb d_M_spanOf_121 rfl (lv_at hl 0 rfl) ?_
      refine lv_bipush (v := nI 7) hx hb d_M_spanOf_122 (by decide) ?_
      refine lv_icmp_ne (tgt := 201) hx hb d_M_spanOf_124 (by decide) (fun b110 => ?_) (fun b110 => ?_)
      · skip
        replace b110 := mt (nI_eq (a := 3) (b := 7) (by omega) (by omega)).mpr b110
        refine lv_aload_n hx hb d_M_spanOf_201 rfl (lv_at hl 1 rfl) ?_
        refine lv_dup hx hb d_M_spanOf_202 rfl ?_
        refine pf_get (v := .int (nI mtp)) (C := "BigRunnerModel") (T := FT10) (N := 45) hx hb (hw10 hB _) (fun _ h9 => h9) hown hK hP (lo_in hL t_M (by decide)) eM rfl 32 (by decide) (wd_979 hB _) rfl d_M_spanOf_203 ?_
        refine lv_iconst (v := nI 1) hx hb d_M_spanOf_206 (by decide) ?_
        refine pf_isubN (x := mtp) (y := 1) hx hb (by omega) d_M_spanOf_207 ?_
        refine pf_put (v := .int (nI (mtp - 1))) (ty := .int) (fs' := [.int mth, .ref (g.lk M 1), .int (nI mn), .ref (g.lk M 3), .ref (g.lk M 4), .int (nI mdr), .ref (g.lk M 6), .ref (g.lk M 7), .ref (g.lk M 8), .int (nI msz), .int (nI mix), .int (nI mdp), .ref (g.lk M 12), .int (nI mwt), .ref (g.lk M 14), .ref (g.lk M 15), .int (nI mop), .ref (g.lk M 17), .ref (g.lk M 18), .ref (g.lk M 19), .ref (g.lk M 20), .ref (g.lk M 21), .ref (g.lk M 22), .ref (g.lk M 23), .ref (g.lk M 24), .ref (g.lk M 25), .ref (g.lk M 26), .ref (g.lk M 27), .ref (g.lk M 28), .ref (g.lk M 29), .ref (g.lk M 30), .ref (g.lk M 31), .int (nI (mtp - 1)), .ref (g.lk M 33), .ref (g.lk M 34), .ref (g.lk M 35), .int (nI mwa), .int (nI mgi), .int (nI mpc), .int (nI mst), .int (nI mtr), .int (nI msp), .int mma, .int mlg, .int mdu]) (C := "BigRunnerModel") (T := FT10) (N := 45) hx hb (hw10 hB _) (fun _ h9 => h9) TY10 ok10 nm10 hown hK hP hD hS (lo_in hL t_M (by decide)) eM rfl 32 (by decide) (wd_979 hB _) rfl (by decide +kernel) rfl rfl (Nat.le_of_ble_eq_true rfl) rfl d_M_spanOf_208 (fun f111 H locs e112 k113 hP hD hS => ?_)
        have eC := (k113 (g.lk M 6) (tg_ne (lo_k11_6 hL _ t_M) t_M (by decide))).trans eC
        have eA := (k113 (g.lk M 7) (tg_ne (lo_k11_7 hL _ t_M) t_M (by decide))).trans eA
        have eUN := (k113 (g.lk M 19) (tg_ne (lo_k11_19 hL _ t_M) t_M (by decide))).trans eUN
        have eOV := (k113 (g.lk M 20) (tg_ne (lo_k11_20 hL _ t_M) t_M (by decide))).trans eOV
        have eUA := (k113 (g.lk M 23) (tg_ne (lo_k11_23 hL _ t_M) t_M (by decide))).trans eUA
        have eUB := (k113 (g.lk M 24) (tg_ne (lo_k11_24 hL _ t_M) t_M (by decide))).trans eUB
        have eLW := (k113 (g.lk M 17) (tg_ne (lo_k11_17 hL _ t_M) t_M (by decide))).trans eLW
        have eHG := (k113 (g.lk M 18) (tg_ne (lo_k11_18 hL _ t_M) t_M (by decide))).trans eHG
        have eAA := (k113 (g.lk M 21) (tg_ne (lo_k11_21 hL _ t_M) t_M (by decide))).trans eAA
        have eBB := (k113 (g.lk M 22) (tg_ne (lo_k11_22 hL _ t_M) t_M (by decide))).trans eBB
        have hu := hu.st k113 t_M (by decide)
        have hk114 : ∀ b, b ≠ M → f111 b = f b := k113
        refine lv_aload_n hx hb d_M_spanOf_211 rfl (lv_at hl 1 rfl) ?_
        refine pf_get (v := .int (nI (mtp - 1))) (C := "BigRunnerModel") (T := FT10) (N := 45) hx hb (hw10 hB _) (fun _ h9 => h9) hown hK hP (lo_in hL t_M (by decide)) e112 rfl 32 (by decide) (wd_979 hB _) rfl d_M_spanOf_212 ?_
        refine lv_iconst (v := nI 1) hx hb d_M_spanOf_215 (by decide) ?_
        refine pf_isubN (x := mtp - 1) (y := 1) hx hb (by omega) d_M_spanOf_216 ?_
        refine lv_istore_n (lv' := [(3, .int (nI ((mtp - 1) - 1))), (2, .int (nI 3)), (0, .ref M), (1, .int (nI p9))]) hx hb d_M_spanOf_217 rfl hl (by decide) rfl (fun ls hl => ?_)
        refine lv_iload_n hx hb d_M_spanOf_218 rfl (lv_at hl 1 rfl) ?_
        refine lv_iconst (v := nI 2) hx hb d_M_spanOf_219 (by decide) ?_
        refine lv_icmp_ne (tgt := 315) hx hb d_M_spanOf_220 (by decide) (fun b115 => ?_) (fun b115 => ?_)
        · skip
          replace b115 := mt (nI_eq (a := 3) (b := 2) (by omega) (by omega)).mpr b115
          refine lv_iload_n hx hb d_M_spanOf_315 rfl (lv_at hl 1 rfl) ?_
          refine lv_iconst (v := nI 3) hx hb d_M_spanOf_316 (by decide) ?_
          refine lv_icmp_ne (tgt := 412) hx hb d_M_spanOf_317 (by decide) (fun b116 => ?_) (fun b116 => ?_)
          · skip
            replace b116 := mt (nI_eq (a := 3) (b := 3) (by omega) (by omega)).mpr b116
            exfalso; omega
          · skip
            replace b116 := (nI_eq (a := 3) (b := 3) (by omega) (by omega)).mp b116
            refine lv_aload_n hx hb d_M_spanOf_320 rfl (lv_at hl 2 rfl) ?_
            refine lv_iload_n hx hb d_M_spanOf_321 rfl (lv_at hl 0 rfl) ?_
            refine lv_aload_n hx hb d_M_spanOf_322 rfl (lv_at hl 2 rfl) ?_
            refine pf_get (v := .ref (g.lk M 21)) (C := "BigRunnerModel") (T := FT10) (N := 45) hx hb (hw10 hB _) (fun _ h9 => h9) hown hK hP (lo_in hL t_M (by decide)) e112 rfl 21 (by decide) (wd_968 hB _) rfl d_M_spanOf_323 ?_
            refine lv_iload_n hx hb d_M_spanOf_326 rfl (lv_at hl 0 rfl) ?_
            refine pf_lald (i := (mtp - 1) - 1) hx hb hK hP (lo_in hL (lo_k11_21 hL _ t_M) (by decide)) eAA (lo_t53 hL _ (lo_k11_21 hL _ t_M)) (by omega) (by decide) d_M_spanOf_327 ?_
            refine lv_aload_n hx hb d_M_spanOf_328 rfl (lv_at hl 2 rfl) ?_
            refine pf_get (v := .ref (g.lk M 22)) (C := "BigRunnerModel") (T := FT10) (N := 45) hx hb (hw10 hB _) (fun _ h9 => h9) hown hK hP (lo_in hL t_M (by decide)) e112 rfl 22 (by decide) (wd_969 hB _) rfl d_M_spanOf_329 ?_
            refine lv_aload_n hx hb d_M_spanOf_332 rfl (lv_at hl 2 rfl) ?_
            refine pf_get (v := .int (nI (mtp - 1))) (C := "BigRunnerModel") (T := FT10) (N := 45) hx hb (hw10 hB _) (fun _ h9 => h9) hown hK hP (lo_in hL t_M (by decide)) e112 rfl 32 (by decide) (wd_979 hB _) rfl d_M_spanOf_333 ?_
            refine pf_lald (i := mtp - 1) hx hb hK hP (lo_in hL (lo_k11_22 hL _ t_M) (by decide)) eBB (lo_t54 hL _ (lo_k11_22 hL _ t_M)) (by omega) (by decide) d_M_spanOf_336 ?_
            refine lv_lsub hx hb d_M_spanOf_337 ?_
            refine lv_aload_n hx hb d_M_spanOf_338 rfl (lv_at hl 2 rfl) ?_
            refine pf_get (v := .ref (g.lk M 22)) (C := "BigRunnerModel") (T := FT10) (N := 45) hx hb (hw10 hB _) (fun _ h9 => h9) hown hK hP (lo_in hL t_M (by decide)) e112 rfl 22 (by decide) (wd_969 hB _) rfl d_M_spanOf_339 ?_
            refine lv_iload_n hx hb d_M_spanOf_342 rfl (lv_at hl 0 rfl) ?_
            refine pf_lald (i := (mtp - 1) - 1) hx hb hK hP (lo_in hL (lo_k11_22 hL _ t_M) (by decide)) eBB (lo_t54 hL _ (lo_k11_22 hL _ t_M)) (by omega) (by decide) d_M_spanOf_343 ?_
            refine lv_aload_n hx hb d_M_spanOf_344 rfl (lv_at hl 2 rfl) ?_
            refine pf_get (v := .ref (g.lk M 21)) (C := "BigRunnerModel") (T := FT10) (N := 45) hx hb (hw10 hB _) (fun _ h9 => h9) hown hK hP (lo_in hL t_M (by decide)) e112 rfl 21 (by decide) (wd_968 hB _) rfl d_M_spanOf_345 ?_
            refine lv_aload_n hx hb d_M_spanOf_348 rfl (lv_at hl 2 rfl) ?_
            refine pf_get (v := .int (nI (mtp - 1))) (C := "BigRunnerModel") (T := FT10) (N := 45) hx hb (hw10 hB _) (fun _ h9 => h9) hown hK hP (lo_in hL t_M (by decide)) e112 rfl 32 (by decide) (wd_979 hB _) rfl d_M_spanOf_349 ?_
            refine pf_lald (i := mtp - 1) hx hb hK hP (lo_in hL (lo_k11_21 hL _ t_M) (by decide)) eAA (lo_t53 hL _ (lo_k11_21 hL _ t_M)) (by omega) (by decide) d_M_spanOf_352 ?_
            refine lv_lsub hx hb d_M_spanOf_353 ?_
            have jn117 : ∀ (bj118 : Int32), bj118 = (bI (nzf (hUA (mtp - 1 - 1)) || nzf (hUB (mtp - 1)))) → ∀ (H : Heap) (locs : List Loc), va_P g.D vcl (va_pl g.LP f111) H → va_D (pc_A g s.heap.size) (va_pl g.LP f111) → va_S (pc_A g s.heap.size) s.heap H locs → W p l e ({ frames := 3, cells := 0, slots := 0, locals := 77 }) s m args below meth c H locs 0 0 (MQ below (va_Qv (fun f1 => (∃ (tp1 : Nat), (tp1 ≤ 80) ∧ (TR w mtp tp1) ∧ (∃ (ua1 : Nat → Int32) (a1 : Nat → Int64) (ub1 : Nat → Int32) (b1 : Nat → Int64), f1 (g.lk M 23) = .inl (g.ac (g.lk M 23), 80, .inl ua1) ∧ f1 (g.lk M 21) = .inl (g.ac (g.lk M 21), 80, .inr (.inl a1)) ∧ f1 (g.lk M 24) = .inl (g.ac (g.lk M 24), 80, .inl ub1) ∧ f1 (g.lk M 22) = .inl (g.ac (g.lk M 22), 80, .inr (.inl b1)) ∧ MR ua1 a1 ub1 b1 tp1 (xst en S w v)) ∧ f1 M = .inr (10, [.int mth, .ref (g.lk M 1), .int (nI mn), .ref (g.lk M 3), .ref (g.lk M 4), .int (nI mdr), .ref (g.lk M 6), .ref (g.lk M 7), .ref (g.lk M 8), .int (nI msz), .int (nI mix), .int (nI mdp), .ref (g.lk M 12), .int (nI mwt), .ref (g.lk M 14), .ref (g.lk M 15), .int (nI mop), .ref (g.lk M 17), .ref (g.lk M 18), .ref (g.lk M 19), .ref (g.lk M 20), .ref (g.lk M 21), .ref (g.lk M 22), .ref (g.lk M 23), .ref (g.lk M 24), .ref (g.lk M 25), .ref (g.lk M 26), .ref (g.lk M 27), .ref (g.lk M 28), .ref (g.lk M 29), .ref (g.lk M 30), .ref (g.lk M 31), .int (nI tp1), .ref (g.lk M 33), .ref (g.lk M 34), .ref (g.lk M 35), .int (nI mwa), .int (nI mgi), .int (nI mpc), .int (nI mst), .int (nI mtr), .int (nI msp), .int mma, .int mlg, .int mdu])) ∧ (IV g f1) ∧ (un [11, 45, 53, 54, 55, 56, 57] g f f1)) (pc_out g s.heap.size) (pc_A g s.heap.size)) args s 0 0 (pc_A g s.heap.size)) (F0 m 380 ls [.int bj118, .long (((hBB ((mtp - 1) - 1))) - ((hAA (mtp - 1)))), .long (((hAA ((mtp - 1) - 1))) - ((hBB (mtp - 1)))), .int (nI ((mtp - 1) - 1)), .ref M]) := by
              intro bj118 hbj119 H locs hP hD hS
              subst hbj119
              have jn120 : ∀ (bj121 : Int32), bj121 = (bI (nzf (hUB (mtp - 1 - 1)) || nzf (hUA (mtp - 1)))) → ∀ (H : Heap) (locs : List Loc), va_P g.D vcl (va_pl g.LP f111) H → va_D (pc_A g s.heap.size) (va_pl g.LP f111) → va_S (pc_A g s.heap.size) s.heap H locs → W p l e ({ frames := 3, cells := 0, slots := 0, locals := 77 }) s m args below meth c H locs 0 0 (MQ below (va_Qv (fun f1 => (∃ (tp1 : Nat), (tp1 ≤ 80) ∧ (TR w mtp tp1) ∧ (∃ (ua1 : Nat → Int32) (a1 : Nat → Int64) (ub1 : Nat → Int32) (b1 : Nat → Int64), f1 (g.lk M 23) = .inl (g.ac (g.lk M 23), 80, .inl ua1) ∧ f1 (g.lk M 21) = .inl (g.ac (g.lk M 21), 80, .inr (.inl a1)) ∧ f1 (g.lk M 24) = .inl (g.ac (g.lk M 24), 80, .inl ub1) ∧ f1 (g.lk M 22) = .inl (g.ac (g.lk M 22), 80, .inr (.inl b1)) ∧ MR ua1 a1 ub1 b1 tp1 (xst en S w v)) ∧ f1 M = .inr (10, [.int mth, .ref (g.lk M 1), .int (nI mn), .ref (g.lk M 3), .ref (g.lk M 4), .int (nI mdr), .ref (g.lk M 6), .ref (g.lk M 7), .ref (g.lk M 8), .int (nI msz), .int (nI mix), .int (nI mdp), .ref (g.lk M 12), .int (nI mwt), .ref (g.lk M 14), .ref (g.lk M 15), .int (nI mop), .ref (g.lk M 17), .ref (g.lk M 18), .ref (g.lk M 19), .ref (g.lk M 20), .ref (g.lk M 21), .ref (g.lk M 22), .ref (g.lk M 23), .ref (g.lk M 24), .ref (g.lk M 25), .ref (g.lk M 26), .ref (g.lk M 27), .ref (g.lk M 28), .ref (g.lk M 29), .ref (g.lk M 30), .ref (g.lk M 31), .int (nI tp1), .ref (g.lk M 33), .ref (g.lk M 34), .ref (g.lk M 35), .int (nI mwa), .int (nI mgi), .int (nI mpc), .int (nI mst), .int (nI mtr), .int (nI msp), .int mma, .int mlg, .int mdu])) ∧ (IV g f1) ∧ (un [11, 45, 53, 54, 55, 56, 57] g f f1)) (pc_out g s.heap.size) (pc_A g s.heap.size)) args s 0 0 (pc_A g s.heap.size)) (F0 m 406 ls [.int bj121, .int (bI (nzf (hUA (mtp - 1 - 1)) || nzf (hUB (mtp - 1)))), .long (((hBB ((mtp - 1) - 1))) - ((hAA (mtp - 1)))), .long (((hAA ((mtp - 1) - 1))) - ((hBB (mtp - 1)))), .int (nI ((mtp - 1) - 1)), .ref M]) := by
                intro bj121 hbj122 H locs hP hD hS
                subst hbj122
                have hI123 := iv_1 hI hL t_M (by decide) hk114 (oc_11.mk t_M (⟨mth, mn, mdr, msz, mix, mdp, mwt, mop, (mtp - 1), mwa, mgi, mpc, mst, mtr, msp, mma, mlg, mdu, e112, (by omega), (by omega), (by omega), (by omega), (by omega), (by omega), (by omega), (by omega), (by omega), (by omega), (by omega), (by omega), (by omega), (by omega), hmb14⟩))
                refine pcc_v (va_runV (C := "BigRunnerModel") (As := [.int (nI ((mtp - 1) - 1)), .long (((hAA ((mtp - 1) - 1))) - ((hBB (mtp - 1)))), .long (((hBB ((mtp - 1) - 1))) - ((hAA (mtp - 1)))), .int (bI (nzf (hUA (mtp - 1 - 1)) || nzf (hUB (mtp - 1)))), .int (bI (nzf (hUB (mtp - 1 - 1)) || nzf (hUA (mtp - 1))))]) (rest := []) ⟨hx, hb, hml, hown, tb_nil⟩ (m2_interval l g H.size f111 M (((mtp - 1) - 1)) ((((hAA ((mtp - 1) - 1))) - ((hBB (mtp - 1))))) ((((hBB ((mtp - 1) - 1))) - ((hAA (mtp - 1))))) ((nzf (hUA (mtp - 1 - 1)) || nzf (hUB (mtp - 1)))) ((nzf (hUB (mtp - 1 - 1)) || nzf (hUA (mtp - 1)))) hUA hUB hAA hBB hL t_M hI123 (by omega) eUA eUB eAA eBB) ⟨(callB_of 5 (tb_one (wd_1160 hB _)) tb_good1 rfl rfl rfl (wd_82 hB _) (wd_1157 hB _) (by decide +kernel) ⟨Nat.le_of_ble_eq_true rfl, Nat.le_of_ble_eq_true rfl⟩), (wd_1159 hB _), (wd_53 hB _)⟩ ⟨pe_bl, pg_recv (ci := 10) hK hP (lo_in hL t_M (by decide)) e112 rfl, pe_pre hB hK hP hD⟩ rfl rfl hl.1 rfl (lv_room (Nat.le_of_ble_eq_true rfl)) d_M_spanOf_406 ⟨Nat.le_of_ble_eq_true rfl, Nat.le_of_ble_eq_true rfl⟩) hS (fun f125 H locs hq126 hP hD hS => ?_)
                obtain ⟨aUA_127, aUB_128, aAA_129, aBB_130, hI1_131, hu1_132⟩ := hq126
                have hu := hu.tr hu1_132 (by decide)
                have eC := hu1_132.at (lo_k11_6 hL _ t_M) (by decide) eC
                have eA := hu1_132.at (lo_k11_7 hL _ t_M) (by decide) eA
                have eUN := hu1_132.at (lo_k11_19 hL _ t_M) (by decide) eUN
                have eOV := hu1_132.at (lo_k11_20 hL _ t_M) (by decide) eOV
                have eLW := hu1_132.at (lo_k11_17 hL _ t_M) (by decide) eLW
                have eHG := hu1_132.at (lo_k11_18 hL _ t_M) (by decide) eHG
                have e112 := hu1_132.at t_M (by decide) e112
                refine lv_goto (tgt := 441) hx hb d_M_spanOf_409 (by decide) ?_
                refine lv_aload_n hx hb d_M_spanOf_441 rfl (lv_at hl 2 rfl) ?_
                refine pf_get (v := .ref (g.lk M 25)) (C := "BigRunnerModel") (T := FT10) (N := 45) hx hb (hw10 hB _) (fun _ h9 => h9) hown hK hP (lo_in hL t_M (by decide)) e112 rfl 25 (by decide) (wd_972 hB _) rfl d_M_spanOf_442 ?_
                refine lv_iload_n hx hb d_M_spanOf_445 rfl (lv_at hl 0 rfl) ?_
                have jn133 : ∀ (bj134 : Int32) (H : Heap) (locs : List Loc), va_P g.D vcl (va_pl g.LP f125) H → va_D (pc_A g s.heap.size) (va_pl g.LP f125) → va_S (pc_A g s.heap.size) s.heap H locs → W p l e ({ frames := 3, cells := 0, slots := 0, locals := 77 }) s m args below meth c H locs 0 0 (MQ below (va_Qv (fun f1 => (∃ (tp1 : Nat), (tp1 ≤ 80) ∧ (TR w mtp tp1) ∧ (∃ (ua1 : Nat → Int32) (a1 : Nat → Int64) (ub1 : Nat → Int32) (b1 : Nat → Int64), f1 (g.lk M 23) = .inl (g.ac (g.lk M 23), 80, .inl ua1) ∧ f1 (g.lk M 21) = .inl (g.ac (g.lk M 21), 80, .inr (.inl a1)) ∧ f1 (g.lk M 24) = .inl (g.ac (g.lk M 24), 80, .inl ub1) ∧ f1 (g.lk M 22) = .inl (g.ac (g.lk M 22), 80, .inr (.inl b1)) ∧ MR ua1 a1 ub1 b1 tp1 (xst en S w v)) ∧ f1 M = .inr (10, [.int mth, .ref (g.lk M 1), .int (nI mn), .ref (g.lk M 3), .ref (g.lk M 4), .int (nI mdr), .ref (g.lk M 6), .ref (g.lk M 7), .ref (g.lk M 8), .int (nI msz), .int (nI mix), .int (nI mdp), .ref (g.lk M 12), .int (nI mwt), .ref (g.lk M 14), .ref (g.lk M 15), .int (nI mop), .ref (g.lk M 17), .ref (g.lk M 18), .ref (g.lk M 19), .ref (g.lk M 20), .ref (g.lk M 21), .ref (g.lk M 22), .ref (g.lk M 23), .ref (g.lk M 24), .ref (g.lk M 25), .ref (g.lk M 26), .ref (g.lk M 27), .ref (g.lk M 28), .ref (g.lk M 29), .ref (g.lk M 30), .ref (g.lk M 31), .int (nI tp1), .ref (g.lk M 33), .ref (g.lk M 34), .ref (g.lk M 35), .int (nI mwa), .int (nI mgi), .int (nI mpc), .int (nI mst), .int (nI mtr), .int (nI msp), .int mma, .int mlg, .int mdu])) ∧ (IV g f1) ∧ (un [11, 45, 53, 54, 55, 56, 57] g f f1)) (pc_out g s.heap.size) (pc_A g s.heap.size)) args s 0 0 (pc_A g s.heap.size)) (F0 m 490 ls [.int bj134, .int (nI ((mtp - 1) - 1)), .ref (g.lk M 25)]) := by
                  intro bj134 H locs hP hD hS
                  obtain ⟨h_136, e135⟩ := oc_57.of (lo_k11_25 hL _ t_M) (hI1_131.1 (g.lk M 25))
                  refine pf_zast (i := (mtp - 1) - 1) hx hb hK hP hD hS (lo_in hL (lo_k11_25 hL _ t_M) (by decide)) e135 (lo_t57 hL _ (lo_k11_25 hL _ t_M)) (by omega) (by decide) d_M_spanOf_490 (fun f138 H locs e139 k140 hP hD hS => ?_)
                  have eC := (k140 (g.lk M 6) (tg_ne (lo_k11_6 hL _ t_M) (lo_k11_25 hL _ t_M) (by decide))).trans eC
                  have eA := (k140 (g.lk M 7) (tg_ne (lo_k11_7 hL _ t_M) (lo_k11_25 hL _ t_M) (by decide))).trans eA
                  have eUN := (k140 (g.lk M 19) (tg_ne (lo_k11_19 hL _ t_M) (lo_k11_25 hL _ t_M) (by decide))).trans eUN
                  have eOV := (k140 (g.lk M 20) (tg_ne (lo_k11_20 hL _ t_M) (lo_k11_25 hL _ t_M) (by decide))).trans eOV
                  have eLW := (k140 (g.lk M 17) (tg_ne (lo_k11_17 hL _ t_M) (lo_k11_25 hL _ t_M) (by decide))).trans eLW
                  have eHG := (k140 (g.lk M 18) (tg_ne (lo_k11_18 hL _ t_M) (lo_k11_25 hL _ t_M) (by decide))).trans eHG
                  have e112 := (k140 M (tg_ne t_M (lo_k11_25 hL _ t_M) (by decide))).trans e112
                  have aUA_127 := (k140 (g.lk M 23) (tg_ne (lo_k11_23 hL _ t_M) (lo_k11_25 hL _ t_M) (by decide))).trans aUA_127
                  have aUB_128 := (k140 (g.lk M 24) (tg_ne (lo_k11_24 hL _ t_M) (lo_k11_25 hL _ t_M) (by decide))).trans aUB_128
                  have aAA_129 := (k140 (g.lk M 21) (tg_ne (lo_k11_21 hL _ t_M) (lo_k11_25 hL _ t_M) (by decide))).trans aAA_129
                  have aBB_130 := (k140 (g.lk M 22) (tg_ne (lo_k11_22 hL _ t_M) (lo_k11_25 hL _ t_M) (by decide))).trans aBB_130
                  have hu := hu.st k140 (lo_k11_25 hL _ t_M) (by decide)
                  have hk141 : ∀ b, b ≠ (g.lk M 25) → f138 b = f125 b := k140
                  refine lv_aload_n hx hb d_M_spanOf_491 rfl (lv_at hl 2 rfl) ?_
                  refine pf_get (v := .ref (g.lk M 8)) (C := "BigRunnerModel") (T := FT10) (N := 45) hx hb (hw10 hB _) (fun _ h9 => h9) hown hK hP (lo_in hL t_M (by decide)) e112 rfl 8 (by decide) (wd_955 hB _) rfl d_M_spanOf_492 ?_
                  refine lv_iload_n hx hb d_M_spanOf_495 rfl (lv_at hl 3 rfl) ?_
                  refine lv_aload_n hx hb d_M_spanOf_496 rfl (lv_at hl 2 rfl) ?_
                  refine pf_get (v := .ref (g.lk M 25)) (C := "BigRunnerModel") (T := FT10) (N := 45) hx hb (hw10 hB _) (fun _ h9 => h9) hown hK hP (lo_in hL t_M (by decide)) e112 rfl 25 (by decide) (wd_972 hB _) rfl d_M_spanOf_497 ?_
                  refine lv_iload_n hx hb d_M_spanOf_500 rfl (lv_at hl 0 rfl) ?_
                  refine pf_zald (i := (mtp - 1) - 1) hx hb hK hP (lo_in hL (lo_k11_25 hL _ t_M) (by decide)) e139 (lo_t57 hL _ (lo_k11_25 hL _ t_M)) (by omega) (by decide) d_M_spanOf_501 ?_
                  have hI142 := iv_1 hI1_131 hL (lo_k11_25 hL _ t_M) (by decide) hk141 (oc_57.mk (lo_k11_25 hL _ t_M) (⟨_, e139⟩))
                  obtain ⟨h_144, e143⟩ := oc_45.of (lo_k11_8 hL _ t_M) (hI142.1 (g.lk M 8))
                  refine pf_zast (i := p9) hx hb hK hP hD hS (lo_in hL (lo_k11_8 hL _ t_M) (by decide)) e143 (lo_t45 hL _ (lo_k11_8 hL _ t_M)) (by omega) (by decide) d_M_spanOf_502 (fun f146 H locs e147 k148 hP hD hS => ?_)
                  have eC := (k148 (g.lk M 6) (tg_ne (lo_k11_6 hL _ t_M) (lo_k11_8 hL _ t_M) (by decide))).trans eC
                  have eA := (k148 (g.lk M 7) (tg_ne (lo_k11_7 hL _ t_M) (lo_k11_8 hL _ t_M) (by decide))).trans eA
                  have eUN := (k148 (g.lk M 19) (tg_ne (lo_k11_19 hL _ t_M) (lo_k11_8 hL _ t_M) (by decide))).trans eUN
                  have eOV := (k148 (g.lk M 20) (tg_ne (lo_k11_20 hL _ t_M) (lo_k11_8 hL _ t_M) (by decide))).trans eOV
                  have eLW := (k148 (g.lk M 17) (tg_ne (lo_k11_17 hL _ t_M) (lo_k11_8 hL _ t_M) (by decide))).trans eLW
                  have eHG := (k148 (g.lk M 18) (tg_ne (lo_k11_18 hL _ t_M) (lo_k11_8 hL _ t_M) (by decide))).trans eHG
                  have e112 := (k148 M (tg_ne t_M (lo_k11_8 hL _ t_M) (by decide))).trans e112
                  have aUA_127 := (k148 (g.lk M 23) (tg_ne (lo_k11_23 hL _ t_M) (lo_k11_8 hL _ t_M) (by decide))).trans aUA_127
                  have aUB_128 := (k148 (g.lk M 24) (tg_ne (lo_k11_24 hL _ t_M) (lo_k11_8 hL _ t_M) (by decide))).trans aUB_128
                  have aAA_129 := (k148 (g.lk M 21) (tg_ne (lo_k11_21 hL _ t_M) (lo_k11_8 hL _ t_M) (by decide))).trans aAA_129
                  have aBB_130 := (k148 (g.lk M 22) (tg_ne (lo_k11_22 hL _ t_M) (lo_k11_8 hL _ t_M) (by decide))).trans aBB_130
                  have e139 := (k148 (g.lk M 25) (tg_ne (lo_k11_25 hL _ t_M) (lo_k11_8 hL _ t_M) (by decide))).trans e139
                  have hu := hu.st k148 (lo_k11_8 hL _ t_M) (by decide)
                  have hk149 : ∀ b, b ≠ (g.lk M 8) → f146 b = f138 b := k148
                  have hI150 := iv_1 hI142 hL (lo_k11_8 hL _ t_M) (by decide) hk149 (oc_45.mk (lo_k11_8 hL _ t_M) (⟨_, e147⟩))
                  exact pe_vret hx hb hr hlocks hK hP hD hS d_M_spanOf_503 ⟨⟨(mtp - 1), by omega, (TR.mk (fun _ => by omega) (fun _ => by omega) (fun _ _ => by omega)), ⟨_, _, _, _, aUA_127, aAA_129, aUB_128, aBB_130, (by rw [hwq, hS8]; exact MR_v (o := isum X9 (ineg Y9)) (show mtp - 1 = mtp - 1 - 1 + 1 by omega) hMR9 (r_sub hX1 hY2) (r_sub hX2 hY1))⟩, e112⟩, hI150, hu⟩
                refine lv_aload_n hx hb d_M_spanOf_446 rfl (lv_at hl 2 rfl) ?_
                refine pf_get (v := .ref (g.lk M 25)) (C := "BigRunnerModel") (T := FT10) (N := 45) hx hb (hw10 hB _) (fun _ h9 => h9) hown hK hP (lo_in hL t_M (by decide)) e112 rfl 25 (by decide) (wd_972 hB _) rfl d_M_spanOf_447 ?_
                refine lv_iload_n hx hb d_M_spanOf_450 rfl (lv_at hl 0 rfl) ?_
                obtain ⟨h_152, e151⟩ := oc_57.of (lo_k11_25 hL _ t_M) (hI1_131.1 (g.lk M 25))
                refine pf_zald (i := (mtp - 1) - 1) hx hb hK hP (lo_in hL (lo_k11_25 hL _ t_M) (by decide)) e151 (lo_t57 hL _ (lo_k11_25 hL _ t_M)) (by omega) (by decide) d_M_spanOf_451 ?_
                refine lv_if_eq (tgt := 489) hx hb d_M_spanOf_452 (by decide) (fun b154 => ?_) (fun b154 => ?_)
                · skip
                  replace b154 : (h_152 ((mtp - 1) - 1)) = nI 0 := b154
                  refine lv_iconst (v := nI 0) hx hb d_M_spanOf_489 (by decide) ?_
                  exact jn133 ((nI 0)) _ _ hP hD hS
                · skip
                  replace b154 : ¬ (h_152 ((mtp - 1) - 1)) = nI 0 := b154
                  refine lv_aload_n hx hb d_M_spanOf_455 rfl (lv_at hl 2 rfl) ?_
                  refine pf_get (v := .ref (g.lk M 25)) (C := "BigRunnerModel") (T := FT10) (N := 45) hx hb (hw10 hB _) (fun _ h9 => h9) hown hK hP (lo_in hL t_M (by decide)) e112 rfl 25 (by decide) (wd_972 hB _) rfl d_M_spanOf_456 ?_
                  refine lv_aload_n hx hb d_M_spanOf_459 rfl (lv_at hl 2 rfl) ?_
                  refine pf_get (v := .int (nI (mtp - 1))) (C := "BigRunnerModel") (T := FT10) (N := 45) hx hb (hw10 hB _) (fun _ h9 => h9) hown hK hP (lo_in hL t_M (by decide)) e112 rfl 32 (by decide) (wd_979 hB _) rfl d_M_spanOf_460 ?_
                  refine pf_zald (i := mtp - 1) hx hb hK hP (lo_in hL (lo_k11_25 hL _ t_M) (by decide)) e151 (lo_t57 hL _ (lo_k11_25 hL _ t_M)) (by omega) (by decide) d_M_spanOf_463 ?_
                  refine lv_if_eq (tgt := 489) hx hb d_M_spanOf_464 (by decide) (fun b155 => ?_) (fun b155 => ?_)
                  · skip
                    replace b155 : (h_152 (mtp - 1)) = nI 0 := b155
                    refine lv_iconst (v := nI 0) hx hb d_M_spanOf_489 (by decide) ?_
                    exact jn133 ((nI 0)) _ _ hP hD hS
                  · skip
                    replace b155 : ¬ (h_152 (mtp - 1)) = nI 0 := b155
                    refine lv_aload_n hx hb d_M_spanOf_467 rfl (lv_at hl 2 rfl) ?_
                    refine pf_get (v := .ref (g.lk M 23)) (C := "BigRunnerModel") (T := FT10) (N := 45) hx hb (hw10 hB _) (fun _ h9 => h9) hown hK hP (lo_in hL t_M (by decide)) e112 rfl 23 (by decide) (wd_970 hB _) rfl d_M_spanOf_468 ?_
                    refine lv_iload_n hx hb d_M_spanOf_471 rfl (lv_at hl 0 rfl) ?_
                    refine pf_zald (i := (mtp - 1) - 1) hx hb hK hP (lo_in hL (lo_k11_23 hL _ t_M) (by decide)) aUA_127 (lo_t55 hL _ (lo_k11_23 hL _ t_M)) (by omega) (by decide) d_M_spanOf_472 ?_
                    refine lv_if_ne (tgt := 489) hx hb d_M_spanOf_473 (by decide) (fun b156 => ?_) (fun b156 => ?_)
                    · skip
                      replace b156 : ¬ ((upd hUA ((mtp - 1) - 1) (bI (mU (nzf (hUA (mtp - 1 - 1)) || nzf (hUB (mtp - 1))) (((hAA ((mtp - 1) - 1))) - ((hBB (mtp - 1))))))) ((mtp - 1) - 1)) = nI 0 := b156
                      refine lv_iconst (v := nI 0) hx hb d_M_spanOf_489 (by decide) ?_
                      exact jn133 ((nI 0)) _ _ hP hD hS
                    · skip
                      replace b156 : ((upd hUA ((mtp - 1) - 1) (bI (mU (nzf (hUA (mtp - 1 - 1)) || nzf (hUB (mtp - 1))) (((hAA ((mtp - 1) - 1))) - ((hBB (mtp - 1))))))) ((mtp - 1) - 1)) = nI 0 := b156
                      refine lv_aload_n hx hb d_M_spanOf_476 rfl (lv_at hl 2 rfl) ?_
                      refine pf_get (v := .ref (g.lk M 24)) (C := "BigRunnerModel") (T := FT10) (N := 45) hx hb (hw10 hB _) (fun _ h9 => h9) hown hK hP (lo_in hL t_M (by decide)) e112 rfl 24 (by decide) (wd_971 hB _) rfl d_M_spanOf_477 ?_
                      refine lv_iload_n hx hb d_M_spanOf_480 rfl (lv_at hl 0 rfl) ?_
                      refine pf_zald (i := (mtp - 1) - 1) hx hb hK hP (lo_in hL (lo_k11_24 hL _ t_M) (by decide)) aUB_128 (lo_t56 hL _ (lo_k11_24 hL _ t_M)) (by omega) (by decide) d_M_spanOf_481 ?_
                      refine lv_if_ne (tgt := 489) hx hb d_M_spanOf_482 (by decide) (fun b157 => ?_) (fun b157 => ?_)
                      · skip
                        replace b157 : ¬ ((upd hUB ((mtp - 1) - 1) (bI (mU (nzf (hUB (mtp - 1 - 1)) || nzf (hUA (mtp - 1))) (((hBB ((mtp - 1) - 1))) - ((hAA (mtp - 1))))))) ((mtp - 1) - 1)) = nI 0 := b157
                        refine lv_iconst (v := nI 0) hx hb d_M_spanOf_489 (by decide) ?_
                        exact jn133 ((nI 0)) _ _ hP hD hS
                      · skip
                        replace b157 : ((upd hUB ((mtp - 1) - 1) (bI (mU (nzf (hUB (mtp - 1 - 1)) || nzf (hUA (mtp - 1))) (((hBB ((mtp - 1) - 1))) - ((hAA (mtp - 1))))))) ((mtp - 1) - 1)) = nI 0 := b157
                        refine lv_iconst (v := nI 1) hx hb d_M_spanOf_485 (by decide) ?_
                        refine lv_goto (tgt := 490) hx hb d_M_spanOf_486 (by decide) ?_
                        exact jn133 ((nI 1)) _ _ hP hD hS
              refine lv_aload_n hx hb d_M_spanOf_380 rfl (lv_at hl 2 rfl) ?_
              refine pf_get (v := .ref (g.lk M 24)) (C := "BigRunnerModel") (T := FT10) (N := 45) hx hb (hw10 hB _) (fun _ h9 => h9) hown hK hP (lo_in hL t_M (by decide)) e112 rfl 24 (by decide) (wd_971 hB _) rfl d_M_spanOf_381 ?_
              refine lv_iload_n hx hb d_M_spanOf_384 rfl (lv_at hl 0 rfl) ?_
              refine pf_zald (i := (mtp - 1) - 1) hx hb hK hP (lo_in hL (lo_k11_24 hL _ t_M) (by decide)) eUB (lo_t56 hL _ (lo_k11_24 hL _ t_M)) (by omega) (by decide) d_M_spanOf_385 ?_
              refine lv_if_ne (tgt := 401) hx hb d_M_spanOf_386 (by decide) (fun b158 => ?_) (fun b158 => ?_)
              · skip
                replace b158 : ¬ (hUB ((mtp - 1) - 1)) = nI 0 := b158
                refine lv_iconst (v := nI 1) hx hb d_M_spanOf_401 (by decide) ?_
                refine lv_goto (tgt := 406) hx hb d_M_spanOf_402 (by decide) ?_
                exact jn120 ((nI 1)) (by first | (simp [nzf, bI, b109, b110, b115, b116, b158]; done) | contradiction) _ _ hP hD hS
              · skip
                replace b158 : (hUB ((mtp - 1) - 1)) = nI 0 := b158
                refine lv_aload_n hx hb d_M_spanOf_389 rfl (lv_at hl 2 rfl) ?_
                refine pf_get (v := .ref (g.lk M 23)) (C := "BigRunnerModel") (T := FT10) (N := 45) hx hb (hw10 hB _) (fun _ h9 => h9) hown hK hP (lo_in hL t_M (by decide)) e112 rfl 23 (by decide) (wd_970 hB _) rfl d_M_spanOf_390 ?_
                refine lv_aload_n hx hb d_M_spanOf_393 rfl (lv_at hl 2 rfl) ?_
                refine pf_get (v := .int (nI (mtp - 1))) (C := "BigRunnerModel") (T := FT10) (N := 45) hx hb (hw10 hB _) (fun _ h9 => h9) hown hK hP (lo_in hL t_M (by decide)) e112 rfl 32 (by decide) (wd_979 hB _) rfl d_M_spanOf_394 ?_
                refine pf_zald (i := mtp - 1) hx hb hK hP (lo_in hL (lo_k11_23 hL _ t_M) (by decide)) eUA (lo_t55 hL _ (lo_k11_23 hL _ t_M)) (by omega) (by decide) d_M_spanOf_397 ?_
                refine lv_if_eq (tgt := 405) hx hb d_M_spanOf_398 (by decide) (fun b159 => ?_) (fun b159 => ?_)
                · skip
                  replace b159 : (hUA (mtp - 1)) = nI 0 := b159
                  refine lv_iconst (v := nI 0) hx hb d_M_spanOf_405 (by decide) ?_
                  exact jn120 ((nI 0)) (by first | (simp [nzf, bI, b109, b110, b115, b116, b158, b159]; done) | contradiction) _ _ hP hD hS
                · skip
                  replace b159 : ¬ (hUA (mtp - 1)) = nI 0 := b159
                  refine lv_iconst (v := nI 1) hx hb d_M_spanOf_401 (by decide) ?_
                  refine lv_goto (tgt := 406) hx hb d_M_spanOf_402 (by decide) ?_
                  exact jn120 ((nI 1)) (by first | (simp [nzf, bI, b109, b110, b115, b116, b158, b159]; done) | contradiction) _ _ hP hD hS
            refine lv_aload_n hx hb d_M_spanOf_354 rfl (lv_at hl 2 rfl) ?_
            refine pf_get (v := .ref (g.lk M 23)) (C := "BigRunnerModel") (T := FT10) (N := 45) hx hb (hw10 hB _) (fun _ h9 => h9) hown hK hP (lo_in hL t_M (by decide)) e112 rfl 23 (by decide) (wd_970 hB _) rfl d_M_spanOf_355 ?_
            refine lv_iload_n hx hb d_M_spanOf_358 rfl (lv_at hl 0 rfl) ?_
            refine pf_zald (i := (mtp - 1) - 1) hx hb hK hP (lo_in hL (lo_k11_23 hL _ t_M) (by decide)) eUA (lo_t55 hL _ (lo_k11_23 hL _ t_M)) (by omega) (by decide) d_M_spanOf_359 ?_
            refine lv_if_ne (tgt := 375) hx hb d_M_spanOf_360 (by decide) (fun b160 => ?_) (fun b160 => ?_)
            · skip
              replace b160 : ¬ (hUA ((mtp - 1) - 1)) = nI 0 := b160
              refine lv_iconst (v := nI 1) hx hb d_M_spanOf_375 (by decide) ?_
              refine lv_goto (tgt := 380) hx hb d_M_spanOf_376 (by decide) ?_
              exact jn117 ((nI 1)) (by first | (simp [nzf, bI, b109, b110, b115, b116, b160]; done) | contradiction) _ _ hP hD hS
            · skip
              replace b160 : (hUA ((mtp - 1) - 1)) = nI 0 := b160
              refine lv_aload_n hx hb d_M_spanOf_363 rfl (lv_at hl 2 rfl) ?_
              refine pf_get (v := .ref (g.lk M 24)) (C := "BigRunnerModel") (T := FT10) (N := 45) hx hb (hw10 hB _) (fun _ h9 => h9) hown hK hP (lo_in hL t_M (by decide)) e112 rfl 24 (by decide) (wd_971 hB _) rfl d_M_spanOf_364 ?_
              refine lv_aload_n hx hb d_M_spanOf_367 rfl (lv_at hl 2 rfl) ?_
              refine pf_get (v := .int (nI (mtp - 1))) (C := "BigRunnerModel") (T := FT10) (N := 45) hx hb (hw10 hB _) (fun _ h9 => h9) hown hK hP (lo_in hL t_M (by decide)) e112 rfl 32 (by decide) (wd_979 hB _) rfl d_M_spanOf_368 ?_
              refine pf_zald (i := mtp - 1) hx hb hK hP (lo_in hL (lo_k11_24 hL _ t_M) (by decide)) eUB (lo_t56 hL _ (lo_k11_24 hL _ t_M)) (by omega) (by decide) d_M_spanOf_371 ?_
              refine lv_if_eq (tgt := 379) hx hb d_M_spanOf_372 (by decide) (fun b161 => ?_) (fun b161 => ?_)
              · skip
                replace b161 : (hUB (mtp - 1)) = nI 0 := b161
                refine lv_iconst (v := nI 0) hx hb d_M_spanOf_379 (by decide) ?_
                exact jn117 ((nI 0)) (by first | (simp [nzf, bI, b109, b110, b115, b116, b160, b161]; done) | contradiction) _ _ hP hD hS
              · skip
                replace b161 : ¬ (hUB (mtp - 1)) = nI 0 := b161
                refine lv_iconst (v := nI 1) hx hb d_M_spanOf_375 (by decide) ?_
                refine lv_goto (tgt := 380) hx hb d_M_spanOf_376 (by decide) ?_
                exact jn117 ((nI 1)) (by first | (simp [nzf, bI, b109, b110, b115, b116, b160, b161]; done) | contradiction) _ _ hP hD hS
        · skip
          replace b115 := (nI_eq (a := 3) (b := 2) (by omega) (by omega)).mp b115
          exfalso; omega
      · skip
        replace b110 := (nI_eq (a := 3) (b := 7) (by omega) (by omega)).mp b110
        exfalso; omega
    · skip
      replace b109 := mt (nI_leI (a := 2) (b := 3) (by omega) (by omega)).mpr b109
      exfalso; omega
  · skip
    rw [hwq] at hw
    clear hv3 hwt
    clear hw1
    clear hw7
    have hw2 := hw2 (by omega) (by omega)
    obtain ⟨Y9, S8, hS8, hY1, hY2, hMR8⟩ := MR_pop hMR (by omega)
    obtain ⟨X9, S9, hS9, hX1, hX2, hMR9⟩ := MR_pop hMR8 (by omega)
    rw [hS9] at hS8
    refine lv_aload_n hx hb d_M_spanOf_0 rfl (lv_at hl 0 rfl) ?_
    refine pf_get (v := .ref (g.lk M 6)) (C := "BigRunnerModel") (T := FT10) (N := 45) hx hb (hw10 hB _) (fun _ h9 => h9) hown hK hP (lo_in hL t_M (by decide)) eM rfl 6 (by decide) (wd_953 hB _) rfl d_M_spanOf_1 ?_
    refine lv_iload_n hx hb d_M_spanOf_4 rfl (lv_at hl 1 rfl) ?_
    refine pf_iald (i := p9) hx hb hK hP (lo_in hL (lo_k11_6 hL _ t_M) (by decide)) eC (lo_t43 hL _ (lo_k11_6 hL _ t_M)) (by omega) (by decide) d_M_spanOf_5 ?_
    refine lv_topi (fun z_ hz_ => ?_)
    obtain rfl : z_ = nI 4 := hz_.trans hw
    refine lv_istore_n (lv' := [(2, .int (nI 4)), (0, .ref M), (1, .int (nI p9))]) hx hb d_M_spanOf_6 rfl hl (by decide) rfl (fun ls hl => ?_)
    refine lv_iload_n hx hb d_M_spanOf_7 rfl (lv_at hl 0 rfl) ?_
    refine lv_iconst (v := nI 2) hx hb d_M_spanOf_8 (by decide) ?_
    refine lv_icmp_ge (tgt := 121) hx hb d_M_spanOf_9 (by decide) (fun b162 => ?_) (fun b162 => ?_)
    · skip
      replace b162 := (nI_leI (a := 2) (b := 4) (by omega) (by omega)).mp b162
      refine lv_iload_n hx hb d_M_spanOf_121 rfl (lv_at hl 0 rfl) ?_
      refine lv_bipush (v := nI 7) hx hb d_M_spanOf_122 (by decide) ?_
      refine lv_icmp_ne (tgt := 201) hx hb d_M_spanOf_124 (by decide) (fun b163 => ?_) (fun b163 => ?_)
      · skip
        replace b163 := mt (nI_eq (a := 4) (b := 7) (by omega) (by omega)).mpr b163
        refine lv_aload_n hx hb d_M_spanOf_201 rfl (lv_at hl 1 rfl) ?_
        refine lv_dup hx hb d_M_spanOf_202 rfl ?_
        refine pf_get (v := .int (nI mtp)) (C := "BigRunnerModel") (T := FT10) (N := 45) hx hb (hw10 hB _) (fun _ h9 => h9) hown hK hP (lo_in hL t_M (by decide)) eM rfl 32 (by decide) (wd_979 hB _) rfl d_M_spanOf_203 ?_
        refine lv_iconst (v := nI 1) hx hb d_M_spanOf_206 (by decide) ?_
        refine pf_isubN (x := mtp) (y := 1) hx hb (by omega) d_M_spanOf_207 ?_
        refine pf_put (v := .int (nI (mtp - 1))) (ty := .int) (fs' := [.int mth, .ref (g.lk M 1), .int (nI mn), .ref (g.lk M 3), .ref (g.lk M 4), .int (nI mdr), .ref (g.lk M 6), .ref (g.lk M 7), .ref (g.lk M 8), .int (nI msz), .int (nI mix), .int (nI mdp), .ref (g.lk M 12), .int (nI mwt), .ref (g.lk M 14), .ref (g.lk M 15), .int (nI mop), .ref (g.lk M 17), .ref (g.lk M 18), .ref (g.lk M 19), .ref (g.lk M 20), .ref (g.lk M 21), .ref (g.lk M 22), .ref (g.lk M 23), .ref (g.lk M 24), .ref (g.lk M 25), .ref (g.lk M 26), .ref (g.lk M 27), .ref (g.lk M 28), .ref (g.lk M 29), .ref (g.lk M 30), .ref (g.lk M 31), .int (nI (mtp - 1)), .ref (g.lk M 33), .ref (g.lk M 34), .ref (g.lk M 35), .int (nI mwa), .int (nI mgi), .int (nI mpc), .int (nI mst), .int (nI mtr), .int (nI msp), .int mma, .int mlg, .int mdu]) (C := "BigRunnerModel") (T := FT10) (N := 45) hx hb (hw10 hB _) (fun _ h9 => h9) TY10 ok10 nm10 hown hK hP hD hS (lo_in hL t_M (by decide)) eM rfl 32 (by decide) (wd_979 hB _) rfl (by decide +kernel) rfl rfl (Nat.le_of_ble_eq_true rfl) rfl d_M_spanOf_208 (fun f164 H locs e165 k166 hP hD hS => ?_)
        have eC := (k166 (g.lk M 6) (tg_ne (lo_k11_6 hL _ t_M) t_M (by decide))).trans eC
        have eA := (k166 (g.lk M 7) (tg_ne (lo_k11_7 hL _ t_M) t_M (by decide))).trans eA
        have eUN := (k166 (g.lk M 19) (tg_ne (lo_k11_19 hL _ t_M) t_M (by decide))).trans eUN
        have eOV := (k166 (g.lk M 20) (tg_ne (lo_k11_20 hL _ t_M) t_M (by decide))).trans eOV
        have eUA := (k166 (g.lk M 23) (tg_ne (lo_k11_23 hL _ t_M) t_M (by decide))).trans eUA
        have eUB := (k166 (g.lk M 24) (tg_ne (lo_k11_24 hL _ t_M) t_M (by decide))).trans eUB
        have eLW := (k166 (g.lk M 17) (tg_ne (lo_k11_17 hL _ t_M) t_M (by decide))).trans eLW
        have eHG := (k166 (g.lk M 18) (tg_ne (lo_k11_18 hL _ t_M) t_M (by decide))).trans eHG
        have eAA := (k166 (g.lk M 21) (tg_ne (lo_k11_21 hL _ t_M) t_M (by decide))).trans eAA
        have eBB := (k166 (g.lk M 22) (tg_ne (lo_k11_22 hL _ t_M) t_M (by decide))).trans eBB
        have hu := hu.st k166 t_M (by decide)
        have hk167 : ∀ b, b ≠ M → f164 b = f b := k166
        refine lv_aload_n hx hb d_M_spanOf_211 rfl (lv_at hl 1 rfl) ?_
        refine pf_get (v := .int (nI (mtp - 1))) (C := "BigRunnerModel") (T := FT10) (N := 45) hx hb (hw10 hB _) (fun _ h9 => h9) hown hK hP (lo_in hL t_M (by decide)) e165 rfl 32 (by decide) (wd_979 hB _) rfl d_M_spanOf_212 ?_
        refine lv_iconst (v := nI 1) hx hb d_M_spanOf_215 (by decide) ?_
        refine pf_isubN (x := mtp - 1) (y := 1) hx hb (by omega) d_M_spanOf_216 ?_
        refine lv_istore_n (lv' := [(3, .int (nI ((mtp - 1) - 1))), (2, .int (nI 4)), (0, .ref M), (1, .int (nI p9))]) hx hb d_M_spanOf_217 rfl hl (by decide) rfl (fun ls hl => ?_)
        refine lv_iload_n hx hb d_M_spanOf_218 rfl (lv_at hl 1 rfl) ?_
        refine lv_iconst (v := nI 2) hx hb d_M_spanOf_219 (by decide) ?_
        refine lv_icmp_ne (tgt := 315) hx hb d_M_spanOf_220 (by decide) (fun b168 => ?_) (fun b168 => ?_)
        · skip
          replace b168 := mt (nI_eq (a := 4) (b := 2) (by omega) (by omega)).mpr b168
          refine lv_iload_n hx hb d_M_spanOf_315 rfl (lv_at hl 1 rfl) ?_
          refine lv_iconst (v := nI 3) hx hb d_M_spanOf_316 (by decide) ?_
          refine lv_icmp_ne (tgt := 412) hx hb d_M_spanOf_317 (by decide) (fun b169 => ?_) (fun b169 => ?_)
          · skip
            replace b169 := mt (nI_eq (a := 4) (b := 3) (by omega) (by omega)).mpr b169
            refine lv_iload_n hx hb d_M_spanOf_412 rfl (lv_at hl 1 rfl) ?_
            refine lv_iconst (v := nI 4) hx hb d_M_spanOf_413 (by decide) ?_
            refine lv_icmp_ne (tgt := 425) hx hb d_M_spanOf_414 (by decide) (fun b170 => ?_) (fun b170 => ?_)
            · skip
              replace b170 := mt (nI_eq (a := 4) (b := 4) (by omega) (by omega)).mpr b170
              exfalso; omega
            · skip
              replace b170 := (nI_eq (a := 4) (b := 4) (by omega) (by omega)).mp b170
              refine lv_aload_n hx hb d_M_spanOf_417 rfl (lv_at hl 2 rfl) ?_
              refine lv_iload_n hx hb d_M_spanOf_418 rfl (lv_at hl 0 rfl) ?_
              have hI171 := iv_1 hI hL t_M (by decide) hk167 (oc_11.mk t_M (⟨mth, mn, mdr, msz, mix, mdp, mwt, mop, (mtp - 1), mwa, mgi, mpc, mst, mtr, msp, mma, mlg, mdu, e165, (by omega), (by omega), (by omega), (by omega), (by omega), (by omega), (by omega), (by omega), (by omega), (by omega), (by omega), (by omega), (by omega), (by omega), hmb14⟩))
              refine pcc_v (va_runV (C := "BigRunnerModel") (As := [.int (nI ((mtp - 1) - 1))]) (rest := []) ⟨hx, hb, hml, hown, tb_nil⟩ (m2_spanProduct l g H.size f164 M (((mtp - 1) - 1)) hUA hUB hAA hBB hL t_M hI171 (by omega) eUA eUB eAA eBB) ⟨(callB_of 1 (tb_one (wd_1166 hB _)) tb_good1 rfl rfl rfl (wd_82 hB _) (wd_1163 hB _) (by decide +kernel) ⟨Nat.le_of_ble_eq_true rfl, Nat.le_of_ble_eq_true rfl⟩), (wd_1165 hB _), (wd_54 hB _)⟩ ⟨pe_bl, pg_recv (ci := 10) hK hP (lo_in hL t_M (by decide)) e165 rfl, pe_pre hB hK hP hD⟩ rfl rfl hl.1 rfl (lv_room (Nat.le_of_ble_eq_true rfl)) d_M_spanOf_419 ⟨Nat.le_of_ble_eq_true rfl, Nat.le_of_ble_eq_true rfl⟩) hS (fun f173 H locs hq174 hP hD hS => ?_)
              obtain ⟨aUA_175, aUB_176, aAA_177, aBB_178, hI1_179, hu1_180⟩ := hq174
              have hu := hu.tr hu1_180 (by decide)
              have eC := hu1_180.at (lo_k11_6 hL _ t_M) (by decide) eC
              have eA := hu1_180.at (lo_k11_7 hL _ t_M) (by decide) eA
              have eUN := hu1_180.at (lo_k11_19 hL _ t_M) (by decide) eUN
              have eOV := hu1_180.at (lo_k11_20 hL _ t_M) (by decide) eOV
              have eLW := hu1_180.at (lo_k11_17 hL _ t_M) (by decide) eLW
              have eHG := hu1_180.at (lo_k11_18 hL _ t_M) (by decide) eHG
              have e165 := hu1_180.at t_M (by decide) e165
              refine lv_goto (tgt := 441) hx hb d_M_spanOf_422 (by decide) ?_
              refine lv_aload_n hx hb d_M_spanOf_441 rfl (lv_at hl 2 rfl) ?_
              refine pf_get (v := .ref (g.lk M 25)) (C := "BigRunnerModel") (T := FT10) (N := 45) hx hb (hw10 hB _) (fun _ h9 => h9) hown hK hP (lo_in hL t_M (by decide)) e165 rfl 25 (by decide) (wd_972 hB _) rfl d_M_spanOf_442 ?_
              refine lv_iload_n hx hb d_M_spanOf_445 rfl (lv_at hl 0 rfl) ?_
              have jn181 : ∀ (bj182 : Int32) (H : Heap) (locs : List Loc), va_P g.D vcl (va_pl g.LP f173) H → va_D (pc_A g s.heap.size) (va_pl g.LP f173) → va_S (pc_A g s.heap.size) s.heap H locs → W p l e ({ frames := 3, cells := 0, slots := 0, locals := 77 }) s m args below meth c H locs 0 0 (MQ below (va_Qv (fun f1 => (∃ (tp1 : Nat), (tp1 ≤ 80) ∧ (TR w mtp tp1) ∧ (∃ (ua1 : Nat → Int32) (a1 : Nat → Int64) (ub1 : Nat → Int32) (b1 : Nat → Int64), f1 (g.lk M 23) = .inl (g.ac (g.lk M 23), 80, .inl ua1) ∧ f1 (g.lk M 21) = .inl (g.ac (g.lk M 21), 80, .inr (.inl a1)) ∧ f1 (g.lk M 24) = .inl (g.ac (g.lk M 24), 80, .inl ub1) ∧ f1 (g.lk M 22) = .inl (g.ac (g.lk M 22), 80, .inr (.inl b1)) ∧ MR ua1 a1 ub1 b1 tp1 (xst en S w v)) ∧ f1 M = .inr (10, [.int mth, .ref (g.lk M 1), .int (nI mn), .ref (g.lk M 3), .ref (g.lk M 4), .int (nI mdr), .ref (g.lk M 6), .ref (g.lk M 7), .ref (g.lk M 8), .int (nI msz), .int (nI mix), .int (nI mdp), .ref (g.lk M 12), .int (nI mwt), .ref (g.lk M 14), .ref (g.lk M 15), .int (nI mop), .ref (g.lk M 17), .ref (g.lk M 18), .ref (g.lk M 19), .ref (g.lk M 20), .ref (g.lk M 21), .ref (g.lk M 22), .ref (g.lk M 23), .ref (g.lk M 24), .ref (g.lk M 25), .ref (g.lk M 26), .ref (g.lk M 27), .ref (g.lk M 28), .ref (g.lk M 29), .ref (g.lk M 30), .ref (g.lk M 31), .int (nI tp1), .ref (g.lk M 33), .ref (g.lk M 34), .ref (g.lk M 35), .int (nI mwa), .int (nI mgi), .int (nI mpc), .int (nI mst), .int (nI mtr), .int (nI msp), .int mma, .int mlg, .int mdu])) ∧ (IV g f1) ∧ (un [11, 45, 53, 54, 55, 56, 57] g f f1)) (pc_out g s.heap.size) (pc_A g s.heap.size)) args s 0 0 (pc_A g s.heap.size)) (F0 m 490 ls [.int bj182, .int (nI ((mtp - 1) - 1)), .ref (g.lk M 25)]) := by
                intro bj182 H locs hP hD hS
                obtain ⟨h_184, e183⟩ := oc_57.of (lo_k11_25 hL _ t_M) (hI1_179.1 (g.lk M 25))
                refine pf_zast (i := (mtp - 1) - 1) hx hb hK hP hD hS (lo_in hL (lo_k11_25 hL _ t_M) (by decide)) e183 (lo_t57 hL _ (lo_k11_25 hL _ t_M)) (by omega) (by decide) d_M_spanOf_490 (fun f186 H locs e187 k188 hP hD hS => ?_)
                have eC := (k188 (g.lk M 6) (tg_ne (lo_k11_6 hL _ t_M) (lo_k11_25 hL _ t_M) (by decide))).trans eC
                have eA := (k188 (g.lk M 7) (tg_ne (lo_k11_7 hL _ t_M) (lo_k11_25 hL _ t_M) (by decide))).trans eA
                have eUN := (k188 (g.lk M 19) (tg_ne (lo_k11_19 hL _ t_M) (lo_k11_25 hL _ t_M) (by decide))).trans eUN
                have eOV := (k188 (g.lk M 20) (tg_ne (lo_k11_20 hL _ t_M) (lo_k11_25 hL _ t_M) (by decide))).trans eOV
                have eLW := (k188 (g.lk M 17) (tg_ne (lo_k11_17 hL _ t_M) (lo_k11_25 hL _ t_M) (by decide))).trans eLW
                have eHG := (k188 (g.lk M 18) (tg_ne (lo_k11_18 hL _ t_M) (lo_k11_25 hL _ t_M) (by decide))).trans eHG
                have e165 := (k188 M (tg_ne t_M (lo_k11_25 hL _ t_M) (by decide))).trans e165
                have aUA_175 := (k188 (g.lk M 23) (tg_ne (lo_k11_23 hL _ t_M) (lo_k11_25 hL _ t_M) (by decide))).trans aUA_175
                have aUB_176 := (k188 (g.lk M 24) (tg_ne (lo_k11_24 hL _ t_M) (lo_k11_25 hL _ t_M) (by decide))).trans aUB_176
                have aAA_177 := (k188 (g.lk M 21) (tg_ne (lo_k11_21 hL _ t_M) (lo_k11_25 hL _ t_M) (by decide))).trans aAA_177
                have aBB_178 := (k188 (g.lk M 22) (tg_ne (lo_k11_22 hL _ t_M) (lo_k11_25 hL _ t_M) (by decide))).trans aBB_178
                have hu := hu.st k188 (lo_k11_25 hL _ t_M) (by decide)
                have hk189 : ∀ b, b ≠ (g.lk M 25) → f186 b = f173 b := k188
                refine lv_aload_n hx hb d_M_spanOf_491 rfl (lv_at hl 2 rfl) ?_
                refine pf_get (v := .ref (g.lk M 8)) (C := "BigRunnerModel") (T := FT10) (N := 45) hx hb (hw10 hB _) (fun _ h9 => h9) hown hK hP (lo_in hL t_M (by decide)) e165 rfl 8 (by decide) (wd_955 hB _) rfl d_M_spanOf_492 ?_
                refine lv_iload_n hx hb d_M_spanOf_495 rfl (lv_at hl 3 rfl) ?_
                refine lv_aload_n hx hb d_M_spanOf_496 rfl (lv_at hl 2 rfl) ?_
                refine pf_get (v := .ref (g.lk M 25)) (C := "BigRunnerModel") (T := FT10) (N := 45) hx hb (hw10 hB _) (fun _ h9 => h9) hown hK hP (lo_in hL t_M (by decide)) e165 rfl 25 (by decide) (wd_972 hB _) rfl d_M_spanOf_497 ?_
                refine lv_iload_n hx hb d_M_spanOf_500 rfl (lv_at hl 0 rfl) ?_
                refine pf_zald (i := (mtp - 1) - 1) hx hb hK hP (lo_in hL (lo_k11_25 hL _ t_M) (by decide)) e187 (lo_t57 hL _ (lo_k11_25 hL _ t_M)) (by omega) (by decide) d_M_spanOf_501 ?_
                have hI190 := iv_1 hI1_179 hL (lo_k11_25 hL _ t_M) (by decide) hk189 (oc_57.mk (lo_k11_25 hL _ t_M) (⟨_, e187⟩))
                obtain ⟨h_192, e191⟩ := oc_45.of (lo_k11_8 hL _ t_M) (hI190.1 (g.lk M 8))
                refine pf_zast (i := p9) hx hb hK hP hD hS (lo_in hL (lo_k11_8 hL _ t_M) (by decide)) e191 (lo_t45 hL _ (lo_k11_8 hL _ t_M)) (by omega) (by decide) d_M_spanOf_502 (fun f194 H locs e195 k196 hP hD hS => ?_)
                have eC := (k196 (g.lk M 6) (tg_ne (lo_k11_6 hL _ t_M) (lo_k11_8 hL _ t_M) (by decide))).trans eC
                have eA := (k196 (g.lk M 7) (tg_ne (lo_k11_7 hL _ t_M) (lo_k11_8 hL _ t_M) (by decide))).trans eA
                have eUN := (k196 (g.lk M 19) (tg_ne (lo_k11_19 hL _ t_M) (lo_k11_8 hL _ t_M) (by decide))).trans eUN
                have eOV := (k196 (g.lk M 20) (tg_ne (lo_k11_20 hL _ t_M) (lo_k11_8 hL _ t_M) (by decide))).trans eOV
                have eLW := (k196 (g.lk M 17) (tg_ne (lo_k11_17 hL _ t_M) (lo_k11_8 hL _ t_M) (by decide))).trans eLW
                have eHG := (k196 (g.lk M 18) (tg_ne (lo_k11_18 hL _ t_M) (lo_k11_8 hL _ t_M) (by decide))).trans eHG
                have e165 := (k196 M (tg_ne t_M (lo_k11_8 hL _ t_M) (by decide))).trans e165
                have aUA_175 := (k196 (g.lk M 23) (tg_ne (lo_k11_23 hL _ t_M) (lo_k11_8 hL _ t_M) (by decide))).trans aUA_175
                have aUB_176 := (k196 (g.lk M 24) (tg_ne (lo_k11_24 hL _ t_M) (lo_k11_8 hL _ t_M) (by decide))).trans aUB_176
                have aAA_177 := (k196 (g.lk M 21) (tg_ne (lo_k11_21 hL _ t_M) (lo_k11_8 hL _ t_M) (by decide))).trans aAA_177
                have aBB_178 := (k196 (g.lk M 22) (tg_ne (lo_k11_22 hL _ t_M) (lo_k11_8 hL _ t_M) (by decide))).trans aBB_178
                have e187 := (k196 (g.lk M 25) (tg_ne (lo_k11_25 hL _ t_M) (lo_k11_8 hL _ t_M) (by decide))).trans e187
                have hu := hu.st k196 (lo_k11_8 hL _ t_M) (by decide)
                have hk197 : ∀ b, b ≠ (g.lk M 8) → f194 b = f186 b := k196
                have hI198 := iv_1 hI190 hL (lo_k11_8 hL _ t_M) (by decide) hk197 (oc_45.mk (lo_k11_8 hL _ t_M) (⟨_, e195⟩))
                exact pe_vret hx hb hr hlocks hK hP hD hS d_M_spanOf_503 ⟨⟨(mtp - 1), by omega, (TR.mk (fun _ => by omega) (fun _ => by omega) (fun _ _ => by omega)), ⟨_, _, _, _, aUA_175, aAA_177, aUB_176, aBB_178, (by rw [hwq, hS8]; exact MR_v (o := imul X9 Y9) (show mtp - 1 = mtp - 1 - 1 + 1 by omega) hMR9 (r_mul hX1 hX2 (show RO (hUA (mtp - 1 - 1 + 1)) (hAA (mtp - 1 - 1 + 1)) Y9.1 by rw [show mtp - 1 - 1 + 1 = mtp - 1 by omega]; exact hY1) (show RO (hUB (mtp - 1 - 1 + 1)) (hBB (mtp - 1 - 1 + 1)) Y9.2 by rw [show mtp - 1 - 1 + 1 = mtp - 1 by omega]; exact hY2)).1 (r_mul hX1 hX2 (show RO (hUA (mtp - 1 - 1 + 1)) (hAA (mtp - 1 - 1 + 1)) Y9.1 by rw [show mtp - 1 - 1 + 1 = mtp - 1 by omega]; exact hY1) (show RO (hUB (mtp - 1 - 1 + 1)) (hBB (mtp - 1 - 1 + 1)) Y9.2 by rw [show mtp - 1 - 1 + 1 = mtp - 1 by omega]; exact hY2)).2)⟩, e165⟩, hI198, hu⟩
              refine lv_aload_n hx hb d_M_spanOf_446 rfl (lv_at hl 2 rfl) ?_
              refine pf_get (v := .ref (g.lk M 25)) (C := "BigRunnerModel") (T := FT10) (N := 45) hx hb (hw10 hB _) (fun _ h9 => h9) hown hK hP (lo_in hL t_M (by decide)) e165 rfl 25 (by decide) (wd_972 hB _) rfl d_M_spanOf_447 ?_
              refine lv_iload_n hx hb d_M_spanOf_450 rfl (lv_at hl 0 rfl) ?_
              obtain ⟨h_200, e199⟩ := oc_57.of (lo_k11_25 hL _ t_M) (hI1_179.1 (g.lk M 25))
              refine pf_zald (i := (mtp - 1) - 1) hx hb hK hP (lo_in hL (lo_k11_25 hL _ t_M) (by decide)) e199 (lo_t57 hL _ (lo_k11_25 hL _ t_M)) (by omega) (by decide) d_M_spanOf_451 ?_
              refine lv_if_eq (tgt := 489) hx hb d_M_spanOf_452 (by decide) (fun b202 => ?_) (fun b202 => ?_)
              · skip
                replace b202 : (h_200 ((mtp - 1) - 1)) = nI 0 := b202
                refine lv_iconst (v := nI 0) hx hb d_M_spanOf_489 (by decide) ?_
                exact jn181 ((nI 0)) _ _ hP hD hS
              · skip
                replace b202 : ¬ (h_200 ((mtp - 1) - 1)) = nI 0 := b202
                refine lv_aload_n hx hb d_M_spanOf_455 rfl (lv_at hl 2 rfl) ?_
                refine pf_get (v := .ref (g.lk M 25)) (C := "BigRunnerModel") (T := FT10) (N := 45) hx hb (hw10 hB _) (fun _ h9 => h9) hown hK hP (lo_in hL t_M (by decide)) e165 rfl 25 (by decide) (wd_972 hB _) rfl d_M_spanOf_456 ?_
                refine lv_aload_n hx hb d_M_spanOf_459 rfl (lv_at hl 2 rfl) ?_
                refine pf_get (v := .int (nI (mtp - 1))) (C := "BigRunnerModel") (T := FT10) (N := 45) hx hb (hw10 hB _) (fun _ h9 => h9) hown hK hP (lo_in hL t_M (by decide)) e165 rfl 32 (by decide) (wd_979 hB _) rfl d_M_spanOf_460 ?_
                refine pf_zald (i := mtp - 1) hx hb hK hP (lo_in hL (lo_k11_25 hL _ t_M) (by decide)) e199 (lo_t57 hL _ (lo_k11_25 hL _ t_M)) (by omega) (by decide) d_M_spanOf_463 ?_
                refine lv_if_eq (tgt := 489) hx hb d_M_spanOf_464 (by decide) (fun b203 => ?_) (fun b203 => ?_)
                · skip
                  replace b203 : (h_200 (mtp - 1)) = nI 0 := b203
                  refine lv_iconst (v := nI 0) hx hb d_M_spanOf_489 (by decide) ?_
                  exact jn181 ((nI 0)) _ _ hP hD hS
                · skip
                  replace b203 : ¬ (h_200 (mtp - 1)) = nI 0 := b203
                  refine lv_aload_n hx hb d_M_spanOf_467 rfl (lv_at hl 2 rfl) ?_
                  refine pf_get (v := .ref (g.lk M 23)) (C := "BigRunnerModel") (T := FT10) (N := 45) hx hb (hw10 hB _) (fun _ h9 => h9) hown hK hP (lo_in hL t_M (by decide)) e165 rfl 23 (by decide) (wd_970 hB _) rfl d_M_spanOf_468 ?_
                  refine lv_iload_n hx hb d_M_spanOf_471 rfl (lv_at hl 0 rfl) ?_
                  refine pf_zald (i := (mtp - 1) - 1) hx hb hK hP (lo_in hL (lo_k11_23 hL _ t_M) (by decide)) aUA_175 (lo_t55 hL _ (lo_k11_23 hL _ t_M)) (by omega) (by decide) d_M_spanOf_472 ?_
                  refine lv_if_ne (tgt := 489) hx hb d_M_spanOf_473 (by decide) (fun b204 => ?_) (fun b204 => ?_)
                  · skip
                    replace b204 : ¬ ((upd hUA ((mtp - 1) - 1) (bI (mU (spf (hUA ((mtp - 1) - 1)) (hUB ((mtp - 1) - 1)) (hAA ((mtp - 1) - 1)) (hBB ((mtp - 1) - 1)) (hUA (((mtp - 1) - 1) + 1)) (hUB (((mtp - 1) - 1) + 1)) (hAA (((mtp - 1) - 1) + 1)) (hBB (((mtp - 1) - 1) + 1))) (spu (hUA ((mtp - 1) - 1)) (hUB ((mtp - 1) - 1)) (hAA ((mtp - 1) - 1)) (hBB ((mtp - 1) - 1)) (hUA (((mtp - 1) - 1) + 1)) (hUB (((mtp - 1) - 1) + 1)) (hAA (((mtp - 1) - 1) + 1)) (hBB (((mtp - 1) - 1) + 1)))))) ((mtp - 1) - 1)) = nI 0 := b204
                    refine lv_iconst (v := nI 0) hx hb d_M_spanOf_489 (by decide) ?_
                    exact jn181 ((nI 0)) _ _ hP hD hS
                  · skip
                    replace b204 : ((upd hUA ((mtp - 1) - 1) (bI (mU (spf (hUA ((mtp - 1) - 1)) (hUB ((mtp - 1) - 1)) (hAA ((mtp - 1) - 1)) (hBB ((mtp - 1) - 1)) (hUA (((mtp - 1) - 1) + 1)) (hUB (((mtp - 1) - 1) + 1)) (hAA (((mtp - 1) - 1) + 1)) (hBB (((mtp - 1) - 1) + 1))) (spu (hUA ((mtp - 1) - 1)) (hUB ((mtp - 1) - 1)) (hAA ((mtp - 1) - 1)) (hBB ((mtp - 1) - 1)) (hUA (((mtp - 1) - 1) + 1)) (hUB (((mtp - 1) - 1) + 1)) (hAA (((mtp - 1) - 1) + 1)) (hBB (((mtp - 1) - 1) + 1)))))) ((mtp - 1) - 1)) = nI 0 := b204
                    refine lv_aload_n hx hb d_M_spanOf_476 rfl (lv_at hl 2 rfl) ?_
                    refine pf_get (v := .ref (g.lk M 24)) (C := "BigRunnerModel") (T := FT10) (N := 45) hx hb (hw10 hB _) (fun _ h9 => h9) hown hK hP (lo_in hL t_M (by decide)) e165 rfl 24 (by decide) (wd_971 hB _) rfl d_M_spanOf_477 ?_
                    refine lv_iload_n hx hb d_M_spanOf_480 rfl (lv_at hl 0 rfl) ?_
                    refine pf_zald (i := (mtp - 1) - 1) hx hb hK hP (lo_in hL (lo_k11_24 hL _ t_M) (by decide)) aUB_176 (lo_t56 hL _ (lo_k11_24 hL _ t_M)) (by omega) (by decide) d_M_spanOf_481 ?_
                    refine lv_if_ne (tgt := 489) hx hb d_M_spanOf_482 (by decide) (fun b205 => ?_) (fun b205 => ?_)
                    · skip
                      replace b205 : ¬ ((upd hUB ((mtp - 1) - 1) (bI (mU (spf (hUA ((mtp - 1) - 1)) (hUB ((mtp - 1) - 1)) (hAA ((mtp - 1) - 1)) (hBB ((mtp - 1) - 1)) (hUA (((mtp - 1) - 1) + 1)) (hUB (((mtp - 1) - 1) + 1)) (hAA (((mtp - 1) - 1) + 1)) (hBB (((mtp - 1) - 1) + 1))) (spv (hUA ((mtp - 1) - 1)) (hUB ((mtp - 1) - 1)) (hAA ((mtp - 1) - 1)) (hBB ((mtp - 1) - 1)) (hUA (((mtp - 1) - 1) + 1)) (hUB (((mtp - 1) - 1) + 1)) (hAA (((mtp - 1) - 1) + 1)) (hBB (((mtp - 1) - 1) + 1)))))) ((mtp - 1) - 1)) = nI 0 := b205
                      refine lv_iconst (v := nI 0) hx hb d_M_spanOf_489 (by decide) ?_
                      exact jn181 ((nI 0)) _ _ hP hD hS
                    · skip
                      replace b205 : ((upd hUB ((mtp - 1) - 1) (bI (mU (spf (hUA ((mtp - 1) - 1)) (hUB ((mtp - 1) - 1)) (hAA ((mtp - 1) - 1)) (hBB ((mtp - 1) - 1)) (hUA (((mtp - 1) - 1) + 1)) (hUB (((mtp - 1) - 1) + 1)) (hAA (((mtp - 1) - 1) + 1)) (hBB (((mtp - 1) - 1) + 1))) (spv (hUA ((mtp - 1) - 1)) (hUB ((mtp - 1) - 1)) (hAA ((mtp - 1) - 1)) (hBB ((mtp - 1) - 1)) (hUA (((mtp - 1) - 1) + 1)) (hUB (((mtp - 1) - 1) + 1)) (hAA (((mtp - 1) - 1) + 1)) (hBB (((mtp - 1) - 1) + 1)))))) ((mtp - 1) - 1)) = nI 0 := b205
                      refine lv_iconst (v := nI 1) hx hb d_M_spanOf_485 (by decide) ?_
                      refine lv_goto (tgt := 490) hx hb d_M_spanOf_486 (by decide) ?_
                      exact jn181 ((nI 1)) _ _ hP hD hS
          · skip
            replace b169 := (nI_eq (a := 4) (b := 3) (by omega) (by omega)).mp b169
            exfalso; omega
        · skip
          replace b168 := (nI_eq (a := 4) (b := 2) (by omega) (by omega)).mp b168
          exfalso; omega
      · skip
        replace b163 := (nI_eq (a := 4) (b := 7) (by omega) (by omega)).mp b163
        exfalso; omega
    · skip
      replace b162 := mt (nI_leI (a := 2) (b := 4) (by omega) (by omega)).mpr b162
      exfalso; omega
  · skip
    rw [hwq] at hw
    clear hv3 hwt
    clear hw1
    clear hw7
    have hw2 := hw2 (by omega) (by omega)
    obtain ⟨Y9, S8, hS8, hY1, hY2, hMR8⟩ := MR_pop hMR (by omega)
    obtain ⟨X9, S9, hS9, hX1, hX2, hMR9⟩ := MR_pop hMR8 (by omega)
    rw [hS9] at hS8
    refine lv_aload_n hx hb d_M_spanOf_0 rfl (lv_at hl 0 rfl) ?_
    refine pf_get (v := .ref (g.lk M 6)) (C := "BigRunnerModel") (T := FT10) (N := 45) hx hb (hw10 hB _) (fun _ h9 => h9) hown hK hP (lo_in hL t_M (by decide)) eM rfl 6 (by decide) (wd_953 hB _) rfl d_M_spanOf_1 ?_
    refine lv_iload_n hx hb d_M_spanOf_4 rfl (lv_at hl 1 rfl) ?_
    refine pf_iald (i := p9) hx hb hK hP (lo_in hL (lo_k11_6 hL _ t_M) (by decide)) eC (lo_t43 hL _ (lo_k11_6 hL _ t_M)) (by omega) (by decide) d_M_spanOf_5 ?_
    refine lv_topi (fun z_ hz_ => ?_)
    obtain rfl : z_ = nI 5 := hz_.trans hw
    refine lv_istore_n (lv' := [(2, .int (nI 5)), (0, .ref M), (1, .int (nI p9))]) hx hb d_M_spanOf_6 rfl hl (by decide) rfl (fun ls hl => ?_)
    refine lv_iload_n hx hb d_M_spanOf_7 rfl (lv_at hl 0 rfl) ?_
    refine lv_iconst (v := nI 2) hx hb d_M_spanOf_8 (by decide) ?_
    refine lv_icmp_ge (tgt := 121) hx hb d_M_spanOf_9 (by decide) (fun b206 => ?_) (fun b206 => ?_)
    · skip
      replace b206 := (nI_leI (a := 2) (b := 5) (by omega) (by omega)).mp b206
      refine lv_iload_n hx hb d_M_spanOf_121 rfl (lv_at hl 0 rfl) ?_
      refine lv_bipush (v := nI 7) hx hb d_M_spanOf_122 (by decide) ?_
      refine lv_icmp_ne (tgt := 201) hx hb d_M_spanOf_124 (by decide) (fun b207 => ?_) (fun b207 => ?_)
      · skip
        replace b207 := mt (nI_eq (a := 5) (b := 7) (by omega) (by omega)).mpr b207
        refine lv_aload_n hx hb d_M_spanOf_201 rfl (lv_at hl 1 rfl) ?_
        refine lv_dup hx hb d_M_spanOf_202 rfl ?_
        refine pf_get (v := .int (nI mtp)) (C := "BigRunnerModel") (T := FT10) (N := 45) hx hb (hw10 hB _) (fun _ h9 => h9) hown hK hP (lo_in hL t_M (by decide)) eM rfl 32 (by decide) (wd_979 hB _) rfl d_M_spanOf_203 ?_
        refine lv_iconst (v := nI 1) hx hb d_M_spanOf_206 (by decide) ?_
        refine pf_isubN (x := mtp) (y := 1) hx hb (by omega) d_M_spanOf_207 ?_
        refine pf_put (v := .int (nI (mtp - 1))) (ty := .int) (fs' := [.int mth, .ref (g.lk M 1), .int (nI mn), .ref (g.lk M 3), .ref (g.lk M 4), .int (nI mdr), .ref (g.lk M 6), .ref (g.lk M 7), .ref (g.lk M 8), .int (nI msz), .int (nI mix), .int (nI mdp), .ref (g.lk M 12), .int (nI mwt), .ref (g.lk M 14), .ref (g.lk M 15), .int (nI mop), .ref (g.lk M 17), .ref (g.lk M 18), .ref (g.lk M 19), .ref (g.lk M 20), .ref (g.lk M 21), .ref (g.lk M 22), .ref (g.lk M 23), .ref (g.lk M 24), .ref (g.lk M 25), .ref (g.lk M 26), .ref (g.lk M 27), .ref (g.lk M 28), .ref (g.lk M 29), .ref (g.lk M 30), .ref (g.lk M 31), .int (nI (mtp - 1)), .ref (g.lk M 33), .ref (g.lk M 34), .ref (g.lk M 35), .int (nI mwa), .int (nI mgi), .int (nI mpc), .int (nI mst), .int (nI mtr), .int (nI msp), .int mma, .int mlg, .int mdu]) (C := "BigRunnerModel") (T := FT10) (N := 45) hx hb (hw10 hB _) (fun _ h9 => h9) TY10 ok10 nm10 hown hK hP hD hS (lo_in hL t_M (by decide)) eM rfl 32 (by decide) (wd_979 hB _) rfl (by decide +kernel) rfl rfl (Nat.le_of_ble_eq_true rfl) rfl d_M_spanOf_208 (fun f208 H locs e209 k210 hP hD hS => ?_)
        have eC := (k210 (g.lk M 6) (tg_ne (lo_k11_6 hL _ t_M) t_M (by decide))).trans eC
        have eA := (k210 (g.lk M 7) (tg_ne (lo_k11_7 hL _ t_M) t_M (by decide))).trans eA
        have eUN := (k210 (g.lk M 19) (tg_ne (lo_k11_19 hL _ t_M) t_M (by decide))).trans eUN
        have eOV := (k210 (g.lk M 20) (tg_ne (lo_k11_20 hL _ t_M) t_M (by decide))).trans eOV
        have eUA := (k210 (g.lk M 23) (tg_ne (lo_k11_23 hL _ t_M) t_M (by decide))).trans eUA
        have eUB := (k210 (g.lk M 24) (tg_ne (lo_k11_24 hL _ t_M) t_M (by decide))).trans eUB
        have eLW := (k210 (g.lk M 17) (tg_ne (lo_k11_17 hL _ t_M) t_M (by decide))).trans eLW
        have eHG := (k210 (g.lk M 18) (tg_ne (lo_k11_18 hL _ t_M) t_M (by decide))).trans eHG
        have eAA := (k210 (g.lk M 21) (tg_ne (lo_k11_21 hL _ t_M) t_M (by decide))).trans eAA
        have eBB := (k210 (g.lk M 22) (tg_ne (lo_k11_22 hL _ t_M) t_M (by decide))).trans eBB
        have hu := hu.st k210 t_M (by decide)
        have hk211 : ∀ b, b ≠ M → f208 b = f b := k210
        refine lv_aload_n hx hb d_M_spanOf_211 rfl (lv_at hl 1 rfl) ?_
        refine pf_get (v := .int (nI (mtp - 1))) (C := "BigRunnerModel") (T := FT10) (N := 45) hx hb (hw10 hB _) (fun _ h9 => h9) hown hK hP (lo_in hL t_M (by decide)) e209 rfl 32 (by decide) (wd_979 hB _) rfl d_M_spanOf_212 ?_
        refine lv_iconst (v := nI 1) hx hb d_M_spanOf_215 (by decide) ?_
        refine pf_isubN (x := mtp - 1) (y := 1) hx hb (by omega) d_M_spanOf_216 ?_
        refine lv_istore_n (lv' := [(3, .int (nI ((mtp - 1) - 1))), (2, .int (nI 5)), (0, .ref M), (1, .int (nI p9))]) hx hb d_M_spanOf_217 rfl hl (by decide) rfl (fun ls hl => ?_)
        refine lv_iload_n hx hb d_M_spanOf_218 rfl (lv_at hl 1 rfl) ?_
        refine lv_iconst (v := nI 2) hx hb d_M_spanOf_219 (by decide) ?_
        refine lv_icmp_ne (tgt := 315) hx hb d_M_spanOf_220 (by decide) (fun b212 => ?_) (fun b212 => ?_)
        · skip
          replace b212 := mt (nI_eq (a := 5) (b := 2) (by omega) (by omega)).mpr b212
          refine lv_iload_n hx hb d_M_spanOf_315 rfl (lv_at hl 1 rfl) ?_
          refine lv_iconst (v := nI 3) hx hb d_M_spanOf_316 (by decide) ?_
          refine lv_icmp_ne (tgt := 412) hx hb d_M_spanOf_317 (by decide) (fun b213 => ?_) (fun b213 => ?_)
          · skip
            replace b213 := mt (nI_eq (a := 5) (b := 3) (by omega) (by omega)).mpr b213
            refine lv_iload_n hx hb d_M_spanOf_412 rfl (lv_at hl 1 rfl) ?_
            refine lv_iconst (v := nI 4) hx hb d_M_spanOf_413 (by decide) ?_
            refine lv_icmp_ne (tgt := 425) hx hb d_M_spanOf_414 (by decide) (fun b214 => ?_) (fun b214 => ?_)
            · skip
              replace b214 := mt (nI_eq (a := 5) (b := 4) (by omega) (by omega)).mpr b214
              refine lv_aload_n hx hb d_M_spanOf_425 rfl (lv_at hl 2 rfl) ?_
              refine lv_iload_n hx hb d_M_spanOf_426 rfl (lv_at hl 0 rfl) ?_
              refine lv_iload_n hx hb d_M_spanOf_427 rfl (lv_at hl 1 rfl) ?_
              refine lv_bipush (v := nI 6) hx hb d_M_spanOf_428 (by decide) ?_
              refine lv_icmp_ne (tgt := 437) hx hb d_M_spanOf_430 (by decide) (fun b215 => ?_) (fun b215 => ?_)
              · skip
                replace b215 := mt (nI_eq (a := 5) (b := 6) (by omega) (by omega)).mpr b215
                refine lv_iconst (v := nI 0) hx hb d_M_spanOf_437 (by decide) ?_
                have hI216 := iv_1 hI hL t_M (by decide) hk211 (oc_11.mk t_M (⟨mth, mn, mdr, msz, mix, mdp, mwt, mop, (mtp - 1), mwa, mgi, mpc, mst, mtr, msp, mma, mlg, mdu, e209, (by omega), (by omega), (by omega), (by omega), (by omega), (by omega), (by omega), (by omega), (by omega), (by omega), (by omega), (by omega), (by omega), (by omega), hmb14⟩))
                refine pcc_v (va_runV (C := "BigRunnerModel") (As := [.int (nI ((mtp - 1) - 1)), .int (nI 0)]) (rest := []) ⟨hx, hb, hml, hown, tb_nil⟩ (m2_spanQuotient l g H.size f208 M (((mtp - 1) - 1)) false hUA hUB hAA hBB hL t_M hI216 (by omega) eUA eUB eAA eBB) ⟨(callB_of 2 (tb_one (wd_1183 hB _)) tb_good1 rfl rfl rfl (wd_82 hB _) (wd_1180 hB _) (by decide +kernel) ⟨Nat.le_of_ble_eq_true rfl, Nat.le_of_ble_eq_true rfl⟩), (wd_1182 hB _), (wd_55 hB _)⟩ ⟨pe_bl, pg_recv (ci := 10) hK hP (lo_in hL t_M (by decide)) e209 rfl, pe_pre hB hK hP hD⟩ rfl rfl hl.1 rfl (lv_room (Nat.le_of_ble_eq_true rfl)) d_M_spanOf_438 ⟨Nat.le_of_ble_eq_true rfl, Nat.le_of_ble_eq_true rfl⟩) hS (fun f218 H locs hq219 hP hD hS => ?_)
                obtain ⟨aUA_220, aUB_221, aAA_222, aBB_223, hI1_224, hu1_225⟩ := hq219
                have hu := hu.tr hu1_225 (by decide)
                have eC := hu1_225.at (lo_k11_6 hL _ t_M) (by decide) eC
                have eA := hu1_225.at (lo_k11_7 hL _ t_M) (by decide) eA
                have eUN := hu1_225.at (lo_k11_19 hL _ t_M) (by decide) eUN
                have eOV := hu1_225.at (lo_k11_20 hL _ t_M) (by decide) eOV
                have eLW := hu1_225.at (lo_k11_17 hL _ t_M) (by decide) eLW
                have eHG := hu1_225.at (lo_k11_18 hL _ t_M) (by decide) eHG
                have e209 := hu1_225.at t_M (by decide) e209
                refine lv_aload_n hx hb d_M_spanOf_441 rfl (lv_at hl 2 rfl) ?_
                refine pf_get (v := .ref (g.lk M 25)) (C := "BigRunnerModel") (T := FT10) (N := 45) hx hb (hw10 hB _) (fun _ h9 => h9) hown hK hP (lo_in hL t_M (by decide)) e209 rfl 25 (by decide) (wd_972 hB _) rfl d_M_spanOf_442 ?_
                refine lv_iload_n hx hb d_M_spanOf_445 rfl (lv_at hl 0 rfl) ?_
                have jn226 : ∀ (bj227 : Int32) (H : Heap) (locs : List Loc), va_P g.D vcl (va_pl g.LP f218) H → va_D (pc_A g s.heap.size) (va_pl g.LP f218) → va_S (pc_A g s.heap.size) s.heap H locs → W p l e ({ frames := 3, cells := 0, slots := 0, locals := 77 }) s m args below meth c H locs 0 0 (MQ below (va_Qv (fun f1 => (∃ (tp1 : Nat), (tp1 ≤ 80) ∧ (TR w mtp tp1) ∧ (∃ (ua1 : Nat → Int32) (a1 : Nat → Int64) (ub1 : Nat → Int32) (b1 : Nat → Int64), f1 (g.lk M 23) = .inl (g.ac (g.lk M 23), 80, .inl ua1) ∧ f1 (g.lk M 21) = .inl (g.ac (g.lk M 21), 80, .inr (.inl a1)) ∧ f1 (g.lk M 24) = .inl (g.ac (g.lk M 24), 80, .inl ub1) ∧ f1 (g.lk M 22) = .inl (g.ac (g.lk M 22), 80, .inr (.inl b1)) ∧ MR ua1 a1 ub1 b1 tp1 (xst en S w v)) ∧ f1 M = .inr (10, [.int mth, .ref (g.lk M 1), .int (nI mn), .ref (g.lk M 3), .ref (g.lk M 4), .int (nI mdr), .ref (g.lk M 6), .ref (g.lk M 7), .ref (g.lk M 8), .int (nI msz), .int (nI mix), .int (nI mdp), .ref (g.lk M 12), .int (nI mwt), .ref (g.lk M 14), .ref (g.lk M 15), .int (nI mop), .ref (g.lk M 17), .ref (g.lk M 18), .ref (g.lk M 19), .ref (g.lk M 20), .ref (g.lk M 21), .ref (g.lk M 22), .ref (g.lk M 23), .ref (g.lk M 24), .ref (g.lk M 25), .ref (g.lk M 26), .ref (g.lk M 27), .ref (g.lk M 28), .ref (g.lk M 29), .ref (g.lk M 30), .ref (g.lk M 31), .int (nI tp1), .ref (g.lk M 33), .ref (g.lk M 34), .ref (g.lk M 35), .int (nI mwa), .int (nI mgi), .int (nI mpc), .int (nI mst), .int (nI mtr), .int (nI msp), .int mma, .int mlg, .int mdu])) ∧ (IV g f1) ∧ (un [11, 45, 53, 54, 55, 56, 57] g f f1)) (pc_out g s.heap.size) (pc_A g s.heap.size)) args s 0 0 (pc_A g s.heap.size)) (F0 m 490 ls [.int bj227, .int (nI ((mtp - 1) - 1)), .ref (g.lk M 25)]) := by
                  intro bj227 H locs hP hD hS
                  obtain ⟨h_229, e228⟩ := oc_57.of (lo_k11_25 hL _ t_M) (hI1_224.1 (g.lk M 25))
                  refine pf_zast (i := (mtp - 1) - 1) hx hb hK hP hD hS (lo_in hL (lo_k11_25 hL _ t_M) (by decide)) e228 (lo_t57 hL _ (lo_k11_25 hL _ t_M)) (by omega) (by decide) d_M_spanOf_490 (fun f231 H locs e232 k233 hP hD hS => ?_)
                  have eC := (k233 (g.lk M 6) (tg_ne (lo_k11_6 hL _ t_M) (lo_k11_25 hL _ t_M) (by decide))).trans eC
                  have eA := (k233 (g.lk M 7) (tg_ne (lo_k11_7 hL _ t_M) (lo_k11_25 hL _ t_M) (by decide))).trans eA
                  have eUN := (k233 (g.lk M 19) (tg_ne (lo_k11_19 hL _ t_M) (lo_k11_25 hL _ t_M) (by decide))).trans eUN
                  have eOV := (k233 (g.lk M 20) (tg_ne (lo_k11_20 hL _ t_M) (lo_k11_25 hL _ t_M) (by decide))).trans eOV
                  have eLW := (k233 (g.lk M 17) (tg_ne (lo_k11_17 hL _ t_M) (lo_k11_25 hL _ t_M) (by decide))).trans eLW
                  have eHG := (k233 (g.lk M 18) (tg_ne (lo_k11_18 hL _ t_M) (lo_k11_25 hL _ t_M) (by decide))).trans eHG
                  have e209 := (k233 M (tg_ne t_M (lo_k11_25 hL _ t_M) (by decide))).trans e209
                  have aUA_220 := (k233 (g.lk M 23) (tg_ne (lo_k11_23 hL _ t_M) (lo_k11_25 hL _ t_M) (by decide))).trans aUA_220
                  have aUB_221 := (k233 (g.lk M 24) (tg_ne (lo_k11_24 hL _ t_M) (lo_k11_25 hL _ t_M) (by decide))).trans aUB_221
                  have aAA_222 := (k233 (g.lk M 21) (tg_ne (lo_k11_21 hL _ t_M) (lo_k11_25 hL _ t_M) (by decide))).trans aAA_222
                  have aBB_223 := (k233 (g.lk M 22) (tg_ne (lo_k11_22 hL _ t_M) (lo_k11_25 hL _ t_M) (by decide))).trans aBB_223
                  have hu := hu.st k233 (lo_k11_25 hL _ t_M) (by decide)
                  have hk234 : ∀ b, b ≠ (g.lk M 25) → f231 b = f218 b := k233
                  refine lv_aload_n hx hb d_M_spanOf_491 rfl (lv_at hl 2 rfl) ?_
                  refine pf_get (v := .ref (g.lk M 8)) (C := "BigRunnerModel") (T := FT10) (N := 45) hx hb (hw10 hB _) (fun _ h9 => h9) hown hK hP (lo_in hL t_M (by decide)) e209 rfl 8 (by decide) (wd_955 hB _) rfl d_M_spanOf_492 ?_
                  refine lv_iload_n hx hb d_M_spanOf_495 rfl (lv_at hl 3 rfl) ?_
                  refine lv_aload_n hx hb d_M_spanOf_496 rfl (lv_at hl 2 rfl) ?_
                  refine pf_get (v := .ref (g.lk M 25)) (C := "BigRunnerModel") (T := FT10) (N := 45) hx hb (hw10 hB _) (fun _ h9 => h9) hown hK hP (lo_in hL t_M (by decide)) e209 rfl 25 (by decide) (wd_972 hB _) rfl d_M_spanOf_497 ?_
                  refine lv_iload_n hx hb d_M_spanOf_500 rfl (lv_at hl 0 rfl) ?_
                  refine pf_zald (i := (mtp - 1) - 1) hx hb hK hP (lo_in hL (lo_k11_25 hL _ t_M) (by decide)) e232 (lo_t57 hL _ (lo_k11_25 hL _ t_M)) (by omega) (by decide) d_M_spanOf_501 ?_
                  have hI235 := iv_1 hI1_224 hL (lo_k11_25 hL _ t_M) (by decide) hk234 (oc_57.mk (lo_k11_25 hL _ t_M) (⟨_, e232⟩))
                  obtain ⟨h_237, e236⟩ := oc_45.of (lo_k11_8 hL _ t_M) (hI235.1 (g.lk M 8))
                  refine pf_zast (i := p9) hx hb hK hP hD hS (lo_in hL (lo_k11_8 hL _ t_M) (by decide)) e236 (lo_t45 hL _ (lo_k11_8 hL _ t_M)) (by omega) (by decide) d_M_spanOf_502 (fun f239 H locs e240 k241 hP hD hS => ?_)
                  have eC := (k241 (g.lk M 6) (tg_ne (lo_k11_6 hL _ t_M) (lo_k11_8 hL _ t_M) (by decide))).trans eC
                  have eA := (k241 (g.lk M 7) (tg_ne (lo_k11_7 hL _ t_M) (lo_k11_8 hL _ t_M) (by decide))).trans eA
                  have eUN := (k241 (g.lk M 19) (tg_ne (lo_k11_19 hL _ t_M) (lo_k11_8 hL _ t_M) (by decide))).trans eUN
                  have eOV := (k241 (g.lk M 20) (tg_ne (lo_k11_20 hL _ t_M) (lo_k11_8 hL _ t_M) (by decide))).trans eOV
                  have eLW := (k241 (g.lk M 17) (tg_ne (lo_k11_17 hL _ t_M) (lo_k11_8 hL _ t_M) (by decide))).trans eLW
                  have eHG := (k241 (g.lk M 18) (tg_ne (lo_k11_18 hL _ t_M) (lo_k11_8 hL _ t_M) (by decide))).trans eHG
                  have e209 := (k241 M (tg_ne t_M (lo_k11_8 hL _ t_M) (by decide))).trans e209
                  have aUA_220 := (k241 (g.lk M 23) (tg_ne (lo_k11_23 hL _ t_M) (lo_k11_8 hL _ t_M) (by decide))).trans aUA_220
                  have aUB_221 := (k241 (g.lk M 24) (tg_ne (lo_k11_24 hL _ t_M) (lo_k11_8 hL _ t_M) (by decide))).trans aUB_221
                  have aAA_222 := (k241 (g.lk M 21) (tg_ne (lo_k11_21 hL _ t_M) (lo_k11_8 hL _ t_M) (by decide))).trans aAA_222
                  have aBB_223 := (k241 (g.lk M 22) (tg_ne (lo_k11_22 hL _ t_M) (lo_k11_8 hL _ t_M) (by decide))).trans aBB_223
                  have e232 := (k241 (g.lk M 25) (tg_ne (lo_k11_25 hL _ t_M) (lo_k11_8 hL _ t_M) (by decide))).trans e232
                  have hu := hu.st k241 (lo_k11_8 hL _ t_M) (by decide)
                  have hk242 : ∀ b, b ≠ (g.lk M 8) → f239 b = f231 b := k241
                  have hI243 := iv_1 hI235 hL (lo_k11_8 hL _ t_M) (by decide) hk242 (oc_45.mk (lo_k11_8 hL _ t_M) (⟨_, e240⟩))
                  exact pe_vret hx hb hr hlocks hK hP hD hS d_M_spanOf_503 ⟨⟨(mtp - 1), by omega, (TR.mk (fun _ => by omega) (fun _ => by omega) (fun _ _ => by omega)), ⟨_, _, _, _, aUA_220, aAA_222, aUB_221, aBB_223, (by rw [hwq, hS8]; exact MR_v (o := iq false X9 Y9) (show mtp - 1 = mtp - 1 - 1 + 1 by omega) hMR9 (r_quo false (Y := Y9) hX1 hX2 (fun q => by cases q) (fun q => by cases q)).1 (r_quo false (Y := Y9) hX1 hX2 (fun q => by cases q) (fun q => by cases q)).2)⟩, e209⟩, hI243, hu⟩
                refine lv_aload_n hx hb d_M_spanOf_446 rfl (lv_at hl 2 rfl) ?_
                refine pf_get (v := .ref (g.lk M 25)) (C := "BigRunnerModel") (T := FT10) (N := 45) hx hb (hw10 hB _) (fun _ h9 => h9) hown hK hP (lo_in hL t_M (by decide)) e209 rfl 25 (by decide) (wd_972 hB _) rfl d_M_spanOf_447 ?_
                refine lv_iload_n hx hb d_M_spanOf_450 rfl (lv_at hl 0 rfl) ?_
                obtain ⟨h_245, e244⟩ := oc_57.of (lo_k11_25 hL _ t_M) (hI1_224.1 (g.lk M 25))
                refine pf_zald (i := (mtp - 1) - 1) hx hb hK hP (lo_in hL (lo_k11_25 hL _ t_M) (by decide)) e244 (lo_t57 hL _ (lo_k11_25 hL _ t_M)) (by omega) (by decide) d_M_spanOf_451 ?_
                refine lv_if_eq (tgt := 489) hx hb d_M_spanOf_452 (by decide) (fun b247 => ?_) (fun b247 => ?_)
                · skip
                  replace b247 : (h_245 ((mtp - 1) - 1)) = nI 0 := b247
                  refine lv_iconst (v := nI 0) hx hb d_M_spanOf_489 (by decide) ?_
                  exact jn226 ((nI 0)) _ _ hP hD hS
                · skip
                  replace b247 : ¬ (h_245 ((mtp - 1) - 1)) = nI 0 := b247
                  refine lv_aload_n hx hb d_M_spanOf_455 rfl (lv_at hl 2 rfl) ?_
                  refine pf_get (v := .ref (g.lk M 25)) (C := "BigRunnerModel") (T := FT10) (N := 45) hx hb (hw10 hB _) (fun _ h9 => h9) hown hK hP (lo_in hL t_M (by decide)) e209 rfl 25 (by decide) (wd_972 hB _) rfl d_M_spanOf_456 ?_
                  refine lv_aload_n hx hb d_M_spanOf_459 rfl (lv_at hl 2 rfl) ?_
                  refine pf_get (v := .int (nI (mtp - 1))) (C := "BigRunnerModel") (T := FT10) (N := 45) hx hb (hw10 hB _) (fun _ h9 => h9) hown hK hP (lo_in hL t_M (by decide)) e209 rfl 32 (by decide) (wd_979 hB _) rfl d_M_spanOf_460 ?_
                  refine pf_zald (i := mtp - 1) hx hb hK hP (lo_in hL (lo_k11_25 hL _ t_M) (by decide)) e244 (lo_t57 hL _ (lo_k11_25 hL _ t_M)) (by omega) (by decide) d_M_spanOf_463 ?_
                  refine lv_if_eq (tgt := 489) hx hb d_M_spanOf_464 (by decide) (fun b248 => ?_) (fun b248 => ?_)
                  · skip
                    replace b248 : (h_245 (mtp - 1)) = nI 0 := b248
                    refine lv_iconst (v := nI 0) hx hb d_M_spanOf_489 (by decide) ?_
                    exact jn226 ((nI 0)) _ _ hP hD hS
                  · skip
                    replace b248 : ¬ (h_245 (mtp - 1)) = nI 0 := b248
                    refine lv_aload_n hx hb d_M_spanOf_467 rfl (lv_at hl 2 rfl) ?_
                    refine pf_get (v := .ref (g.lk M 23)) (C := "BigRunnerModel") (T := FT10) (N := 45) hx hb (hw10 hB _) (fun _ h9 => h9) hown hK hP (lo_in hL t_M (by decide)) e209 rfl 23 (by decide) (wd_970 hB _) rfl d_M_spanOf_468 ?_
                    refine lv_iload_n hx hb d_M_spanOf_471 rfl (lv_at hl 0 rfl) ?_
                    refine pf_zald (i := (mtp - 1) - 1) hx hb hK hP (lo_in hL (lo_k11_23 hL _ t_M) (by decide)) aUA_220 (lo_t55 hL _ (lo_k11_23 hL _ t_M)) (by omega) (by decide) d_M_spanOf_472 ?_
                    refine lv_if_ne (tgt := 489) hx hb d_M_spanOf_473 (by decide) (fun b249 => ?_) (fun b249 => ?_)
                    · skip
                      replace b249 : ¬ ((upd hUA ((mtp - 1) - 1) (bI (mU (sqf false (hUA ((mtp - 1) - 1)) (hUB ((mtp - 1) - 1)) (hAA ((mtp - 1) - 1)) (hUA (((mtp - 1) - 1) + 1)) (hUB (((mtp - 1) - 1) + 1))) (squ false (hUA ((mtp - 1) - 1)) (hUB ((mtp - 1) - 1)) (hAA ((mtp - 1) - 1)) (hBB ((mtp - 1) - 1)) (hUA (((mtp - 1) - 1) + 1)) (hUB (((mtp - 1) - 1) + 1)) (hAA (((mtp - 1) - 1) + 1)) (hBB (((mtp - 1) - 1) + 1)))))) ((mtp - 1) - 1)) = nI 0 := b249
                      refine lv_iconst (v := nI 0) hx hb d_M_spanOf_489 (by decide) ?_
                      exact jn226 ((nI 0)) _ _ hP hD hS
                    · skip
                      replace b249 : ((upd hUA ((mtp - 1) - 1) (bI (mU (sqf false (hUA ((mtp - 1) - 1)) (hUB ((mtp - 1) - 1)) (hAA ((mtp - 1) - 1)) (hUA (((mtp - 1) - 1) + 1)) (hUB (((mtp - 1) - 1) + 1))) (squ false (hUA ((mtp - 1) - 1)) (hUB ((mtp - 1) - 1)) (hAA ((mtp - 1) - 1)) (hBB ((mtp - 1) - 1)) (hUA (((mtp - 1) - 1) + 1)) (hUB (((mtp - 1) - 1) + 1)) (hAA (((mtp - 1) - 1) + 1)) (hBB (((mtp - 1) - 1) + 1)))))) ((mtp - 1) - 1)) = nI 0 := b249
                      refine lv_aload_n hx hb d_M_spanOf_476 rfl (lv_at hl 2 rfl) ?_
                      refine pf_get (v := .ref (g.lk M 24)) (C := "BigRunnerModel") (T := FT10) (N := 45) hx hb (hw10 hB _) (fun _ h9 => h9) hown hK hP (lo_in hL t_M (by decide)) e209 rfl 24 (by decide) (wd_971 hB _) rfl d_M_spanOf_477 ?_
                      refine lv_iload_n hx hb d_M_spanOf_480 rfl (lv_at hl 0 rfl) ?_
                      refine pf_zald (i := (mtp - 1) - 1) hx hb hK hP (lo_in hL (lo_k11_24 hL _ t_M) (by decide)) aUB_221 (lo_t56 hL _ (lo_k11_24 hL _ t_M)) (by omega) (by decide) d_M_spanOf_481 ?_
                      refine lv_if_ne (tgt := 489) hx hb d_M_spanOf_482 (by decide) (fun b250 => ?_) (fun b250 => ?_)
                      · skip
                        replace b250 : ¬ ((upd hUB ((mtp - 1) - 1) (bI (mU (sqr false (hUA ((mtp - 1) - 1)) (hUB ((mtp - 1) - 1)) (hUA (((mtp - 1) - 1) + 1)) (hUB (((mtp - 1) - 1) + 1))) (sqm false (hUA ((mtp - 1) - 1)) (hUB ((mtp - 1) - 1)) (hAA ((mtp - 1) - 1)) (hBB ((mtp - 1) - 1)) (hUA (((mtp - 1) - 1) + 1)) (hUB (((mtp - 1) - 1) + 1)) (hAA (((mtp - 1) - 1) + 1)) (hBB (((mtp - 1) - 1) + 1)))))) ((mtp - 1) - 1)) = nI 0 := b250
                        refine lv_iconst (v := nI 0) hx hb d_M_spanOf_489 (by decide) ?_
                        exact jn226 ((nI 0)) _ _ hP hD hS
                      · skip
                        replace b250 : ((upd hUB ((mtp - 1) - 1) (bI (mU (sqr false (hUA ((mtp - 1) - 1)) (hUB ((mtp - 1) - 1)) (hUA (((mtp - 1) - 1) + 1)) (hUB (((mtp - 1) - 1) + 1))) (sqm false (hUA ((mtp - 1) - 1)) (hUB ((mtp - 1) - 1)) (hAA ((mtp - 1) - 1)) (hBB ((mtp - 1) - 1)) (hUA (((mtp - 1) - 1) + 1)) (hUB (((mtp - 1) - 1) + 1)) (hAA (((mtp - 1) - 1) + 1)) (hBB (((mtp - 1) - 1) + 1)))))) ((mtp - 1) - 1)) = nI 0 := b250
                        refine lv_iconst (v := nI 1) hx hb d_M_spanOf_485 (by decide) ?_
                        refine lv_goto (tgt := 490) hx hb d_M_spanOf_486 (by decide) ?_
                        exact jn226 ((nI 1)) _ _ hP hD hS
              · skip
                replace b215 := (nI_eq (a := 5) (b := 6) (by omega) (by omega)).mp b215
                exfalso; omega
            · skip
              replace b214 := (nI_eq (a := 5) (b := 4) (by omega) (by omega)).mp b214
              exfalso; omega
          · skip
            replace b213 := (nI_eq (a := 5) (b := 3) (by omega) (by omega)).mp b213
            exfalso; omega
        · skip
          replace b212 := (nI_eq (a := 5) (b := 2) (by omega) (by omega)).mp b212
          exfalso; omega
      · skip
        replace b207 := (nI_eq (a := 5) (b := 7) (by omega) (by omega)).mp b207
        exfalso; omega
    · skip
      replace b206 := mt (nI_leI (a := 2) (b := 5) (by omega) (by omega)).mpr b206
      exfalso; omega
  · skip
    rw [hwq] at hw
    clear hv3 hwt
    clear hw1
    clear hw7
    have hw2 := hw2 (by omega) (by omega)
    obtain ⟨Y9, S8, hS8, hY1, hY2, hMR8⟩ := MR_pop hMR (by omega)
    obtain ⟨X9, S9, hS9, hX1, hX2, hMR9⟩ := MR_pop hMR8 (by omega)
    rw [hS9] at hS8
    refine lv_aload_n hx hb d_M_spanOf_0 rfl (lv_at hl 0 rfl) ?_
    refine pf_get (v := .ref (g.lk M 6)) (C := "BigRunnerModel") (T := FT10) (N := 45) hx hb (hw10 hB _) (fun _ h9 => h9) hown hK hP (lo_in hL t_M (by decide)) eM rfl 6 (by decide) (wd_953 hB _) rfl d_M_spanOf_1 ?_
    refine lv_iload_n hx hb d_M_spanOf_4 rfl (lv_at hl 1 rfl) ?_
    refine pf_iald (i := p9) hx hb hK hP (lo_in hL (lo_k11_6 hL _ t_M) (by decide)) eC (lo_t43 hL _ (lo_k11_6 hL _ t_M)) (by omega) (by decide) d_M_spanOf_5 ?_
    refine lv_topi (fun z_ hz_ => ?_)
    obtain rfl : z_ = nI 6 := hz_.trans hw
    refine lv_istore_n (lv' := [(2, .int (nI 6)), (0, .ref M), (1, .int (nI p9))]) hx hb d_M_spanOf_6 rfl hl (by decide) rfl (fun ls hl => ?_)
    refine lv_iload_n hx hb d_M_spanOf_7 rfl (lv_at hl 0 rfl) ?_
    refine lv_iconst (v := nI 2) hx hb d_M_spanOf_8 (by decide) ?_
    refine lv_icmp_ge (tgt := 121) hx hb d_M_spanOf_9 (by decide) (fun b251 => ?_) (fun b251 => ?_)
    · skip
      replace b251 := (nI_leI (a := 2) (b := 6) (by omega) (by omega)).mp b251
      refine lv_iload_n hx hb d_M_spanOf_121 rfl (lv_at hl 0 rfl) ?_
      refine lv_bipush (v := nI 7) hx hb d_M_spanOf_122 (by decide) ?_
      refine lv_icmp_ne (tgt := 201) hx hb d_M_spanOf_124 (by decide) (fun b252 => ?_) (fun b252 => ?_)
      · skip
        replace b252 := mt (nI_eq (a := 6) (b := 7) (by omega) (by omega)).mpr b252
        refine lv_aload_n hx hb d_M_spanOf_201 rfl (lv_at hl 1 rfl) ?_
        refine lv_dup hx hb d_M_spanOf_202 rfl ?_
        refine pf_get (v := .int (nI mtp)) (C := "BigRunnerModel") (T := FT10) (N := 45) hx hb (hw10 hB _) (fun _ h9 => h9) hown hK hP (lo_in hL t_M (by decide)) eM rfl 32 (by decide) (wd_979 hB _) rfl d_M_spanOf_203 ?_
        refine lv_iconst (v := nI 1) hx hb d_M_spanOf_206 (by decide) ?_
        refine pf_isubN (x := mtp) (y := 1) hx hb (by omega) d_M_spanOf_207 ?_
        refine pf_put (v := .int (nI (mtp - 1))) (ty := .int) (fs' := [.int mth, .ref (g.lk M 1), .int (nI mn), .ref (g.lk M 3), .ref (g.lk M 4), .int (nI mdr), .ref (g.lk M 6), .ref (g.lk M 7), .ref (g.lk M 8), .int (nI msz), .int (nI mix), .int (nI mdp), .ref (g.lk M 12), .int (nI mwt), .ref (g.lk M 14), .ref (g.lk M 15), .int (nI mop), .ref (g.lk M 17), .ref (g.lk M 18), .ref (g.lk M 19), .ref (g.lk M 20), .ref (g.lk M 21), .ref (g.lk M 22), .ref (g.lk M 23), .ref (g.lk M 24), .ref (g.lk M 25), .ref (g.lk M 26), .ref (g.lk M 27), .ref (g.lk M 28), .ref (g.lk M 29), .ref (g.lk M 30), .ref (g.lk M 31), .int (nI (mtp - 1)), .ref (g.lk M 33), .ref (g.lk M 34), .ref (g.lk M 35), .int (nI mwa), .int (nI mgi), .int (nI mpc), .int (nI mst), .int (nI mtr), .int (nI msp), .int mma, .int mlg, .int mdu]) (C := "BigRunnerModel") (T := FT10) (N := 45) hx hb (hw10 hB _) (fun _ h9 => h9) TY10 ok10 nm10 hown hK hP hD hS (lo_in hL t_M (by decide)) eM rfl 32 (by decide) (wd_979 hB _) rfl (by decide +kernel) rfl rfl (Nat.le_of_ble_eq_true rfl) rfl d_M_spanOf_208 (fun f253 H locs e254 k255 hP hD hS => ?_)
        have eC := (k255 (g.lk M 6) (tg_ne (lo_k11_6 hL _ t_M) t_M (by decide))).trans eC
        have eA := (k255 (g.lk M 7) (tg_ne (lo_k11_7 hL _ t_M) t_M (by decide))).trans eA
        have eUN := (k255 (g.lk M 19) (tg_ne (lo_k11_19 hL _ t_M) t_M (by decide))).trans eUN
        have eOV := (k255 (g.lk M 20) (tg_ne (lo_k11_20 hL _ t_M) t_M (by decide))).trans eOV
        have eUA := (k255 (g.lk M 23) (tg_ne (lo_k11_23 hL _ t_M) t_M (by decide))).trans eUA
        have eUB := (k255 (g.lk M 24) (tg_ne (lo_k11_24 hL _ t_M) t_M (by decide))).trans eUB
        have eLW := (k255 (g.lk M 17) (tg_ne (lo_k11_17 hL _ t_M) t_M (by decide))).trans eLW
        have eHG := (k255 (g.lk M 18) (tg_ne (lo_k11_18 hL _ t_M) t_M (by decide))).trans eHG
        have eAA := (k255 (g.lk M 21) (tg_ne (lo_k11_21 hL _ t_M) t_M (by decide))).trans eAA
        have eBB := (k255 (g.lk M 22) (tg_ne (lo_k11_22 hL _ t_M) t_M (by decide))).trans eBB
        have hu := hu.st k255 t_M (by decide)
        have hk256 : ∀ b, b ≠ M → f253 b = f b := k255
        refine lv_aload_n hx hb d_M_spanOf_211 rfl (lv_at hl 1 rfl) ?_
        refine pf_get (v := .int (nI (mtp - 1))) (C := "BigRunnerModel") (T := FT10) (N := 45) hx hb (hw10 hB _) (fun _ h9 => h9) hown hK hP (lo_in hL t_M (by decide)) e254 rfl 32 (by decide) (wd_979 hB _) rfl d_M_spanOf_212 ?_
        refine lv_iconst (v := nI 1) hx hb d_M_spanOf_215 (by decide) ?_
        refine pf_isubN (x := mtp - 1) (y := 1) hx hb (by omega) d_M_spanOf_216 ?_
        refine lv_istore_n (lv' := [(3, .int (nI ((mtp - 1) - 1))), (2, .int (nI 6)), (0, .ref M), (1, .int (nI p9))]) hx hb d_M_spanOf_217 rfl hl (by decide) rfl (fun ls hl => ?_)
        refine lv_iload_n hx hb d_M_spanOf_218 rfl (lv_at hl 1 rfl) ?_
        refine lv_iconst (v := nI 2) hx hb d_M_spanOf_219 (by decide) ?_
        refine lv_icmp_ne (tgt := 315) hx hb d_M_spanOf_220 (by decide) (fun b257 => ?_) (fun b257 => ?_)
        · skip
          replace b257 := mt (nI_eq (a := 6) (b := 2) (by omega) (by omega)).mpr b257
          refine lv_iload_n hx hb d_M_spanOf_315 rfl (lv_at hl 1 rfl) ?_
          refine lv_iconst (v := nI 3) hx hb d_M_spanOf_316 (by decide) ?_
          refine lv_icmp_ne (tgt := 412) hx hb d_M_spanOf_317 (by decide) (fun b258 => ?_) (fun b258 => ?_)
          · skip
            replace b258 := mt (nI_eq (a := 6) (b := 3) (by omega) (by omega)).mpr b258
            refine lv_iload_n hx hb d_M_spanOf_412 rfl (lv_at hl 1 rfl) ?_
            refine lv_iconst (v := nI 4) hx hb d_M_spanOf_413 (by decide) ?_
            refine lv_icmp_ne (tgt := 425) hx hb d_M_spanOf_414 (by decide) (fun b259 => ?_) (fun b259 => ?_)
            · skip
              replace b259 := mt (nI_eq (a := 6) (b := 4) (by omega) (by omega)).mpr b259
              refine lv_aload_n hx hb d_M_spanOf_425 rfl (lv_at hl 2 rfl) ?_
              refine lv_iload_n hx hb d_M_spanOf_426 rfl (lv_at hl 0 rfl) ?_
              refine lv_iload_n hx hb d_M_spanOf_427 rfl (lv_at hl 1 rfl) ?_
              refine lv_bipush (v := nI 6) hx hb d_M_spanOf_428 (by decide) ?_
              refine lv_icmp_ne (tgt := 437) hx hb d_M_spanOf_430 (by decide) (fun b260 => ?_) (fun b260 => ?_)
              · skip
                replace b260 := mt (nI_eq (a := 6) (b := 6) (by omega) (by omega)).mpr b260
                exfalso; omega
              · skip
                replace b260 := (nI_eq (a := 6) (b := 6) (by omega) (by omega)).mp b260
                refine lv_iconst (v := nI 1) hx hb d_M_spanOf_433 (by decide) ?_
                refine lv_goto (tgt := 438) hx hb d_M_spanOf_434 (by decide) ?_
                have hI261 := iv_1 hI hL t_M (by decide) hk256 (oc_11.mk t_M (⟨mth, mn, mdr, msz, mix, mdp, mwt, mop, (mtp - 1), mwa, mgi, mpc, mst, mtr, msp, mma, mlg, mdu, e254, (by omega), (by omega), (by omega), (by omega), (by omega), (by omega), (by omega), (by omega), (by omega), (by omega), (by omega), (by omega), (by omega), (by omega), hmb14⟩))
                refine pcc_v (va_runV (C := "BigRunnerModel") (As := [.int (nI ((mtp - 1) - 1)), .int (nI 1)]) (rest := []) ⟨hx, hb, hml, hown, tb_nil⟩ (m2_spanQuotient l g H.size f253 M (((mtp - 1) - 1)) true hUA hUB hAA hBB hL t_M hI261 (by omega) eUA eUB eAA eBB) ⟨(callB_of 2 (tb_one (wd_1183 hB _)) tb_good1 rfl rfl rfl (wd_82 hB _) (wd_1180 hB _) (by decide +kernel) ⟨Nat.le_of_ble_eq_true rfl, Nat.le_of_ble_eq_true rfl⟩), (wd_1182 hB _), (wd_55 hB _)⟩ ⟨pe_bl, pg_recv (ci := 10) hK hP (lo_in hL t_M (by decide)) e254 rfl, pe_pre hB hK hP hD⟩ rfl rfl hl.1 rfl (lv_room (Nat.le_of_ble_eq_true rfl)) d_M_spanOf_438 ⟨Nat.le_of_ble_eq_true rfl, Nat.le_of_ble_eq_true rfl⟩) hS (fun f263 H locs hq264 hP hD hS => ?_)
                obtain ⟨aUA_265, aUB_266, aAA_267, aBB_268, hI1_269, hu1_270⟩ := hq264
                have hu := hu.tr hu1_270 (by decide)
                have eC := hu1_270.at (lo_k11_6 hL _ t_M) (by decide) eC
                have eA := hu1_270.at (lo_k11_7 hL _ t_M) (by decide) eA
                have eUN := hu1_270.at (lo_k11_19 hL _ t_M) (by decide) eUN
                have eOV := hu1_270.at (lo_k11_20 hL _ t_M) (by decide) eOV
                have eLW := hu1_270.at (lo_k11_17 hL _ t_M) (by decide) eLW
                have eHG := hu1_270.at (lo_k11_18 hL _ t_M) (by decide) eHG
                have e254 := hu1_270.at t_M (by decide) e254
                refine lv_aload_n hx hb d_M_spanOf_441 rfl (lv_at hl 2 rfl) ?_
                refine pf_get (v := .ref (g.lk M 25)) (C := "BigRunnerModel") (T := FT10) (N := 45) hx hb (hw10 hB _) (fun _ h9 => h9) hown hK hP (lo_in hL t_M (by decide)) e254 rfl 25 (by decide) (wd_972 hB _) rfl d_M_spanOf_442 ?_
                refine lv_iload_n hx hb d_M_spanOf_445 rfl (lv_at hl 0 rfl) ?_
                have jn271 : ∀ (bj272 : Int32) (H : Heap) (locs : List Loc), va_P g.D vcl (va_pl g.LP f263) H → va_D (pc_A g s.heap.size) (va_pl g.LP f263) → va_S (pc_A g s.heap.size) s.heap H locs → W p l e ({ frames := 3, cells := 0, slots := 0, locals := 77 }) s m args below meth c H locs 0 0 (MQ below (va_Qv (fun f1 => (∃ (tp1 : Nat), (tp1 ≤ 80) ∧ (TR w mtp tp1) ∧ (∃ (ua1 : Nat → Int32) (a1 : Nat → Int64) (ub1 : Nat → Int32) (b1 : Nat → Int64), f1 (g.lk M 23) = .inl (g.ac (g.lk M 23), 80, .inl ua1) ∧ f1 (g.lk M 21) = .inl (g.ac (g.lk M 21), 80, .inr (.inl a1)) ∧ f1 (g.lk M 24) = .inl (g.ac (g.lk M 24), 80, .inl ub1) ∧ f1 (g.lk M 22) = .inl (g.ac (g.lk M 22), 80, .inr (.inl b1)) ∧ MR ua1 a1 ub1 b1 tp1 (xst en S w v)) ∧ f1 M = .inr (10, [.int mth, .ref (g.lk M 1), .int (nI mn), .ref (g.lk M 3), .ref (g.lk M 4), .int (nI mdr), .ref (g.lk M 6), .ref (g.lk M 7), .ref (g.lk M 8), .int (nI msz), .int (nI mix), .int (nI mdp), .ref (g.lk M 12), .int (nI mwt), .ref (g.lk M 14), .ref (g.lk M 15), .int (nI mop), .ref (g.lk M 17), .ref (g.lk M 18), .ref (g.lk M 19), .ref (g.lk M 20), .ref (g.lk M 21), .ref (g.lk M 22), .ref (g.lk M 23), .ref (g.lk M 24), .ref (g.lk M 25), .ref (g.lk M 26), .ref (g.lk M 27), .ref (g.lk M 28), .ref (g.lk M 29), .ref (g.lk M 30), .ref (g.lk M 31), .int (nI tp1), .ref (g.lk M 33), .ref (g.lk M 34), .ref (g.lk M 35), .int (nI mwa), .int (nI mgi), .int (nI mpc), .int (nI mst), .int (nI mtr), .int (nI msp), .int mma, .int mlg, .int mdu])) ∧ (IV g f1) ∧ (un [11, 45, 53, 54, 55, 56, 57] g f f1)) (pc_out g s.heap.size) (pc_A g s.heap.size)) args s 0 0 (pc_A g s.heap.size)) (F0 m 490 ls [.int bj272, .int (nI ((mtp - 1) - 1)), .ref (g.lk M 25)]) := by
                  intro bj272 H locs hP hD hS
                  obtain ⟨h_274, e273⟩ := oc_57.of (lo_k11_25 hL _ t_M) (hI1_269.1 (g.lk M 25))
                  refine pf_zast (i := (mtp - 1) - 1) hx hb hK hP hD hS (lo_in hL (lo_k11_25 hL _ t_M) (by decide)) e273 (lo_t57 hL _ (lo_k11_25 hL _ t_M)) (by omega) (by decide) d_M_spanOf_490 (fun f276 H locs e277 k278 hP hD hS => ?_)
                  have eC := (k278 (g.lk M 6) (tg_ne (lo_k11_6 hL _ t_M) (lo_k11_25 hL _ t_M) (by decide))).trans eC
                  have eA := (k278 (g.lk M 7) (tg_ne (lo_k11_7 hL _ t_M) (lo_k11_25 hL _ t_M) (by decide))).trans eA
                  have eUN := (k278 (g.lk M 19) (tg_ne (lo_k11_19 hL _ t_M) (lo_k11_25 hL _ t_M) (by decide))).trans eUN
                  have eOV := (k278 (g.lk M 20) (tg_ne (lo_k11_20 hL _ t_M) (lo_k11_25 hL _ t_M) (by decide))).trans eOV
                  have eLW := (k278 (g.lk M 17) (tg_ne (lo_k11_17 hL _ t_M) (lo_k11_25 hL _ t_M) (by decide))).trans eLW
                  have eHG := (k278 (g.lk M 18) (tg_ne (lo_k11_18 hL _ t_M) (lo_k11_25 hL _ t_M) (by decide))).trans eHG
                  have e254 := (k278 M (tg_ne t_M (lo_k11_25 hL _ t_M) (by decide))).trans e254
                  have aUA_265 := (k278 (g.lk M 23) (tg_ne (lo_k11_23 hL _ t_M) (lo_k11_25 hL _ t_M) (by decide))).trans aUA_265
                  have aUB_266 := (k278 (g.lk M 24) (tg_ne (lo_k11_24 hL _ t_M) (lo_k11_25 hL _ t_M) (by decide))).trans aUB_266
                  have aAA_267 := (k278 (g.lk M 21) (tg_ne (lo_k11_21 hL _ t_M) (lo_k11_25 hL _ t_M) (by decide))).trans aAA_267
                  have aBB_268 := (k278 (g.lk M 22) (tg_ne (lo_k11_22 hL _ t_M) (lo_k11_25 hL _ t_M) (by decide))).trans aBB_268
                  have hu := hu.st k278 (lo_k11_25 hL _ t_M) (by decide)
                  have hk279 : ∀ b, b ≠ (g.lk M 25) → f276 b = f263 b := k278
                  refine lv_aload_n hx hb d_M_spanOf_491 rfl (lv_at hl 2 rfl) ?_
                  refine pf_get (v := .ref (g.lk M 8)) (C := "BigRunnerModel") (T := FT10) (N := 45) hx hb (hw10 hB _) (fun _ h9 => h9) hown hK hP (lo_in hL t_M (by decide)) e254 rfl 8 (by decide) (wd_955 hB _) rfl d_M_spanOf_492 ?_
                  refine lv_iload_n hx hb d_M_spanOf_495 rfl (lv_at hl 3 rfl) ?_
                  refine lv_aload_n hx hb d_M_spanOf_496 rfl (lv_at hl 2 rfl) ?_
                  refine pf_get (v := .ref (g.lk M 25)) (C := "BigRunnerModel") (T := FT10) (N := 45) hx hb (hw10 hB _) (fun _ h9 => h9) hown hK hP (lo_in hL t_M (by decide)) e254 rfl 25 (by decide) (wd_972 hB _) rfl d_M_spanOf_497 ?_
                  refine lv_iload_n hx hb d_M_spanOf_500 rfl (lv_at hl 0 rfl) ?_
                  refine pf_zald (i := (mtp - 1) - 1) hx hb hK hP (lo_in hL (lo_k11_25 hL _ t_M) (by decide)) e277 (lo_t57 hL _ (lo_k11_25 hL _ t_M)) (by omega) (by decide) d_M_spanOf_501 ?_
                  have hI280 := iv_1 hI1_269 hL (lo_k11_25 hL _ t_M) (by decide) hk279 (oc_57.mk (lo_k11_25 hL _ t_M) (⟨_, e277⟩))
                  obtain ⟨h_282, e281⟩ := oc_45.of (lo_k11_8 hL _ t_M) (hI280.1 (g.lk M 8))
                  refine pf_zast (i := p9) hx hb hK hP hD hS (lo_in hL (lo_k11_8 hL _ t_M) (by decide)) e281 (lo_t45 hL _ (lo_k11_8 hL _ t_M)) (by omega) (by decide) d_M_spanOf_502 (fun f284 H locs e285 k286 hP hD hS => ?_)
                  have eC := (k286 (g.lk M 6) (tg_ne (lo_k11_6 hL _ t_M) (lo_k11_8 hL _ t_M) (by decide))).trans eC
                  have eA := (k286 (g.lk M 7) (tg_ne (lo_k11_7 hL _ t_M) (lo_k11_8 hL _ t_M) (by decide))).trans eA
                  have eUN := (k286 (g.lk M 19) (tg_ne (lo_k11_19 hL _ t_M) (lo_k11_8 hL _ t_M) (by decide))).trans eUN
                  have eOV := (k286 (g.lk M 20) (tg_ne (lo_k11_20 hL _ t_M) (lo_k11_8 hL _ t_M) (by decide))).trans eOV
                  have eLW := (k286 (g.lk M 17) (tg_ne (lo_k11_17 hL _ t_M) (lo_k11_8 hL _ t_M) (by decide))).trans eLW
                  have eHG := (k286 (g.lk M 18) (tg_ne (lo_k11_18 hL _ t_M) (lo_k11_8 hL _ t_M) (by decide))).trans eHG
                  have e254 := (k286 M (tg_ne t_M (lo_k11_8 hL _ t_M) (by decide))).trans e254
                  have aUA_265 := (k286 (g.lk M 23) (tg_ne (lo_k11_23 hL _ t_M) (lo_k11_8 hL _ t_M) (by decide))).trans aUA_265
                  have aUB_266 := (k286 (g.lk M 24) (tg_ne (lo_k11_24 hL _ t_M) (lo_k11_8 hL _ t_M) (by decide))).trans aUB_266
                  have aAA_267 := (k286 (g.lk M 21) (tg_ne (lo_k11_21 hL _ t_M) (lo_k11_8 hL _ t_M) (by decide))).trans aAA_267
                  have aBB_268 := (k286 (g.lk M 22) (tg_ne (lo_k11_22 hL _ t_M) (lo_k11_8 hL _ t_M) (by decide))).trans aBB_268
                  have e277 := (k286 (g.lk M 25) (tg_ne (lo_k11_25 hL _ t_M) (lo_k11_8 hL _ t_M) (by decide))).trans e277
                  have hu := hu.st k286 (lo_k11_8 hL _ t_M) (by decide)
                  have hk287 : ∀ b, b ≠ (g.lk M 8) → f284 b = f276 b := k286
                  have hI288 := iv_1 hI280 hL (lo_k11_8 hL _ t_M) (by decide) hk287 (oc_45.mk (lo_k11_8 hL _ t_M) (⟨_, e285⟩))
                  exact pe_vret hx hb hr hlocks hK hP hD hS d_M_spanOf_503 ⟨⟨(mtp - 1), by omega, (TR.mk (fun _ => by omega) (fun _ => by omega) (fun _ _ => by omega)), ⟨_, _, _, _, aUA_265, aAA_267, aUB_266, aBB_268, (by rw [hwq, hS8]; exact MR_v (o := iq true X9 Y9) (show mtp - 1 = mtp - 1 - 1 + 1 by omega) hMR9 (r_quo true hX1 hX2 (fun _ => (show RO (hUA (mtp - 1 - 1 + 1)) (hAA (mtp - 1 - 1 + 1)) Y9.1 by rw [show mtp - 1 - 1 + 1 = mtp - 1 by omega]; exact hY1)) (fun _ => (show RO (hUB (mtp - 1 - 1 + 1)) (hBB (mtp - 1 - 1 + 1)) Y9.2 by rw [show mtp - 1 - 1 + 1 = mtp - 1 by omega]; exact hY2))).1 (r_quo true hX1 hX2 (fun _ => (show RO (hUA (mtp - 1 - 1 + 1)) (hAA (mtp - 1 - 1 + 1)) Y9.1 by rw [show mtp - 1 - 1 + 1 = mtp - 1 by omega]; exact hY1)) (fun _ => (show RO (hUB (mtp - 1 - 1 + 1)) (hBB (mtp - 1 - 1 + 1)) Y9.2 by rw [show mtp - 1 - 1 + 1 = mtp - 1 by omega]; exact hY2))).2)⟩, e254⟩, hI288, hu⟩
                refine lv_aload_n hx hb d_M_spanOf_446 rfl (lv_at hl 2 rfl) ?_
                refine pf_get (v := .ref (g.lk M 25)) (C := "BigRunnerModel") (T := FT10) (N := 45) hx hb (hw10 hB _) (fun _ h9 => h9) hown hK hP (lo_in hL t_M (by decide)) e254 rfl 25 (by decide) (wd_972 hB _) rfl d_M_spanOf_447 ?_
                refine lv_iload_n hx hb d_M_spanOf_450 rfl (lv_at hl 0 rfl) ?_
                obtain ⟨h_290, e289⟩ := oc_57.of (lo_k11_25 hL _ t_M) (hI1_269.1 (g.lk M 25))
                refine pf_zald (i := (mtp - 1) - 1) hx hb hK hP (lo_in hL (lo_k11_25 hL _ t_M) (by decide)) e289 (lo_t57 hL _ (lo_k11_25 hL _ t_M)) (by omega) (by decide) d_M_spanOf_451 ?_
                refine lv_if_eq (tgt := 489) hx hb d_M_spanOf_452 (by decide) (fun b292 => ?_) (fun b292 => ?_)
                · skip
                  replace b292 : (h_290 ((mtp - 1) - 1)) = nI 0 := b292
                  refine lv_iconst (v := nI 0) hx hb d_M_spanOf_489 (by decide) ?_
                  exact jn271 ((nI 0)) _ _ hP hD hS
                · skip
                  replace b292 : ¬ (h_290 ((mtp - 1) - 1)) = nI 0 := b292
                  refine lv_aload_n hx hb d_M_spanOf_455 rfl (lv_at hl 2 rfl) ?_
                  refine pf_get (v := .ref (g.lk M 25)) (C := "BigRunnerModel") (T := FT10) (N := 45) hx hb (hw10 hB _) (fun _ h9 => h9) hown hK hP (lo_in hL t_M (by decide)) e254 rfl 25 (by decide) (wd_972 hB _) rfl d_M_spanOf_456 ?_
                  refine lv_aload_n hx hb d_M_spanOf_459 rfl (lv_at hl 2 rfl) ?_
                  refine pf_get (v := .int (nI (mtp - 1))) (C := "BigRunnerModel") (T := FT10) (N := 45) hx hb (hw10 hB _) (fun _ h9 => h9) hown hK hP (lo_in hL t_M (by decide)) e254 rfl 32 (by decide) (wd_979 hB _) rfl d_M_spanOf_460 ?_
                  refine pf_zald (i := mtp - 1) hx hb hK hP (lo_in hL (lo_k11_25 hL _ t_M) (by decide)) e289 (lo_t57 hL _ (lo_k11_25 hL _ t_M)) (by omega) (by decide) d_M_spanOf_463 ?_
                  refine lv_if_eq (tgt := 489) hx hb d_M_spanOf_464 (by decide) (fun b293 => ?_) (fun b293 => ?_)
                  · skip
                    replace b293 : (h_290 (mtp - 1)) = nI 0 := b293
                    refine lv_iconst (v := nI 0) hx hb d_M_spanOf_489 (by decide) ?_
                    exact jn271 ((nI 0)) _ _ hP hD hS
                  · skip
                    replace b293 : ¬ (h_290 (mtp - 1)) = nI 0 := b293
                    refine lv_aload_n hx hb d_M_spanOf_467 rfl (lv_at hl 2 rfl) ?_
                    refine pf_get (v := .ref (g.lk M 23)) (C := "BigRunnerModel") (T := FT10) (N := 45) hx hb (hw10 hB _) (fun _ h9 => h9) hown hK hP (lo_in hL t_M (by decide)) e254 rfl 23 (by decide) (wd_970 hB _) rfl d_M_spanOf_468 ?_
                    refine lv_iload_n hx hb d_M_spanOf_471 rfl (lv_at hl 0 rfl) ?_
                    refine pf_zald (i := (mtp - 1) - 1) hx hb hK hP (lo_in hL (lo_k11_23 hL _ t_M) (by decide)) aUA_265 (lo_t55 hL _ (lo_k11_23 hL _ t_M)) (by omega) (by decide) d_M_spanOf_472 ?_
                    refine lv_if_ne (tgt := 489) hx hb d_M_spanOf_473 (by decide) (fun b294 => ?_) (fun b294 => ?_)
                    · skip
                      replace b294 : ¬ ((upd hUA ((mtp - 1) - 1) (bI (mU (sqf true (hUA ((mtp - 1) - 1)) (hUB ((mtp - 1) - 1)) (hAA ((mtp - 1) - 1)) (hUA (((mtp - 1) - 1) + 1)) (hUB (((mtp - 1) - 1) + 1))) (squ true (hUA ((mtp - 1) - 1)) (hUB ((mtp - 1) - 1)) (hAA ((mtp - 1) - 1)) (hBB ((mtp - 1) - 1)) (hUA (((mtp - 1) - 1) + 1)) (hUB (((mtp - 1) - 1) + 1)) (hAA (((mtp - 1) - 1) + 1)) (hBB (((mtp - 1) - 1) + 1)))))) ((mtp - 1) - 1)) = nI 0 := b294
                      refine lv_iconst (v := nI 0) hx hb d_M_spanOf_489 (by decide) ?_
                      exact jn271 ((nI 0)) _ _ hP hD hS
                    · skip
                      replace b294 : ((upd hUA ((mtp - 1) - 1) (bI (mU (sqf true (hUA ((mtp - 1) - 1)) (hUB ((mtp - 1) - 1)) (hAA ((mtp - 1) - 1)) (hUA (((mtp - 1) - 1) + 1)) (hUB (((mtp - 1) - 1) + 1))) (squ true (hUA ((mtp - 1) - 1)) (hUB ((mtp - 1) - 1)) (hAA ((mtp - 1) - 1)) (hBB ((mtp - 1) - 1)) (hUA (((mtp - 1) - 1) + 1)) (hUB (((mtp - 1) - 1) + 1)) (hAA (((mtp - 1) - 1) + 1)) (hBB (((mtp - 1) - 1) + 1)))))) ((mtp - 1) - 1)) = nI 0 := b294
                      refine lv_aload_n hx hb d_M_spanOf_476 rfl (lv_at hl 2 rfl) ?_
                      refine pf_get (v := .ref (g.lk M 24)) (C := "BigRunnerModel") (T := FT10) (N := 45) hx hb (hw10 hB _) (fun _ h9 => h9) hown hK hP (lo_in hL t_M (by decide)) e254 rfl 24 (by decide) (wd_971 hB _) rfl d_M_spanOf_477 ?_
                      refine lv_iload_n hx hb d_M_spanOf_480 rfl (lv_at hl 0 rfl) ?_
                      refine pf_zald (i := (mtp - 1) - 1) hx hb hK hP (lo_in hL (lo_k11_24 hL _ t_M) (by decide)) aUB_266 (lo_t56 hL _ (lo_k11_24 hL _ t_M)) (by omega) (by decide) d_M_spanOf_481 ?_
                      refine lv_if_ne (tgt := 489) hx hb d_M_spanOf_482 (by decide) (fun b295 => ?_) (fun b295 => ?_)
                      · skip
                        replace b295 : ¬ ((upd hUB ((mtp - 1) - 1) (bI (mU (sqr true (hUA ((mtp - 1) - 1)) (hUB ((mtp - 1) - 1)) (hUA (((mtp - 1) - 1) + 1)) (hUB (((mtp - 1) - 1) + 1))) (sqm true (hUA ((mtp - 1) - 1)) (hUB ((mtp - 1) - 1)) (hAA ((mtp - 1) - 1)) (hBB ((mtp - 1) - 1)) (hUA (((mtp - 1) - 1) + 1)) (hUB (((mtp - 1) - 1) + 1)) (hAA (((mtp - 1) - 1) + 1)) (hBB (((mtp - 1) - 1) + 1)))))) ((mtp - 1) - 1)) = nI 0 := b295
                        refine lv_iconst (v := nI 0) hx hb d_M_spanOf_489 (by decide) ?_
                        exact jn271 ((nI 0)) _ _ hP hD hS
                      · skip
                        replace b295 : ((upd hUB ((mtp - 1) - 1) (bI (mU (sqr true (hUA ((mtp - 1) - 1)) (hUB ((mtp - 1) - 1)) (hUA (((mtp - 1) - 1) + 1)) (hUB (((mtp - 1) - 1) + 1))) (sqm true (hUA ((mtp - 1) - 1)) (hUB ((mtp - 1) - 1)) (hAA ((mtp - 1) - 1)) (hBB ((mtp - 1) - 1)) (hUA (((mtp - 1) - 1) + 1)) (hUB (((mtp - 1) - 1) + 1)) (hAA (((mtp - 1) - 1) + 1)) (hBB (((mtp - 1) - 1) + 1)))))) ((mtp - 1) - 1)) = nI 0 := b295
                        refine lv_iconst (v := nI 1) hx hb d_M_spanOf_485 (by decide) ?_
                        refine lv_goto (tgt := 490) hx hb d_M_spanOf_486 (by decide) ?_
                        exact jn271 ((nI 1)) _ _ hP hD hS
            · skip
              replace b259 := (nI_eq (a := 6) (b := 4) (by omega) (by omega)).mp b259
              exfalso; omega
          · skip
            replace b258 := (nI_eq (a := 6) (b := 3) (by omega) (by omega)).mp b258
            exfalso; omega
        · skip
          replace b257 := (nI_eq (a := 6) (b := 2) (by omega) (by omega)).mp b257
          exfalso; omega
      · skip
        replace b252 := (nI_eq (a := 6) (b := 7) (by omega) (by omega)).mp b252
        exfalso; omega
    · skip
      replace b251 := mt (nI_leI (a := 2) (b := 6) (by omega) (by omega)).mpr b251
      exfalso; omega
  · skip
    rw [hwq] at hw
    clear hv3 hwt
    clear hw1
    have hw7 := hw7 hwq
    obtain ⟨X9, S9, hS9, hX1, hX2, hMR9⟩ := MR_pop hMR hw7
    clear hw2
    refine lv_aload_n hx hb d_M_spanOf_0 rfl (lv_at hl 0 rfl) ?_
    refine pf_get (v := .ref (g.lk M 6)) (C := "BigRunnerModel") (T := FT10) (N := 45) hx hb (hw10 hB _) (fun _ h9 => h9) hown hK hP (lo_in hL t_M (by decide)) eM rfl 6 (by decide) (wd_953 hB _) rfl d_M_spanOf_1 ?_
    refine lv_iload_n hx hb d_M_spanOf_4 rfl (lv_at hl 1 rfl) ?_
    refine pf_iald (i := p9) hx hb hK hP (lo_in hL (lo_k11_6 hL _ t_M) (by decide)) eC (lo_t43 hL _ (lo_k11_6 hL _ t_M)) (by omega) (by decide) d_M_spanOf_5 ?_
    refine lv_topi (fun z_ hz_ => ?_)
    obtain rfl : z_ = nI 7 := hz_.trans hw
    refine lv_istore_n (lv' := [(2, .int (nI 7)), (0, .ref M), (1, .int (nI p9))]) hx hb d_M_spanOf_6 rfl hl (by decide) rfl (fun ls hl => ?_)
    refine lv_iload_n hx hb d_M_spanOf_7 rfl (lv_at hl 0 rfl) ?_
    refine lv_iconst (v := nI 2) hx hb d_M_spanOf_8 (by decide) ?_
    refine lv_icmp_ge (tgt := 121) hx hb d_M_spanOf_9 (by decide) (fun b296 => ?_) (fun b296 => ?_)
    · skip
      replace b296 := (nI_leI (a := 2) (b := 7) (by omega) (by omega)).mp b296
      refine lv_iload_n hx hb d_M_spanOf_121 rfl (lv_at hl 0 rfl) ?_
      refine lv_bipush (v := nI 7) hx hb d_M_spanOf_122 (by decide) ?_
      refine lv_icmp_ne (tgt := 201) hx hb d_M_spanOf_124 (by decide) (fun b297 => ?_) (fun b297 => ?_)
      · skip
        replace b297 := mt (nI_eq (a := 7) (b := 7) (by omega) (by omega)).mpr b297
        exfalso; omega
      · skip
        replace b297 := (nI_eq (a := 7) (b := 7) (by omega) (by omega)).mp b297
        refine lv_aload_n hx hb d_M_spanOf_127 rfl (lv_at hl 1 rfl) ?_
        refine lv_aload_n hx hb d_M_spanOf_128 rfl (lv_at hl 1 rfl) ?_
        refine pf_get (v := .int (nI mtp)) (C := "BigRunnerModel") (T := FT10) (N := 45) hx hb (hw10 hB _) (fun _ h9 => h9) hown hK hP (lo_in hL t_M (by decide)) eM rfl 32 (by decide) (wd_979 hB _) rfl d_M_spanOf_129 ?_
        refine lv_iconst (v := nI 1) hx hb d_M_spanOf_132 (by decide) ?_
        refine pf_isubN (x := mtp) (y := 1) hx hb (by omega) d_M_spanOf_133 ?_
        refine lv_aload_n hx hb d_M_spanOf_134 rfl (lv_at hl 1 rfl) ?_
        refine pf_get (v := .ref (g.lk M 22)) (C := "BigRunnerModel") (T := FT10) (N := 45) hx hb (hw10 hB _) (fun _ h9 => h9) hown hK hP (lo_in hL t_M (by decide)) eM rfl 22 (by decide) (wd_969 hB _) rfl d_M_spanOf_135 ?_
        refine lv_aload_n hx hb d_M_spanOf_138 rfl (lv_at hl 1 rfl) ?_
        refine pf_get (v := .int (nI mtp)) (C := "BigRunnerModel") (T := FT10) (N := 45) hx hb (hw10 hB _) (fun _ h9 => h9) hown hK hP (lo_in hL t_M (by decide)) eM rfl 32 (by decide) (wd_979 hB _) rfl d_M_spanOf_139 ?_
        refine lv_iconst (v := nI 1) hx hb d_M_spanOf_142 (by decide) ?_
        refine pf_isubN (x := mtp) (y := 1) hx hb (by omega) d_M_spanOf_143 ?_
        refine pf_lald (i := mtp - 1) hx hb hK hP (lo_in hL (lo_k11_22 hL _ t_M) (by decide)) eBB (lo_t54 hL _ (lo_k11_22 hL _ t_M)) (by omega) (by decide) d_M_spanOf_144 ?_
        refine lv_lneg hx hb d_M_spanOf_145 ?_
        refine lv_aload_n hx hb d_M_spanOf_146 rfl (lv_at hl 1 rfl) ?_
        refine pf_get (v := .ref (g.lk M 21)) (C := "BigRunnerModel") (T := FT10) (N := 45) hx hb (hw10 hB _) (fun _ h9 => h9) hown hK hP (lo_in hL t_M (by decide)) eM rfl 21 (by decide) (wd_968 hB _) rfl d_M_spanOf_147 ?_
        refine lv_aload_n hx hb d_M_spanOf_150 rfl (lv_at hl 1 rfl) ?_
        refine pf_get (v := .int (nI mtp)) (C := "BigRunnerModel") (T := FT10) (N := 45) hx hb (hw10 hB _) (fun _ h9 => h9) hown hK hP (lo_in hL t_M (by decide)) eM rfl 32 (by decide) (wd_979 hB _) rfl d_M_spanOf_151 ?_
        refine lv_iconst (v := nI 1) hx hb d_M_spanOf_154 (by decide) ?_
        refine pf_isubN (x := mtp) (y := 1) hx hb (by omega) d_M_spanOf_155 ?_
        refine pf_lald (i := mtp - 1) hx hb hK hP (lo_in hL (lo_k11_21 hL _ t_M) (by decide)) eAA (lo_t53 hL _ (lo_k11_21 hL _ t_M)) (by omega) (by decide) d_M_spanOf_156 ?_
        refine lv_lneg hx hb d_M_spanOf_157 ?_
        refine lv_aload_n hx hb d_M_spanOf_158 rfl (lv_at hl 1 rfl) ?_
        refine pf_get (v := .ref (g.lk M 24)) (C := "BigRunnerModel") (T := FT10) (N := 45) hx hb (hw10 hB _) (fun _ h9 => h9) hown hK hP (lo_in hL t_M (by decide)) eM rfl 24 (by decide) (wd_971 hB _) rfl d_M_spanOf_159 ?_
        refine lv_aload_n hx hb d_M_spanOf_162 rfl (lv_at hl 1 rfl) ?_
        refine pf_get (v := .int (nI mtp)) (C := "BigRunnerModel") (T := FT10) (N := 45) hx hb (hw10 hB _) (fun _ h9 => h9) hown hK hP (lo_in hL t_M (by decide)) eM rfl 32 (by decide) (wd_979 hB _) rfl d_M_spanOf_163 ?_
        refine lv_iconst (v := nI 1) hx hb d_M_spanOf_166 (by decide) ?_
        refine pf_isubN (x := mtp) (y := 1) hx hb (by omega) d_M_spanOf_167 ?_
        refine pf_zald (i := mtp - 1) hx hb hK hP (lo_in hL (lo_k11_24 hL _ t_M) (by decide)) eUB (lo_t56 hL _ (lo_k11_24 hL _ t_M)) (by omega) (by decide) d_M_spanOf_168 ?_
        refine lv_topi (fun z_ hz_ => ?_)
        obtain rfl : z_ = bI (nzf (hUB (mtp - 1))) := hz_.trans (RV_nz hX2.rv).2
        refine lv_aload_n hx hb d_M_spanOf_169 rfl (lv_at hl 1 rfl) ?_
        refine pf_get (v := .ref (g.lk M 23)) (C := "BigRunnerModel") (T := FT10) (N := 45) hx hb (hw10 hB _) (fun _ h9 => h9) hown hK hP (lo_in hL t_M (by decide)) eM rfl 23 (by decide) (wd_970 hB _) rfl d_M_spanOf_170 ?_
        refine lv_aload_n hx hb d_M_spanOf_173 rfl (lv_at hl 1 rfl) ?_
        refine pf_get (v := .int (nI mtp)) (C := "BigRunnerModel") (T := FT10) (N := 45) hx hb (hw10 hB _) (fun _ h9 => h9) hown hK hP (lo_in hL t_M (by decide)) eM rfl 32 (by decide) (wd_979 hB _) rfl d_M_spanOf_174 ?_
        refine lv_iconst (v := nI 1) hx hb d_M_spanOf_177 (by decide) ?_
        refine pf_isubN (x := mtp) (y := 1) hx hb (by omega) d_M_spanOf_178 ?_
        refine pf_zald (i := mtp - 1) hx hb hK hP (lo_in hL (lo_k11_23 hL _ t_M) (by decide)) eUA (lo_t55 hL _ (lo_k11_23 hL _ t_M)) (by omega) (by decide) d_M_spanOf_179 ?_
        refine lv_topi (fun z_ hz_ => ?_)
        obtain rfl : z_ = bI (nzf (hUA (mtp - 1))) := hz_.trans (RV_nz hX1.rv).2
        refine pcc_v (va_runV (C := "BigRunnerModel") (As := [.int (nI (mtp - 1)), .long (-((hBB (mtp - 1)))), .long (-((hAA (mtp - 1)))), .int (bI (nzf (hUB (mtp - 1)))), .int (bI (nzf (hUA (mtp - 1))))]) (rest := []) ⟨hx, hb, hml, hown, tb_nil⟩ (m2_interval l g s.heap.size f M ((mtp - 1)) ((-((hBB (mtp - 1))))) ((-((hAA (mtp - 1))))) ((nzf (hUB (mtp - 1)))) ((nzf (hUA (mtp - 1)))) hUA hUB hAA hBB hL t_M hI (by omega) eUA eUB eAA eBB) ⟨(callB_of 5 (tb_one (wd_1160 hB _)) tb_good1 rfl rfl rfl (wd_82 hB _) (wd_1157 hB _) (by decide +kernel) ⟨Nat.le_of_ble_eq_true rfl, Nat.le_of_ble_eq_true rfl⟩), (wd_1159 hB _), (wd_53 hB _)⟩ ⟨pe_bl, pg_recv (ci := 10) hK hP (lo_in hL t_M (by decide)) eM rfl, pe_pre hB hK hP hD⟩ rfl rfl hl.1 rfl (lv_room (Nat.le_of_ble_eq_true rfl)) d_M_spanOf_180 ⟨Nat.le_of_ble_eq_true rfl, Nat.le_of_ble_eq_true rfl⟩) hS (fun f299 H locs hq300 hP hD hS => ?_)
        obtain ⟨aUA_301, aUB_302, aAA_303, aBB_304, hI1_305, hu1_306⟩ := hq300
        have hu := hu.tr hu1_306 (by decide)
        have eM := hu1_306.at t_M (by decide) eM
        have eC := hu1_306.at (lo_k11_6 hL _ t_M) (by decide) eC
        have eA := hu1_306.at (lo_k11_7 hL _ t_M) (by decide) eA
        have eUN := hu1_306.at (lo_k11_19 hL _ t_M) (by decide) eUN
        have eOV := hu1_306.at (lo_k11_20 hL _ t_M) (by decide) eOV
        have eLW := hu1_306.at (lo_k11_17 hL _ t_M) (by decide) eLW
        have eHG := hu1_306.at (lo_k11_18 hL _ t_M) (by decide) eHG
        refine lv_aload_n hx hb d_M_spanOf_183 rfl (lv_at hl 1 rfl) ?_
        refine pf_get (v := .ref (g.lk M 8)) (C := "BigRunnerModel") (T := FT10) (N := 45) hx hb (hw10 hB _) (fun _ h9 => h9) hown hK hP (lo_in hL t_M (by decide)) eM rfl 8 (by decide) (wd_955 hB _) rfl d_M_spanOf_184 ?_
        refine lv_iload_n hx hb d_M_spanOf_187 rfl (lv_at hl 2 rfl) ?_
        refine lv_aload_n hx hb d_M_spanOf_188 rfl (lv_at hl 1 rfl) ?_
        refine pf_get (v := .ref (g.lk M 25)) (C := "BigRunnerModel") (T := FT10) (N := 45) hx hb (hw10 hB _) (fun _ h9 => h9) hown hK hP (lo_in hL t_M (by decide)) eM rfl 25 (by decide) (wd_972 hB _) rfl d_M_spanOf_189 ?_
        refine lv_aload_n hx hb d_M_spanOf_192 rfl (lv_at hl 1 rfl) ?_
        refine pf_get (v := .int (nI mtp)) (C := "BigRunnerModel") (T := FT10) (N := 45) hx hb (hw10 hB _) (fun _ h9 => h9) hown hK hP (lo_in hL t_M (by decide)) eM rfl 32 (by decide) (wd_979 hB _) rfl d_M_spanOf_193 ?_
        refine lv_iconst (v := nI 1) hx hb d_M_spanOf_196 (by decide) ?_
        refine pf_isubN (x := mtp) (y := 1) hx hb (by omega) d_M_spanOf_197 ?_
        obtain ⟨h_308, e307⟩ := oc_57.of (lo_k11_25 hL _ t_M) (hI1_305.1 (g.lk M 25))
        refine pf_zald (i := mtp - 1) hx hb hK hP (lo_in hL (lo_k11_25 hL _ t_M) (by decide)) e307 (lo_t57 hL _ (lo_k11_25 hL _ t_M)) (by omega) (by decide) d_M_spanOf_198 ?_
        obtain ⟨h_311, e310⟩ := oc_45.of (lo_k11_8 hL _ t_M) (hI1_305.1 (g.lk M 8))
        refine pf_zast (i := p9) hx hb hK hP hD hS (lo_in hL (lo_k11_8 hL _ t_M) (by decide)) e310 (lo_t45 hL _ (lo_k11_8 hL _ t_M)) (by omega) (by decide) d_M_spanOf_199 (fun f313 H locs e314 k315 hP hD hS => ?_)
        have eM := (k315 M (tg_ne t_M (lo_k11_8 hL _ t_M) (by decide))).trans eM
        have eC := (k315 (g.lk M 6) (tg_ne (lo_k11_6 hL _ t_M) (lo_k11_8 hL _ t_M) (by decide))).trans eC
        have eA := (k315 (g.lk M 7) (tg_ne (lo_k11_7 hL _ t_M) (lo_k11_8 hL _ t_M) (by decide))).trans eA
        have eUN := (k315 (g.lk M 19) (tg_ne (lo_k11_19 hL _ t_M) (lo_k11_8 hL _ t_M) (by decide))).trans eUN
        have eOV := (k315 (g.lk M 20) (tg_ne (lo_k11_20 hL _ t_M) (lo_k11_8 hL _ t_M) (by decide))).trans eOV
        have eLW := (k315 (g.lk M 17) (tg_ne (lo_k11_17 hL _ t_M) (lo_k11_8 hL _ t_M) (by decide))).trans eLW
        have eHG := (k315 (g.lk M 18) (tg_ne (lo_k11_18 hL _ t_M) (lo_k11_8 hL _ t_M) (by decide))).trans eHG
        have aUA_301 := (k315 (g.lk M 23) (tg_ne (lo_k11_23 hL _ t_M) (lo_k11_8 hL _ t_M) (by decide))).trans aUA_301
        have aUB_302 := (k315 (g.lk M 24) (tg_ne (lo_k11_24 hL _ t_M) (lo_k11_8 hL _ t_M) (by decide))).trans aUB_302
        have aAA_303 := (k315 (g.lk M 21) (tg_ne (lo_k11_21 hL _ t_M) (lo_k11_8 hL _ t_M) (by decide))).trans aAA_303
        have aBB_304 := (k315 (g.lk M 22) (tg_ne (lo_k11_22 hL _ t_M) (lo_k11_8 hL _ t_M) (by decide))).trans aBB_304
        have e307 := (k315 (g.lk M 25) (tg_ne (lo_k11_25 hL _ t_M) (lo_k11_8 hL _ t_M) (by decide))).trans e307
        have hu := hu.st k315 (lo_k11_8 hL _ t_M) (by decide)
        have hk316 : ∀ b, b ≠ (g.lk M 8) → f313 b = f299 b := k315
        have hI317 := iv_1 hI1_305 hL (lo_k11_8 hL _ t_M) (by decide) hk316 (oc_45.mk (lo_k11_8 hL _ t_M) (⟨_, e314⟩))
        exact pe_vret hx hb hr hlocks hK hP hD hS d_M_spanOf_200 ⟨⟨mtp, by omega, (TR.mk (fun _ => by omega) (fun _ => by omega) (fun _ _ => by omega)), ⟨_, _, _, _, aUA_301, aAA_303, aUB_302, aBB_304, (by rw [hwq, hS9]; exact MR_v (o := ineg X9) (show mtp = mtp - 1 + 1 by omega) hMR9 (r_neg hX2) (r_neg hX1))⟩, eM⟩, hI317, hu⟩
    · skip
      replace b296 := mt (nI_leI (a := 2) (b := 7) (by omega) (by omega)).mpr b296
      exfalso; omega

