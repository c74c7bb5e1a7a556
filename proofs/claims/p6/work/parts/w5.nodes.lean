theorem LNV_z {sg : Int32} {n : Nat} {h : Nat → Int32} {v : Int} (q : LNV sg n h v) (z : v = 0) : n = 0 := by
  have e := LNV_abs q
  rw [z] at e
  rcases Nat.eq_zero_or_pos n with h0 | h0
  · exact h0
  · have := kv_pos h0 (q.2.2.2.1 h0)
    have e : kv (dg h) n = 0 := e.symm
    omega
theorem LNV_v0 {sg : Int32} {n : Nat} {h : Nat → Int32} {v : Int} (q : LNV sg n h v) (z : sg = nI 0) : v = 0 := by
  rw [q.2.2.2.2, z, ti_0, Int.zero_mul]
set_option maxHeartbeats 4000000 in
set_option maxRecDepth 100000 in
theorem v_fetchS (l : Launch) (g : Lay) (sz : Nat) (f : Nat → va_E) (X : Nat) (pr : Nat) (ix : Nat) (os : Nat) (st : Nat) (mo : Int32) (lo : Int32) (tr : Nat) (n : Nat) (a : Nat) (ri : Nat) (mv : Int64) (hM : Nat → Int64) (hL : LO g) (t_X : g.tg X = 9) (t_pr : g.tg pr = 7) (hI : IV g f) (eX : f X = .inr (8, [.ref pr, .ref (g.lk X 1), .int (nI ix), .ref (g.lk X 3), .ref (g.lk X 4), .ref (g.lk X 5), .ref (g.lk X 6), .ref (g.lk X 7), .int (nI os), .int (nI st), .int mo, .int lo, .int (nI tr)])) (hix : ix ≤ 36) (hos : os ≤ st) (hst : st ≤ 3000) (htr : tr ≤ 3) (eN : f (g.lk (g.lk pr 2) n) = .inr (5, [.int (nI 1), .int (nI a), .int (nI ri), .ref (g.lk (g.lk (g.lk pr 2) n) 3), .int (nI 1), .long mv, .ref (g.lk (g.lk (g.lk pr 2) n) 6)])) (ha : a < 10) (hri : ri < 72) (hn : n < 72) (eM : f (g.lk X 3) = .inl (g.ac (g.lk X 3), 10, .inr (.inl hM))) : Met l ⟨"BigRunner$Runner", "fetch", "(LBigRunner$Node;)V"⟩ [Cond.code ⟨"BigRunner$Runner", "fetch", "(LBigRunner$Node;)V"⟩ prog_9_method_14_code 2 none] ({ frames := 0, cells := 0, slots := 0, locals := 0 }) (va_Pc [.ref X, .ref (g.lk (g.lk pr 2) n)] (pc_in g sz f)) (va_Qv (fun f1 => (f1 (g.lk (g.lk pr 2) n) = .inr (5, [.int (nI 1), .int (nI a), .int (nI ri), .ref (g.lk (g.lk (g.lk pr 2) n) 3), .int (nI 1), .long (hM a), .ref (g.lk (g.lk (g.lk pr 2) n) 6)])) ∧ (IV g f1) ∧ (∀ b, b ≠ (g.lk (g.lk pr 2) n) → f1 b = f b)) (pc_out g sz) (pc_A g sz)) 0 0 (pc_A g sz) := by
  refine pe_ofW (cc := prog_9_method_14_code) (maxL := 2) (ret := none) (lv := [(0, .ref X), (1, .ref (g.lk (g.lk pr 2) n))]) (by decide) (Nat.le_of_ble_eq_true rfl) rfl ?_
  intro p e s m args below meth c ls hx hb hr hml hlocks hown hB hP hK hD hsz hS hl
  subst hsz
  have hu : ∀ b, b ≠ (g.lk (g.lk pr 2) n) → f b = f b := fun _ _ => rfl
  have htn9 := lo_n25 hL _ (lo_k7_2 hL _ t_pr) n (by omega)
  refine lv_aload_n hx hb d_NRunner_fetch_0 rfl (lv_at hl 1 rfl) ?_
  refine pf_get (v := .int (nI 1)) (C := "BigRunner$Node") (T := FT5) (N := 7) hx hb (hw5 hB _) (fun _ h9 => h9) hown hK hP (lo_in hL (lo_e25 hL _ (lo_k7_2 hL _ t_pr) _ (by omega)) (by decide)) eN rfl 4 (by decide) (wd_218 hB _) rfl d_NRunner_fetch_1 ?_
  refine lv_if_eq (tgt := 23) hx hb d_NRunner_fetch_4 (by decide) (fun b1 => ?_) (fun b1 => ?_)
  · skip
    replace b1 := (nI_eq (a := 1) (b := 0) (by omega) (by omega)).mp b1
    exfalso; omega
  · skip
    replace b1 := mt (nI_eq (a := 1) (b := 0) (by omega) (by omega)).mpr b1
    refine lv_aload_n hx hb d_NRunner_fetch_7 rfl (lv_at hl 1 rfl) ?_
    refine lv_aload_n hx hb d_NRunner_fetch_8 rfl (lv_at hl 0 rfl) ?_
    refine pf_get (v := .ref (g.lk X 3)) (C := "BigRunner$Runner") (T := FT8) (N := 13) hx hb (hw8 hB _) (fun _ h9 => h9) hown hK hP (lo_in hL t_X (by decide)) eX rfl 3 (by decide) (wd_335 hB _) rfl d_NRunner_fetch_9 ?_
    refine lv_aload_n hx hb d_NRunner_fetch_12 rfl (lv_at hl 1 rfl) ?_
    refine pf_get (v := .int (nI a)) (C := "BigRunner$Node") (T := FT5) (N := 7) hx hb (hw5 hB _) (fun _ h9 => h9) hown hK hP (lo_in hL (lo_e25 hL _ (lo_k7_2 hL _ t_pr) _ (by omega)) (by decide)) eN rfl 1 (by decide) (wd_208 hB _) rfl d_NRunner_fetch_13 ?_
    refine pf_lald (i := a) hx hb hK hP (lo_in hL (lo_k9_3 hL _ t_X) (by decide)) eM (lo_t27 hL _ (lo_k9_3 hL _ t_X)) (by omega) (by decide) d_NRunner_fetch_16 ?_
    refine pf_put (v := .long (hM a)) (ty := .long) (fs' := [.int (nI 1), .int (nI a), .int (nI ri), .ref (g.lk (g.lk (g.lk pr 2) n) 3), .int (nI 1), .long (hM a), .ref (g.lk (g.lk (g.lk pr 2) n) 6)]) (C := "BigRunner$Node") (T := FT5) (N := 7) hx hb (hw5 hB _) (fun _ h9 => h9) TY5 ok5 nm5 hown hK hP hD hS (lo_in hL (lo_e25 hL _ (lo_k7_2 hL _ t_pr) _ (by omega)) (by decide)) eN rfl 5 (by decide) (wd_221 hB _) rfl (by decide +kernel) rfl rfl (Nat.le_of_ble_eq_true rfl) rfl d_NRunner_fetch_17 (fun f2 H locs e3 k4 hP hD hS => ?_)
    have eX := (k4 X (tg_ne t_X (lo_e25 hL _ (lo_k7_2 hL _ t_pr) _ (by omega)) (by decide))).trans eX
    have eM := (k4 (g.lk X 3) (tg_ne (lo_k9_3 hL _ t_X) (lo_e25 hL _ (lo_k7_2 hL _ t_pr) _ (by omega)) (by decide))).trans eM
    have hu : ∀ b, b ≠ (g.lk (g.lk pr 2) n) → f2 b = f b := fun b q0 => (k4 b q0).trans (hu b q0)
    have hk5 : ∀ b, b ≠ (g.lk (g.lk pr 2) n) → f2 b = f b := k4
    refine lv_goto (tgt := 51) hx hb d_NRunner_fetch_20 (by decide) ?_
    have hI6 := iv_1 hI hL (lo_e25 hL _ (lo_k7_2 hL _ t_pr) _ (by omega)) (by decide) hk5 (oc_6.mk (lo_e25 hL _ (lo_k7_2 hL _ t_pr) _ (by omega)) (⟨1, a, ri, ((nI 1)), ((hM a)), e3, (by omega), (by omega), (by omega), (by omega), (Or.inr rfl), (by omega)⟩))
    exact pe_vret hx hb hr hlocks hK hP hD hS d_NRunner_fetch_51 ⟨e3, hI6, hu⟩
set_option maxHeartbeats 4000000 in
set_option maxRecDepth 100000 in
theorem v_fetchL (l : Launch) (g : Lay) (sz : Nat) (f : Nat → va_E) (X : Nat) (pr : Nat) (ix : Nat) (os : Nat) (st : Nat) (mo : Int32) (lo : Int32) (tr : Nat) (n : Nat) (a : Nat) (ri : Nat) (mv : Int64) (sgv : Int32) (nv : Nat) (dv : Nat → Int32) (vv : Int) (hL : LO g) (t_X : g.tg X = 9) (t_pr : g.tg pr = 7) (hI : IV g f) (eX : f X = .inr (8, [.ref pr, .ref (g.lk X 1), .int (nI ix), .ref (g.lk X 3), .ref (g.lk X 4), .ref (g.lk X 5), .ref (g.lk X 6), .ref (g.lk X 7), .int (nI os), .int (nI st), .int mo, .int lo, .int (nI tr)])) (hix : ix ≤ 36) (hos : os ≤ st) (hst : st ≤ 3000) (htr : tr ≤ 3) (eN : f (g.lk (g.lk pr 2) n) = .inr (5, [.int (nI 1), .int (nI a), .int (nI ri), .ref (g.lk (g.lk (g.lk pr 2) n) 3), .int (nI 0), .long mv, .ref (g.lk (g.lk (g.lk pr 2) n) 6)])) (ha : a < 10) (hn : n < 72) (eav : f (g.lk (g.lk X 4) a) = .inr (4, [.int sgv, .int (nI nv), .ref (g.lk (g.lk (g.lk X 4) a) 2)])) (ebv : f (g.lk (g.lk (g.lk X 4) a) 2) = .inl (g.ac (g.lk (g.lk (g.lk X 4) a) 2), 15, .inl dv)) (hNv : LNV sgv nv dv vv) : Met l ⟨"BigRunner$Runner", "fetch", "(LBigRunner$Node;)V"⟩ [Cond.code ⟨"BigRunner$Runner", "fetch", "(LBigRunner$Node;)V"⟩ prog_9_method_14_code 2 none] ({ frames := 2, cells := 0, slots := 0, locals := 82 }) (va_Pc [.ref X, .ref (g.lk (g.lk pr 2) n)] (pc_in g sz f)) (va_Qv (fun f1 => (∃ (sg1 : Int32) (n1 : Nat) (h1 : Nat → Int32), f1 (g.lk (g.lk (g.lk pr 2) n) 6) = .inr (4, [.int sg1, .int (nI n1), .ref (g.lk (g.lk (g.lk (g.lk pr 2) n) 6) 2)]) ∧ f1 (g.lk (g.lk (g.lk (g.lk pr 2) n) 6) 2) = .inl (g.ac (g.lk (g.lk (g.lk (g.lk pr 2) n) 6) 2), 15, .inl h1) ∧ LNV sg1 n1 h1 (vv)) ∧ (IV g f1) ∧ (∀ b, b ≠ (g.lk (g.lk (g.lk pr 2) n) 6) → b ≠ (g.lk (g.lk (g.lk (g.lk pr 2) n) 6) 2) → f1 b = f b)) (pc_out g sz) (pc_A g sz)) 0 0 (pc_A g sz) := by
  refine pe_ofW (cc := prog_9_method_14_code) (maxL := 2) (ret := none) (lv := [(0, .ref X), (1, .ref (g.lk (g.lk pr 2) n))]) (by decide) (Nat.le_of_ble_eq_true rfl) rfl ?_
  intro p e s m args below meth c ls hx hb hr hml hlocks hown hB hP hK hD hsz hS hl
  subst hsz
  have hu : ∀ b, b ≠ (g.lk (g.lk (g.lk pr 2) n) 6) → b ≠ (g.lk (g.lk (g.lk (g.lk pr 2) n) 6) 2) → f b = f b := fun _ _ _  => rfl
  have cbv : ∀ i, i < 15 → ∃ k, k < 1000000000 ∧ dv i = nI k := hNv.2.1
  have hnv : nv ≤ 15 := hNv.1
  refine lv_aload_n hx hb d_NRunner_fetch_0 rfl (lv_at hl 1 rfl) ?_
  refine pf_get (v := .int (nI 0)) (C := "BigRunner$Node") (T := FT5) (N := 7) hx hb (hw5 hB _) (fun _ h9 => h9) hown hK hP (lo_in hL (lo_e25 hL _ (lo_k7_2 hL _ t_pr) _ (by omega)) (by decide)) eN rfl 4 (by decide) (wd_218 hB _) rfl d_NRunner_fetch_1 ?_
  refine lv_if_eq (tgt := 23) hx hb d_NRunner_fetch_4 (by decide) (fun b1 => ?_) (fun b1 => ?_)
  · skip
    replace b1 := (nI_eq (a := 0) (b := 0) (by omega) (by omega)).mp b1
    refine lv_aload_n hx hb d_NRunner_fetch_23 rfl (lv_at hl 1 rfl) ?_
    refine pf_get (v := .ref (g.lk (g.lk (g.lk pr 2) n) 6)) (C := "BigRunner$Node") (T := FT5) (N := 7) hx hb (hw5 hB _) (fun _ h9 => h9) hown hK hP (lo_in hL (lo_e25 hL _ (lo_k7_2 hL _ t_pr) _ (by omega)) (by decide)) eN rfl 6 (by decide) (wd_224 hB _) rfl d_NRunner_fetch_24 ?_
    refine lv_aload_n hx hb d_NRunner_fetch_27 rfl (lv_at hl 0 rfl) ?_
    refine pf_get (v := .ref (g.lk X 4)) (C := "BigRunner$Runner") (T := FT8) (N := 13) hx hb (hw8 hB _) (fun _ h9 => h9) hown hK hP (lo_in hL t_X (by decide)) eX rfl 4 (by decide) (wd_336 hB _) rfl d_NRunner_fetch_28 ?_
    refine lv_aload_n hx hb d_NRunner_fetch_31 rfl (lv_at hl 1 rfl) ?_
    refine pf_get (v := .int (nI a)) (C := "BigRunner$Node") (T := FT5) (N := 7) hx hb (hw5 hB _) (fun _ h9 => h9) hown hK hP (lo_in hL (lo_e25 hL _ (lo_k7_2 hL _ t_pr) _ (by omega)) (by decide)) eN rfl 1 (by decide) (wd_208 hB _) rfl d_NRunner_fetch_32 ?_
    have e2 := oc_28.of (lo_k9_4 hL _ t_X) (hI.1 (g.lk X 4))
    refine pf_aald (i := a) hx hb hK hP (lo_in hL (lo_k9_4 hL _ t_X) (by decide)) e2 (lo_t28 hL _ (lo_k9_4 hL _ t_X)) (by omega) (by decide) d_NRunner_fetch_35 ?_
    refine lv_aload_n hx hb d_NRunner_fetch_36 rfl (lv_at hl 0 rfl) ?_
    refine pf_get (v := .ref (g.lk X 4)) (C := "BigRunner$Runner") (T := FT8) (N := 13) hx hb (hw8 hB _) (fun _ h9 => h9) hown hK hP (lo_in hL t_X (by decide)) eX rfl 4 (by decide) (wd_336 hB _) rfl d_NRunner_fetch_37 ?_
    refine lv_aload_n hx hb d_NRunner_fetch_40 rfl (lv_at hl 1 rfl) ?_
    refine pf_get (v := .int (nI a)) (C := "BigRunner$Node") (T := FT5) (N := 7) hx hb (hw5 hB _) (fun _ h9 => h9) hown hK hP (lo_in hL (lo_e25 hL _ (lo_k7_2 hL _ t_pr) _ (by omega)) (by decide)) eN rfl 1 (by decide) (wd_208 hB _) rfl d_NRunner_fetch_41 ?_
    refine pf_aald (i := a) hx hb hK hP (lo_in hL (lo_k9_4 hL _ t_X) (by decide)) e2 (lo_t28 hL _ (lo_k9_4 hL _ t_X)) (by omega) (by decide) d_NRunner_fetch_44 ?_
    refine pf_get (v := .int sgv) (C := "BigRunner$LongNumber") (T := FT4) (N := 3) hx hb (hw4 hB _) (fun _ h9 => h9) hown hK hP (lo_in hL (lo_e28 hL _ (lo_k9_4 hL _ t_X) _ (by omega)) (by decide)) eav rfl 0 (by decide) (wd_189 hB _) rfl d_NRunner_fetch_45 ?_
    obtain ⟨sg_4, n_5, e3, c6⟩ := oc_5.of (lo_k6_6 hL _ (lo_e25 hL _ (lo_k7_2 hL _ t_pr) _ (by omega))) (hI.1 (g.lk (g.lk (g.lk pr 2) n) 6))
    refine pcc_v (va_runV (C := "BigRunner$LongNumber") (As := [.ref (g.lk (g.lk X 4) a), .int sgv]) (rest := []) ⟨hx, hb, hml, hown, tb_nil⟩ (v_copy l g s.heap.size f ((g.lk (g.lk (g.lk pr 2) n) 6)) ((g.lk (g.lk X 4) a)) sgv nv dv vv sgv hL (lo_k6_6 hL _ (lo_e25 hL _ (lo_k7_2 hL _ t_pr) _ (by omega))) (lo_e28 hL _ (lo_k9_4 hL _ t_X) _ (by omega)) hI eav ebv hNv (tn_ne (lo_n28 hL _ (lo_k9_4 hL _ t_X) _ (by omega)) ((lo_n6 hL _ (lo_e25 hL _ (lo_k7_2 hL _ t_pr) _ (by omega))).trans (lo_n25 hL _ (lo_k7_2 hL _ t_pr) _ (by omega))) (by omega)) hNv.2.2.1) ⟨(callB_of 2 (tb_one (wd_746 hB _)) tb_good1 rfl rfl rfl (wd_78 hB _) (wd_743 hB _) (by decide +kernel) ⟨Nat.le_of_ble_eq_true rfl, Nat.le_of_ble_eq_true rfl⟩), (wd_744 hB _), (wd_745 hB _)⟩ ⟨pe_bl, pg_recv (ci := 4) hK hP (lo_in hL (lo_k6_6 hL _ (lo_e25 hL _ (lo_k7_2 hL _ t_pr) _ (by omega))) (by decide)) e3 rfl, pe_pre hB hK hP hD⟩ rfl rfl hl.1 rfl (lv_room (Nat.le_of_ble_eq_true rfl)) d_NRunner_fetch_48 ⟨Nat.le_of_ble_eq_true rfl, Nat.le_of_ble_eq_true rfl⟩) hS (fun f8 H locs hq9 hP hD hS => ?_)
    obtain ⟨lv_10, hI1_11, hk1_12⟩ := hq9
    have hu : ∀ b, b ≠ (g.lk (g.lk (g.lk pr 2) n) 6) → b ≠ (g.lk (g.lk (g.lk (g.lk pr 2) n) 6) 2) → f8 b = f b := fun b q0 q1 => (hk1_12 b q0 q1).trans (hu b q0 q1)
    have eX := (hk1_12 X (tg_ne t_X (lo_k6_6 hL _ (lo_e25 hL _ (lo_k7_2 hL _ t_pr) _ (by omega))) (by decide)) (tg_ne t_X (lo_k5_2 hL _ (lo_k6_6 hL _ (lo_e25 hL _ (lo_k7_2 hL _ t_pr) _ (by omega)))) (by decide))).trans eX
    have eN := (hk1_12 (g.lk (g.lk pr 2) n) (tg_ne (lo_e25 hL _ (lo_k7_2 hL _ t_pr) _ (by omega)) (lo_k6_6 hL _ (lo_e25 hL _ (lo_k7_2 hL _ t_pr) _ (by omega))) (by decide)) (tg_ne (lo_e25 hL _ (lo_k7_2 hL _ t_pr) _ (by omega)) (lo_k5_2 hL _ (lo_k6_6 hL _ (lo_e25 hL _ (lo_k7_2 hL _ t_pr) _ (by omega)))) (by decide))).trans eN
    have eav := (hk1_12 (g.lk (g.lk X 4) a) (tn_ne (lo_n28 hL _ (lo_k9_4 hL _ t_X) _ (by omega)) ((lo_n6 hL _ (lo_e25 hL _ (lo_k7_2 hL _ t_pr) _ (by omega))).trans (lo_n25 hL _ (lo_k7_2 hL _ t_pr) _ (by omega))) (by omega)) (tg_ne (lo_e28 hL _ (lo_k9_4 hL _ t_X) _ (by omega)) (lo_k5_2 hL _ (lo_k6_6 hL _ (lo_e25 hL _ (lo_k7_2 hL _ t_pr) _ (by omega)))) (by decide))).trans eav
    have ebv := (hk1_12 (g.lk (g.lk (g.lk X 4) a) 2) (tg_ne (lo_k5_2 hL _ (lo_e28 hL _ (lo_k9_4 hL _ t_X) _ (by omega))) (lo_k6_6 hL _ (lo_e25 hL _ (lo_k7_2 hL _ t_pr) _ (by omega))) (by decide)) (fun q9 => (tn_ne (lo_n28 hL _ (lo_k9_4 hL _ t_X) _ (by omega)) ((lo_n6 hL _ (lo_e25 hL _ (lo_k7_2 hL _ t_pr) _ (by omega))).trans (lo_n25 hL _ (lo_k7_2 hL _ t_pr) _ (by omega))) (by omega)) (lo_inj5 hL _ _ (lo_e28 hL _ (lo_k9_4 hL _ t_X) _ (by omega)) (lo_k6_6 hL _ (lo_e25 hL _ (lo_k7_2 hL _ t_pr) _ (by omega))) q9))).trans ebv
    have e2 := (hk1_12 (g.lk X 4) (tg_ne (lo_k9_4 hL _ t_X) (lo_k6_6 hL _ (lo_e25 hL _ (lo_k7_2 hL _ t_pr) _ (by omega))) (by decide)) (tg_ne (lo_k9_4 hL _ t_X) (lo_k5_2 hL _ (lo_k6_6 hL _ (lo_e25 hL _ (lo_k7_2 hL _ t_pr) _ (by omega)))) (by decide))).trans e2
    obtain ⟨sg13, nn14, dd15, e16, e17, hN18⟩ := lv_10
    have c19 : ∀ i, i < 15 → ∃ k, k < 1000000000 ∧ dd15 i = nI k := hN18.2.1
    have hnn14 : nn14 ≤ 15 := hN18.1
    exact pe_vret hx hb hr hlocks hK hP hD hS d_NRunner_fetch_51 ⟨⟨_, _, _, e16, e17, (LNV_cast hN18 hNv.2.2.2.2.symm)⟩, hI1_11, hu⟩
  · skip
    replace b1 := mt (nI_eq (a := 0) (b := 0) (by omega) (by omega)).mpr b1
    exfalso; omega
set_option maxHeartbeats 4000000 in
set_option maxRecDepth 100000 in
theorem v_operate (l : Launch) (g : Lay) (sz : Nat) (f : Nat → va_E) (X : Nat) (pr : Nat) (ix : Nat) (os : Nat) (st : Nat) (mo : Int32) (lo : Int32) (tr : Nat) (n : Nat) (w : Nat) (le : Nat) (ri : Nat) (mv : Int64) (kl : Nat) (l1 : Nat) (l2 : Nat) (mx : Int64) (kr : Nat) (r1 : Nat) (r2 : Nat) (my : Int64) (vx : Int) (vy : Int) (hL : LO g) (t_X : g.tg X = 9) (t_pr : g.tg pr = 7) (hI : IV g f) (eX : f X = .inr (8, [.ref pr, .ref (g.lk X 1), .int (nI ix), .ref (g.lk X 3), .ref (g.lk X 4), .ref (g.lk X 5), .ref (g.lk X 6), .ref (g.lk X 7), .int (nI os), .int (nI st), .int mo, .int lo, .int (nI tr)])) (hix : ix ≤ 36) (hos : os ≤ st) (hst : st ≤ 3000) (htr : tr ≤ 3) (eN : f (g.lk (g.lk pr 2) n) = .inr (5, [.int (nI (km w)), .int (nI le), .int (nI ri), .ref (g.lk (g.lk (g.lk pr 2) n) 3), .int (nI 1), .long mv, .ref (g.lk (g.lk (g.lk pr 2) n) 6)])) (eL : f (g.lk (g.lk pr 2) le) = .inr (5, [.int (nI kl), .int (nI l1), .int (nI l2), .ref (g.lk (g.lk (g.lk pr 2) le) 3), .int (nI 1), .long mx, .ref (g.lk (g.lk (g.lk pr 2) le) 6)])) (eR : f (g.lk (g.lk pr 2) ri) = .inr (5, [.int (nI kr), .int (nI r1), .int (nI r2), .ref (g.lk (g.lk (g.lk pr 2) ri) 3), .int (nI 1), .long my, .ref (g.lk (g.lk (g.lk pr 2) ri) 6)])) (hW2 : 2 ≤ w) (hW8 : w < 8) (hn : n < 72) (hle : le < n) (hri : ri < n) (hvx : mx.toInt = vx) (hvy : my.toInt = vy) (h6x : vx.natAbs ≤ 1152921504606846976) (h6y : vy.natAbs ≤ 1152921504606846976) (hres : otr w vx vy = 0 → (ovl w vx vy).natAbs ≤ 1152921504606846976) : Met l ⟨"BigRunner$Runner", "operate", "(LBigRunner$Node;)I"⟩ [Cond.code ⟨"BigRunner$Runner", "operate", "(LBigRunner$Node;)I"⟩ prog_9_method_15_code 6 (some .int)] ({ frames := 0, cells := 0, slots := 0, locals := 0 }) (va_Pc [.ref X, .ref (g.lk (g.lk pr 2) n)] (pc_in g sz f)) (va_Qi (fun r f1 => (∃ (mo1 : Int32), f1 X = .inr (8, [.ref pr, .ref (g.lk X 1), .int (nI ix), .ref (g.lk X 3), .ref (g.lk X 4), .ref (g.lk X 5), .ref (g.lk X 6), .ref (g.lk X 7), .int (nI os), .int (nI st), .int mo1, .int lo, .int (nI tr)])) ∧ (r = nI (otr w vx vy)) ∧ (∃ mv1 : Int64, f1 (g.lk (g.lk pr 2) n) = .inr (5, [.int (nI (km w)), .int (nI le), .int (nI ri), .ref (g.lk (g.lk (g.lk pr 2) n) 3), .int (nI 1), .long mv1, .ref (g.lk (g.lk (g.lk pr 2) n) 6)]) ∧ (otr w vx vy = 0 → mv1.toInt = ovl w vx vy)) ∧ (IV g f1) ∧ (∀ b, b ≠ X → b ≠ (g.lk (g.lk pr 2) n) → f1 b = f b)) (pc_out g sz) (pc_A g sz)) 0 0 (pc_A g sz) := by
  refine pe_ofW (cc := prog_9_method_15_code) (maxL := 6) (ret := (some .int)) (lv := [(0, .ref X), (1, .ref (g.lk (g.lk pr 2) n))]) (by decide) (Nat.le_of_ble_eq_true rfl) rfl ?_
  intro p e s m args below meth c ls hx hb hr hml hlocks hown hB hP hK hD hsz hS hl
  subst hsz
  have hu : ∀ b, b ≠ X → b ≠ (g.lk (g.lk pr 2) n) → f b = f b := fun _ _ _  => rfl
  have htn9 := lo_n25 hL _ (lo_k7_2 hL _ t_pr) n (by omega)
  rcases (show w = 2 ∨ w = 3 ∨ w = 4 ∨ w = 5 ∨ w = 6 ∨ w = 7 by omega) with rfl | rfl | rfl | rfl | rfl | rfl
  · skip
    rw [show km 2 = 3 from rfl] at eN
    refine lv_aload_n hx hb d_NRunner_operate_0 rfl (lv_at hl 0 rfl) ?_
    refine lv_dup hx hb d_NRunner_operate_1 rfl ?_
    refine pf_get (v := .int mo) (C := "BigRunner$Runner") (T := FT8) (N := 13) hx hb (hw8 hB _) (fun _ h9 => h9) hown hK hP (lo_in hL t_X (by decide)) eX rfl 10 (by decide) (wd_345 hB _) rfl d_NRunner_operate_2 ?_
    refine lv_iconst (v := nI 1) hx hb d_NRunner_operate_5 (by decide) ?_
    refine lv_iadd hx hb d_NRunner_operate_6 ?_
    refine pf_put (v := .int (mo + ((nI 1)))) (ty := .int) (fs' := [.ref pr, .ref (g.lk X 1), .int (nI ix), .ref (g.lk X 3), .ref (g.lk X 4), .ref (g.lk X 5), .ref (g.lk X 6), .ref (g.lk X 7), .int (nI os), .int (nI st), .int (mo + ((nI 1))), .int lo, .int (nI tr)]) (C := "BigRunner$Runner") (T := FT8) (N := 13) hx hb (hw8 hB _) (fun _ h9 => h9) TY8 ok8 nm8 hown hK hP hD hS (lo_in hL t_X (by decide)) eX rfl 10 (by decide) (wd_345 hB _) rfl (by decide +kernel) rfl rfl (Nat.le_of_ble_eq_true rfl) rfl d_NRunner_operate_7 (fun f1 H locs e2 k3 hP hD hS => ?_)
    have eN := (k3 (g.lk (g.lk pr 2) n) (tg_ne (lo_e25 hL _ (lo_k7_2 hL _ t_pr) _ (by omega)) t_X (by decide))).trans eN
    have eL := (k3 (g.lk (g.lk pr 2) le) (tg_ne (lo_e25 hL _ (lo_k7_2 hL _ t_pr) _ (by omega)) t_X (by decide))).trans eL
    have eR := (k3 (g.lk (g.lk pr 2) ri) (tg_ne (lo_e25 hL _ (lo_k7_2 hL _ t_pr) _ (by omega)) t_X (by decide))).trans eR
    have hu : ∀ b, b ≠ X → b ≠ (g.lk (g.lk pr 2) n) → f1 b = f b := fun b q0 q1 => (k3 b q0).trans (hu b q0 q1)
    have hk4 : ∀ b, b ≠ X → f1 b = f b := k3
    refine lv_aload_n hx hb d_NRunner_operate_10 rfl (lv_at hl 0 rfl) ?_
    refine pf_get (v := .ref pr) (C := "BigRunner$Runner") (T := FT8) (N := 13) hx hb (hw8 hB _) (fun _ h9 => h9) hown hK hP (lo_in hL t_X (by decide)) e2 rfl 0 (by decide) (wd_330 hB _) rfl d_NRunner_operate_11 ?_
    obtain ⟨sc_6, nc_7, e5, c8, c9⟩ := oc_7.of t_pr (hI.1 pr)
    replace e5 := (hk4 pr (tg_ne t_pr t_X (by decide))).trans e5
    refine pf_get (v := .ref (g.lk pr 2)) (C := "BigRunner$Program") (T := FT6) (N := 6) hx hb (hw6 hB _) (fun _ h9 => h9) hown hK hP (lo_in hL t_pr (by decide)) e5 rfl 2 (by decide) (wd_249 hB _) rfl d_NRunner_operate_14 ?_
    refine lv_aload_n hx hb d_NRunner_operate_17 rfl (lv_at hl 1 rfl) ?_
    refine pf_get (v := .int (nI le)) (C := "BigRunner$Node") (T := FT5) (N := 7) hx hb (hw5 hB _) (fun _ h9 => h9) hown hK hP (lo_in hL (lo_e25 hL _ (lo_k7_2 hL _ t_pr) _ (by omega)) (by decide)) eN rfl 1 (by decide) (wd_208 hB _) rfl d_NRunner_operate_18 ?_
    have e10 := oc_25.of (lo_k7_2 hL _ t_pr) (hI.1 (g.lk pr 2))
    replace e10 := (hk4 (g.lk pr 2) (tg_ne (lo_k7_2 hL _ t_pr) t_X (by decide))).trans e10
    refine pf_aald (i := le) hx hb hK hP (lo_in hL (lo_k7_2 hL _ t_pr) (by decide)) e10 (lo_t25 hL _ (lo_k7_2 hL _ t_pr)) (by omega) (by decide) d_NRunner_operate_21 ?_
    refine pf_get (v := .long mx) (C := "BigRunner$Node") (T := FT5) (N := 7) hx hb (hw5 hB _) (fun _ h9 => h9) hown hK hP (lo_in hL (lo_e25 hL _ (lo_k7_2 hL _ t_pr) _ (by omega)) (by decide)) eL rfl 5 (by decide) (wd_221 hB _) rfl d_NRunner_operate_22 ?_
    refine lv_lstore_n (lv' := [(2, .long mx), (0, .ref X), (1, .ref (g.lk (g.lk pr 2) n))]) hx hb d_NRunner_operate_25 rfl hl (by decide) rfl (fun ls hl => ?_)
    refine lv_aload_n hx hb d_NRunner_operate_26 rfl (lv_at hl 1 rfl) ?_
    refine pf_get (v := .ref pr) (C := "BigRunner$Runner") (T := FT8) (N := 13) hx hb (hw8 hB _) (fun _ h9 => h9) hown hK hP (lo_in hL t_X (by decide)) e2 rfl 0 (by decide) (wd_330 hB _) rfl d_NRunner_operate_27 ?_
    refine pf_get (v := .ref (g.lk pr 2)) (C := "BigRunner$Program") (T := FT6) (N := 6) hx hb (hw6 hB _) (fun _ h9 => h9) hown hK hP (lo_in hL t_pr (by decide)) e5 rfl 2 (by decide) (wd_249 hB _) rfl d_NRunner_operate_30 ?_
    refine lv_aload_n hx hb d_NRunner_operate_33 rfl (lv_at hl 2 rfl) ?_
    refine pf_get (v := .int (nI ri)) (C := "BigRunner$Node") (T := FT5) (N := 7) hx hb (hw5 hB _) (fun _ h9 => h9) hown hK hP (lo_in hL (lo_e25 hL _ (lo_k7_2 hL _ t_pr) _ (by omega)) (by decide)) eN rfl 2 (by decide) (wd_212 hB _) rfl d_NRunner_operate_34 ?_
    refine pf_aald (i := ri) hx hb hK hP (lo_in hL (lo_k7_2 hL _ t_pr) (by decide)) e10 (lo_t25 hL _ (lo_k7_2 hL _ t_pr)) (by omega) (by decide) d_NRunner_operate_37 ?_
    refine pf_get (v := .long my) (C := "BigRunner$Node") (T := FT5) (N := 7) hx hb (hw5 hB _) (fun _ h9 => h9) hown hK hP (lo_in hL (lo_e25 hL _ (lo_k7_2 hL _ t_pr) _ (by omega)) (by decide)) eR rfl 5 (by decide) (wd_221 hB _) rfl d_NRunner_operate_38 ?_
    refine lv_lstore (lv' := [(4, .long my), (2, .long mx), (0, .ref X), (1, .ref (g.lk (g.lk pr 2) n))]) hx hb d_NRunner_operate_41 hl (by decide) rfl (fun ls hl => ?_)
    refine lv_aload_n hx hb d_NRunner_operate_43 rfl (lv_at hl 3 rfl) ?_
    refine pf_get (v := .int (nI 3)) (C := "BigRunner$Node") (T := FT5) (N := 7) hx hb (hw5 hB _) (fun _ h9 => h9) hown hK hP (lo_in hL (lo_e25 hL _ (lo_k7_2 hL _ t_pr) _ (by omega)) (by decide)) eN rfl 0 (by decide) (wd_204 hB _) rfl d_NRunner_operate_44 ?_
    refine lv_tableIn (off := 37) (tgt := 84) hx hb d_NRunner_operate_47 (by rw [nI_toInt (by omega)]; omega) (by rw [nI_toInt (by omega)]; omega) (by rw [nI_toInt (by omega)]; rfl) (by decide) ?_
    refine lv_aload_n hx hb d_NRunner_operate_84 rfl (lv_at hl 3 rfl) ?_
    refine lv_lload_n hx hb d_NRunner_operate_85 rfl (lv_at hl 1 rfl) ?_
    refine lv_lload hx hb d_NRunner_operate_86 (lv_at hl 0 rfl) ?_
    refine lv_ladd hx hb d_NRunner_operate_88 ?_
    have hI11 := iv_1 hI hL t_X (by decide) hk4 (oc_9.mk t_X (⟨pr, ix, os, st, ((mo + ((nI 1)))), lo, tr, e2, t_pr, (by omega), (by omega), (by omega), (by omega)⟩))
    refine pf_put (v := .long (mx + my)) (ty := .long) (fs' := [.int (nI 3), .int (nI le), .int (nI ri), .ref (g.lk (g.lk (g.lk pr 2) n) 3), .int (nI 1), .long (mx + my), .ref (g.lk (g.lk (g.lk pr 2) n) 6)]) (C := "BigRunner$Node") (T := FT5) (N := 7) hx hb (hw5 hB _) (fun _ h9 => h9) TY5 ok5 nm5 hown hK hP hD hS (lo_in hL (lo_e25 hL _ (lo_k7_2 hL _ t_pr) _ (by omega)) (by decide)) eN rfl 5 (by decide) (wd_221 hB _) rfl (by decide +kernel) rfl rfl (Nat.le_of_ble_eq_true rfl) rfl d_NRunner_operate_89 (fun f12 H locs e13 k14 hP hD hS => ?_)
    have eL := (k14 (g.lk (g.lk pr 2) le) (tn_ne (lo_n25 hL _ (lo_k7_2 hL _ t_pr) _ (by omega)) (lo_n25 hL _ (lo_k7_2 hL _ t_pr) _ (by omega)) (by omega))).trans eL
    have eR := (k14 (g.lk (g.lk pr 2) ri) (tn_ne (lo_n25 hL _ (lo_k7_2 hL _ t_pr) _ (by omega)) (lo_n25 hL _ (lo_k7_2 hL _ t_pr) _ (by omega)) (by omega))).trans eR
    have e2 := (k14 X (tg_ne t_X (lo_e25 hL _ (lo_k7_2 hL _ t_pr) _ (by omega)) (by decide))).trans e2
    have e5 := (k14 pr (tg_ne t_pr (lo_e25 hL _ (lo_k7_2 hL _ t_pr) _ (by omega)) (by decide))).trans e5
    have e10 := (k14 (g.lk pr 2) (tg_ne (lo_k7_2 hL _ t_pr) (lo_e25 hL _ (lo_k7_2 hL _ t_pr) _ (by omega)) (by decide))).trans e10
    have hu : ∀ b, b ≠ X → b ≠ (g.lk (g.lk pr 2) n) → f12 b = f b := fun b q0 q1 => (k14 b q1).trans (hu b q0 q1)
    have hk15 : ∀ b, b ≠ (g.lk (g.lk pr 2) n) → f12 b = f1 b := k14
    refine lv_iconst (v := nI 0) hx hb d_NRunner_operate_92 (by decide) ?_
    have hI16 := iv_1 hI11 hL (lo_e25 hL _ (lo_k7_2 hL _ t_pr) _ (by omega)) (by decide) hk15 (oc_6.mk (lo_e25 hL _ (lo_k7_2 hL _ t_pr) _ (by omega)) (⟨3, le, ri, ((nI 1)), ((mx + my)), e13, (by omega), (by omega), (by omega), (by omega), (Or.inr rfl), (by omega)⟩))
    exact pe_iret hx hb hr hlocks hK hP hD hS d_NRunner_operate_93 ⟨⟨(mo + ((nI 1))), e2⟩, (congrArg nI (otr_z h6x h6y (Or.inl (by decide))).symm), ⟨_, e13, fun z9 => oe_add hvx hvy h6x h6y⟩, hI16, hu⟩
  · skip
    rw [show km 3 = 4 from rfl] at eN
    refine lv_aload_n hx hb d_NRunner_operate_0 rfl (lv_at hl 0 rfl) ?_
    refine lv_dup hx hb d_NRunner_operate_1 rfl ?_
    refine pf_get (v := .int mo) (C := "BigRunner$Runner") (T := FT8) (N := 13) hx hb (hw8 hB _) (fun _ h9 => h9) hown hK hP (lo_in hL t_X (by decide)) eX rfl 10 (by decide) (wd_345 hB _) rfl d_NRunner_operate_2 ?_
    refine lv_iconst (v := nI 1) hx hb d_NRunner_operate_5 (by decide) ?_
    refine lv_iadd hx hb d_NRunner_operate_6 ?_
    refine pf_put (v := .int (mo + ((nI 1)))) (ty := .int) (fs' := [.ref pr, .ref (g.lk X 1), .int (nI ix), .ref (g.lk X 3), .ref (g.lk X 4), .ref (g.lk X 5), .ref (g.lk X 6), .ref (g.lk X 7), .int (nI os), .int (nI st), .int (mo + ((nI 1))), .int lo, .int (nI tr)]) (C := "BigRunner$Runner") (T := FT8) (N := 13) hx hb (hw8 hB _) (fun _ h9 => h9) TY8 ok8 nm8 hown hK hP hD hS (lo_in hL t_X (by decide)) eX rfl 10 (by decide) (wd_345 hB _) rfl (by decide +kernel) rfl rfl (Nat.le_of_ble_eq_true rfl) rfl d_NRunner_operate_7 (fun f17 H locs e18 k19 hP hD hS => ?_)
    have eN := (k19 (g.lk (g.lk pr 2) n) (tg_ne (lo_e25 hL _ (lo_k7_2 hL _ t_pr) _ (by omega)) t_X (by decide))).trans eN
    have eL := (k19 (g.lk (g.lk pr 2) le) (tg_ne (lo_e25 hL _ (lo_k7_2 hL _ t_pr) _ (by omega)) t_X (by decide))).trans eL
    have eR := (k19 (g.lk (g.lk pr 2) ri) (tg_ne (lo_e25 hL _ (lo_k7_2 hL _ t_pr) _ (by omega)) t_X (by decide))).trans eR
    have hu : ∀ b, b ≠ X → b ≠ (g.lk (g.lk pr 2) n) → f17 b = f b := fun b q0 q1 => (k19 b q0).trans (hu b q0 q1)
    have hk20 : ∀ b, b ≠ X → f17 b = f b := k19
    refine lv_aload_n hx hb d_NRunner_operate_10 rfl (lv_at hl 0 rfl) ?_
    refine pf_get (v := .ref pr) (C := "BigRunner$Runner") (T := FT8) (N := 13) hx hb (hw8 hB _) (fun _ h9 => h9) hown hK hP (lo_in hL t_X (by decide)) e18 rfl 0 (by decide) (wd_330 hB _) rfl d_NRunner_operate_11 ?_
    obtain ⟨sc_22, nc_23, e21, c24, c25⟩ := oc_7.of t_pr (hI.1 pr)
    replace e21 := (hk20 pr (tg_ne t_pr t_X (by decide))).trans e21
    refine pf_get (v := .ref (g.lk pr 2)) (C := "BigRunner$Program") (T := FT6) (N := 6) hx hb (hw6 hB _) (fun _ h9 => h9) hown hK hP (lo_in hL t_pr (by decide)) e21 rfl 2 (by decide) (wd_249 hB _) rfl d_NRunner_operate_14 ?_
    refine lv_aload_n hx hb d_NRunner_operate_17 rfl (lv_at hl 1 rfl) ?_
    refine pf_get (v := .int (nI le)) (C := "BigRunner$Node") (T := FT5) (N := 7) hx hb (hw5 hB _) (fun _ h9 => h9) hown hK hP (lo_in hL (lo_e25 hL _ (lo_k7_2 hL _ t_pr) _ (by omega)) (by decide)) eN rfl 1 (by decide) (wd_208 hB _) rfl d_NRunner_operate_18 ?_
    have e26 := oc_25.of (lo_k7_2 hL _ t_pr) (hI.1 (g.lk pr 2))
    replace e26 := (hk20 (g.lk pr 2) (tg_ne (lo_k7_2 hL _ t_pr) t_X (by decide))).trans e26
    refine pf_aald (i := le) hx hb hK hP (lo_in hL (lo_k7_2 hL _ t_pr) (by decide)) e26 (lo_t25 hL _ (lo_k7_2 hL _ t_pr)) (by omega) (by decide) d_NRunner_operate_21 ?_
    refine pf_get (v := .long mx) (C := "BigRunner$Node") (T := FT5) (N := 7) hx hb (hw5 hB _) (fun _ h9 => h9) hown hK hP (lo_in hL (lo_e25 hL _ (lo_k7_2 hL _ t_pr) _ (by omega)) (by decide)) eL rfl 5 (by decide) (wd_221 hB _) rfl d_NRunner_operate_22 ?_
    refine lv_lstore_n (lv' := [(2, .long mx), (0, .ref X), (1, .ref (g.lk (g.lk pr 2) n))]) hx hb d_NRunner_operate_25 rfl hl (by decide) rfl (fun ls hl => ?_)
    refine lv_aload_n hx hb d_NRunner_operate_26 rfl (lv_at hl 1 rfl) ?_
    refine pf_get (v := .ref pr) (C := "BigRunner$Runner") (T := FT8) (N := 13) hx hb (hw8 hB _) (fun _ h9 => h9) hown hK hP (lo_in hL t_X (by decide)) e18 rfl 0 (by decide) (wd_330 hB _) rfl d_NRunner_operate_27 ?_
    refine pf_get (v := .ref (g.lk pr 2)) (C := "BigRunner$Program") (T := FT6) (N := 6) hx hb (hw6 hB _) (fun _ h9 => h9) hown hK hP (lo_in hL t_pr (by decide)) e21 rfl 2 (by decide) (wd_249 hB _) rfl d_NRunner_operate_30 ?_
    refine lv_aload_n hx hb d_NRunner_operate_33 rfl (lv_at hl 2 rfl) ?_
    refine pf_get (v := .int (nI ri)) (C := "BigRunner$Node") (T := FT5) (N := 7) hx hb (hw5 hB _) (fun _ h9 => h9) hown hK hP (lo_in hL (lo_e25 hL _ (lo_k7_2 hL _ t_pr) _ (by omega)) (by decide)) eN rfl 2 (by decide) (wd_212 hB _) rfl d_NRunner_operate_34 ?_
    refine pf_aald (i := ri) hx hb hK hP (lo_in hL (lo_k7_2 hL _ t_pr) (by decide)) e26 (lo_t25 hL _ (lo_k7_2 hL _ t_pr)) (by omega) (by decide) d_NRunner_operate_37 ?_
    refine pf_get (v := .long my) (C := "BigRunner$Node") (T := FT5) (N := 7) hx hb (hw5 hB _) (fun _ h9 => h9) hown hK hP (lo_in hL (lo_e25 hL _ (lo_k7_2 hL _ t_pr) _ (by omega)) (by decide)) eR rfl 5 (by decide) (wd_221 hB _) rfl d_NRunner_operate_38 ?_
    refine lv_lstore (lv' := [(4, .long my), (2, .long mx), (0, .ref X), (1, .ref (g.lk (g.lk pr 2) n))]) hx hb d_NRunner_operate_41 hl (by decide) rfl (fun ls hl => ?_)
    refine lv_aload_n hx hb d_NRunner_operate_43 rfl (lv_at hl 3 rfl) ?_
    refine pf_get (v := .int (nI 4)) (C := "BigRunner$Node") (T := FT5) (N := 7) hx hb (hw5 hB _) (fun _ h9 => h9) hown hK hP (lo_in hL (lo_e25 hL _ (lo_k7_2 hL _ t_pr) _ (by omega)) (by decide)) eN rfl 0 (by decide) (wd_204 hB _) rfl d_NRunner_operate_44 ?_
    refine lv_tableIn (off := 47) (tgt := 94) hx hb d_NRunner_operate_47 (by rw [nI_toInt (by omega)]; omega) (by rw [nI_toInt (by omega)]; omega) (by rw [nI_toInt (by omega)]; rfl) (by decide) ?_
    refine lv_aload_n hx hb d_NRunner_operate_94 rfl (lv_at hl 3 rfl) ?_
    refine lv_lload_n hx hb d_NRunner_operate_95 rfl (lv_at hl 1 rfl) ?_
    refine lv_lload hx hb d_NRunner_operate_96 (lv_at hl 0 rfl) ?_
    refine lv_lsub hx hb d_NRunner_operate_98 ?_
    have hI27 := iv_1 hI hL t_X (by decide) hk20 (oc_9.mk t_X (⟨pr, ix, os, st, ((mo + ((nI 1)))), lo, tr, e18, t_pr, (by omega), (by omega), (by omega), (by omega)⟩))
    refine pf_put (v := .long (mx - my)) (ty := .long) (fs' := [.int (nI 4), .int (nI le), .int (nI ri), .ref (g.lk (g.lk (g.lk pr 2) n) 3), .int (nI 1), .long (mx - my), .ref (g.lk (g.lk (g.lk pr 2) n) 6)]) (C := "BigRunner$Node") (T := FT5) (N := 7) hx hb (hw5 hB _) (fun _ h9 => h9) TY5 ok5 nm5 hown hK hP hD hS (lo_in hL (lo_e25 hL _ (lo_k7_2 hL _ t_pr) _ (by omega)) (by decide)) eN rfl 5 (by decide) (wd_221 hB _) rfl (by decide +kernel) rfl rfl (Nat.le_of_ble_eq_true rfl) rfl d_NRunner_operate_99 (fun f28 H locs e29 k30 hP hD hS => ?_)
    have eL := (k30 (g.lk (g.lk pr 2) le) (tn_ne (lo_n25 hL _ (lo_k7_2 hL _ t_pr) _ (by omega)) (lo_n25 hL _ (lo_k7_2 hL _ t_pr) _ (by omega)) (by omega))).trans eL
    have eR := (k30 (g.lk (g.lk pr 2) ri) (tn_ne (lo_n25 hL _ (lo_k7_2 hL _ t_pr) _ (by omega)) (lo_n25 hL _ (lo_k7_2 hL _ t_pr) _ (by omega)) (by omega))).trans eR
    have e18 := (k30 X (tg_ne t_X (lo_e25 hL _ (lo_k7_2 hL _ t_pr) _ (by omega)) (by decide))).trans e18
    have e21 := (k30 pr (tg_ne t_pr (lo_e25 hL _ (lo_k7_2 hL _ t_pr) _ (by omega)) (by decide))).trans e21
    have e26 := (k30 (g.lk pr 2) (tg_ne (lo_k7_2 hL _ t_pr) (lo_e25 hL _ (lo_k7_2 hL _ t_pr) _ (by omega)) (by decide))).trans e26
    have hu : ∀ b, b ≠ X → b ≠ (g.lk (g.lk pr 2) n) → f28 b = f b := fun b q0 q1 => (k30 b q1).trans (hu b q0 q1)
    have hk31 : ∀ b, b ≠ (g.lk (g.lk pr 2) n) → f28 b = f17 b := k30
    refine lv_iconst (v := nI 0) hx hb d_NRunner_operate_102 (by decide) ?_
    have hI32 := iv_1 hI27 hL (lo_e25 hL _ (lo_k7_2 hL _ t_pr) _ (by omega)) (by decide) hk31 (oc_6.mk (lo_e25 hL _ (lo_k7_2 hL _ t_pr) _ (by omega)) (⟨4, le, ri, ((nI 1)), ((mx - my)), e29, (by omega), (by omega), (by omega), (by omega), (Or.inr rfl), (by omega)⟩))
    exact pe_iret hx hb hr hlocks hK hP hD hS d_NRunner_operate_103 ⟨⟨(mo + ((nI 1))), e18⟩, (congrArg nI (otr_z h6x h6y (Or.inl (by decide))).symm), ⟨_, e29, fun z9 => oe_sub hvx hvy h6x h6y⟩, hI32, hu⟩
  · skip
    rw [show km 4 = 5 from rfl] at eN
    refine lv_aload_n hx hb d_NRunner_operate_0 rfl (lv_at hl 0 rfl) ?_
    refine lv_dup hx hb d_NRunner_operate_1 rfl ?_
    refine pf_get (v := .int mo) (C := "BigRunner$Runner") (T := FT8) (N := 13) hx hb (hw8 hB _) (fun _ h9 => h9) hown hK hP (lo_in hL t_X (by decide)) eX rfl 10 (by decide) (wd_345 hB _) rfl d_NRunner_operate_2 ?_
    refine lv_iconst (v := nI 1) hx hb d_NRunner_operate_5 (by decide) ?_
    refine lv_iadd hx hb d_NRunner_operate_6 ?_
    refine pf_put (v := .int (mo + ((nI 1)))) (ty := .int) (fs' := [.ref pr, .ref (g.lk X 1), .int (nI ix), .ref (g.lk X 3), .ref (g.lk X 4), .ref (g.lk X 5), .ref (g.lk X 6), .ref (g.lk X 7), .int (nI os), .int (nI st), .int (mo + ((nI 1))), .int lo, .int (nI tr)]) (C := "BigRunner$Runner") (T := FT8) (N := 13) hx hb (hw8 hB _) (fun _ h9 => h9) TY8 ok8 nm8 hown hK hP hD hS (lo_in hL t_X (by decide)) eX rfl 10 (by decide) (wd_345 hB _) rfl (by decide +kernel) rfl rfl (Nat.le_of_ble_eq_true rfl) rfl d_NRunner_operate_7 (fun f33 H locs e34 k35 hP hD hS => ?_)
    have eN := (k35 (g.lk (g.lk pr 2) n) (tg_ne (lo_e25 hL _ (lo_k7_2 hL _ t_pr) _ (by omega)) t_X (by decide))).trans eN
    have eL := (k35 (g.lk (g.lk pr 2) le) (tg_ne (lo_e25 hL _ (lo_k7_2 hL _ t_pr) _ (by omega)) t_X (by decide))).trans eL
    have eR := (k35 (g.lk (g.lk pr 2) ri) (tg_ne (lo_e25 hL _ (lo_k7_2 hL _ t_pr) _ (by omega)) t_X (by decide))).trans eR
    have hu : ∀ b, b ≠ X → b ≠ (g.lk (g.lk pr 2) n) → f33 b = f b := fun b q0 q1 => (k35 b q0).trans (hu b q0 q1)
    have hk36 : ∀ b, b ≠ X → f33 b = f b := k35
    refine lv_aload_n hx hb d_NRunner_operate_10 rfl (lv_at hl 0 rfl) ?_
    refine pf_get (v := .ref pr) (C := "BigRunner$Runner") (T := FT8) (N := 13) hx hb (hw8 hB _) (fun _ h9 => h9) hown hK hP (lo_in hL t_X (by decide)) e34 rfl 0 (by decide) (wd_330 hB _) rfl d_NRunner_operate_11 ?_
    obtain ⟨sc_38, nc_39, e37, c40, c41⟩ := oc_7.of t_pr (hI.1 pr)
    replace e37 := (hk36 pr (tg_ne t_pr t_X (by decide))).trans e37
    refine pf_get (v := .ref (g.lk pr 2)) (C := "BigRunner$Program") (T := FT6) (N := 6) hx hb (hw6 hB _) (fun _ h9 => h9) hown hK hP (lo_in hL t_pr (by decide)) e37 rfl 2 (by decide) (wd_249 hB _) rfl d_NRunner_operate_14 ?_
    refine lv_aload_n hx hb d_NRunner_operate_17 rfl (lv_at hl 1 rfl) ?_
    refine pf_get (v := .int (nI le)) (C := "BigRunner$Node") (T := FT5) (N := 7) hx hb (hw5 hB _) (fun _ h9 => h9) hown hK hP (lo_in hL (lo_e25 hL _ (lo_k7_2 hL _ t_pr) _ (by omega)) (by decide)) eN rfl 1 (by decide) (wd_208 hB _) rfl d_NRunner_operate_18 ?_
    have e42 := oc_25.of (lo_k7_2 hL _ t_pr) (hI.1 (g.lk pr 2))
    replace e42 := (hk36 (g.lk pr 2) (tg_ne (lo_k7_2 hL _ t_pr) t_X (by decide))).trans e42
    refine pf_aald (i := le) hx hb hK hP (lo_in hL (lo_k7_2 hL _ t_pr) (by decide)) e42 (lo_t25 hL _ (lo_k7_2 hL _ t_pr)) (by omega) (by decide) d_NRunner_operate_21 ?_
    refine pf_get (v := .long mx) (C := "BigRunner$Node") (T := FT5) (N := 7) hx hb (hw5 hB _) (fun _ h9 => h9) hown hK hP (lo_in hL (lo_e25 hL _ (lo_k7_2 hL _ t_pr) _ (by omega)) (by decide)) eL rfl 5 (by decide) (wd_221 hB _) rfl d_NRunner_operate_22 ?_
    refine lv_lstore_n (lv' := [(2, .long mx), (0, .ref X), (1, .ref (g.lk (g.lk pr 2) n))]) hx hb d_NRunner_operate_25 rfl hl (by decide) rfl (fun ls hl => ?_)
    refine lv_aload_n hx hb d_NRunner_operate_26 rfl (lv_at hl 1 rfl) ?_
    refine pf_get (v := .ref pr) (C := "BigRunner$Runner") (T := FT8) (N := 13) hx hb (hw8 hB _) (fun _ h9 => h9) hown hK hP (lo_in hL t_X (by decide)) e34 rfl 0 (by decide) (wd_330 hB _) rfl d_NRunner_operate_27 ?_
    refine pf_get (v := .ref (g.lk pr 2)) (C := "BigRunner$Program") (T := FT6) (N := 6) hx hb (hw6 hB _) (fun _ h9 => h9) hown hK hP (lo_in hL t_pr (by decide)) e37 rfl 2 (by decide) (wd_249 hB _) rfl d_NRunner_operate_30 ?_
    refine lv_aload_n hx hb d_NRunner_operate_33 rfl (lv_at hl 2 rfl) ?_
    refine pf_get (v := .int (nI ri)) (C := "BigRunner$Node") (T := FT5) (N := 7) hx hb (hw5 hB _) (fun _ h9 => h9) hown hK hP (lo_in hL (lo_e25 hL _ (lo_k7_2 hL _ t_pr) _ (by omega)) (by decide)) eN rfl 2 (by decide) (wd_212 hB _) rfl d_NRunner_operate_34 ?_
    refine pf_aald (i := ri) hx hb hK hP (lo_in hL (lo_k7_2 hL _ t_pr) (by decide)) e42 (lo_t25 hL _ (lo_k7_2 hL _ t_pr)) (by omega) (by decide) d_NRunner_operate_37 ?_
    refine pf_get (v := .long my) (C := "BigRunner$Node") (T := FT5) (N := 7) hx hb (hw5 hB _) (fun _ h9 => h9) hown hK hP (lo_in hL (lo_e25 hL _ (lo_k7_2 hL _ t_pr) _ (by omega)) (by decide)) eR rfl 5 (by decide) (wd_221 hB _) rfl d_NRunner_operate_38 ?_
    refine lv_lstore (lv' := [(4, .long my), (2, .long mx), (0, .ref X), (1, .ref (g.lk (g.lk pr 2) n))]) hx hb d_NRunner_operate_41 hl (by decide) rfl (fun ls hl => ?_)
    refine lv_aload_n hx hb d_NRunner_operate_43 rfl (lv_at hl 3 rfl) ?_
    refine pf_get (v := .int (nI 5)) (C := "BigRunner$Node") (T := FT5) (N := 7) hx hb (hw5 hB _) (fun _ h9 => h9) hown hK hP (lo_in hL (lo_e25 hL _ (lo_k7_2 hL _ t_pr) _ (by omega)) (by decide)) eN rfl 0 (by decide) (wd_204 hB _) rfl d_NRunner_operate_44 ?_
    refine lv_tableIn (off := 57) (tgt := 104) hx hb d_NRunner_operate_47 (by rw [nI_toInt (by omega)]; omega) (by rw [nI_toInt (by omega)]; omega) (by rw [nI_toInt (by omega)]; rfl) (by decide) ?_
    refine lv_aload_n hx hb d_NRunner_operate_104 rfl (lv_at hl 3 rfl) ?_
    refine lv_lload_n hx hb d_NRunner_operate_105 rfl (lv_at hl 1 rfl) ?_
    refine lv_lload hx hb d_NRunner_operate_106 (lv_at hl 0 rfl) ?_
    refine lv_lmul hx hb d_NRunner_operate_108 ?_
    have hI43 := iv_1 hI hL t_X (by decide) hk36 (oc_9.mk t_X (⟨pr, ix, os, st, ((mo + ((nI 1)))), lo, tr, e34, t_pr, (by omega), (by omega), (by omega), (by omega)⟩))
    refine pf_put (v := .long (mx * my)) (ty := .long) (fs' := [.int (nI 5), .int (nI le), .int (nI ri), .ref (g.lk (g.lk (g.lk pr 2) n) 3), .int (nI 1), .long (mx * my), .ref (g.lk (g.lk (g.lk pr 2) n) 6)]) (C := "BigRunner$Node") (T := FT5) (N := 7) hx hb (hw5 hB _) (fun _ h9 => h9) TY5 ok5 nm5 hown hK hP hD hS (lo_in hL (lo_e25 hL _ (lo_k7_2 hL _ t_pr) _ (by omega)) (by decide)) eN rfl 5 (by decide) (wd_221 hB _) rfl (by decide +kernel) rfl rfl (Nat.le_of_ble_eq_true rfl) rfl d_NRunner_operate_109 (fun f44 H locs e45 k46 hP hD hS => ?_)
    have eL := (k46 (g.lk (g.lk pr 2) le) (tn_ne (lo_n25 hL _ (lo_k7_2 hL _ t_pr) _ (by omega)) (lo_n25 hL _ (lo_k7_2 hL _ t_pr) _ (by omega)) (by omega))).trans eL
    have eR := (k46 (g.lk (g.lk pr 2) ri) (tn_ne (lo_n25 hL _ (lo_k7_2 hL _ t_pr) _ (by omega)) (lo_n25 hL _ (lo_k7_2 hL _ t_pr) _ (by omega)) (by omega))).trans eR
    have e34 := (k46 X (tg_ne t_X (lo_e25 hL _ (lo_k7_2 hL _ t_pr) _ (by omega)) (by decide))).trans e34
    have e37 := (k46 pr (tg_ne t_pr (lo_e25 hL _ (lo_k7_2 hL _ t_pr) _ (by omega)) (by decide))).trans e37
    have e42 := (k46 (g.lk pr 2) (tg_ne (lo_k7_2 hL _ t_pr) (lo_e25 hL _ (lo_k7_2 hL _ t_pr) _ (by omega)) (by decide))).trans e42
    have hu : ∀ b, b ≠ X → b ≠ (g.lk (g.lk pr 2) n) → f44 b = f b := fun b q0 q1 => (k46 b q1).trans (hu b q0 q1)
    have hk47 : ∀ b, b ≠ (g.lk (g.lk pr 2) n) → f44 b = f33 b := k46
    refine lv_iconst (v := nI 0) hx hb d_NRunner_operate_112 (by decide) ?_
    have hI48 := iv_1 hI43 hL (lo_e25 hL _ (lo_k7_2 hL _ t_pr) _ (by omega)) (by decide) hk47 (oc_6.mk (lo_e25 hL _ (lo_k7_2 hL _ t_pr) _ (by omega)) (⟨5, le, ri, ((nI 1)), ((mx * my)), e45, (by omega), (by omega), (by omega), (by omega), (Or.inr rfl), (by omega)⟩))
    exact pe_iret hx hb hr hlocks hK hP hD hS d_NRunner_operate_113 ⟨⟨(mo + ((nI 1))), e34⟩, (congrArg nI (otr_z h6x h6y (Or.inl (by decide))).symm), ⟨_, e45, fun z9 => oe_mul hvx hvy (hres z9)⟩, hI48, hu⟩
  · skip
    rw [show km 5 = 6 from rfl] at eN
    refine lv_aload_n hx hb d_NRunner_operate_0 rfl (lv_at hl 0 rfl) ?_
    refine lv_dup hx hb d_NRunner_operate_1 rfl ?_
    refine pf_get (v := .int mo) (C := "BigRunner$Runner") (T := FT8) (N := 13) hx hb (hw8 hB _) (fun _ h9 => h9) hown hK hP (lo_in hL t_X (by decide)) eX rfl 10 (by decide) (wd_345 hB _) rfl d_NRunner_operate_2 ?_
    refine lv_iconst (v := nI 1) hx hb d_NRunner_operate_5 (by decide) ?_
    refine lv_iadd hx hb d_NRunner_operate_6 ?_
    refine pf_put (v := .int (mo + ((nI 1)))) (ty := .int) (fs' := [.ref pr, .ref (g.lk X 1), .int (nI ix), .ref (g.lk X 3), .ref (g.lk X 4), .ref (g.lk X 5), .ref (g.lk X 6), .ref (g.lk X 7), .int (nI os), .int (nI st), .int (mo + ((nI 1))), .int lo, .int (nI tr)]) (C := "BigRunner$Runner") (T := FT8) (N := 13) hx hb (hw8 hB _) (fun _ h9 => h9) TY8 ok8 nm8 hown hK hP hD hS (lo_in hL t_X (by decide)) eX rfl 10 (by decide) (wd_345 hB _) rfl (by decide +kernel) rfl rfl (Nat.le_of_ble_eq_true rfl) rfl d_NRunner_operate_7 (fun f49 H locs e50 k51 hP hD hS => ?_)
    have eN := (k51 (g.lk (g.lk pr 2) n) (tg_ne (lo_e25 hL _ (lo_k7_2 hL _ t_pr) _ (by omega)) t_X (by decide))).trans eN
    have eL := (k51 (g.lk (g.lk pr 2) le) (tg_ne (lo_e25 hL _ (lo_k7_2 hL _ t_pr) _ (by omega)) t_X (by decide))).trans eL
    have eR := (k51 (g.lk (g.lk pr 2) ri) (tg_ne (lo_e25 hL _ (lo_k7_2 hL _ t_pr) _ (by omega)) t_X (by decide))).trans eR
    have hu : ∀ b, b ≠ X → b ≠ (g.lk (g.lk pr 2) n) → f49 b = f b := fun b q0 q1 => (k51 b q0).trans (hu b q0 q1)
    have hk52 : ∀ b, b ≠ X → f49 b = f b := k51
    refine lv_aload_n hx hb d_NRunner_operate_10 rfl (lv_at hl 0 rfl) ?_
    refine pf_get (v := .ref pr) (C := "BigRunner$Runner") (T := FT8) (N := 13) hx hb (hw8 hB _) (fun _ h9 => h9) hown hK hP (lo_in hL t_X (by decide)) e50 rfl 0 (by decide) (wd_330 hB _) rfl d_NRunner_operate_11 ?_
    obtain ⟨sc_54, nc_55, e53, c56, c57⟩ := oc_7.of t_pr (hI.1 pr)
    replace e53 := (hk52 pr (tg_ne t_pr t_X (by decide))).trans e53
    refine pf_get (v := .ref (g.lk pr 2)) (C := "BigRunner$Program") (T := FT6) (N := 6) hx hb (hw6 hB _) (fun _ h9 => h9) hown hK hP (lo_in hL t_pr (by decide)) e53 rfl 2 (by decide) (wd_249 hB _) rfl d_NRunner_operate_14 ?_
    refine lv_aload_n hx hb d_NRunner_operate_17 rfl (lv_at hl 1 rfl) ?_
    refine pf_get (v := .int (nI le)) (C := "BigRunner$Node") (T := FT5) (N := 7) hx hb (hw5 hB _) (fun _ h9 => h9) hown hK hP (lo_in hL (lo_e25 hL _ (lo_k7_2 hL _ t_pr) _ (by omega)) (by decide)) eN rfl 1 (by decide) (wd_208 hB _) rfl d_NRunner_operate_18 ?_
    have e58 := oc_25.of (lo_k7_2 hL _ t_pr) (hI.1 (g.lk pr 2))
    replace e58 := (hk52 (g.lk pr 2) (tg_ne (lo_k7_2 hL _ t_pr) t_X (by decide))).trans e58
    refine pf_aald (i := le) hx hb hK hP (lo_in hL (lo_k7_2 hL _ t_pr) (by decide)) e58 (lo_t25 hL _ (lo_k7_2 hL _ t_pr)) (by omega) (by decide) d_NRunner_operate_21 ?_
    refine pf_get (v := .long mx) (C := "BigRunner$Node") (T := FT5) (N := 7) hx hb (hw5 hB _) (fun _ h9 => h9) hown hK hP (lo_in hL (lo_e25 hL _ (lo_k7_2 hL _ t_pr) _ (by omega)) (by decide)) eL rfl 5 (by decide) (wd_221 hB _) rfl d_NRunner_operate_22 ?_
    refine lv_lstore_n (lv' := [(2, .long mx), (0, .ref X), (1, .ref (g.lk (g.lk pr 2) n))]) hx hb d_NRunner_operate_25 rfl hl (by decide) rfl (fun ls hl => ?_)
    refine lv_aload_n hx hb d_NRunner_operate_26 rfl (lv_at hl 1 rfl) ?_
    refine pf_get (v := .ref pr) (C := "BigRunner$Runner") (T := FT8) (N := 13) hx hb (hw8 hB _) (fun _ h9 => h9) hown hK hP (lo_in hL t_X (by decide)) e50 rfl 0 (by decide) (wd_330 hB _) rfl d_NRunner_operate_27 ?_
    refine pf_get (v := .ref (g.lk pr 2)) (C := "BigRunner$Program") (T := FT6) (N := 6) hx hb (hw6 hB _) (fun _ h9 => h9) hown hK hP (lo_in hL t_pr (by decide)) e53 rfl 2 (by decide) (wd_249 hB _) rfl d_NRunner_operate_30 ?_
    refine lv_aload_n hx hb d_NRunner_operate_33 rfl (lv_at hl 2 rfl) ?_
    refine pf_get (v := .int (nI ri)) (C := "BigRunner$Node") (T := FT5) (N := 7) hx hb (hw5 hB _) (fun _ h9 => h9) hown hK hP (lo_in hL (lo_e25 hL _ (lo_k7_2 hL _ t_pr) _ (by omega)) (by decide)) eN rfl 2 (by decide) (wd_212 hB _) rfl d_NRunner_operate_34 ?_
    refine pf_aald (i := ri) hx hb hK hP (lo_in hL (lo_k7_2 hL _ t_pr) (by decide)) e58 (lo_t25 hL _ (lo_k7_2 hL _ t_pr)) (by omega) (by decide) d_NRunner_operate_37 ?_
    refine pf_get (v := .long my) (C := "BigRunner$Node") (T := FT5) (N := 7) hx hb (hw5 hB _) (fun _ h9 => h9) hown hK hP (lo_in hL (lo_e25 hL _ (lo_k7_2 hL _ t_pr) _ (by omega)) (by decide)) eR rfl 5 (by decide) (wd_221 hB _) rfl d_NRunner_operate_38 ?_
    refine lv_lstore (lv' := [(4, .long my), (2, .long mx), (0, .ref X), (1, .ref (g.lk (g.lk pr 2) n))]) hx hb d_NRunner_operate_41 hl (by decide) rfl (fun ls hl => ?_)
    refine lv_aload_n hx hb d_NRunner_operate_43 rfl (lv_at hl 3 rfl) ?_
    refine pf_get (v := .int (nI 6)) (C := "BigRunner$Node") (T := FT5) (N := 7) hx hb (hw5 hB _) (fun _ h9 => h9) hown hK hP (lo_in hL (lo_e25 hL _ (lo_k7_2 hL _ t_pr) _ (by omega)) (by decide)) eN rfl 0 (by decide) (wd_204 hB _) rfl d_NRunner_operate_44 ?_
    refine lv_tableOut (tgt := 114) hx hb d_NRunner_operate_47 (by rw [nI_toInt (by omega)]; omega) (by decide) ?_
    refine lv_lload hx hb d_NRunner_operate_114 (lv_at hl 0 rfl) ?_
    refine lv_lconst (v := nL 0) hx hb d_NRunner_operate_116 (by decide) ?_
    refine W.lcmp hx hb d_NRunner_operate_117 ?_
    refine lv_if_ne (tgt := 123) hx hb d_NRunner_operate_118 (by decide) (fun b59 => ?_) (fun b59 => ?_)
    · skip
      replace b59 := mt pl_eq.mpr b59
      have hy9 : ¬ my = nL 0 := b59
      refine lv_aload_n hx hb d_NRunner_operate_123 rfl (lv_at hl 3 rfl) ?_
      refine lv_aload_n hx hb d_NRunner_operate_124 rfl (lv_at hl 3 rfl) ?_
      refine pf_get (v := .int (nI 6)) (C := "BigRunner$Node") (T := FT5) (N := 7) hx hb (hw5 hB _) (fun _ h9 => h9) hown hK hP (lo_in hL (lo_e25 hL _ (lo_k7_2 hL _ t_pr) _ (by omega)) (by decide)) eN rfl 0 (by decide) (wd_204 hB _) rfl d_NRunner_operate_125 ?_
      refine lv_bipush (v := nI 6) hx hb d_NRunner_operate_128 (by decide) ?_
      refine lv_icmp_ne (tgt := 140) hx hb d_NRunner_operate_130 (by decide) (fun b60 => ?_) (fun b60 => ?_)
      · skip
        replace b60 := mt (nI_eq (a := 6) (b := 6) (by omega) (by omega)).mpr b60
        exfalso; omega
      · skip
        replace b60 := (nI_eq (a := 6) (b := 6) (by omega) (by omega)).mp b60
        refine lv_lload_n hx hb d_NRunner_operate_133 rfl (lv_at hl 1 rfl) ?_
        refine lv_lload hx hb d_NRunner_operate_134 (lv_at hl 0 rfl) ?_
        refine lv_ldiv hx hb d_NRunner_operate_136 (nz (by assumption)) ?_
        refine lv_goto (tgt := 144) hx hb d_NRunner_operate_137 (by decide) ?_
        have hI61 := iv_1 hI hL t_X (by decide) hk52 (oc_9.mk t_X (⟨pr, ix, os, st, ((mo + ((nI 1)))), lo, tr, e50, t_pr, (by omega), (by omega), (by omega), (by omega)⟩))
        refine pf_put (v := .long (mx / my)) (ty := .long) (fs' := [.int (nI 6), .int (nI le), .int (nI ri), .ref (g.lk (g.lk (g.lk pr 2) n) 3), .int (nI 1), .long (mx / my), .ref (g.lk (g.lk (g.lk pr 2) n) 6)]) (C := "BigRunner$Node") (T := FT5) (N := 7) hx hb (hw5 hB _) (fun _ h9 => h9) TY5 ok5 nm5 hown hK hP hD hS (lo_in hL (lo_e25 hL _ (lo_k7_2 hL _ t_pr) _ (by omega)) (by decide)) eN rfl 5 (by decide) (wd_221 hB _) rfl (by decide +kernel) rfl rfl (Nat.le_of_ble_eq_true rfl) rfl d_NRunner_operate_144 (fun f62 H locs e63 k64 hP hD hS => ?_)
        have eL := (k64 (g.lk (g.lk pr 2) le) (tn_ne (lo_n25 hL _ (lo_k7_2 hL _ t_pr) _ (by omega)) (lo_n25 hL _ (lo_k7_2 hL _ t_pr) _ (by omega)) (by omega))).trans eL
        have eR := (k64 (g.lk (g.lk pr 2) ri) (tn_ne (lo_n25 hL _ (lo_k7_2 hL _ t_pr) _ (by omega)) (lo_n25 hL _ (lo_k7_2 hL _ t_pr) _ (by omega)) (by omega))).trans eR
        have e50 := (k64 X (tg_ne t_X (lo_e25 hL _ (lo_k7_2 hL _ t_pr) _ (by omega)) (by decide))).trans e50
        have e53 := (k64 pr (tg_ne t_pr (lo_e25 hL _ (lo_k7_2 hL _ t_pr) _ (by omega)) (by decide))).trans e53
        have e58 := (k64 (g.lk pr 2) (tg_ne (lo_k7_2 hL _ t_pr) (lo_e25 hL _ (lo_k7_2 hL _ t_pr) _ (by omega)) (by decide))).trans e58
        have hu : ∀ b, b ≠ X → b ≠ (g.lk (g.lk pr 2) n) → f62 b = f b := fun b q0 q1 => (k64 b q1).trans (hu b q0 q1)
        have hk65 : ∀ b, b ≠ (g.lk (g.lk pr 2) n) → f62 b = f49 b := k64
        refine lv_iconst (v := nI 0) hx hb d_NRunner_operate_147 (by decide) ?_
        have hI66 := iv_1 hI61 hL (lo_e25 hL _ (lo_k7_2 hL _ t_pr) _ (by omega)) (by decide) hk65 (oc_6.mk (lo_e25 hL _ (lo_k7_2 hL _ t_pr) _ (by omega)) (⟨6, le, ri, ((nI 1)), ((mx / my)), e63, (by omega), (by omega), (by omega), (by omega), (Or.inr rfl), (by omega)⟩))
        exact pe_iret hx hb hr hlocks hK hP hD hS d_NRunner_operate_148 ⟨⟨(mo + ((nI 1))), e50⟩, (congrArg nI (otr_z h6x h6y (Or.inr (Or.inr (fun z9 => hy9 (Int64.toInt_inj.mp (hvy.trans z9)))))).symm), ⟨_, e63, fun z9 => oe_div hvx hvy h6x⟩, hI66, hu⟩
    · skip
      replace b59 := pl_eq.mp b59
      have hy8 : my = nL 0 := by first | exact b59 | exact Decidable.not_not.mp b59
      refine lv_iconst (v := nI 1) hx hb d_NRunner_operate_121 (by decide) ?_
      have hI67 := iv_1 hI hL t_X (by decide) hk52 (oc_9.mk t_X (⟨pr, ix, os, st, ((mo + ((nI 1)))), lo, tr, e50, t_pr, (by omega), (by omega), (by omega), (by omega)⟩))
      exact pe_iret hx hb hr hlocks hK hP hD hS d_NRunner_operate_122 ⟨⟨(mo + ((nI 1))), e50⟩, (congrArg nI (otr_1 (by decide) (by decide) (hvy.symm.trans (by rw [hy8]; rfl))).symm), ⟨_, eN, fun z9 => absurd (z9.symm.trans (otr_1 (by decide) (by decide) (hvy.symm.trans (by rw [hy8]; rfl)))) (by decide)⟩, hI67, hu⟩
  · skip
    rw [show km 6 = 7 from rfl] at eN
    refine lv_aload_n hx hb d_NRunner_operate_0 rfl (lv_at hl 0 rfl) ?_
    refine lv_dup hx hb d_NRunner_operate_1 rfl ?_
    refine pf_get (v := .int mo) (C := "BigRunner$Runner") (T := FT8) (N := 13) hx hb (hw8 hB _) (fun _ h9 => h9) hown hK hP (lo_in hL t_X (by decide)) eX rfl 10 (by decide) (wd_345 hB _) rfl d_NRunner_operate_2 ?_
    refine lv_iconst (v := nI 1) hx hb d_NRunner_operate_5 (by decide) ?_
    refine lv_iadd hx hb d_NRunner_operate_6 ?_
    refine pf_put (v := .int (mo + ((nI 1)))) (ty := .int) (fs' := [.ref pr, .ref (g.lk X 1), .int (nI ix), .ref (g.lk X 3), .ref (g.lk X 4), .ref (g.lk X 5), .ref (g.lk X 6), .ref (g.lk X 7), .int (nI os), .int (nI st), .int (mo + ((nI 1))), .int lo, .int (nI tr)]) (C := "BigRunner$Runner") (T := FT8) (N := 13) hx hb (hw8 hB _) (fun _ h9 => h9) TY8 ok8 nm8 hown hK hP hD hS (lo_in hL t_X (by decide)) eX rfl 10 (by decide) (wd_345 hB _) rfl (by decide +kernel) rfl rfl (Nat.le_of_ble_eq_true rfl) rfl d_NRunner_operate_7 (fun f68 H locs e69 k70 hP hD hS => ?_)
    have eN := (k70 (g.lk (g.lk pr 2) n) (tg_ne (lo_e25 hL _ (lo_k7_2 hL _ t_pr) _ (by omega)) t_X (by decide))).trans eN
    have eL := (k70 (g.lk (g.lk pr 2) le) (tg_ne (lo_e25 hL _ (lo_k7_2 hL _ t_pr) _ (by omega)) t_X (by decide))).trans eL
    have eR := (k70 (g.lk (g.lk pr 2) ri) (tg_ne (lo_e25 hL _ (lo_k7_2 hL _ t_pr) _ (by omega)) t_X (by decide))).trans eR
    have hu : ∀ b, b ≠ X → b ≠ (g.lk (g.lk pr 2) n) → f68 b = f b := fun b q0 q1 => (k70 b q0).trans (hu b q0 q1)
    have hk71 : ∀ b, b ≠ X → f68 b = f b := k70
    refine lv_aload_n hx hb d_NRunner_operate_10 rfl (lv_at hl 0 rfl) ?_
    refine pf_get (v := .ref pr) (C := "BigRunner$Runner") (T := FT8) (N := 13) hx hb (hw8 hB _) (fun _ h9 => h9) hown hK hP (lo_in hL t_X (by decide)) e69 rfl 0 (by decide) (wd_330 hB _) rfl d_NRunner_operate_11 ?_
    obtain ⟨sc_73, nc_74, e72, c75, c76⟩ := oc_7.of t_pr (hI.1 pr)
    replace e72 := (hk71 pr (tg_ne t_pr t_X (by decide))).trans e72
    refine pf_get (v := .ref (g.lk pr 2)) (C := "BigRunner$Program") (T := FT6) (N := 6) hx hb (hw6 hB _) (fun _ h9 => h9) hown hK hP (lo_in hL t_pr (by decide)) e72 rfl 2 (by decide) (wd_249 hB _) rfl d_NRunner_operate_14 ?_
    refine lv_aload_n hx hb d_NRunner_operate_17 rfl (lv_at hl 1 rfl) ?_
    refine pf_get (v := .int (nI le)) (C := "BigRunner$Node") (T := FT5) (N := 7) hx hb (hw5 hB _) (fun _ h9 => h9) hown hK hP (lo_in hL (lo_e25 hL _ (lo_k7_2 hL _ t_pr) _ (by omega)) (by decide)) eN rfl 1 (by decide) (wd_208 hB _) rfl d_NRunner_operate_18 ?_
    have e77 := oc_25.of (lo_k7_2 hL _ t_pr) (hI.1 (g.lk pr 2))
    replace e77 := (hk71 (g.lk pr 2) (tg_ne (lo_k7_2 hL _ t_pr) t_X (by decide))).trans e77
    refine pf_aald (i := le) hx hb hK hP (lo_in hL (lo_k7_2 hL _ t_pr) (by decide)) e77 (lo_t25 hL _ (lo_k7_2 hL _ t_pr)) (by omega) (by decide) d_NRunner_operate_21 ?_
    refine pf_get (v := .long mx) (C := "BigRunner$Node") (T := FT5) (N := 7) hx hb (hw5 hB _) (fun _ h9 => h9) hown hK hP (lo_in hL (lo_e25 hL _ (lo_k7_2 hL _ t_pr) _ (by omega)) (by decide)) eL rfl 5 (by decide) (wd_221 hB _) rfl d_NRunner_operate_22 ?_
    refine lv_lstore_n (lv' := [(2, .long mx), (0, .ref X), (1, .ref (g.lk (g.lk pr 2) n))]) hx hb d_NRunner_operate_25 rfl hl (by decide) rfl (fun ls hl => ?_)
    refine lv_aload_n hx hb d_NRunner_operate_26 rfl (lv_at hl 1 rfl) ?_
    refine pf_get (v := .ref pr) (C := "BigRunner$Runner") (T := FT8) (N := 13) hx hb (hw8 hB _) (fun _ h9 => h9) hown hK hP (lo_in hL t_X (by decide)) e69 rfl 0 (by decide) (wd_330 hB _) rfl d_NRunner_operate_27 ?_
    refine pf_get (v := .ref (g.lk pr 2)) (C := "BigRunner$Program") (T := FT6) (N := 6) hx hb (hw6 hB _) (fun _ h9 => h9) hown hK hP (lo_in hL t_pr (by decide)) e72 rfl 2 (by decide) (wd_249 hB _) rfl d_NRunner_operate_30 ?_
    refine lv_aload_n hx hb d_NRunner_operate_33 rfl (lv_at hl 2 rfl) ?_
    refine pf_get (v := .int (nI ri)) (C := "BigRunner$Node") (T := FT5) (N := 7) hx hb (hw5 hB _) (fun _ h9 => h9) hown hK hP (lo_in hL (lo_e25 hL _ (lo_k7_2 hL _ t_pr) _ (by omega)) (by decide)) eN rfl 2 (by decide) (wd_212 hB _) rfl d_NRunner_operate_34 ?_
    refine pf_aald (i := ri) hx hb hK hP (lo_in hL (lo_k7_2 hL _ t_pr) (by decide)) e77 (lo_t25 hL _ (lo_k7_2 hL _ t_pr)) (by omega) (by decide) d_NRunner_operate_37 ?_
    refine pf_get (v := .long my) (C := "BigRunner$Node") (T := FT5) (N := 7) hx hb (hw5 hB _) (fun _ h9 => h9) hown hK hP (lo_in hL (lo_e25 hL _ (lo_k7_2 hL _ t_pr) _ (by omega)) (by decide)) eR rfl 5 (by decide) (wd_221 hB _) rfl d_NRunner_operate_38 ?_
    refine lv_lstore (lv' := [(4, .long my), (2, .long mx), (0, .ref X), (1, .ref (g.lk (g.lk pr 2) n))]) hx hb d_NRunner_operate_41 hl (by decide) rfl (fun ls hl => ?_)
    refine lv_aload_n hx hb d_NRunner_operate_43 rfl (lv_at hl 3 rfl) ?_
    refine pf_get (v := .int (nI 7)) (C := "BigRunner$Node") (T := FT5) (N := 7) hx hb (hw5 hB _) (fun _ h9 => h9) hown hK hP (lo_in hL (lo_e25 hL _ (lo_k7_2 hL _ t_pr) _ (by omega)) (by decide)) eN rfl 0 (by decide) (wd_204 hB _) rfl d_NRunner_operate_44 ?_
    refine lv_tableOut (tgt := 114) hx hb d_NRunner_operate_47 (by rw [nI_toInt (by omega)]; omega) (by decide) ?_
    refine lv_lload hx hb d_NRunner_operate_114 (lv_at hl 0 rfl) ?_
    refine lv_lconst (v := nL 0) hx hb d_NRunner_operate_116 (by decide) ?_
    refine W.lcmp hx hb d_NRunner_operate_117 ?_
    refine lv_if_ne (tgt := 123) hx hb d_NRunner_operate_118 (by decide) (fun b78 => ?_) (fun b78 => ?_)
    · skip
      replace b78 := mt pl_eq.mpr b78
      have hy9 : ¬ my = nL 0 := b78
      refine lv_aload_n hx hb d_NRunner_operate_123 rfl (lv_at hl 3 rfl) ?_
      refine lv_aload_n hx hb d_NRunner_operate_124 rfl (lv_at hl 3 rfl) ?_
      refine pf_get (v := .int (nI 7)) (C := "BigRunner$Node") (T := FT5) (N := 7) hx hb (hw5 hB _) (fun _ h9 => h9) hown hK hP (lo_in hL (lo_e25 hL _ (lo_k7_2 hL _ t_pr) _ (by omega)) (by decide)) eN rfl 0 (by decide) (wd_204 hB _) rfl d_NRunner_operate_125 ?_
      refine lv_bipush (v := nI 6) hx hb d_NRunner_operate_128 (by decide) ?_
      refine lv_icmp_ne (tgt := 140) hx hb d_NRunner_operate_130 (by decide) (fun b79 => ?_) (fun b79 => ?_)
      · skip
        replace b79 := mt (nI_eq (a := 7) (b := 6) (by omega) (by omega)).mpr b79
        refine lv_lload_n hx hb d_NRunner_operate_140 rfl (lv_at hl 1 rfl) ?_
        refine lv_lload hx hb d_NRunner_operate_141 (lv_at hl 0 rfl) ?_
        refine lv_lrem hx hb d_NRunner_operate_143 (nz (by assumption)) ?_
        have hI80 := iv_1 hI hL t_X (by decide) hk71 (oc_9.mk t_X (⟨pr, ix, os, st, ((mo + ((nI 1)))), lo, tr, e69, t_pr, (by omega), (by omega), (by omega), (by omega)⟩))
        refine pf_put (v := .long (mx - mx / my * my)) (ty := .long) (fs' := [.int (nI 7), .int (nI le), .int (nI ri), .ref (g.lk (g.lk (g.lk pr 2) n) 3), .int (nI 1), .long (mx - mx / my * my), .ref (g.lk (g.lk (g.lk pr 2) n) 6)]) (C := "BigRunner$Node") (T := FT5) (N := 7) hx hb (hw5 hB _) (fun _ h9 => h9) TY5 ok5 nm5 hown hK hP hD hS (lo_in hL (lo_e25 hL _ (lo_k7_2 hL _ t_pr) _ (by omega)) (by decide)) eN rfl 5 (by decide) (wd_221 hB _) rfl (by decide +kernel) rfl rfl (Nat.le_of_ble_eq_true rfl) rfl d_NRunner_operate_144 (fun f81 H locs e82 k83 hP hD hS => ?_)
        have eL := (k83 (g.lk (g.lk pr 2) le) (tn_ne (lo_n25 hL _ (lo_k7_2 hL _ t_pr) _ (by omega)) (lo_n25 hL _ (lo_k7_2 hL _ t_pr) _ (by omega)) (by omega))).trans eL
        have eR := (k83 (g.lk (g.lk pr 2) ri) (tn_ne (lo_n25 hL _ (lo_k7_2 hL _ t_pr) _ (by omega)) (lo_n25 hL _ (lo_k7_2 hL _ t_pr) _ (by omega)) (by omega))).trans eR
        have e69 := (k83 X (tg_ne t_X (lo_e25 hL _ (lo_k7_2 hL _ t_pr) _ (by omega)) (by decide))).trans e69
        have e72 := (k83 pr (tg_ne t_pr (lo_e25 hL _ (lo_k7_2 hL _ t_pr) _ (by omega)) (by decide))).trans e72
        have e77 := (k83 (g.lk pr 2) (tg_ne (lo_k7_2 hL _ t_pr) (lo_e25 hL _ (lo_k7_2 hL _ t_pr) _ (by omega)) (by decide))).trans e77
        have hu : ∀ b, b ≠ X → b ≠ (g.lk (g.lk pr 2) n) → f81 b = f b := fun b q0 q1 => (k83 b q1).trans (hu b q0 q1)
        have hk84 : ∀ b, b ≠ (g.lk (g.lk pr 2) n) → f81 b = f68 b := k83
        refine lv_iconst (v := nI 0) hx hb d_NRunner_operate_147 (by decide) ?_
        have hI85 := iv_1 hI80 hL (lo_e25 hL _ (lo_k7_2 hL _ t_pr) _ (by omega)) (by decide) hk84 (oc_6.mk (lo_e25 hL _ (lo_k7_2 hL _ t_pr) _ (by omega)) (⟨7, le, ri, ((nI 1)), ((mx - mx / my * my)), e82, (by omega), (by omega), (by omega), (by omega), (Or.inr rfl), (by omega)⟩))
        exact pe_iret hx hb hr hlocks hK hP hD hS d_NRunner_operate_148 ⟨⟨(mo + ((nI 1))), e69⟩, (congrArg nI (otr_z h6x h6y (Or.inr (Or.inr (fun z9 => hy9 (Int64.toInt_inj.mp (hvy.trans z9)))))).symm), ⟨_, e82, fun z9 => oe_rem hvx hvy h6x⟩, hI85, hu⟩
      · skip
        replace b79 := (nI_eq (a := 7) (b := 6) (by omega) (by omega)).mp b79
        exfalso; omega
    · skip
      replace b78 := pl_eq.mp b78
      have hy8 : my = nL 0 := by first | exact b78 | exact Decidable.not_not.mp b78
      refine lv_iconst (v := nI 1) hx hb d_NRunner_operate_121 (by decide) ?_
      have hI86 := iv_1 hI hL t_X (by decide) hk71 (oc_9.mk t_X (⟨pr, ix, os, st, ((mo + ((nI 1)))), lo, tr, e69, t_pr, (by omega), (by omega), (by omega), (by omega)⟩))
      exact pe_iret hx hb hr hlocks hK hP hD hS d_NRunner_operate_122 ⟨⟨(mo + ((nI 1))), e69⟩, (congrArg nI (otr_1 (by decide) (by decide) (hvy.symm.trans (by rw [hy8]; rfl))).symm), ⟨_, eN, fun z9 => absurd (z9.symm.trans (otr_1 (by decide) (by decide) (hvy.symm.trans (by rw [hy8]; rfl)))) (by decide)⟩, hI86, hu⟩
  · skip
    rw [show km 7 = 2 from rfl] at eN
    refine lv_aload_n hx hb d_NRunner_operate_0 rfl (lv_at hl 0 rfl) ?_
    refine lv_dup hx hb d_NRunner_operate_1 rfl ?_
    refine pf_get (v := .int mo) (C := "BigRunner$Runner") (T := FT8) (N := 13) hx hb (hw8 hB _) (fun _ h9 => h9) hown hK hP (lo_in hL t_X (by decide)) eX rfl 10 (by decide) (wd_345 hB _) rfl d_NRunner_operate_2 ?_
    refine lv_iconst (v := nI 1) hx hb d_NRunner_operate_5 (by decide) ?_
    refine lv_iadd hx hb d_NRunner_operate_6 ?_
    refine pf_put (v := .int (mo + ((nI 1)))) (ty := .int) (fs' := [.ref pr, .ref (g.lk X 1), .int (nI ix), .ref (g.lk X 3), .ref (g.lk X 4), .ref (g.lk X 5), .ref (g.lk X 6), .ref (g.lk X 7), .int (nI os), .int (nI st), .int (mo + ((nI 1))), .int lo, .int (nI tr)]) (C := "BigRunner$Runner") (T := FT8) (N := 13) hx hb (hw8 hB _) (fun _ h9 => h9) TY8 ok8 nm8 hown hK hP hD hS (lo_in hL t_X (by decide)) eX rfl 10 (by decide) (wd_345 hB _) rfl (by decide +kernel) rfl rfl (Nat.le_of_ble_eq_true rfl) rfl d_NRunner_operate_7 (fun f87 H locs e88 k89 hP hD hS => ?_)
    have eN := (k89 (g.lk (g.lk pr 2) n) (tg_ne (lo_e25 hL _ (lo_k7_2 hL _ t_pr) _ (by omega)) t_X (by decide))).trans eN
    have eL := (k89 (g.lk (g.lk pr 2) le) (tg_ne (lo_e25 hL _ (lo_k7_2 hL _ t_pr) _ (by omega)) t_X (by decide))).trans eL
    have eR := (k89 (g.lk (g.lk pr 2) ri) (tg_ne (lo_e25 hL _ (lo_k7_2 hL _ t_pr) _ (by omega)) t_X (by decide))).trans eR
    have hu : ∀ b, b ≠ X → b ≠ (g.lk (g.lk pr 2) n) → f87 b = f b := fun b q0 q1 => (k89 b q0).trans (hu b q0 q1)
    have hk90 : ∀ b, b ≠ X → f87 b = f b := k89
    refine lv_aload_n hx hb d_NRunner_operate_10 rfl (lv_at hl 0 rfl) ?_
    refine pf_get (v := .ref pr) (C := "BigRunner$Runner") (T := FT8) (N := 13) hx hb (hw8 hB _) (fun _ h9 => h9) hown hK hP (lo_in hL t_X (by decide)) e88 rfl 0 (by decide) (wd_330 hB _) rfl d_NRunner_operate_11 ?_
    obtain ⟨sc_92, nc_93, e91, c94, c95⟩ := oc_7.of t_pr (hI.1 pr)
    replace e91 := (hk90 pr (tg_ne t_pr t_X (by decide))).trans e91
    refine pf_get (v := .ref (g.lk pr 2)) (C := "BigRunner$Program") (T := FT6) (N := 6) hx hb (hw6 hB _) (fun _ h9 => h9) hown hK hP (lo_in hL t_pr (by decide)) e91 rfl 2 (by decide) (wd_249 hB _) rfl d_NRunner_operate_14 ?_
    refine lv_aload_n hx hb d_NRunner_operate_17 rfl (lv_at hl 1 rfl) ?_
    refine pf_get (v := .int (nI le)) (C := "BigRunner$Node") (T := FT5) (N := 7) hx hb (hw5 hB _) (fun _ h9 => h9) hown hK hP (lo_in hL (lo_e25 hL _ (lo_k7_2 hL _ t_pr) _ (by omega)) (by decide)) eN rfl 1 (by decide) (wd_208 hB _) rfl d_NRunner_operate_18 ?_
    have e96 := oc_25.of (lo_k7_2 hL _ t_pr) (hI.1 (g.lk pr 2))
    replace e96 := (hk90 (g.lk pr 2) (tg_ne (lo_k7_2 hL _ t_pr) t_X (by decide))).trans e96
    refine pf_aald (i := le) hx hb hK hP (lo_in hL (lo_k7_2 hL _ t_pr) (by decide)) e96 (lo_t25 hL _ (lo_k7_2 hL _ t_pr)) (by omega) (by decide) d_NRunner_operate_21 ?_
    refine pf_get (v := .long mx) (C := "BigRunner$Node") (T := FT5) (N := 7) hx hb (hw5 hB _) (fun _ h9 => h9) hown hK hP (lo_in hL (lo_e25 hL _ (lo_k7_2 hL _ t_pr) _ (by omega)) (by decide)) eL rfl 5 (by decide) (wd_221 hB _) rfl d_NRunner_operate_22 ?_
    refine lv_lstore_n (lv' := [(2, .long mx), (0, .ref X), (1, .ref (g.lk (g.lk pr 2) n))]) hx hb d_NRunner_operate_25 rfl hl (by decide) rfl (fun ls hl => ?_)
    refine lv_aload_n hx hb d_NRunner_operate_26 rfl (lv_at hl 1 rfl) ?_
    refine pf_get (v := .ref pr) (C := "BigRunner$Runner") (T := FT8) (N := 13) hx hb (hw8 hB _) (fun _ h9 => h9) hown hK hP (lo_in hL t_X (by decide)) e88 rfl 0 (by decide) (wd_330 hB _) rfl d_NRunner_operate_27 ?_
    refine pf_get (v := .ref (g.lk pr 2)) (C := "BigRunner$Program") (T := FT6) (N := 6) hx hb (hw6 hB _) (fun _ h9 => h9) hown hK hP (lo_in hL t_pr (by decide)) e91 rfl 2 (by decide) (wd_249 hB _) rfl d_NRunner_operate_30 ?_
    refine lv_aload_n hx hb d_NRunner_operate_33 rfl (lv_at hl 2 rfl) ?_
    refine pf_get (v := .int (nI ri)) (C := "BigRunner$Node") (T := FT5) (N := 7) hx hb (hw5 hB _) (fun _ h9 => h9) hown hK hP (lo_in hL (lo_e25 hL _ (lo_k7_2 hL _ t_pr) _ (by omega)) (by decide)) eN rfl 2 (by decide) (wd_212 hB _) rfl d_NRunner_operate_34 ?_
    refine pf_aald (i := ri) hx hb hK hP (lo_in hL (lo_k7_2 hL _ t_pr) (by decide)) e96 (lo_t25 hL _ (lo_k7_2 hL _ t_pr)) (by omega) (by decide) d_NRunner_operate_37 ?_
    refine pf_get (v := .long my) (C := "BigRunner$Node") (T := FT5) (N := 7) hx hb (hw5 hB _) (fun _ h9 => h9) hown hK hP (lo_in hL (lo_e25 hL _ (lo_k7_2 hL _ t_pr) _ (by omega)) (by decide)) eR rfl 5 (by decide) (wd_221 hB _) rfl d_NRunner_operate_38 ?_
    refine lv_lstore (lv' := [(4, .long my), (2, .long mx), (0, .ref X), (1, .ref (g.lk (g.lk pr 2) n))]) hx hb d_NRunner_operate_41 hl (by decide) rfl (fun ls hl => ?_)
    refine lv_aload_n hx hb d_NRunner_operate_43 rfl (lv_at hl 3 rfl) ?_
    refine pf_get (v := .int (nI 2)) (C := "BigRunner$Node") (T := FT5) (N := 7) hx hb (hw5 hB _) (fun _ h9 => h9) hown hK hP (lo_in hL (lo_e25 hL _ (lo_k7_2 hL _ t_pr) _ (by omega)) (by decide)) eN rfl 0 (by decide) (wd_204 hB _) rfl d_NRunner_operate_44 ?_
    refine lv_tableIn (off := 29) (tgt := 76) hx hb d_NRunner_operate_47 (by rw [nI_toInt (by omega)]; omega) (by rw [nI_toInt (by omega)]; omega) (by rw [nI_toInt (by omega)]; rfl) (by decide) ?_
    refine lv_aload_n hx hb d_NRunner_operate_76 rfl (lv_at hl 3 rfl) ?_
    refine lv_lload_n hx hb d_NRunner_operate_77 rfl (lv_at hl 1 rfl) ?_
    refine lv_lneg hx hb d_NRunner_operate_78 ?_
    have hI97 := iv_1 hI hL t_X (by decide) hk90 (oc_9.mk t_X (⟨pr, ix, os, st, ((mo + ((nI 1)))), lo, tr, e88, t_pr, (by omega), (by omega), (by omega), (by omega)⟩))
    refine pf_put (v := .long (-mx)) (ty := .long) (fs' := [.int (nI 2), .int (nI le), .int (nI ri), .ref (g.lk (g.lk (g.lk pr 2) n) 3), .int (nI 1), .long (-mx), .ref (g.lk (g.lk (g.lk pr 2) n) 6)]) (C := "BigRunner$Node") (T := FT5) (N := 7) hx hb (hw5 hB _) (fun _ h9 => h9) TY5 ok5 nm5 hown hK hP hD hS (lo_in hL (lo_e25 hL _ (lo_k7_2 hL _ t_pr) _ (by omega)) (by decide)) eN rfl 5 (by decide) (wd_221 hB _) rfl (by decide +kernel) rfl rfl (Nat.le_of_ble_eq_true rfl) rfl d_NRunner_operate_79 (fun f98 H locs e99 k100 hP hD hS => ?_)
    have eL := (k100 (g.lk (g.lk pr 2) le) (tn_ne (lo_n25 hL _ (lo_k7_2 hL _ t_pr) _ (by omega)) (lo_n25 hL _ (lo_k7_2 hL _ t_pr) _ (by omega)) (by omega))).trans eL
    have eR := (k100 (g.lk (g.lk pr 2) ri) (tn_ne (lo_n25 hL _ (lo_k7_2 hL _ t_pr) _ (by omega)) (lo_n25 hL _ (lo_k7_2 hL _ t_pr) _ (by omega)) (by omega))).trans eR
    have e88 := (k100 X (tg_ne t_X (lo_e25 hL _ (lo_k7_2 hL _ t_pr) _ (by omega)) (by decide))).trans e88
    have e91 := (k100 pr (tg_ne t_pr (lo_e25 hL _ (lo_k7_2 hL _ t_pr) _ (by omega)) (by decide))).trans e91
    have e96 := (k100 (g.lk pr 2) (tg_ne (lo_k7_2 hL _ t_pr) (lo_e25 hL _ (lo_k7_2 hL _ t_pr) _ (by omega)) (by decide))).trans e96
    have hu : ∀ b, b ≠ X → b ≠ (g.lk (g.lk pr 2) n) → f98 b = f b := fun b q0 q1 => (k100 b q1).trans (hu b q0 q1)
    have hk101 : ∀ b, b ≠ (g.lk (g.lk pr 2) n) → f98 b = f87 b := k100
    refine lv_iconst (v := nI 0) hx hb d_NRunner_operate_82 (by decide) ?_
    have hI102 := iv_1 hI97 hL (lo_e25 hL _ (lo_k7_2 hL _ t_pr) _ (by omega)) (by decide) hk101 (oc_6.mk (lo_e25 hL _ (lo_k7_2 hL _ t_pr) _ (by omega)) (⟨2, le, ri, ((nI 1)), ((-mx)), e99, (by omega), (by omega), (by omega), (by omega), (Or.inr rfl), (by omega)⟩))
    exact pe_iret hx hb hr hlocks hK hP hD hS d_NRunner_operate_83 ⟨⟨(mo + ((nI 1))), e88⟩, (congrArg nI (otr_z h6x h6y (Or.inr (Or.inl rfl))).symm), ⟨_, e99, fun z9 => oe_neg hvx h6x⟩, hI102, hu⟩
set_option maxHeartbeats 4000000 in
set_option maxRecDepth 100000 in
theorem v_opLneg (l : Launch) (g : Lay) (sz : Nat) (f : Nat → va_E) (X : Nat) (pr : Nat) (ix : Nat) (os : Nat) (st : Nat) (mo : Int32) (lo : Int32) (tr : Nat) (n : Nat) (le : Nat) (mv : Int64) (sx : Nat) (vx : Int) (hL : LO g) (t_X : g.tg X = 9) (t_pr : g.tg pr = 7) (hI : IV g f) (eX : f X = .inr (8, [.ref pr, .ref (g.lk X 1), .int (nI ix), .ref (g.lk X 3), .ref (g.lk X 4), .ref (g.lk X 5), .ref (g.lk X 6), .ref (g.lk X 7), .int (nI os), .int (nI st), .int mo, .int lo, .int (nI tr)])) (hix : ix ≤ 36) (hos : os ≤ st) (hst : st ≤ 3000) (htr : tr ≤ 3) (eN : f (g.lk (g.lk pr 2) n) = .inr (5, [.int (nI 2), .int (nI le), .int (nI le), .ref (g.lk (g.lk (g.lk pr 2) n) 3), .int (nI 0), .long mv, .ref (g.lk (g.lk (g.lk pr 2) n) 6)])) (hVx : VL g f pr sx le vx) (hn : n < 72) (hle : le < n) (hsx : sx = 0 ∨ sx = 1) : Met l ⟨"BigRunner$Runner", "operateLong", "(LBigRunner$Node;)I"⟩ [Cond.code ⟨"BigRunner$Runner", "operateLong", "(LBigRunner$Node;)I"⟩ prog_9_method_16_code 5 (some .int)] ({ frames := 3, cells := 0, slots := 0, locals := 85 }) (va_Pc [.ref X, .ref (g.lk (g.lk pr 2) n)] (pc_in g sz f)) (va_Qi (fun r f1 => (∃ (lo1 : Int32), f1 X = .inr (8, [.ref pr, .ref (g.lk X 1), .int (nI ix), .ref (g.lk X 3), .ref (g.lk X 4), .ref (g.lk X 5), .ref (g.lk X 6), .ref (g.lk X 7), .int (nI os), .int (nI st), .int mo, .int lo1, .int (nI tr)])) ∧ (r = nI (otr 7 vx vx)) ∧ (otr 7 vx vx = 0 → LV g f1 (g.lk (g.lk (g.lk pr 2) n) 6) (ovl 7 vx vx)) ∧ (IV g f1) ∧ (∀ b, b ≠ X → b ≠ (g.lk (g.lk (g.lk pr 2) n) 6) → b ≠ (g.lk (g.lk (g.lk (g.lk pr 2) n) 6) 2) → b ≠ (g.lk (g.lk (g.lk pr 2) le) 6) → b ≠ (g.lk (g.lk (g.lk (g.lk pr 2) le) 6) 2) → f1 b = f b)) (pc_out g sz) (pc_A g sz)) 0 0 (pc_A g sz) := by
  refine pe_ofW (cc := prog_9_method_16_code) (maxL := 5) (ret := (some .int)) (lv := [(0, .ref X), (1, .ref (g.lk (g.lk pr 2) n))]) (by decide) (Nat.le_of_ble_eq_true rfl) rfl ?_
  intro p e s m args below meth c ls hx hb hr hml hlocks hown hB hP hK hD hsz hS hl
  subst hsz
  have hu : ∀ b, b ≠ X → b ≠ (g.lk (g.lk (g.lk pr 2) n) 6) → b ≠ (g.lk (g.lk (g.lk (g.lk pr 2) n) 6) 2) → b ≠ (g.lk (g.lk (g.lk pr 2) le) 6) → b ≠ (g.lk (g.lk (g.lk (g.lk pr 2) le) 6) 2) → f b = f b := fun _ _ _ _ _ _  => rfl
  rcases hsx with rfl | rfl
  · skip
    obtain ⟨kx1, kx2, kx3, mx, eNx, hsx, hlx, htx⟩ := hVx
    obtain ⟨sgx, nx, dx, eax, ebx, hNx⟩ := hlx rfl
    have hFx : LNF sgx nx dx vx := ⟨hNx, htx⟩
    have cbx : ∀ i, i < 15 → ∃ k, k < 1000000000 ∧ dx i = nI k := hNx.2.1
    have hnx : nx ≤ 15 := hNx.1
    refine lv_aload_n hx hb d_NRunner_operateLong_0 rfl (lv_at hl 0 rfl) ?_
    refine lv_dup hx hb d_NRunner_operateLong_1 rfl ?_
    refine pf_get (v := .int lo) (C := "BigRunner$Runner") (T := FT8) (N := 13) hx hb (hw8 hB _) (fun _ h9 => h9) hown hK hP (lo_in hL t_X (by decide)) eX rfl 11 (by decide) (wd_347 hB _) rfl d_NRunner_operateLong_2 ?_
    refine lv_iconst (v := nI 1) hx hb d_NRunner_operateLong_5 (by decide) ?_
    refine lv_iadd hx hb d_NRunner_operateLong_6 ?_
    refine pf_put (v := .int (lo + ((nI 1)))) (ty := .int) (fs' := [.ref pr, .ref (g.lk X 1), .int (nI ix), .ref (g.lk X 3), .ref (g.lk X 4), .ref (g.lk X 5), .ref (g.lk X 6), .ref (g.lk X 7), .int (nI os), .int (nI st), .int mo, .int (lo + ((nI 1))), .int (nI tr)]) (C := "BigRunner$Runner") (T := FT8) (N := 13) hx hb (hw8 hB _) (fun _ h9 => h9) TY8 ok8 nm8 hown hK hP hD hS (lo_in hL t_X (by decide)) eX rfl 11 (by decide) (wd_347 hB _) rfl (by decide +kernel) rfl rfl (Nat.le_of_ble_eq_true rfl) rfl d_NRunner_operateLong_7 (fun f1 H locs e2 k3 hP hD hS => ?_)
    have eN := (k3 (g.lk (g.lk pr 2) n) (tg_ne (lo_e25 hL _ (lo_k7_2 hL _ t_pr) _ (by omega)) t_X (by decide))).trans eN
    have eNx := (k3 (g.lk (g.lk pr 2) le) (tg_ne (lo_e25 hL _ (lo_k7_2 hL _ t_pr) _ (by omega)) t_X (by decide))).trans eNx
    have eax := (k3 (g.lk (g.lk (g.lk pr 2) le) 6) (tg_ne (lo_k6_6 hL _ (lo_e25 hL _ (lo_k7_2 hL _ t_pr) _ (by omega))) t_X (by decide))).trans eax
    have ebx := (k3 (g.lk (g.lk (g.lk (g.lk pr 2) le) 6) 2) (tg_ne (lo_k5_2 hL _ (lo_k6_6 hL _ (lo_e25 hL _ (lo_k7_2 hL _ t_pr) _ (by omega)))) t_X (by decide))).trans ebx
    have hu : ∀ b, b ≠ X → b ≠ (g.lk (g.lk (g.lk pr 2) n) 6) → b ≠ (g.lk (g.lk (g.lk (g.lk pr 2) n) 6) 2) → b ≠ (g.lk (g.lk (g.lk pr 2) le) 6) → b ≠ (g.lk (g.lk (g.lk (g.lk pr 2) le) 6) 2) → f1 b = f b := fun b q0 q1 q2 q3 q4 => (k3 b q0).trans (hu b q0 q1 q2 q3 q4)
    have hk4 : ∀ b, b ≠ X → f1 b = f b := k3
    refine lv_aload_n hx hb d_NRunner_operateLong_10 rfl (lv_at hl 0 rfl) ?_
    refine pf_get (v := .ref pr) (C := "BigRunner$Runner") (T := FT8) (N := 13) hx hb (hw8 hB _) (fun _ h9 => h9) hown hK hP (lo_in hL t_X (by decide)) e2 rfl 0 (by decide) (wd_330 hB _) rfl d_NRunner_operateLong_11 ?_
    obtain ⟨sc_6, nc_7, e5, c8, c9⟩ := oc_7.of t_pr (hI.1 pr)
    replace e5 := (hk4 pr (tg_ne t_pr t_X (by decide))).trans e5
    refine pf_get (v := .ref (g.lk pr 2)) (C := "BigRunner$Program") (T := FT6) (N := 6) hx hb (hw6 hB _) (fun _ h9 => h9) hown hK hP (lo_in hL t_pr (by decide)) e5 rfl 2 (by decide) (wd_249 hB _) rfl d_NRunner_operateLong_14 ?_
    refine lv_aload_n hx hb d_NRunner_operateLong_17 rfl (lv_at hl 1 rfl) ?_
    refine pf_get (v := .int (nI le)) (C := "BigRunner$Node") (T := FT5) (N := 7) hx hb (hw5 hB _) (fun _ h9 => h9) hown hK hP (lo_in hL (lo_e25 hL _ (lo_k7_2 hL _ t_pr) _ (by omega)) (by decide)) eN rfl 1 (by decide) (wd_208 hB _) rfl d_NRunner_operateLong_18 ?_
    have e10 := oc_25.of (lo_k7_2 hL _ t_pr) (hI.1 (g.lk pr 2))
    replace e10 := (hk4 (g.lk pr 2) (tg_ne (lo_k7_2 hL _ t_pr) t_X (by decide))).trans e10
    refine pf_aald (i := le) hx hb hK hP (lo_in hL (lo_k7_2 hL _ t_pr) (by decide)) e10 (lo_t25 hL _ (lo_k7_2 hL _ t_pr)) (by omega) (by decide) d_NRunner_operateLong_21 ?_
    have hI11 := iv_1 hI hL t_X (by decide) hk4 (oc_9.mk t_X (⟨pr, ix, os, st, mo, ((lo + ((nI 1)))), tr, e2, t_pr, (by omega), (by omega), (by omega), (by omega)⟩))
    refine pcc_r (va_runV (C := "BigRunner$Node") (As := []) (rest := []) ⟨hx, hb, hml, hown, tb_nil⟩ (v_widenedL l g H.size f1 ((g.lk (g.lk pr 2) le)) kx1 kx2 kx3 mx hL (lo_e25 hL _ (lo_k7_2 hL _ t_pr) _ (by omega)) hI11.1 eNx) ⟨(callB_of 0 (tb_one (wd_761 hB _)) tb_good1 rfl rfl rfl (wd_77 hB _) (wd_758 hB _) (by decide +kernel) ⟨Nat.le_of_ble_eq_true rfl, Nat.le_of_ble_eq_true rfl⟩), (wd_759 hB _), (wd_760 hB _)⟩ ⟨pe_bl, pg_recv (ci := 5) hK hP (lo_in hL (lo_e25 hL _ (lo_k7_2 hL _ t_pr) _ (by omega)) (by decide)) eNx rfl, pe_pre hB hK hP hD⟩ rfl rfl hl.1 rfl (lv_room (Nat.le_of_ble_eq_true rfl)) d_NRunner_operateLong_22 ⟨Nat.le_of_ble_eq_true rfl, Nat.le_of_ble_eq_true rfl⟩) hS (fun r12 f13 H locs hq14 hP hD hS => ?_)
    obtain ⟨ra_15, rfl⟩ := hq14
    subst ra_15
    refine lv_astore_n (lv' := [(2, .ref (g.lk (g.lk (g.lk pr 2) le) 6)), (0, .ref X), (1, .ref (g.lk (g.lk pr 2) n))]) hx hb d_NRunner_operateLong_25 rfl hl (by decide) rfl (fun ls hl => ?_)
    refine lv_aload_n hx hb d_NRunner_operateLong_26 rfl (lv_at hl 1 rfl) ?_
    refine pf_get (v := .ref pr) (C := "BigRunner$Runner") (T := FT8) (N := 13) hx hb (hw8 hB _) (fun _ h9 => h9) hown hK hP (lo_in hL t_X (by decide)) e2 rfl 0 (by decide) (wd_330 hB _) rfl d_NRunner_operateLong_27 ?_
    refine pf_get (v := .ref (g.lk pr 2)) (C := "BigRunner$Program") (T := FT6) (N := 6) hx hb (hw6 hB _) (fun _ h9 => h9) hown hK hP (lo_in hL t_pr (by decide)) e5 rfl 2 (by decide) (wd_249 hB _) rfl d_NRunner_operateLong_30 ?_
    refine lv_aload_n hx hb d_NRunner_operateLong_33 rfl (lv_at hl 2 rfl) ?_
    refine pf_get (v := .int (nI le)) (C := "BigRunner$Node") (T := FT5) (N := 7) hx hb (hw5 hB _) (fun _ h9 => h9) hown hK hP (lo_in hL (lo_e25 hL _ (lo_k7_2 hL _ t_pr) _ (by omega)) (by decide)) eN rfl 2 (by decide) (wd_212 hB _) rfl d_NRunner_operateLong_34 ?_
    refine pf_aald (i := le) hx hb hK hP (lo_in hL (lo_k7_2 hL _ t_pr) (by decide)) e10 (lo_t25 hL _ (lo_k7_2 hL _ t_pr)) (by omega) (by decide) d_NRunner_operateLong_37 ?_
    refine pcc_r (va_runV (C := "BigRunner$Node") (As := []) (rest := []) ⟨hx, hb, hml, hown, tb_nil⟩ (v_widenedL l g H.size f1 ((g.lk (g.lk pr 2) le)) kx1 kx2 kx3 mx hL (lo_e25 hL _ (lo_k7_2 hL _ t_pr) _ (by omega)) hI11.1 eNx) ⟨(callB_of 0 (tb_one (wd_761 hB _)) tb_good1 rfl rfl rfl (wd_77 hB _) (wd_758 hB _) (by decide +kernel) ⟨Nat.le_of_ble_eq_true rfl, Nat.le_of_ble_eq_true rfl⟩), (wd_759 hB _), (wd_760 hB _)⟩ ⟨pe_bl, pg_recv (ci := 5) hK hP (lo_in hL (lo_e25 hL _ (lo_k7_2 hL _ t_pr) _ (by omega)) (by decide)) eNx rfl, pe_pre hB hK hP hD⟩ rfl rfl hl.1 rfl (lv_room (Nat.le_of_ble_eq_true rfl)) d_NRunner_operateLong_38 ⟨Nat.le_of_ble_eq_true rfl, Nat.le_of_ble_eq_true rfl⟩) hS (fun r16 f17 H locs hq18 hP hD hS => ?_)
    obtain ⟨ra_19, rfl⟩ := hq18
    subst ra_19
    refine lv_astore_n (lv' := [(3, .ref (g.lk (g.lk (g.lk pr 2) le) 6)), (2, .ref (g.lk (g.lk (g.lk pr 2) le) 6)), (0, .ref X), (1, .ref (g.lk (g.lk pr 2) n))]) hx hb d_NRunner_operateLong_41 rfl hl (by decide) rfl (fun ls hl => ?_)
    refine lv_iconst (v := nI 1) hx hb d_NRunner_operateLong_42 (by decide) ?_
    refine lv_istore (lv' := [(4, .int (nI 1)), (3, .ref (g.lk (g.lk (g.lk pr 2) le) 6)), (2, .ref (g.lk (g.lk (g.lk pr 2) le) 6)), (0, .ref X), (1, .ref (g.lk (g.lk pr 2) n))]) hx hb d_NRunner_operateLong_43 hl (by decide) rfl (fun ls hl => ?_)
    refine lv_aload_n hx hb d_NRunner_operateLong_45 rfl (lv_at hl 4 rfl) ?_
    refine pf_get (v := .int (nI 2)) (C := "BigRunner$Node") (T := FT5) (N := 7) hx hb (hw5 hB _) (fun _ h9 => h9) hown hK hP (lo_in hL (lo_e25 hL _ (lo_k7_2 hL _ t_pr) _ (by omega)) (by decide)) eN rfl 0 (by decide) (wd_204 hB _) rfl d_NRunner_operateLong_46 ?_
    refine lv_tableIn (off := 31) (tgt := 80) hx hb d_NRunner_operateLong_49 (by rw [nI_toInt (by omega)]; omega) (by rw [nI_toInt (by omega)]; omega) (by rw [nI_toInt (by omega)]; rfl) (by decide) ?_
    refine lv_aload_n hx hb d_NRunner_operateLong_80 rfl (lv_at hl 4 rfl) ?_
    refine pf_get (v := .ref (g.lk (g.lk (g.lk pr 2) n) 6)) (C := "BigRunner$Node") (T := FT5) (N := 7) hx hb (hw5 hB _) (fun _ h9 => h9) hown hK hP (lo_in hL (lo_e25 hL _ (lo_k7_2 hL _ t_pr) _ (by omega)) (by decide)) eN rfl 6 (by decide) (wd_224 hB _) rfl d_NRunner_operateLong_81 ?_
    refine lv_aload_n hx hb d_NRunner_operateLong_84 rfl (lv_at hl 2 rfl) ?_
    refine lv_aload_n hx hb d_NRunner_operateLong_85 rfl (lv_at hl 2 rfl) ?_
    refine pf_get (v := .int sgx) (C := "BigRunner$LongNumber") (T := FT4) (N := 3) hx hb (hw4 hB _) (fun _ h9 => h9) hown hK hP (lo_in hL (lo_k6_6 hL _ (lo_e25 hL _ (lo_k7_2 hL _ t_pr) _ (by omega))) (by decide)) eax rfl 0 (by decide) (wd_189 hB _) rfl d_NRunner_operateLong_86 ?_
    refine lv_ineg hx hb d_NRunner_operateLong_89 ?_
    obtain ⟨sg_21, n_22, e20, c23⟩ := oc_5.of (lo_k6_6 hL _ (lo_e25 hL _ (lo_k7_2 hL _ t_pr) _ (by omega))) (hI11.1 (g.lk (g.lk (g.lk pr 2) n) 6))
    refine pcc_v (va_runV (C := "BigRunner$LongNumber") (As := [.ref (g.lk (g.lk (g.lk pr 2) le) 6), .int (-sgx)]) (rest := []) ⟨hx, hb, hml, hown, tb_nil⟩ (v_copy l g H.size f1 ((g.lk (g.lk (g.lk pr 2) n) 6)) ((g.lk (g.lk (g.lk pr 2) le) 6)) sgx nx dx vx ((-sgx)) hL (lo_k6_6 hL _ (lo_e25 hL _ (lo_k7_2 hL _ t_pr) _ (by omega))) (lo_k6_6 hL _ (lo_e25 hL _ (lo_k7_2 hL _ t_pr) _ (by omega))) hI11 eax ebx hFx.1 (tn_ne ((lo_n6 hL _ (lo_e25 hL _ (lo_k7_2 hL _ t_pr) _ (by omega))).trans (lo_n25 hL _ (lo_k7_2 hL _ t_pr) _ (by omega))) ((lo_n6 hL _ (lo_e25 hL _ (lo_k7_2 hL _ t_pr) _ (by omega))).trans (lo_n25 hL _ (lo_k7_2 hL _ t_pr) _ (by omega))) (by omega)) ((LS_neg hFx.1.2.2.1).1)) ⟨(callB_of 2 (tb_one (wd_746 hB _)) tb_good1 rfl rfl rfl (wd_78 hB _) (wd_743 hB _) (by decide +kernel) ⟨Nat.le_of_ble_eq_true rfl, Nat.le_of_ble_eq_true rfl⟩), (wd_744 hB _), (wd_745 hB _)⟩ ⟨pe_bl, pg_recv (ci := 4) hK hP (lo_in hL (lo_k6_6 hL _ (lo_e25 hL _ (lo_k7_2 hL _ t_pr) _ (by omega))) (by decide)) e20 rfl, pe_pre hB hK hP hD⟩ rfl rfl hl.1 rfl (lv_room (Nat.le_of_ble_eq_true rfl)) d_NRunner_operateLong_90 ⟨Nat.le_of_ble_eq_true rfl, Nat.le_of_ble_eq_true rfl⟩) hS (fun f25 H locs hq26 hP hD hS => ?_)
    obtain ⟨lv_27, hI1_28, hk1_29⟩ := hq26
    have hu : ∀ b, b ≠ X → b ≠ (g.lk (g.lk (g.lk pr 2) n) 6) → b ≠ (g.lk (g.lk (g.lk (g.lk pr 2) n) 6) 2) → b ≠ (g.lk (g.lk (g.lk pr 2) le) 6) → b ≠ (g.lk (g.lk (g.lk (g.lk pr 2) le) 6) 2) → f25 b = f b := fun b q0 q1 q2 q3 q4 => (hk1_29 b q1 q2).trans (hu b q0 q1 q2 q3 q4)
    have eN := (hk1_29 (g.lk (g.lk pr 2) n) (tg_ne (lo_e25 hL _ (lo_k7_2 hL _ t_pr) _ (by omega)) (lo_k6_6 hL _ (lo_e25 hL _ (lo_k7_2 hL _ t_pr) _ (by omega))) (by decide)) (tg_ne (lo_e25 hL _ (lo_k7_2 hL _ t_pr) _ (by omega)) (lo_k5_2 hL _ (lo_k6_6 hL _ (lo_e25 hL _ (lo_k7_2 hL _ t_pr) _ (by omega)))) (by decide))).trans eN
    have eNx := (hk1_29 (g.lk (g.lk pr 2) le) (tg_ne (lo_e25 hL _ (lo_k7_2 hL _ t_pr) _ (by omega)) (lo_k6_6 hL _ (lo_e25 hL _ (lo_k7_2 hL _ t_pr) _ (by omega))) (by decide)) (tg_ne (lo_e25 hL _ (lo_k7_2 hL _ t_pr) _ (by omega)) (lo_k5_2 hL _ (lo_k6_6 hL _ (lo_e25 hL _ (lo_k7_2 hL _ t_pr) _ (by omega)))) (by decide))).trans eNx
    have eax := (hk1_29 (g.lk (g.lk (g.lk pr 2) le) 6) (tn_ne ((lo_n6 hL _ (lo_e25 hL _ (lo_k7_2 hL _ t_pr) _ (by omega))).trans (lo_n25 hL _ (lo_k7_2 hL _ t_pr) _ (by omega))) ((lo_n6 hL _ (lo_e25 hL _ (lo_k7_2 hL _ t_pr) _ (by omega))).trans (lo_n25 hL _ (lo_k7_2 hL _ t_pr) _ (by omega))) (by omega)) (tg_ne (lo_k6_6 hL _ (lo_e25 hL _ (lo_k7_2 hL _ t_pr) _ (by omega))) (lo_k5_2 hL _ (lo_k6_6 hL _ (lo_e25 hL _ (lo_k7_2 hL _ t_pr) _ (by omega)))) (by decide))).trans eax
    have ebx := (hk1_29 (g.lk (g.lk (g.lk (g.lk pr 2) le) 6) 2) (tg_ne (lo_k5_2 hL _ (lo_k6_6 hL _ (lo_e25 hL _ (lo_k7_2 hL _ t_pr) _ (by omega)))) (lo_k6_6 hL _ (lo_e25 hL _ (lo_k7_2 hL _ t_pr) _ (by omega))) (by decide)) (fun q9 => (tn_ne ((lo_n6 hL _ (lo_e25 hL _ (lo_k7_2 hL _ t_pr) _ (by omega))).trans (lo_n25 hL _ (lo_k7_2 hL _ t_pr) _ (by omega))) ((lo_n6 hL _ (lo_e25 hL _ (lo_k7_2 hL _ t_pr) _ (by omega))).trans (lo_n25 hL _ (lo_k7_2 hL _ t_pr) _ (by omega))) (by omega)) (lo_inj5 hL _ _ (lo_k6_6 hL _ (lo_e25 hL _ (lo_k7_2 hL _ t_pr) _ (by omega))) (lo_k6_6 hL _ (lo_e25 hL _ (lo_k7_2 hL _ t_pr) _ (by omega))) q9))).trans ebx
    have e2 := (hk1_29 X (tg_ne t_X (lo_k6_6 hL _ (lo_e25 hL _ (lo_k7_2 hL _ t_pr) _ (by omega))) (by decide)) (tg_ne t_X (lo_k5_2 hL _ (lo_k6_6 hL _ (lo_e25 hL _ (lo_k7_2 hL _ t_pr) _ (by omega)))) (by decide))).trans e2
    have e5 := (hk1_29 pr (tg_ne t_pr (lo_k6_6 hL _ (lo_e25 hL _ (lo_k7_2 hL _ t_pr) _ (by omega))) (by decide)) (tg_ne t_pr (lo_k5_2 hL _ (lo_k6_6 hL _ (lo_e25 hL _ (lo_k7_2 hL _ t_pr) _ (by omega)))) (by decide))).trans e5
    have e10 := (hk1_29 (g.lk pr 2) (tg_ne (lo_k7_2 hL _ t_pr) (lo_k6_6 hL _ (lo_e25 hL _ (lo_k7_2 hL _ t_pr) _ (by omega))) (by decide)) (tg_ne (lo_k7_2 hL _ t_pr) (lo_k5_2 hL _ (lo_k6_6 hL _ (lo_e25 hL _ (lo_k7_2 hL _ t_pr) _ (by omega)))) (by decide))).trans e10
    obtain ⟨sg30, nn31, dd32, e33, e34, hN35⟩ := lv_27
    have c36 : ∀ i, i < 15 → ∃ k, k < 1000000000 ∧ dd32 i = nI k := hN35.2.1
    have hnn31 : nn31 ≤ 15 := hN35.1
    refine lv_goto (tgt := 183) hx hb d_NRunner_operateLong_93 (by decide) ?_
    refine lv_iload hx hb d_NRunner_operateLong_183 (lv_at hl 0 rfl) ?_
    refine lv_if_eq (tgt := 192) hx hb d_NRunner_operateLong_185 (by decide) (fun b37 => ?_) (fun b37 => ?_)
    · skip
      replace b37 := (nI_eq (a := 1) (b := 0) (by omega) (by omega)).mp b37
      exfalso; omega
    · skip
      replace b37 := mt (nI_eq (a := 1) (b := 0) (by omega) (by omega)).mpr b37
      refine lv_iconst (v := nI 0) hx hb d_NRunner_operateLong_188 (by decide) ?_
      refine lv_goto (tgt := 193) hx hb d_NRunner_operateLong_189 (by decide) ?_
      exact pe_iret hx hb hr hlocks hK hP hD hS d_NRunner_operateLong_193 ⟨⟨(lo + ((nI 1))), e2⟩, rfl, (fun _ => ⟨_, _, _, e33, e34, LNV_cast hN35 (by rw [(LS_neg hFx.1.2.2.1).2, Int.neg_mul, ← hFx.1.2.2.2.2]; rfl)⟩), hI1_28, hu⟩
  · skip
    obtain ⟨kx1, kx2, kx3, mx, eNx, hsx, hlx, htx⟩ := hVx
    refine lv_aload_n hx hb d_NRunner_operateLong_0 rfl (lv_at hl 0 rfl) ?_
    refine lv_dup hx hb d_NRunner_operateLong_1 rfl ?_
    refine pf_get (v := .int lo) (C := "BigRunner$Runner") (T := FT8) (N := 13) hx hb (hw8 hB _) (fun _ h9 => h9) hown hK hP (lo_in hL t_X (by decide)) eX rfl 11 (by decide) (wd_347 hB _) rfl d_NRunner_operateLong_2 ?_
    refine lv_iconst (v := nI 1) hx hb d_NRunner_operateLong_5 (by decide) ?_
    refine lv_iadd hx hb d_NRunner_operateLong_6 ?_
    refine pf_put (v := .int (lo + ((nI 1)))) (ty := .int) (fs' := [.ref pr, .ref (g.lk X 1), .int (nI ix), .ref (g.lk X 3), .ref (g.lk X 4), .ref (g.lk X 5), .ref (g.lk X 6), .ref (g.lk X 7), .int (nI os), .int (nI st), .int mo, .int (lo + ((nI 1))), .int (nI tr)]) (C := "BigRunner$Runner") (T := FT8) (N := 13) hx hb (hw8 hB _) (fun _ h9 => h9) TY8 ok8 nm8 hown hK hP hD hS (lo_in hL t_X (by decide)) eX rfl 11 (by decide) (wd_347 hB _) rfl (by decide +kernel) rfl rfl (Nat.le_of_ble_eq_true rfl) rfl d_NRunner_operateLong_7 (fun f38 H locs e39 k40 hP hD hS => ?_)
    have eN := (k40 (g.lk (g.lk pr 2) n) (tg_ne (lo_e25 hL _ (lo_k7_2 hL _ t_pr) _ (by omega)) t_X (by decide))).trans eN
    have eNx := (k40 (g.lk (g.lk pr 2) le) (tg_ne (lo_e25 hL _ (lo_k7_2 hL _ t_pr) _ (by omega)) t_X (by decide))).trans eNx
    have hu : ∀ b, b ≠ X → b ≠ (g.lk (g.lk (g.lk pr 2) n) 6) → b ≠ (g.lk (g.lk (g.lk (g.lk pr 2) n) 6) 2) → b ≠ (g.lk (g.lk (g.lk pr 2) le) 6) → b ≠ (g.lk (g.lk (g.lk (g.lk pr 2) le) 6) 2) → f38 b = f b := fun b q0 q1 q2 q3 q4 => (k40 b q0).trans (hu b q0 q1 q2 q3 q4)
    have hk41 : ∀ b, b ≠ X → f38 b = f b := k40
    refine lv_aload_n hx hb d_NRunner_operateLong_10 rfl (lv_at hl 0 rfl) ?_
    refine pf_get (v := .ref pr) (C := "BigRunner$Runner") (T := FT8) (N := 13) hx hb (hw8 hB _) (fun _ h9 => h9) hown hK hP (lo_in hL t_X (by decide)) e39 rfl 0 (by decide) (wd_330 hB _) rfl d_NRunner_operateLong_11 ?_
    obtain ⟨sc_43, nc_44, e42, c45, c46⟩ := oc_7.of t_pr (hI.1 pr)
    replace e42 := (hk41 pr (tg_ne t_pr t_X (by decide))).trans e42
    refine pf_get (v := .ref (g.lk pr 2)) (C := "BigRunner$Program") (T := FT6) (N := 6) hx hb (hw6 hB _) (fun _ h9 => h9) hown hK hP (lo_in hL t_pr (by decide)) e42 rfl 2 (by decide) (wd_249 hB _) rfl d_NRunner_operateLong_14 ?_
    refine lv_aload_n hx hb d_NRunner_operateLong_17 rfl (lv_at hl 1 rfl) ?_
    refine pf_get (v := .int (nI le)) (C := "BigRunner$Node") (T := FT5) (N := 7) hx hb (hw5 hB _) (fun _ h9 => h9) hown hK hP (lo_in hL (lo_e25 hL _ (lo_k7_2 hL _ t_pr) _ (by omega)) (by decide)) eN rfl 1 (by decide) (wd_208 hB _) rfl d_NRunner_operateLong_18 ?_
    have e47 := oc_25.of (lo_k7_2 hL _ t_pr) (hI.1 (g.lk pr 2))
    replace e47 := (hk41 (g.lk pr 2) (tg_ne (lo_k7_2 hL _ t_pr) t_X (by decide))).trans e47
    refine pf_aald (i := le) hx hb hK hP (lo_in hL (lo_k7_2 hL _ t_pr) (by decide)) e47 (lo_t25 hL _ (lo_k7_2 hL _ t_pr)) (by omega) (by decide) d_NRunner_operateLong_21 ?_
    have hI48 := iv_1 hI hL t_X (by decide) hk41 (oc_9.mk t_X (⟨pr, ix, os, st, mo, ((lo + ((nI 1)))), tr, e39, t_pr, (by omega), (by omega), (by omega), (by omega)⟩))
    refine pcc_r (va_runV (C := "BigRunner$Node") (As := []) (rest := []) ⟨hx, hb, hml, hown, tb_nil⟩ (v_widenedS l g H.size f38 ((g.lk (g.lk pr 2) le)) kx1 kx2 kx3 mx hL (lo_e25 hL _ (lo_k7_2 hL _ t_pr) _ (by omega)) hI48 eNx (by rw [(hsx rfl).1]; exact (hsx rfl).2)) ⟨(callB_of 0 (tb_one (wd_761 hB _)) tb_good1 rfl rfl rfl (wd_77 hB _) (wd_758 hB _) (by decide +kernel) ⟨Nat.le_of_ble_eq_true rfl, Nat.le_of_ble_eq_true rfl⟩), (wd_759 hB _), (wd_760 hB _)⟩ ⟨pe_bl, pg_recv (ci := 5) hK hP (lo_in hL (lo_e25 hL _ (lo_k7_2 hL _ t_pr) _ (by omega)) (by decide)) eNx rfl, pe_pre hB hK hP hD⟩ rfl rfl hl.1 rfl (lv_room (Nat.le_of_ble_eq_true rfl)) d_NRunner_operateLong_22 ⟨Nat.le_of_ble_eq_true rfl, Nat.le_of_ble_eq_true rfl⟩) hS (fun r49 f50 H locs hq51 hP hD hS => ?_)
    obtain ⟨ra_52, lv_53, hI1_54, hk1_55⟩ := hq51
    subst ra_52
    have hu : ∀ b, b ≠ X → b ≠ (g.lk (g.lk (g.lk pr 2) n) 6) → b ≠ (g.lk (g.lk (g.lk (g.lk pr 2) n) 6) 2) → b ≠ (g.lk (g.lk (g.lk pr 2) le) 6) → b ≠ (g.lk (g.lk (g.lk (g.lk pr 2) le) 6) 2) → f50 b = f b := fun b q0 q1 q2 q3 q4 => (hk1_55 b q3 q4).trans (hu b q0 q1 q2 q3 q4)
    have eN := (hk1_55 (g.lk (g.lk pr 2) n) (tg_ne (lo_e25 hL _ (lo_k7_2 hL _ t_pr) _ (by omega)) (lo_k6_6 hL _ (lo_e25 hL _ (lo_k7_2 hL _ t_pr) _ (by omega))) (by decide)) (tg_ne (lo_e25 hL _ (lo_k7_2 hL _ t_pr) _ (by omega)) (lo_k5_2 hL _ (lo_k6_6 hL _ (lo_e25 hL _ (lo_k7_2 hL _ t_pr) _ (by omega)))) (by decide))).trans eN
    have eNx := (hk1_55 (g.lk (g.lk pr 2) le) (tg_ne (lo_e25 hL _ (lo_k7_2 hL _ t_pr) _ (by omega)) (lo_k6_6 hL _ (lo_e25 hL _ (lo_k7_2 hL _ t_pr) _ (by omega))) (by decide)) (tg_ne (lo_e25 hL _ (lo_k7_2 hL _ t_pr) _ (by omega)) (lo_k5_2 hL _ (lo_k6_6 hL _ (lo_e25 hL _ (lo_k7_2 hL _ t_pr) _ (by omega)))) (by decide))).trans eNx
    have e39 := (hk1_55 X (tg_ne t_X (lo_k6_6 hL _ (lo_e25 hL _ (lo_k7_2 hL _ t_pr) _ (by omega))) (by decide)) (tg_ne t_X (lo_k5_2 hL _ (lo_k6_6 hL _ (lo_e25 hL _ (lo_k7_2 hL _ t_pr) _ (by omega)))) (by decide))).trans e39
    have e42 := (hk1_55 pr (tg_ne t_pr (lo_k6_6 hL _ (lo_e25 hL _ (lo_k7_2 hL _ t_pr) _ (by omega))) (by decide)) (tg_ne t_pr (lo_k5_2 hL _ (lo_k6_6 hL _ (lo_e25 hL _ (lo_k7_2 hL _ t_pr) _ (by omega)))) (by decide))).trans e42
    have e47 := (hk1_55 (g.lk pr 2) (tg_ne (lo_k7_2 hL _ t_pr) (lo_k6_6 hL _ (lo_e25 hL _ (lo_k7_2 hL _ t_pr) _ (by omega))) (by decide)) (tg_ne (lo_k7_2 hL _ t_pr) (lo_k5_2 hL _ (lo_k6_6 hL _ (lo_e25 hL _ (lo_k7_2 hL _ t_pr) _ (by omega)))) (by decide))).trans e47
    obtain ⟨sg56, nn57, dd58, e59, e60, hN61⟩ := lv_53
    have c62 : ∀ i, i < 15 → ∃ k, k < 1000000000 ∧ dd58 i = nI k := hN61.2.1
    have hnn57 : nn57 ≤ 15 := hN61.1
    refine lv_astore_n (lv' := [(2, .ref (g.lk (g.lk (g.lk pr 2) le) 6)), (0, .ref X), (1, .ref (g.lk (g.lk pr 2) n))]) hx hb d_NRunner_operateLong_25 rfl hl (by decide) rfl (fun ls hl => ?_)
    have hFx : LNF sg56 nn57 dd58 vx := ⟨LNV_cast hN61 (hsx rfl).1, htx⟩
    refine lv_aload_n hx hb d_NRunner_operateLong_26 rfl (lv_at hl 1 rfl) ?_
    refine pf_get (v := .ref pr) (C := "BigRunner$Runner") (T := FT8) (N := 13) hx hb (hw8 hB _) (fun _ h9 => h9) hown hK hP (lo_in hL t_X (by decide)) e39 rfl 0 (by decide) (wd_330 hB _) rfl d_NRunner_operateLong_27 ?_
    refine pf_get (v := .ref (g.lk pr 2)) (C := "BigRunner$Program") (T := FT6) (N := 6) hx hb (hw6 hB _) (fun _ h9 => h9) hown hK hP (lo_in hL t_pr (by decide)) e42 rfl 2 (by decide) (wd_249 hB _) rfl d_NRunner_operateLong_30 ?_
    refine lv_aload_n hx hb d_NRunner_operateLong_33 rfl (lv_at hl 2 rfl) ?_
    refine pf_get (v := .int (nI le)) (C := "BigRunner$Node") (T := FT5) (N := 7) hx hb (hw5 hB _) (fun _ h9 => h9) hown hK hP (lo_in hL (lo_e25 hL _ (lo_k7_2 hL _ t_pr) _ (by omega)) (by decide)) eN rfl 2 (by decide) (wd_212 hB _) rfl d_NRunner_operateLong_34 ?_
    refine pf_aald (i := le) hx hb hK hP (lo_in hL (lo_k7_2 hL _ t_pr) (by decide)) e47 (lo_t25 hL _ (lo_k7_2 hL _ t_pr)) (by omega) (by decide) d_NRunner_operateLong_37 ?_
    refine pcc_r (va_runV (C := "BigRunner$Node") (As := []) (rest := []) ⟨hx, hb, hml, hown, tb_nil⟩ (v_widenedS l g H.size f50 ((g.lk (g.lk pr 2) le)) kx1 kx2 kx3 mx hL (lo_e25 hL _ (lo_k7_2 hL _ t_pr) _ (by omega)) hI1_54 eNx (by rw [(hsx rfl).1]; exact (hsx rfl).2)) ⟨(callB_of 0 (tb_one (wd_761 hB _)) tb_good1 rfl rfl rfl (wd_77 hB _) (wd_758 hB _) (by decide +kernel) ⟨Nat.le_of_ble_eq_true rfl, Nat.le_of_ble_eq_true rfl⟩), (wd_759 hB _), (wd_760 hB _)⟩ ⟨pe_bl, pg_recv (ci := 5) hK hP (lo_in hL (lo_e25 hL _ (lo_k7_2 hL _ t_pr) _ (by omega)) (by decide)) eNx rfl, pe_pre hB hK hP hD⟩ rfl rfl hl.1 rfl (lv_room (Nat.le_of_ble_eq_true rfl)) d_NRunner_operateLong_38 ⟨Nat.le_of_ble_eq_true rfl, Nat.le_of_ble_eq_true rfl⟩) hS (fun r63 f64 H locs hq65 hP hD hS => ?_)
    obtain ⟨ra_66, lv_67, hI1_68, hk1_69⟩ := hq65
    subst ra_66
    have hu : ∀ b, b ≠ X → b ≠ (g.lk (g.lk (g.lk pr 2) n) 6) → b ≠ (g.lk (g.lk (g.lk (g.lk pr 2) n) 6) 2) → b ≠ (g.lk (g.lk (g.lk pr 2) le) 6) → b ≠ (g.lk (g.lk (g.lk (g.lk pr 2) le) 6) 2) → f64 b = f b := fun b q0 q1 q2 q3 q4 => (hk1_69 b q3 q4).trans (hu b q0 q1 q2 q3 q4)
    have eN := (hk1_69 (g.lk (g.lk pr 2) n) (tg_ne (lo_e25 hL _ (lo_k7_2 hL _ t_pr) _ (by omega)) (lo_k6_6 hL _ (lo_e25 hL _ (lo_k7_2 hL _ t_pr) _ (by omega))) (by decide)) (tg_ne (lo_e25 hL _ (lo_k7_2 hL _ t_pr) _ (by omega)) (lo_k5_2 hL _ (lo_k6_6 hL _ (lo_e25 hL _ (lo_k7_2 hL _ t_pr) _ (by omega)))) (by decide))).trans eN
    have eNx := (hk1_69 (g.lk (g.lk pr 2) le) (tg_ne (lo_e25 hL _ (lo_k7_2 hL _ t_pr) _ (by omega)) (lo_k6_6 hL _ (lo_e25 hL _ (lo_k7_2 hL _ t_pr) _ (by omega))) (by decide)) (tg_ne (lo_e25 hL _ (lo_k7_2 hL _ t_pr) _ (by omega)) (lo_k5_2 hL _ (lo_k6_6 hL _ (lo_e25 hL _ (lo_k7_2 hL _ t_pr) _ (by omega)))) (by decide))).trans eNx
    have e39 := (hk1_69 X (tg_ne t_X (lo_k6_6 hL _ (lo_e25 hL _ (lo_k7_2 hL _ t_pr) _ (by omega))) (by decide)) (tg_ne t_X (lo_k5_2 hL _ (lo_k6_6 hL _ (lo_e25 hL _ (lo_k7_2 hL _ t_pr) _ (by omega)))) (by decide))).trans e39
    have e42 := (hk1_69 pr (tg_ne t_pr (lo_k6_6 hL _ (lo_e25 hL _ (lo_k7_2 hL _ t_pr) _ (by omega))) (by decide)) (tg_ne t_pr (lo_k5_2 hL _ (lo_k6_6 hL _ (lo_e25 hL _ (lo_k7_2 hL _ t_pr) _ (by omega)))) (by decide))).trans e42
    have e47 := (hk1_69 (g.lk pr 2) (tg_ne (lo_k7_2 hL _ t_pr) (lo_k6_6 hL _ (lo_e25 hL _ (lo_k7_2 hL _ t_pr) _ (by omega))) (by decide)) (tg_ne (lo_k7_2 hL _ t_pr) (lo_k5_2 hL _ (lo_k6_6 hL _ (lo_e25 hL _ (lo_k7_2 hL _ t_pr) _ (by omega)))) (by decide))).trans e47
    obtain ⟨sg70, nn71, dd72, e73, e74, hN75⟩ := lv_67
    have c76 : ∀ i, i < 15 → ∃ k, k < 1000000000 ∧ dd72 i = nI k := hN75.2.1
    have hnn71 : nn71 ≤ 15 := hN75.1
    refine lv_astore_n (lv' := [(3, .ref (g.lk (g.lk (g.lk pr 2) le) 6)), (2, .ref (g.lk (g.lk (g.lk pr 2) le) 6)), (0, .ref X), (1, .ref (g.lk (g.lk pr 2) n))]) hx hb d_NRunner_operateLong_41 rfl hl (by decide) rfl (fun ls hl => ?_)
    have hFx : LNF sg70 nn71 dd72 vx := ⟨LNV_cast hN75 (hsx rfl).1, htx⟩
    refine lv_iconst (v := nI 1) hx hb d_NRunner_operateLong_42 (by decide) ?_
    refine lv_istore (lv' := [(4, .int (nI 1)), (3, .ref (g.lk (g.lk (g.lk pr 2) le) 6)), (2, .ref (g.lk (g.lk (g.lk pr 2) le) 6)), (0, .ref X), (1, .ref (g.lk (g.lk pr 2) n))]) hx hb d_NRunner_operateLong_43 hl (by decide) rfl (fun ls hl => ?_)
    refine lv_aload_n hx hb d_NRunner_operateLong_45 rfl (lv_at hl 4 rfl) ?_
    refine pf_get (v := .int (nI 2)) (C := "BigRunner$Node") (T := FT5) (N := 7) hx hb (hw5 hB _) (fun _ h9 => h9) hown hK hP (lo_in hL (lo_e25 hL _ (lo_k7_2 hL _ t_pr) _ (by omega)) (by decide)) eN rfl 0 (by decide) (wd_204 hB _) rfl d_NRunner_operateLong_46 ?_
    refine lv_tableIn (off := 31) (tgt := 80) hx hb d_NRunner_operateLong_49 (by rw [nI_toInt (by omega)]; omega) (by rw [nI_toInt (by omega)]; omega) (by rw [nI_toInt (by omega)]; rfl) (by decide) ?_
    refine lv_aload_n hx hb d_NRunner_operateLong_80 rfl (lv_at hl 4 rfl) ?_
    refine pf_get (v := .ref (g.lk (g.lk (g.lk pr 2) n) 6)) (C := "BigRunner$Node") (T := FT5) (N := 7) hx hb (hw5 hB _) (fun _ h9 => h9) hown hK hP (lo_in hL (lo_e25 hL _ (lo_k7_2 hL _ t_pr) _ (by omega)) (by decide)) eN rfl 6 (by decide) (wd_224 hB _) rfl d_NRunner_operateLong_81 ?_
    refine lv_aload_n hx hb d_NRunner_operateLong_84 rfl (lv_at hl 2 rfl) ?_
    refine lv_aload_n hx hb d_NRunner_operateLong_85 rfl (lv_at hl 2 rfl) ?_
    refine pf_get (v := .int sg70) (C := "BigRunner$LongNumber") (T := FT4) (N := 3) hx hb (hw4 hB _) (fun _ h9 => h9) hown hK hP (lo_in hL (lo_k6_6 hL _ (lo_e25 hL _ (lo_k7_2 hL _ t_pr) _ (by omega))) (by decide)) e73 rfl 0 (by decide) (wd_189 hB _) rfl d_NRunner_operateLong_86 ?_
    refine lv_ineg hx hb d_NRunner_operateLong_89 ?_
    obtain ⟨sg_78, n_79, e77, c80⟩ := oc_5.of (lo_k6_6 hL _ (lo_e25 hL _ (lo_k7_2 hL _ t_pr) _ (by omega))) (hI1_68.1 (g.lk (g.lk (g.lk pr 2) n) 6))
    refine pcc_v (va_runV (C := "BigRunner$LongNumber") (As := [.ref (g.lk (g.lk (g.lk pr 2) le) 6), .int (-sg70)]) (rest := []) ⟨hx, hb, hml, hown, tb_nil⟩ (v_copy l g H.size f64 ((g.lk (g.lk (g.lk pr 2) n) 6)) ((g.lk (g.lk (g.lk pr 2) le) 6)) sg70 nn71 dd72 vx ((-sg70)) hL (lo_k6_6 hL _ (lo_e25 hL _ (lo_k7_2 hL _ t_pr) _ (by omega))) (lo_k6_6 hL _ (lo_e25 hL _ (lo_k7_2 hL _ t_pr) _ (by omega))) hI1_68 e73 e74 hFx.1 (tn_ne ((lo_n6 hL _ (lo_e25 hL _ (lo_k7_2 hL _ t_pr) _ (by omega))).trans (lo_n25 hL _ (lo_k7_2 hL _ t_pr) _ (by omega))) ((lo_n6 hL _ (lo_e25 hL _ (lo_k7_2 hL _ t_pr) _ (by omega))).trans (lo_n25 hL _ (lo_k7_2 hL _ t_pr) _ (by omega))) (by omega)) ((LS_neg hFx.1.2.2.1).1)) ⟨(callB_of 2 (tb_one (wd_746 hB _)) tb_good1 rfl rfl rfl (wd_78 hB _) (wd_743 hB _) (by decide +kernel) ⟨Nat.le_of_ble_eq_true rfl, Nat.le_of_ble_eq_true rfl⟩), (wd_744 hB _), (wd_745 hB _)⟩ ⟨pe_bl, pg_recv (ci := 4) hK hP (lo_in hL (lo_k6_6 hL _ (lo_e25 hL _ (lo_k7_2 hL _ t_pr) _ (by omega))) (by decide)) e77 rfl, pe_pre hB hK hP hD⟩ rfl rfl hl.1 rfl (lv_room (Nat.le_of_ble_eq_true rfl)) d_NRunner_operateLong_90 ⟨Nat.le_of_ble_eq_true rfl, Nat.le_of_ble_eq_true rfl⟩) hS (fun f82 H locs hq83 hP hD hS => ?_)
    obtain ⟨lv_84, hI1_85, hk1_86⟩ := hq83
    have hu : ∀ b, b ≠ X → b ≠ (g.lk (g.lk (g.lk pr 2) n) 6) → b ≠ (g.lk (g.lk (g.lk (g.lk pr 2) n) 6) 2) → b ≠ (g.lk (g.lk (g.lk pr 2) le) 6) → b ≠ (g.lk (g.lk (g.lk (g.lk pr 2) le) 6) 2) → f82 b = f b := fun b q0 q1 q2 q3 q4 => (hk1_86 b q1 q2).trans (hu b q0 q1 q2 q3 q4)
    have eN := (hk1_86 (g.lk (g.lk pr 2) n) (tg_ne (lo_e25 hL _ (lo_k7_2 hL _ t_pr) _ (by omega)) (lo_k6_6 hL _ (lo_e25 hL _ (lo_k7_2 hL _ t_pr) _ (by omega))) (by decide)) (tg_ne (lo_e25 hL _ (lo_k7_2 hL _ t_pr) _ (by omega)) (lo_k5_2 hL _ (lo_k6_6 hL _ (lo_e25 hL _ (lo_k7_2 hL _ t_pr) _ (by omega)))) (by decide))).trans eN
    have eNx := (hk1_86 (g.lk (g.lk pr 2) le) (tg_ne (lo_e25 hL _ (lo_k7_2 hL _ t_pr) _ (by omega)) (lo_k6_6 hL _ (lo_e25 hL _ (lo_k7_2 hL _ t_pr) _ (by omega))) (by decide)) (tg_ne (lo_e25 hL _ (lo_k7_2 hL _ t_pr) _ (by omega)) (lo_k5_2 hL _ (lo_k6_6 hL _ (lo_e25 hL _ (lo_k7_2 hL _ t_pr) _ (by omega)))) (by decide))).trans eNx
    have e39 := (hk1_86 X (tg_ne t_X (lo_k6_6 hL _ (lo_e25 hL _ (lo_k7_2 hL _ t_pr) _ (by omega))) (by decide)) (tg_ne t_X (lo_k5_2 hL _ (lo_k6_6 hL _ (lo_e25 hL _ (lo_k7_2 hL _ t_pr) _ (by omega)))) (by decide))).trans e39
    have e42 := (hk1_86 pr (tg_ne t_pr (lo_k6_6 hL _ (lo_e25 hL _ (lo_k7_2 hL _ t_pr) _ (by omega))) (by decide)) (tg_ne t_pr (lo_k5_2 hL _ (lo_k6_6 hL _ (lo_e25 hL _ (lo_k7_2 hL _ t_pr) _ (by omega)))) (by decide))).trans e42
    have e47 := (hk1_86 (g.lk pr 2) (tg_ne (lo_k7_2 hL _ t_pr) (lo_k6_6 hL _ (lo_e25 hL _ (lo_k7_2 hL _ t_pr) _ (by omega))) (by decide)) (tg_ne (lo_k7_2 hL _ t_pr) (lo_k5_2 hL _ (lo_k6_6 hL _ (lo_e25 hL _ (lo_k7_2 hL _ t_pr) _ (by omega)))) (by decide))).trans e47
    have e73 := (hk1_86 (g.lk (g.lk (g.lk pr 2) le) 6) (tn_ne ((lo_n6 hL _ (lo_e25 hL _ (lo_k7_2 hL _ t_pr) _ (by omega))).trans (lo_n25 hL _ (lo_k7_2 hL _ t_pr) _ (by omega))) ((lo_n6 hL _ (lo_e25 hL _ (lo_k7_2 hL _ t_pr) _ (by omega))).trans (lo_n25 hL _ (lo_k7_2 hL _ t_pr) _ (by omega))) (by omega)) (tg_ne (lo_k6_6 hL _ (lo_e25 hL _ (lo_k7_2 hL _ t_pr) _ (by omega))) (lo_k5_2 hL _ (lo_k6_6 hL _ (lo_e25 hL _ (lo_k7_2 hL _ t_pr) _ (by omega)))) (by decide))).trans e73
    have e74 := (hk1_86 (g.lk (g.lk (g.lk (g.lk pr 2) le) 6) 2) (tg_ne (lo_k5_2 hL _ (lo_k6_6 hL _ (lo_e25 hL _ (lo_k7_2 hL _ t_pr) _ (by omega)))) (lo_k6_6 hL _ (lo_e25 hL _ (lo_k7_2 hL _ t_pr) _ (by omega))) (by decide)) (fun q9 => (tn_ne ((lo_n6 hL _ (lo_e25 hL _ (lo_k7_2 hL _ t_pr) _ (by omega))).trans (lo_n25 hL _ (lo_k7_2 hL _ t_pr) _ (by omega))) ((lo_n6 hL _ (lo_e25 hL _ (lo_k7_2 hL _ t_pr) _ (by omega))).trans (lo_n25 hL _ (lo_k7_2 hL _ t_pr) _ (by omega))) (by omega)) (lo_inj5 hL _ _ (lo_k6_6 hL _ (lo_e25 hL _ (lo_k7_2 hL _ t_pr) _ (by omega))) (lo_k6_6 hL _ (lo_e25 hL _ (lo_k7_2 hL _ t_pr) _ (by omega))) q9))).trans e74
    obtain ⟨sg87, nn88, dd89, e90, e91, hN92⟩ := lv_84
    have c93 : ∀ i, i < 15 → ∃ k, k < 1000000000 ∧ dd89 i = nI k := hN92.2.1
    have hnn88 : nn88 ≤ 15 := hN92.1
    refine lv_goto (tgt := 183) hx hb d_NRunner_operateLong_93 (by decide) ?_
    refine lv_iload hx hb d_NRunner_operateLong_183 (lv_at hl 0 rfl) ?_
    refine lv_if_eq (tgt := 192) hx hb d_NRunner_operateLong_185 (by decide) (fun b94 => ?_) (fun b94 => ?_)
    · skip
      replace b94 := (nI_eq (a := 1) (b := 0) (by omega) (by omega)).mp b94
      exfalso; omega
    · skip
      replace b94 := mt (nI_eq (a := 1) (b := 0) (by omega) (by omega)).mpr b94
      refine lv_iconst (v := nI 0) hx hb d_NRunner_operateLong_188 (by decide) ?_
      refine lv_goto (tgt := 193) hx hb d_NRunner_operateLong_189 (by decide) ?_
      exact pe_iret hx hb hr hlocks hK hP hD hS d_NRunner_operateLong_193 ⟨⟨(lo + ((nI 1))), e39⟩, rfl, (fun _ => ⟨_, _, _, e90, e91, LNV_cast hN92 (by rw [(LS_neg hFx.1.2.2.1).2, Int.neg_mul, ← hFx.1.2.2.2.2]; rfl)⟩), hI1_85, hu⟩
set_option maxHeartbeats 4000000 in
set_option maxRecDepth 100000 in
theorem v_opLong (l : Launch) (g : Lay) (sz : Nat) (f : Nat → va_E) (X : Nat) (pr : Nat) (ix : Nat) (os : Nat) (st : Nat) (mo : Int32) (lo : Int32) (tr : Nat) (n : Nat) (w : Nat) (le : Nat) (ri : Nat) (mv : Int64) (sx : Nat) (vx : Int) (sy : Nat) (vy : Int) (hL : LO g) (t_X : g.tg X = 9) (t_pr : g.tg pr = 7) (hI : IV g f) (eX : f X = .inr (8, [.ref pr, .ref (g.lk X 1), .int (nI ix), .ref (g.lk X 3), .ref (g.lk X 4), .ref (g.lk X 5), .ref (g.lk X 6), .ref (g.lk X 7), .int (nI os), .int (nI st), .int mo, .int lo, .int (nI tr)])) (hix : ix ≤ 36) (hos : os ≤ st) (hst : st ≤ 3000) (htr : tr ≤ 3) (eN : f (g.lk (g.lk pr 2) n) = .inr (5, [.int (nI (km w)), .int (nI le), .int (nI ri), .ref (g.lk (g.lk (g.lk pr 2) n) 3), .int (nI 0), .long mv, .ref (g.lk (g.lk (g.lk pr 2) n) 6)])) (hVx : VL g f pr sx le vx) (hVy : VL g f pr sy ri vy) (hW2 : 2 ≤ w) (hW7 : w < 7) (hlr : le < ri) (hri : ri < n) (hn : n < 72) (hle : le < n) (hsx : sx = 0 ∨ sx = 1) (hsy : sy = 0 ∨ sy = 1) : Met l ⟨"BigRunner$Runner", "operateLong", "(LBigRunner$Node;)I"⟩ [Cond.code ⟨"BigRunner$Runner", "operateLong", "(LBigRunner$Node;)I"⟩ prog_9_method_16_code 5 (some .int)] ({ frames := 4, cells := 0, slots := 0, locals := 112 }) (va_Pc [.ref X, .ref (g.lk (g.lk pr 2) n)] (pc_in g sz f)) (va_Qi (fun r f1 => (∃ (lo1 : Int32), f1 X = .inr (8, [.ref pr, .ref (g.lk X 1), .int (nI ix), .ref (g.lk X 3), .ref (g.lk X 4), .ref (g.lk X 5), .ref (g.lk X 6), .ref (g.lk X 7), .int (nI os), .int (nI st), .int mo, .int lo1, .int (nI tr)])) ∧ (r = nI (otr w vx vy)) ∧ (otr w vx vy = 0 → LV g f1 (g.lk (g.lk (g.lk pr 2) n) 6) (ovl w vx vy)) ∧ (IV g f1) ∧ (∀ b, b ≠ X → b ≠ (g.lk (g.lk (g.lk pr 2) n) 6) → b ≠ (g.lk (g.lk (g.lk (g.lk pr 2) n) 6) 2) → b ≠ (g.lk (g.lk (g.lk pr 2) le) 6) → b ≠ (g.lk (g.lk (g.lk (g.lk pr 2) le) 6) 2) → b ≠ (g.lk (g.lk (g.lk pr 2) ri) 6) → b ≠ (g.lk (g.lk (g.lk (g.lk pr 2) ri) 6) 2) → b ≠ (g.lk X 6) → b ≠ (g.lk (g.lk X 6) 0) → b ≠ (g.lk (g.lk X 6) 1) → f1 b = f b)) (pc_out g sz) (pc_A g sz)) 0 0 (pc_A g sz) := by
  refine pe_ofW (cc := prog_9_method_16_code) (maxL := 5) (ret := (some .int)) (lv := [(0, .ref X), (1, .ref (g.lk (g.lk pr 2) n))]) (by decide) (Nat.le_of_ble_eq_true rfl) rfl ?_
  intro p e s m args below meth c ls hx hb hr hml hlocks hown hB hP hK hD hsz hS hl
  subst hsz
  have hu : ∀ b, b ≠ X → b ≠ (g.lk (g.lk (g.lk pr 2) n) 6) → b ≠ (g.lk (g.lk (g.lk (g.lk pr 2) n) 6) 2) → b ≠ (g.lk (g.lk (g.lk pr 2) le) 6) → b ≠ (g.lk (g.lk (g.lk (g.lk pr 2) le) 6) 2) → b ≠ (g.lk (g.lk (g.lk pr 2) ri) 6) → b ≠ (g.lk (g.lk (g.lk (g.lk pr 2) ri) 6) 2) → b ≠ (g.lk X 6) → b ≠ (g.lk (g.lk X 6) 0) → b ≠ (g.lk (g.lk X 6) 1) → f b = f b := fun _ _ _ _ _ _ _ _ _ _ _  => rfl
  rcases (show w = 2 ∨ w = 3 ∨ w = 4 ∨ w = 5 ∨ w = 6 by omega) with rfl | rfl | rfl | rfl | rfl
  · skip
    rw [show km 2 = 3 from rfl] at eN
    rcases hsx with rfl | rfl <;> rcases hsy with rfl | rfl
    · skip
      obtain ⟨kx1, kx2, kx3, mx, eNx, hsx, hlx, htx⟩ := hVx
      obtain ⟨sgx, nx, dx, eax, ebx, hNx⟩ := hlx rfl
      have hFx : LNF sgx nx dx vx := ⟨hNx, htx⟩
      have cbx : ∀ i, i < 15 → ∃ k, k < 1000000000 ∧ dx i = nI k := hNx.2.1
      have hnx : nx ≤ 15 := hNx.1
      obtain ⟨ky1, ky2, ky3, my, eNy, hsy, hly, hty⟩ := hVy
      obtain ⟨sgy, ny, dy, eay, eby, hNy⟩ := hly rfl
      have hFy : LNF sgy ny dy vy := ⟨hNy, hty⟩
      have cby : ∀ i, i < 15 → ∃ k, k < 1000000000 ∧ dy i = nI k := hNy.2.1
      have hny : ny ≤ 15 := hNy.1
      refine lv_aload_n hx hb d_NRunner_operateLong_0 rfl (lv_at hl 0 rfl) ?_
      refine lv_dup hx hb d_NRunner_operateLong_1 rfl ?_
      refine pf_get (v := .int lo) (C := "BigRunner$Runner") (T := FT8) (N := 13) hx hb (hw8 hB _) (fun _ h9 => h9) hown hK hP (lo_in hL t_X (by decide)) eX rfl 11 (by decide) (wd_347 hB _) rfl d_NRunner_operateLong_2 ?_
      refine lv_iconst (v := nI 1) hx hb d_NRunner_operateLong_5 (by decide) ?_
      refine lv_iadd hx hb d_NRunner_operateLong_6 ?_
      refine pf_put (v := .int (lo + ((nI 1)))) (ty := .int) (fs' := [.ref pr, .ref (g.lk X 1), .int (nI ix), .ref (g.lk X 3), .ref (g.lk X 4), .ref (g.lk X 5), .ref (g.lk X 6), .ref (g.lk X 7), .int (nI os), .int (nI st), .int mo, .int (lo + ((nI 1))), .int (nI tr)]) (C := "BigRunner$Runner") (T := FT8) (N := 13) hx hb (hw8 hB _) (fun _ h9 => h9) TY8 ok8 nm8 hown hK hP hD hS (lo_in hL t_X (by decide)) eX rfl 11 (by decide) (wd_347 hB _) rfl (by decide +kernel) rfl rfl (Nat.le_of_ble_eq_true rfl) rfl d_NRunner_operateLong_7 (fun f1 H locs e2 k3 hP hD hS => ?_)
      have eN := (k3 (g.lk (g.lk pr 2) n) (tg_ne (lo_e25 hL _ (lo_k7_2 hL _ t_pr) _ (by omega)) t_X (by decide))).trans eN
      have eNx := (k3 (g.lk (g.lk pr 2) le) (tg_ne (lo_e25 hL _ (lo_k7_2 hL _ t_pr) _ (by omega)) t_X (by decide))).trans eNx
      have eax := (k3 (g.lk (g.lk (g.lk pr 2) le) 6) (tg_ne (lo_k6_6 hL _ (lo_e25 hL _ (lo_k7_2 hL _ t_pr) _ (by omega))) t_X (by decide))).trans eax
      have ebx := (k3 (g.lk (g.lk (g.lk (g.lk pr 2) le) 6) 2) (tg_ne (lo_k5_2 hL _ (lo_k6_6 hL _ (lo_e25 hL _ (lo_k7_2 hL _ t_pr) _ (by omega)))) t_X (by decide))).trans ebx
      have eNy := (k3 (g.lk (g.lk pr 2) ri) (tg_ne (lo_e25 hL _ (lo_k7_2 hL _ t_pr) _ (by omega)) t_X (by decide))).trans eNy
      have eay := (k3 (g.lk (g.lk (g.lk pr 2) ri) 6) (tg_ne (lo_k6_6 hL _ (lo_e25 hL _ (lo_k7_2 hL _ t_pr) _ (by omega))) t_X (by decide))).trans eay
      have eby := (k3 (g.lk (g.lk (g.lk (g.lk pr 2) ri) 6) 2) (tg_ne (lo_k5_2 hL _ (lo_k6_6 hL _ (lo_e25 hL _ (lo_k7_2 hL _ t_pr) _ (by omega)))) t_X (by decide))).trans eby
      have hu : ∀ b, b ≠ X → b ≠ (g.lk (g.lk (g.lk pr 2) n) 6) → b ≠ (g.lk (g.lk (g.lk (g.lk pr 2) n) 6) 2) → b ≠ (g.lk (g.lk (g.lk pr 2) le) 6) → b ≠ (g.lk (g.lk (g.lk (g.lk pr 2) le) 6) 2) → b ≠ (g.lk (g.lk (g.lk pr 2) ri) 6) → b ≠ (g.lk (g.lk (g.lk (g.lk pr 2) ri) 6) 2) → b ≠ (g.lk X 6) → b ≠ (g.lk (g.lk X 6) 0) → b ≠ (g.lk (g.lk X 6) 1) → f1 b = f b := fun b q0 q1 q2 q3 q4 q5 q6 q7 q8 q9 => (k3 b q0).trans (hu b q0 q1 q2 q3 q4 q5 q6 q7 q8 q9)
      have hk4 : ∀ b, b ≠ X → f1 b = f b := k3
      refine lv_aload_n hx hb d_NRunner_operateLong_10 rfl (lv_at hl 0 rfl) ?_
      refine pf_get (v := .ref pr) (C := "BigRunner$Runner") (T := FT8) (N := 13) hx hb (hw8 hB _) (fun _ h9 => h9) hown hK hP (lo_in hL t_X (by decide)) e2 rfl 0 (by decide) (wd_330 hB _) rfl d_NRunner_operateLong_11 ?_
      obtain ⟨sc_6, nc_7, e5, c8, c9⟩ := oc_7.of t_pr (hI.1 pr)
      replace e5 := (hk4 pr (tg_ne t_pr t_X (by decide))).trans e5
      refine pf_get (v := .ref (g.lk pr 2)) (C := "BigRunner$Program") (T := FT6) (N := 6) hx hb (hw6 hB _) (fun _ h9 => h9) hown hK hP (lo_in hL t_pr (by decide)) e5 rfl 2 (by decide) (wd_249 hB _) rfl d_NRunner_operateLong_14 ?_
      refine lv_aload_n hx hb d_NRunner_operateLong_17 rfl (lv_at hl 1 rfl) ?_
      refine pf_get (v := .int (nI le)) (C := "BigRunner$Node") (T := FT5) (N := 7) hx hb (hw5 hB _) (fun _ h9 => h9) hown hK hP (lo_in hL (lo_e25 hL _ (lo_k7_2 hL _ t_pr) _ (by omega)) (by decide)) eN rfl 1 (by decide) (wd_208 hB _) rfl d_NRunner_operateLong_18 ?_
      have e10 := oc_25.of (lo_k7_2 hL _ t_pr) (hI.1 (g.lk pr 2))
      replace e10 := (hk4 (g.lk pr 2) (tg_ne (lo_k7_2 hL _ t_pr) t_X (by decide))).trans e10
      refine pf_aald (i := le) hx hb hK hP (lo_in hL (lo_k7_2 hL _ t_pr) (by decide)) e10 (lo_t25 hL _ (lo_k7_2 hL _ t_pr)) (by omega) (by decide) d_NRunner_operateLong_21 ?_
      have hI11 := iv_1 hI hL t_X (by decide) hk4 (oc_9.mk t_X (⟨pr, ix, os, st, mo, ((lo + ((nI 1)))), tr, e2, t_pr, (by omega), (by omega), (by omega), (by omega)⟩))
      refine pcc_r (va_runV (C := "BigRunner$Node") (As := []) (rest := []) ⟨hx, hb, hml, hown, tb_nil⟩ (v_widenedL l g H.size f1 ((g.lk (g.lk pr 2) le)) kx1 kx2 kx3 mx hL (lo_e25 hL _ (lo_k7_2 hL _ t_pr) _ (by omega)) hI11.1 eNx) ⟨(callB_of 0 (tb_one (wd_761 hB _)) tb_good1 rfl rfl rfl (wd_77 hB _) (wd_758 hB _) (by decide +kernel) ⟨Nat.le_of_ble_eq_true rfl, Nat.le_of_ble_eq_true rfl⟩), (wd_759 hB _), (wd_760 hB _)⟩ ⟨pe_bl, pg_recv (ci := 5) hK hP (lo_in hL (lo_e25 hL _ (lo_k7_2 hL _ t_pr) _ (by omega)) (by decide)) eNx rfl, pe_pre hB hK hP hD⟩ rfl rfl hl.1 rfl (lv_room (Nat.le_of_ble_eq_true rfl)) d_NRunner_operateLong_22 ⟨Nat.le_of_ble_eq_true rfl, Nat.le_of_ble_eq_true rfl⟩) hS (fun r12 f13 H locs hq14 hP hD hS => ?_)
      obtain ⟨ra_15, rfl⟩ := hq14
      subst ra_15
      refine lv_astore_n (lv' := [(2, .ref (g.lk (g.lk (g.lk pr 2) le) 6)), (0, .ref X), (1, .ref (g.lk (g.lk pr 2) n))]) hx hb d_NRunner_operateLong_25 rfl hl (by decide) rfl (fun ls hl => ?_)
      refine lv_aload_n hx hb d_NRunner_operateLong_26 rfl (lv_at hl 1 rfl) ?_
      refine pf_get (v := .ref pr) (C := "BigRunner$Runner") (T := FT8) (N := 13) hx hb (hw8 hB _) (fun _ h9 => h9) hown hK hP (lo_in hL t_X (by decide)) e2 rfl 0 (by decide) (wd_330 hB _) rfl d_NRunner_operateLong_27 ?_
      refine pf_get (v := .ref (g.lk pr 2)) (C := "BigRunner$Program") (T := FT6) (N := 6) hx hb (hw6 hB _) (fun _ h9 => h9) hown hK hP (lo_in hL t_pr (by decide)) e5 rfl 2 (by decide) (wd_249 hB _) rfl d_NRunner_operateLong_30 ?_
      refine lv_aload_n hx hb d_NRunner_operateLong_33 rfl (lv_at hl 2 rfl) ?_
      refine pf_get (v := .int (nI ri)) (C := "BigRunner$Node") (T := FT5) (N := 7) hx hb (hw5 hB _) (fun _ h9 => h9) hown hK hP (lo_in hL (lo_e25 hL _ (lo_k7_2 hL _ t_pr) _ (by omega)) (by decide)) eN rfl 2 (by decide) (wd_212 hB _) rfl d_NRunner_operateLong_34 ?_
      refine pf_aald (i := ri) hx hb hK hP (lo_in hL (lo_k7_2 hL _ t_pr) (by decide)) e10 (lo_t25 hL _ (lo_k7_2 hL _ t_pr)) (by omega) (by decide) d_NRunner_operateLong_37 ?_
      refine pcc_r (va_runV (C := "BigRunner$Node") (As := []) (rest := []) ⟨hx, hb, hml, hown, tb_nil⟩ (v_widenedL l g H.size f1 ((g.lk (g.lk pr 2) ri)) ky1 ky2 ky3 my hL (lo_e25 hL _ (lo_k7_2 hL _ t_pr) _ (by omega)) hI11.1 eNy) ⟨(callB_of 0 (tb_one (wd_761 hB _)) tb_good1 rfl rfl rfl (wd_77 hB _) (wd_758 hB _) (by decide +kernel) ⟨Nat.le_of_ble_eq_true rfl, Nat.le_of_ble_eq_true rfl⟩), (wd_759 hB _), (wd_760 hB _)⟩ ⟨pe_bl, pg_recv (ci := 5) hK hP (lo_in hL (lo_e25 hL _ (lo_k7_2 hL _ t_pr) _ (by omega)) (by decide)) eNy rfl, pe_pre hB hK hP hD⟩ rfl rfl hl.1 rfl (lv_room (Nat.le_of_ble_eq_true rfl)) d_NRunner_operateLong_38 ⟨Nat.le_of_ble_eq_true rfl, Nat.le_of_ble_eq_true rfl⟩) hS (fun r16 f17 H locs hq18 hP hD hS => ?_)
      obtain ⟨ra_19, rfl⟩ := hq18
      subst ra_19
      refine lv_astore_n (lv' := [(3, .ref (g.lk (g.lk (g.lk pr 2) ri) 6)), (2, .ref (g.lk (g.lk (g.lk pr 2) le) 6)), (0, .ref X), (1, .ref (g.lk (g.lk pr 2) n))]) hx hb d_NRunner_operateLong_41 rfl hl (by decide) rfl (fun ls hl => ?_)
      refine lv_iconst (v := nI 1) hx hb d_NRunner_operateLong_42 (by decide) ?_
      refine lv_istore (lv' := [(4, .int (nI 1)), (3, .ref (g.lk (g.lk (g.lk pr 2) ri) 6)), (2, .ref (g.lk (g.lk (g.lk pr 2) le) 6)), (0, .ref X), (1, .ref (g.lk (g.lk pr 2) n))]) hx hb d_NRunner_operateLong_43 hl (by decide) rfl (fun ls hl => ?_)
      refine lv_aload_n hx hb d_NRunner_operateLong_45 rfl (lv_at hl 4 rfl) ?_
      refine pf_get (v := .int (nI 3)) (C := "BigRunner$Node") (T := FT5) (N := 7) hx hb (hw5 hB _) (fun _ h9 => h9) hown hK hP (lo_in hL (lo_e25 hL _ (lo_k7_2 hL _ t_pr) _ (by omega)) (by decide)) eN rfl 0 (by decide) (wd_204 hB _) rfl d_NRunner_operateLong_46 ?_
      refine lv_tableIn (off := 47) (tgt := 96) hx hb d_NRunner_operateLong_49 (by rw [nI_toInt (by omega)]; omega) (by rw [nI_toInt (by omega)]; omega) (by rw [nI_toInt (by omega)]; rfl) (by decide) ?_
      refine lv_aload_n hx hb d_NRunner_operateLong_96 rfl (lv_at hl 4 rfl) ?_
      refine pf_get (v := .ref (g.lk (g.lk (g.lk pr 2) n) 6)) (C := "BigRunner$Node") (T := FT5) (N := 7) hx hb (hw5 hB _) (fun _ h9 => h9) hown hK hP (lo_in hL (lo_e25 hL _ (lo_k7_2 hL _ t_pr) _ (by omega)) (by decide)) eN rfl 6 (by decide) (wd_224 hB _) rfl d_NRunner_operateLong_97 ?_
      refine lv_aload_n hx hb d_NRunner_operateLong_100 rfl (lv_at hl 2 rfl) ?_
      refine lv_aload_n hx hb d_NRunner_operateLong_101 rfl (lv_at hl 1 rfl) ?_
      refine lv_aload_n hx hb d_NRunner_operateLong_102 rfl (lv_at hl 1 rfl) ?_
      refine pf_get (v := .int sgy) (C := "BigRunner$LongNumber") (T := FT4) (N := 3) hx hb (hw4 hB _) (fun _ h9 => h9) hown hK hP (lo_in hL (lo_k6_6 hL _ (lo_e25 hL _ (lo_k7_2 hL _ t_pr) _ (by omega))) (by decide)) eay rfl 0 (by decide) (wd_189 hB _) rfl d_NRunner_operateLong_103 ?_
      obtain ⟨sg_21, n_22, e20, c23⟩ := oc_5.of (lo_k6_6 hL _ (lo_e25 hL _ (lo_k7_2 hL _ t_pr) _ (by omega))) (hI11.1 (g.lk (g.lk (g.lk pr 2) n) 6))
      refine pcc_i (va_runV (C := "BigRunner$LongNumber") (As := [.ref (g.lk (g.lk (g.lk pr 2) le) 6), .ref (g.lk (g.lk (g.lk pr 2) ri) 6), .int sgy]) (rest := []) ⟨hx, hb, hml, hown, tb_nil⟩ (v_setSum l g H.size f1 ((g.lk (g.lk (g.lk pr 2) n) 6)) ((g.lk (g.lk (g.lk pr 2) le) 6)) sgx nx dx vx ((g.lk (g.lk (g.lk pr 2) ri) 6)) sgy ny dy vy sgy hL (lo_k6_6 hL _ (lo_e25 hL _ (lo_k7_2 hL _ t_pr) _ (by omega))) (lo_k6_6 hL _ (lo_e25 hL _ (lo_k7_2 hL _ t_pr) _ (by omega))) (lo_k6_6 hL _ (lo_e25 hL _ (lo_k7_2 hL _ t_pr) _ (by omega))) hI11 eax ebx hFx eay eby hFy (tn_ne ((lo_n6 hL _ (lo_e25 hL _ (lo_k7_2 hL _ t_pr) _ (by omega))).trans (lo_n25 hL _ (lo_k7_2 hL _ t_pr) _ (by omega))) ((lo_n6 hL _ (lo_e25 hL _ (lo_k7_2 hL _ t_pr) _ (by omega))).trans (lo_n25 hL _ (lo_k7_2 hL _ t_pr) _ (by omega))) (by omega)) (tn_ne ((lo_n6 hL _ (lo_e25 hL _ (lo_k7_2 hL _ t_pr) _ (by omega))).trans (lo_n25 hL _ (lo_k7_2 hL _ t_pr) _ (by omega))) ((lo_n6 hL _ (lo_e25 hL _ (lo_k7_2 hL _ t_pr) _ (by omega))).trans (lo_n25 hL _ (lo_k7_2 hL _ t_pr) _ (by omega))) (by omega)) hFy.1.2.2.1) ⟨(callB_of 3 (tb_one (wd_766 hB _)) tb_good1 rfl rfl rfl (wd_78 hB _) (wd_763 hB _) (by decide +kernel) ⟨Nat.le_of_ble_eq_true rfl, Nat.le_of_ble_eq_true rfl⟩), (wd_764 hB _), (wd_765 hB _)⟩ ⟨pe_bl, pg_recv (ci := 4) hK hP (lo_in hL (lo_k6_6 hL _ (lo_e25 hL _ (lo_k7_2 hL _ t_pr) _ (by omega))) (by decide)) e20 rfl, pe_pre hB hK hP hD⟩ rfl rfl hl.1 rfl (lv_room (Nat.le_of_ble_eq_true rfl)) d_NRunner_operateLong_106 ⟨Nat.le_of_ble_eq_true rfl, Nat.le_of_ble_eq_true rfl⟩) hS (fun r24 f25 H locs hq26 hP hD hS => ?_)
      obtain ⟨bo_27, lv_28, i1_29, i0_30, hI1_31, hk1_32⟩ := hq26
      have hu : ∀ b, b ≠ X → b ≠ (g.lk (g.lk (g.lk pr 2) n) 6) → b ≠ (g.lk (g.lk (g.lk (g.lk pr 2) n) 6) 2) → b ≠ (g.lk (g.lk (g.lk pr 2) le) 6) → b ≠ (g.lk (g.lk (g.lk (g.lk pr 2) le) 6) 2) → b ≠ (g.lk (g.lk (g.lk pr 2) ri) 6) → b ≠ (g.lk (g.lk (g.lk (g.lk pr 2) ri) 6) 2) → b ≠ (g.lk X 6) → b ≠ (g.lk (g.lk X 6) 0) → b ≠ (g.lk (g.lk X 6) 1) → f25 b = f b := fun b q0 q1 q2 q3 q4 q5 q6 q7 q8 q9 => (hk1_32 b q1 q2).trans (hu b q0 q1 q2 q3 q4 q5 q6 q7 q8 q9)
      have eN := (hk1_32 (g.lk (g.lk pr 2) n) (tg_ne (lo_e25 hL _ (lo_k7_2 hL _ t_pr) _ (by omega)) (lo_k6_6 hL _ (lo_e25 hL _ (lo_k7_2 hL _ t_pr) _ (by omega))) (by decide)) (tg_ne (lo_e25 hL _ (lo_k7_2 hL _ t_pr) _ (by omega)) (lo_k5_2 hL _ (lo_k6_6 hL _ (lo_e25 hL _ (lo_k7_2 hL _ t_pr) _ (by omega)))) (by decide))).trans eN
      have eNx := (hk1_32 (g.lk (g.lk pr 2) le) (tg_ne (lo_e25 hL _ (lo_k7_2 hL _ t_pr) _ (by omega)) (lo_k6_6 hL _ (lo_e25 hL _ (lo_k7_2 hL _ t_pr) _ (by omega))) (by decide)) (tg_ne (lo_e25 hL _ (lo_k7_2 hL _ t_pr) _ (by omega)) (lo_k5_2 hL _ (lo_k6_6 hL _ (lo_e25 hL _ (lo_k7_2 hL _ t_pr) _ (by omega)))) (by decide))).trans eNx
      have eax := (hk1_32 (g.lk (g.lk (g.lk pr 2) le) 6) (tn_ne ((lo_n6 hL _ (lo_e25 hL _ (lo_k7_2 hL _ t_pr) _ (by omega))).trans (lo_n25 hL _ (lo_k7_2 hL _ t_pr) _ (by omega))) ((lo_n6 hL _ (lo_e25 hL _ (lo_k7_2 hL _ t_pr) _ (by omega))).trans (lo_n25 hL _ (lo_k7_2 hL _ t_pr) _ (by omega))) (by omega)) (tg_ne (lo_k6_6 hL _ (lo_e25 hL _ (lo_k7_2 hL _ t_pr) _ (by omega))) (lo_k5_2 hL _ (lo_k6_6 hL _ (lo_e25 hL _ (lo_k7_2 hL _ t_pr) _ (by omega)))) (by decide))).trans eax
      have ebx := (hk1_32 (g.lk (g.lk (g.lk (g.lk pr 2) le) 6) 2) (tg_ne (lo_k5_2 hL _ (lo_k6_6 hL _ (lo_e25 hL _ (lo_k7_2 hL _ t_pr) _ (by omega)))) (lo_k6_6 hL _ (lo_e25 hL _ (lo_k7_2 hL _ t_pr) _ (by omega))) (by decide)) (fun q9 => (tn_ne ((lo_n6 hL _ (lo_e25 hL _ (lo_k7_2 hL _ t_pr) _ (by omega))).trans (lo_n25 hL _ (lo_k7_2 hL _ t_pr) _ (by omega))) ((lo_n6 hL _ (lo_e25 hL _ (lo_k7_2 hL _ t_pr) _ (by omega))).trans (lo_n25 hL _ (lo_k7_2 hL _ t_pr) _ (by omega))) (by omega)) (lo_inj5 hL _ _ (lo_k6_6 hL _ (lo_e25 hL _ (lo_k7_2 hL _ t_pr) _ (by omega))) (lo_k6_6 hL _ (lo_e25 hL _ (lo_k7_2 hL _ t_pr) _ (by omega))) q9))).trans ebx
      have eNy := (hk1_32 (g.lk (g.lk pr 2) ri) (tg_ne (lo_e25 hL _ (lo_k7_2 hL _ t_pr) _ (by omega)) (lo_k6_6 hL _ (lo_e25 hL _ (lo_k7_2 hL _ t_pr) _ (by omega))) (by decide)) (tg_ne (lo_e25 hL _ (lo_k7_2 hL _ t_pr) _ (by omega)) (lo_k5_2 hL _ (lo_k6_6 hL _ (lo_e25 hL _ (lo_k7_2 hL _ t_pr) _ (by omega)))) (by decide))).trans eNy
      have eay := (hk1_32 (g.lk (g.lk (g.lk pr 2) ri) 6) (tn_ne ((lo_n6 hL _ (lo_e25 hL _ (lo_k7_2 hL _ t_pr) _ (by omega))).trans (lo_n25 hL _ (lo_k7_2 hL _ t_pr) _ (by omega))) ((lo_n6 hL _ (lo_e25 hL _ (lo_k7_2 hL _ t_pr) _ (by omega))).trans (lo_n25 hL _ (lo_k7_2 hL _ t_pr) _ (by omega))) (by omega)) (tg_ne (lo_k6_6 hL _ (lo_e25 hL _ (lo_k7_2 hL _ t_pr) _ (by omega))) (lo_k5_2 hL _ (lo_k6_6 hL _ (lo_e25 hL _ (lo_k7_2 hL _ t_pr) _ (by omega)))) (by decide))).trans eay
      have eby := (hk1_32 (g.lk (g.lk (g.lk (g.lk pr 2) ri) 6) 2) (tg_ne (lo_k5_2 hL _ (lo_k6_6 hL _ (lo_e25 hL _ (lo_k7_2 hL _ t_pr) _ (by omega)))) (lo_k6_6 hL _ (lo_e25 hL _ (lo_k7_2 hL _ t_pr) _ (by omega))) (by decide)) (fun q9 => (tn_ne ((lo_n6 hL _ (lo_e25 hL _ (lo_k7_2 hL _ t_pr) _ (by omega))).trans (lo_n25 hL _ (lo_k7_2 hL _ t_pr) _ (by omega))) ((lo_n6 hL _ (lo_e25 hL _ (lo_k7_2 hL _ t_pr) _ (by omega))).trans (lo_n25 hL _ (lo_k7_2 hL _ t_pr) _ (by omega))) (by omega)) (lo_inj5 hL _ _ (lo_k6_6 hL _ (lo_e25 hL _ (lo_k7_2 hL _ t_pr) _ (by omega))) (lo_k6_6 hL _ (lo_e25 hL _ (lo_k7_2 hL _ t_pr) _ (by omega))) q9))).trans eby
      have e2 := (hk1_32 X (tg_ne t_X (lo_k6_6 hL _ (lo_e25 hL _ (lo_k7_2 hL _ t_pr) _ (by omega))) (by decide)) (tg_ne t_X (lo_k5_2 hL _ (lo_k6_6 hL _ (lo_e25 hL _ (lo_k7_2 hL _ t_pr) _ (by omega)))) (by decide))).trans e2
      have e5 := (hk1_32 pr (tg_ne t_pr (lo_k6_6 hL _ (lo_e25 hL _ (lo_k7_2 hL _ t_pr) _ (by omega))) (by decide)) (tg_ne t_pr (lo_k5_2 hL _ (lo_k6_6 hL _ (lo_e25 hL _ (lo_k7_2 hL _ t_pr) _ (by omega)))) (by decide))).trans e5
      have e10 := (hk1_32 (g.lk pr 2) (tg_ne (lo_k7_2 hL _ t_pr) (lo_k6_6 hL _ (lo_e25 hL _ (lo_k7_2 hL _ t_pr) _ (by omega))) (by decide)) (tg_ne (lo_k7_2 hL _ t_pr) (lo_k5_2 hL _ (lo_k6_6 hL _ (lo_e25 hL _ (lo_k7_2 hL _ t_pr) _ (by omega)))) (by decide))).trans e10
      obtain ⟨sg33, nn34, dd35, e36, e37, hN38⟩ := lv_28
      have c39 : ∀ i, i < 15 → ∃ k, k < 1000000000 ∧ dd35 i = nI k := hN38.2.1
      have hnn34 : nn34 ≤ 15 := hN38.1
      refine lv_istore (lv' := [(4, .int r24), (3, .ref (g.lk (g.lk (g.lk pr 2) ri) 6)), (2, .ref (g.lk (g.lk (g.lk pr 2) le) 6)), (0, .ref X), (1, .ref (g.lk (g.lk pr 2) n))]) hx hb d_NRunner_operateLong_109 hl (by decide) rfl (fun ls hl => ?_)
      refine lv_goto (tgt := 183) hx hb d_NRunner_operateLong_111 (by decide) ?_
      refine lv_iload hx hb d_NRunner_operateLong_183 (lv_at hl 0 rfl) ?_
      refine lv_if_eq (tgt := 192) hx hb d_NRunner_operateLong_185 (by decide) (fun b40 => ?_) (fun b40 => ?_)
      · skip
        have hr41 : r24 = nI 0 := b40
        have hi42 := i0_30 hr41
        have hfit8 : T12 ≤ (opv 2 vx vy).natAbs := by rw [← (show vx + sgy.toInt * _ = opv 2 vx vy from congrArg (vx + ·) hFy.1.2.2.2.2.symm)]; exact i0_30 hr41
        refine lv_iconst (v := nI 2) hx hb d_NRunner_operateLong_192 (by decide) ?_
        exact pe_iret hx hb hr hlocks hK hP hD hS d_NRunner_operateLong_193 ⟨⟨(lo + ((nI 1))), e2⟩, (congrArg nI (otr_2 (by decide) (Or.inl (by decide)) hfit8).symm), (fun z9 => absurd (z9.symm.trans (otr_2 (by decide) (Or.inl (by decide)) hfit8)) (by decide)), hI1_31, hu⟩
      · skip
        have hr43 : r24 = nI 1 := (bl_1 bo_27 b40)
        have hi44 := i1_29 hr43
        have hfit9 : (opv 2 vx vy).natAbs < T12 := by rw [← (show vx + sgy.toInt * _ = opv 2 vx vy from congrArg (vx + ·) hFy.1.2.2.2.2.symm)]; exact i1_29 hr43
        refine lv_iconst (v := nI 0) hx hb d_NRunner_operateLong_188 (by decide) ?_
        refine lv_goto (tgt := 193) hx hb d_NRunner_operateLong_189 (by decide) ?_
        exact pe_iret hx hb hr hlocks hK hP hD hS d_NRunner_operateLong_193 ⟨⟨(lo + ((nI 1))), e2⟩, (congrArg nI (otr_0 (by decide) (Or.inl (by decide)) hfit9).symm), (fun _ => ⟨_, _, _, e36, e37, LNV_cast hN38 (show vx + sgy.toInt * _ = opv 2 vx vy from congrArg (vx + ·) hFy.1.2.2.2.2.symm)⟩), hI1_31, hu⟩
    · skip
      obtain ⟨kx1, kx2, kx3, mx, eNx, hsx, hlx, htx⟩ := hVx
      obtain ⟨sgx, nx, dx, eax, ebx, hNx⟩ := hlx rfl
      have hFx : LNF sgx nx dx vx := ⟨hNx, htx⟩
      have cbx : ∀ i, i < 15 → ∃ k, k < 1000000000 ∧ dx i = nI k := hNx.2.1
      have hnx : nx ≤ 15 := hNx.1
      obtain ⟨ky1, ky2, ky3, my, eNy, hsy, hly, hty⟩ := hVy
      refine lv_aload_n hx hb d_NRunner_operateLong_0 rfl (lv_at hl 0 rfl) ?_
      refine lv_dup hx hb d_NRunner_operateLong_1 rfl ?_
      refine pf_get (v := .int lo) (C := "BigRunner$Runner") (T := FT8) (N := 13) hx hb (hw8 hB _) (fun _ h9 => h9) hown hK hP (lo_in hL t_X (by decide)) eX rfl 11 (by decide) (wd_347 hB _) rfl d_NRunner_operateLong_2 ?_
      refine lv_iconst (v := nI 1) hx hb d_NRunner_operateLong_5 (by decide) ?_
      refine lv_iadd hx hb d_NRunner_operateLong_6 ?_
      refine pf_put (v := .int (lo + ((nI 1)))) (ty := .int) (fs' := [.ref pr, .ref (g.lk X 1), .int (nI ix), .ref (g.lk X 3), .ref (g.lk X 4), .ref (g.lk X 5), .ref (g.lk X 6), .ref (g.lk X 7), .int (nI os), .int (nI st), .int mo, .int (lo + ((nI 1))), .int (nI tr)]) (C := "BigRunner$Runner") (T := FT8) (N := 13) hx hb (hw8 hB _) (fun _ h9 => h9) TY8 ok8 nm8 hown hK hP hD hS (lo_in hL t_X (by decide)) eX rfl 11 (by decide) (wd_347 hB _) rfl (by decide +kernel) rfl rfl (Nat.le_of_ble_eq_true rfl) rfl d_NRunner_operateLong_7 (fun f45 H locs e46 k47 hP hD hS => ?_)
      have eN := (k47 (g.lk (g.lk pr 2) n) (tg_ne (lo_e25 hL _ (lo_k7_2 hL _ t_pr) _ (by omega)) t_X (by decide))).trans eN
      have eNx := (k47 (g.lk (g.lk pr 2) le) (tg_ne (lo_e25 hL _ (lo_k7_2 hL _ t_pr) _ (by omega)) t_X (by decide))).trans eNx
      have eax := (k47 (g.lk (g.lk (g.lk pr 2) le) 6) (tg_ne (lo_k6_6 hL _ (lo_e25 hL _ (lo_k7_2 hL _ t_pr) _ (by omega))) t_X (by decide))).trans eax
      have ebx := (k47 (g.lk (g.lk (g.lk (g.lk pr 2) le) 6) 2) (tg_ne (lo_k5_2 hL _ (lo_k6_6 hL _ (lo_e25 hL _ (lo_k7_2 hL _ t_pr) _ (by omega)))) t_X (by decide))).trans ebx
      have eNy := (k47 (g.lk (g.lk pr 2) ri) (tg_ne (lo_e25 hL _ (lo_k7_2 hL _ t_pr) _ (by omega)) t_X (by decide))).trans eNy
      have hu : ∀ b, b ≠ X → b ≠ (g.lk (g.lk (g.lk pr 2) n) 6) → b ≠ (g.lk (g.lk (g.lk (g.lk pr 2) n) 6) 2) → b ≠ (g.lk (g.lk (g.lk pr 2) le) 6) → b ≠ (g.lk (g.lk (g.lk (g.lk pr 2) le) 6) 2) → b ≠ (g.lk (g.lk (g.lk pr 2) ri) 6) → b ≠ (g.lk (g.lk (g.lk (g.lk pr 2) ri) 6) 2) → b ≠ (g.lk X 6) → b ≠ (g.lk (g.lk X 6) 0) → b ≠ (g.lk (g.lk X 6) 1) → f45 b = f b := fun b q0 q1 q2 q3 q4 q5 q6 q7 q8 q9 => (k47 b q0).trans (hu b q0 q1 q2 q3 q4 q5 q6 q7 q8 q9)
      have hk48 : ∀ b, b ≠ X → f45 b = f b := k47
      refine lv_aload_n hx hb d_NRunner_operateLong_10 rfl (lv_at hl 0 rfl) ?_
      refine pf_get (v := .ref pr) (C := "BigRunner$Runner") (T := FT8) (N := 13) hx hb (hw8 hB _) (fun _ h9 => h9) hown hK hP (lo_in hL t_X (by decide)) e46 rfl 0 (by decide) (wd_330 hB _) rfl d_NRunner_operateLong_11 ?_
      obtain ⟨sc_50, nc_51, e49, c52, c53⟩ := oc_7.of t_pr (hI.1 pr)
      replace e49 := (hk48 pr (tg_ne t_pr t_X (by decide))).trans e49
      refine pf_get (v := .ref (g.lk pr 2)) (C := "BigRunner$Program") (T := FT6) (N := 6) hx hb (hw6 hB _) (fun _ h9 => h9) hown hK hP (lo_in hL t_pr (by decide)) e49 rfl 2 (by decide) (wd_249 hB _) rfl d_NRunner_operateLong_14 ?_
      refine lv_aload_n hx hb d_NRunner_operateLong_17 rfl (lv_at hl 1 rfl) ?_
      refine pf_get (v := .int (nI le)) (C := "BigRunner$Node") (T := FT5) (N := 7) hx hb (hw5 hB _) (fun _ h9 => h9) hown hK hP (lo_in hL (lo_e25 hL _ (lo_k7_2 hL _ t_pr) _ (by omega)) (by decide)) eN rfl 1 (by decide) (wd_208 hB _) rfl d_NRunner_operateLong_18 ?_
      have e54 := oc_25.of (lo_k7_2 hL _ t_pr) (hI.1 (g.lk pr 2))
      replace e54 := (hk48 (g.lk pr 2) (tg_ne (lo_k7_2 hL _ t_pr) t_X (by decide))).trans e54
      refine pf_aald (i := le) hx hb hK hP (lo_in hL (lo_k7_2 hL _ t_pr) (by decide)) e54 (lo_t25 hL _ (lo_k7_2 hL _ t_pr)) (by omega) (by decide) d_NRunner_operateLong_21 ?_
      have hI55 := iv_1 hI hL t_X (by decide) hk48 (oc_9.mk t_X (⟨pr, ix, os, st, mo, ((lo + ((nI 1)))), tr, e46, t_pr, (by omega), (by omega), (by omega), (by omega)⟩))
      refine pcc_r (va_runV (C := "BigRunner$Node") (As := []) (rest := []) ⟨hx, hb, hml, hown, tb_nil⟩ (v_widenedL l g H.size f45 ((g.lk (g.lk pr 2) le)) kx1 kx2 kx3 mx hL (lo_e25 hL _ (lo_k7_2 hL _ t_pr) _ (by omega)) hI55.1 eNx) ⟨(callB_of 0 (tb_one (wd_761 hB _)) tb_good1 rfl rfl rfl (wd_77 hB _) (wd_758 hB _) (by decide +kernel) ⟨Nat.le_of_ble_eq_true rfl, Nat.le_of_ble_eq_true rfl⟩), (wd_759 hB _), (wd_760 hB _)⟩ ⟨pe_bl, pg_recv (ci := 5) hK hP (lo_in hL (lo_e25 hL _ (lo_k7_2 hL _ t_pr) _ (by omega)) (by decide)) eNx rfl, pe_pre hB hK hP hD⟩ rfl rfl hl.1 rfl (lv_room (Nat.le_of_ble_eq_true rfl)) d_NRunner_operateLong_22 ⟨Nat.le_of_ble_eq_true rfl, Nat.le_of_ble_eq_true rfl⟩) hS (fun r56 f57 H locs hq58 hP hD hS => ?_)
      obtain ⟨ra_59, rfl⟩ := hq58
      subst ra_59
      refine lv_astore_n (lv' := [(2, .ref (g.lk (g.lk (g.lk pr 2) le) 6)), (0, .ref X), (1, .ref (g.lk (g.lk pr 2) n))]) hx hb d_NRunner_operateLong_25 rfl hl (by decide) rfl (fun ls hl => ?_)
      refine lv_aload_n hx hb d_NRunner_operateLong_26 rfl (lv_at hl 1 rfl) ?_
      refine pf_get (v := .ref pr) (C := "BigRunner$Runner") (T := FT8) (N := 13) hx hb (hw8 hB _) (fun _ h9 => h9) hown hK hP (lo_in hL t_X (by decide)) e46 rfl 0 (by decide) (wd_330 hB _) rfl d_NRunner_operateLong_27 ?_
      refine pf_get (v := .ref (g.lk pr 2)) (C := "BigRunner$Program") (T := FT6) (N := 6) hx hb (hw6 hB _) (fun _ h9 => h9) hown hK hP (lo_in hL t_pr (by decide)) e49 rfl 2 (by decide) (wd_249 hB _) rfl d_NRunner_operateLong_30 ?_
      refine lv_aload_n hx hb d_NRunner_operateLong_33 rfl (lv_at hl 2 rfl) ?_
      refine pf_get (v := .int (nI ri)) (C := "BigRunner$Node") (T := FT5) (N := 7) hx hb (hw5 hB _) (fun _ h9 => h9) hown hK hP (lo_in hL (lo_e25 hL _ (lo_k7_2 hL _ t_pr) _ (by omega)) (by decide)) eN rfl 2 (by decide) (wd_212 hB _) rfl d_NRunner_operateLong_34 ?_
      refine pf_aald (i := ri) hx hb hK hP (lo_in hL (lo_k7_2 hL _ t_pr) (by decide)) e54 (lo_t25 hL _ (lo_k7_2 hL _ t_pr)) (by omega) (by decide) d_NRunner_operateLong_37 ?_
      refine pcc_r (va_runV (C := "BigRunner$Node") (As := []) (rest := []) ⟨hx, hb, hml, hown, tb_nil⟩ (v_widenedS l g H.size f45 ((g.lk (g.lk pr 2) ri)) ky1 ky2 ky3 my hL (lo_e25 hL _ (lo_k7_2 hL _ t_pr) _ (by omega)) hI55 eNy (by rw [(hsy rfl).1]; exact (hsy rfl).2)) ⟨(callB_of 0 (tb_one (wd_761 hB _)) tb_good1 rfl rfl rfl (wd_77 hB _) (wd_758 hB _) (by decide +kernel) ⟨Nat.le_of_ble_eq_true rfl, Nat.le_of_ble_eq_true rfl⟩), (wd_759 hB _), (wd_760 hB _)⟩ ⟨pe_bl, pg_recv (ci := 5) hK hP (lo_in hL (lo_e25 hL _ (lo_k7_2 hL _ t_pr) _ (by omega)) (by decide)) eNy rfl, pe_pre hB hK hP hD⟩ rfl rfl hl.1 rfl (lv_room (Nat.le_of_ble_eq_true rfl)) d_NRunner_operateLong_38 ⟨Nat.le_of_ble_eq_true rfl, Nat.le_of_ble_eq_true rfl⟩) hS (fun r60 f61 H locs hq62 hP hD hS => ?_)
      obtain ⟨ra_63, lv_64, hI1_65, hk1_66⟩ := hq62
      subst ra_63
      have hu : ∀ b, b ≠ X → b ≠ (g.lk (g.lk (g.lk pr 2) n) 6) → b ≠ (g.lk (g.lk (g.lk (g.lk pr 2) n) 6) 2) → b ≠ (g.lk (g.lk (g.lk pr 2) le) 6) → b ≠ (g.lk (g.lk (g.lk (g.lk pr 2) le) 6) 2) → b ≠ (g.lk (g.lk (g.lk pr 2) ri) 6) → b ≠ (g.lk (g.lk (g.lk (g.lk pr 2) ri) 6) 2) → b ≠ (g.lk X 6) → b ≠ (g.lk (g.lk X 6) 0) → b ≠ (g.lk (g.lk X 6) 1) → f61 b = f b := fun b q0 q1 q2 q3 q4 q5 q6 q7 q8 q9 => (hk1_66 b q5 q6).trans (hu b q0 q1 q2 q3 q4 q5 q6 q7 q8 q9)
      have eN := (hk1_66 (g.lk (g.lk pr 2) n) (tg_ne (lo_e25 hL _ (lo_k7_2 hL _ t_pr) _ (by omega)) (lo_k6_6 hL _ (lo_e25 hL _ (lo_k7_2 hL _ t_pr) _ (by omega))) (by decide)) (tg_ne (lo_e25 hL _ (lo_k7_2 hL _ t_pr) _ (by omega)) (lo_k5_2 hL _ (lo_k6_6 hL _ (lo_e25 hL _ (lo_k7_2 hL _ t_pr) _ (by omega)))) (by decide))).trans eN
      have eNx := (hk1_66 (g.lk (g.lk pr 2) le) (tg_ne (lo_e25 hL _ (lo_k7_2 hL _ t_pr) _ (by omega)) (lo_k6_6 hL _ (lo_e25 hL _ (lo_k7_2 hL _ t_pr) _ (by omega))) (by decide)) (tg_ne (lo_e25 hL _ (lo_k7_2 hL _ t_pr) _ (by omega)) (lo_k5_2 hL _ (lo_k6_6 hL _ (lo_e25 hL _ (lo_k7_2 hL _ t_pr) _ (by omega)))) (by decide))).trans eNx
      have eax := (hk1_66 (g.lk (g.lk (g.lk pr 2) le) 6) (tn_ne ((lo_n6 hL _ (lo_e25 hL _ (lo_k7_2 hL _ t_pr) _ (by omega))).trans (lo_n25 hL _ (lo_k7_2 hL _ t_pr) _ (by omega))) ((lo_n6 hL _ (lo_e25 hL _ (lo_k7_2 hL _ t_pr) _ (by omega))).trans (lo_n25 hL _ (lo_k7_2 hL _ t_pr) _ (by omega))) (by omega)) (tg_ne (lo_k6_6 hL _ (lo_e25 hL _ (lo_k7_2 hL _ t_pr) _ (by omega))) (lo_k5_2 hL _ (lo_k6_6 hL _ (lo_e25 hL _ (lo_k7_2 hL _ t_pr) _ (by omega)))) (by decide))).trans eax
      have ebx := (hk1_66 (g.lk (g.lk (g.lk (g.lk pr 2) le) 6) 2) (tg_ne (lo_k5_2 hL _ (lo_k6_6 hL _ (lo_e25 hL _ (lo_k7_2 hL _ t_pr) _ (by omega)))) (lo_k6_6 hL _ (lo_e25 hL _ (lo_k7_2 hL _ t_pr) _ (by omega))) (by decide)) (fun q9 => (tn_ne ((lo_n6 hL _ (lo_e25 hL _ (lo_k7_2 hL _ t_pr) _ (by omega))).trans (lo_n25 hL _ (lo_k7_2 hL _ t_pr) _ (by omega))) ((lo_n6 hL _ (lo_e25 hL _ (lo_k7_2 hL _ t_pr) _ (by omega))).trans (lo_n25 hL _ (lo_k7_2 hL _ t_pr) _ (by omega))) (by omega)) (lo_inj5 hL _ _ (lo_k6_6 hL _ (lo_e25 hL _ (lo_k7_2 hL _ t_pr) _ (by omega))) (lo_k6_6 hL _ (lo_e25 hL _ (lo_k7_2 hL _ t_pr) _ (by omega))) q9))).trans ebx
      have eNy := (hk1_66 (g.lk (g.lk pr 2) ri) (tg_ne (lo_e25 hL _ (lo_k7_2 hL _ t_pr) _ (by omega)) (lo_k6_6 hL _ (lo_e25 hL _ (lo_k7_2 hL _ t_pr) _ (by omega))) (by decide)) (tg_ne (lo_e25 hL _ (lo_k7_2 hL _ t_pr) _ (by omega)) (lo_k5_2 hL _ (lo_k6_6 hL _ (lo_e25 hL _ (lo_k7_2 hL _ t_pr) _ (by omega)))) (by decide))).trans eNy
      have e46 := (hk1_66 X (tg_ne t_X (lo_k6_6 hL _ (lo_e25 hL _ (lo_k7_2 hL _ t_pr) _ (by omega))) (by decide)) (tg_ne t_X (lo_k5_2 hL _ (lo_k6_6 hL _ (lo_e25 hL _ (lo_k7_2 hL _ t_pr) _ (by omega)))) (by decide))).trans e46
      have e49 := (hk1_66 pr (tg_ne t_pr (lo_k6_6 hL _ (lo_e25 hL _ (lo_k7_2 hL _ t_pr) _ (by omega))) (by decide)) (tg_ne t_pr (lo_k5_2 hL _ (lo_k6_6 hL _ (lo_e25 hL _ (lo_k7_2 hL _ t_pr) _ (by omega)))) (by decide))).trans e49
      have e54 := (hk1_66 (g.lk pr 2) (tg_ne (lo_k7_2 hL _ t_pr) (lo_k6_6 hL _ (lo_e25 hL _ (lo_k7_2 hL _ t_pr) _ (by omega))) (by decide)) (tg_ne (lo_k7_2 hL _ t_pr) (lo_k5_2 hL _ (lo_k6_6 hL _ (lo_e25 hL _ (lo_k7_2 hL _ t_pr) _ (by omega)))) (by decide))).trans e54
      obtain ⟨sg67, nn68, dd69, e70, e71, hN72⟩ := lv_64
      have c73 : ∀ i, i < 15 → ∃ k, k < 1000000000 ∧ dd69 i = nI k := hN72.2.1
      have hnn68 : nn68 ≤ 15 := hN72.1
      refine lv_astore_n (lv' := [(3, .ref (g.lk (g.lk (g.lk pr 2) ri) 6)), (2, .ref (g.lk (g.lk (g.lk pr 2) le) 6)), (0, .ref X), (1, .ref (g.lk (g.lk pr 2) n))]) hx hb d_NRunner_operateLong_41 rfl hl (by decide) rfl (fun ls hl => ?_)
      have hFy : LNF sg67 nn68 dd69 vy := ⟨LNV_cast hN72 (hsy rfl).1, hty⟩
      refine lv_iconst (v := nI 1) hx hb d_NRunner_operateLong_42 (by decide) ?_
      refine lv_istore (lv' := [(4, .int (nI 1)), (3, .ref (g.lk (g.lk (g.lk pr 2) ri) 6)), (2, .ref (g.lk (g.lk (g.lk pr 2) le) 6)), (0, .ref X), (1, .ref (g.lk (g.lk pr 2) n))]) hx hb d_NRunner_operateLong_43 hl (by decide) rfl (fun ls hl => ?_)
      refine lv_aload_n hx hb d_NRunner_operateLong_45 rfl (lv_at hl 4 rfl) ?_
      refine pf_get (v := .int (nI 3)) (C := "BigRunner$Node") (T := FT5) (N := 7) hx hb (hw5 hB _) (fun _ h9 => h9) hown hK hP (lo_in hL (lo_e25 hL _ (lo_k7_2 hL _ t_pr) _ (by omega)) (by decide)) eN rfl 0 (by decide) (wd_204 hB _) rfl d_NRunner_operateLong_46 ?_
      refine lv_tableIn (off := 47) (tgt := 96) hx hb d_NRunner_operateLong_49 (by rw [nI_toInt (by omega)]; omega) (by rw [nI_toInt (by omega)]; omega) (by rw [nI_toInt (by omega)]; rfl) (by decide) ?_
      refine lv_aload_n hx hb d_NRunner_operateLong_96 rfl (lv_at hl 4 rfl) ?_
      refine pf_get (v := .ref (g.lk (g.lk (g.lk pr 2) n) 6)) (C := "BigRunner$Node") (T := FT5) (N := 7) hx hb (hw5 hB _) (fun _ h9 => h9) hown hK hP (lo_in hL (lo_e25 hL _ (lo_k7_2 hL _ t_pr) _ (by omega)) (by decide)) eN rfl 6 (by decide) (wd_224 hB _) rfl d_NRunner_operateLong_97 ?_
      refine lv_aload_n hx hb d_NRunner_operateLong_100 rfl (lv_at hl 2 rfl) ?_
      refine lv_aload_n hx hb d_NRunner_operateLong_101 rfl (lv_at hl 1 rfl) ?_
      refine lv_aload_n hx hb d_NRunner_operateLong_102 rfl (lv_at hl 1 rfl) ?_
      refine pf_get (v := .int sg67) (C := "BigRunner$LongNumber") (T := FT4) (N := 3) hx hb (hw4 hB _) (fun _ h9 => h9) hown hK hP (lo_in hL (lo_k6_6 hL _ (lo_e25 hL _ (lo_k7_2 hL _ t_pr) _ (by omega))) (by decide)) e70 rfl 0 (by decide) (wd_189 hB _) rfl d_NRunner_operateLong_103 ?_
      obtain ⟨sg_75, n_76, e74, c77⟩ := oc_5.of (lo_k6_6 hL _ (lo_e25 hL _ (lo_k7_2 hL _ t_pr) _ (by omega))) (hI1_65.1 (g.lk (g.lk (g.lk pr 2) n) 6))
      refine pcc_i (va_runV (C := "BigRunner$LongNumber") (As := [.ref (g.lk (g.lk (g.lk pr 2) le) 6), .ref (g.lk (g.lk (g.lk pr 2) ri) 6), .int sg67]) (rest := []) ⟨hx, hb, hml, hown, tb_nil⟩ (v_setSum l g H.size f61 ((g.lk (g.lk (g.lk pr 2) n) 6)) ((g.lk (g.lk (g.lk pr 2) le) 6)) sgx nx dx vx ((g.lk (g.lk (g.lk pr 2) ri) 6)) sg67 nn68 dd69 vy sg67 hL (lo_k6_6 hL _ (lo_e25 hL _ (lo_k7_2 hL _ t_pr) _ (by omega))) (lo_k6_6 hL _ (lo_e25 hL _ (lo_k7_2 hL _ t_pr) _ (by omega))) (lo_k6_6 hL _ (lo_e25 hL _ (lo_k7_2 hL _ t_pr) _ (by omega))) hI1_65 eax ebx hFx e70 e71 hFy (tn_ne ((lo_n6 hL _ (lo_e25 hL _ (lo_k7_2 hL _ t_pr) _ (by omega))).trans (lo_n25 hL _ (lo_k7_2 hL _ t_pr) _ (by omega))) ((lo_n6 hL _ (lo_e25 hL _ (lo_k7_2 hL _ t_pr) _ (by omega))).trans (lo_n25 hL _ (lo_k7_2 hL _ t_pr) _ (by omega))) (by omega)) (tn_ne ((lo_n6 hL _ (lo_e25 hL _ (lo_k7_2 hL _ t_pr) _ (by omega))).trans (lo_n25 hL _ (lo_k7_2 hL _ t_pr) _ (by omega))) ((lo_n6 hL _ (lo_e25 hL _ (lo_k7_2 hL _ t_pr) _ (by omega))).trans (lo_n25 hL _ (lo_k7_2 hL _ t_pr) _ (by omega))) (by omega)) hFy.1.2.2.1) ⟨(callB_of 3 (tb_one (wd_766 hB _)) tb_good1 rfl rfl rfl (wd_78 hB _) (wd_763 hB _) (by decide +kernel) ⟨Nat.le_of_ble_eq_true rfl, Nat.le_of_ble_eq_true rfl⟩), (wd_764 hB _), (wd_765 hB _)⟩ ⟨pe_bl, pg_recv (ci := 4) hK hP (lo_in hL (lo_k6_6 hL _ (lo_e25 hL _ (lo_k7_2 hL _ t_pr) _ (by omega))) (by decide)) e74 rfl, pe_pre hB hK hP hD⟩ rfl rfl hl.1 rfl (lv_room (Nat.le_of_ble_eq_true rfl)) d_NRunner_operateLong_106 ⟨Nat.le_of_ble_eq_true rfl, Nat.le_of_ble_eq_true rfl⟩) hS (fun r78 f79 H locs hq80 hP hD hS => ?_)
      obtain ⟨bo_81, lv_82, i1_83, i0_84, hI1_85, hk1_86⟩ := hq80
      have hu : ∀ b, b ≠ X → b ≠ (g.lk (g.lk (g.lk pr 2) n) 6) → b ≠ (g.lk (g.lk (g.lk (g.lk pr 2) n) 6) 2) → b ≠ (g.lk (g.lk (g.lk pr 2) le) 6) → b ≠ (g.lk (g.lk (g.lk (g.lk pr 2) le) 6) 2) → b ≠ (g.lk (g.lk (g.lk pr 2) ri) 6) → b ≠ (g.lk (g.lk (g.lk (g.lk pr 2) ri) 6) 2) → b ≠ (g.lk X 6) → b ≠ (g.lk (g.lk X 6) 0) → b ≠ (g.lk (g.lk X 6) 1) → f79 b = f b := fun b q0 q1 q2 q3 q4 q5 q6 q7 q8 q9 => (hk1_86 b q1 q2).trans (hu b q0 q1 q2 q3 q4 q5 q6 q7 q8 q9)
      have eN := (hk1_86 (g.lk (g.lk pr 2) n) (tg_ne (lo_e25 hL _ (lo_k7_2 hL _ t_pr) _ (by omega)) (lo_k6_6 hL _ (lo_e25 hL _ (lo_k7_2 hL _ t_pr) _ (by omega))) (by decide)) (tg_ne (lo_e25 hL _ (lo_k7_2 hL _ t_pr) _ (by omega)) (lo_k5_2 hL _ (lo_k6_6 hL _ (lo_e25 hL _ (lo_k7_2 hL _ t_pr) _ (by omega)))) (by decide))).trans eN
      have eNx := (hk1_86 (g.lk (g.lk pr 2) le) (tg_ne (lo_e25 hL _ (lo_k7_2 hL _ t_pr) _ (by omega)) (lo_k6_6 hL _ (lo_e25 hL _ (lo_k7_2 hL _ t_pr) _ (by omega))) (by decide)) (tg_ne (lo_e25 hL _ (lo_k7_2 hL _ t_pr) _ (by omega)) (lo_k5_2 hL _ (lo_k6_6 hL _ (lo_e25 hL _ (lo_k7_2 hL _ t_pr) _ (by omega)))) (by decide))).trans eNx
      have eax := (hk1_86 (g.lk (g.lk (g.lk pr 2) le) 6) (tn_ne ((lo_n6 hL _ (lo_e25 hL _ (lo_k7_2 hL _ t_pr) _ (by omega))).trans (lo_n25 hL _ (lo_k7_2 hL _ t_pr) _ (by omega))) ((lo_n6 hL _ (lo_e25 hL _ (lo_k7_2 hL _ t_pr) _ (by omega))).trans (lo_n25 hL _ (lo_k7_2 hL _ t_pr) _ (by omega))) (by omega)) (tg_ne (lo_k6_6 hL _ (lo_e25 hL _ (lo_k7_2 hL _ t_pr) _ (by omega))) (lo_k5_2 hL _ (lo_k6_6 hL _ (lo_e25 hL _ (lo_k7_2 hL _ t_pr) _ (by omega)))) (by decide))).trans eax
      have ebx := (hk1_86 (g.lk (g.lk (g.lk (g.lk pr 2) le) 6) 2) (tg_ne (lo_k5_2 hL _ (lo_k6_6 hL _ (lo_e25 hL _ (lo_k7_2 hL _ t_pr) _ (by omega)))) (lo_k6_6 hL _ (lo_e25 hL _ (lo_k7_2 hL _ t_pr) _ (by omega))) (by decide)) (fun q9 => (tn_ne ((lo_n6 hL _ (lo_e25 hL _ (lo_k7_2 hL _ t_pr) _ (by omega))).trans (lo_n25 hL _ (lo_k7_2 hL _ t_pr) _ (by omega))) ((lo_n6 hL _ (lo_e25 hL _ (lo_k7_2 hL _ t_pr) _ (by omega))).trans (lo_n25 hL _ (lo_k7_2 hL _ t_pr) _ (by omega))) (by omega)) (lo_inj5 hL _ _ (lo_k6_6 hL _ (lo_e25 hL _ (lo_k7_2 hL _ t_pr) _ (by omega))) (lo_k6_6 hL _ (lo_e25 hL _ (lo_k7_2 hL _ t_pr) _ (by omega))) q9))).trans ebx
      have eNy := (hk1_86 (g.lk (g.lk pr 2) ri) (tg_ne (lo_e25 hL _ (lo_k7_2 hL _ t_pr) _ (by omega)) (lo_k6_6 hL _ (lo_e25 hL _ (lo_k7_2 hL _ t_pr) _ (by omega))) (by decide)) (tg_ne (lo_e25 hL _ (lo_k7_2 hL _ t_pr) _ (by omega)) (lo_k5_2 hL _ (lo_k6_6 hL _ (lo_e25 hL _ (lo_k7_2 hL _ t_pr) _ (by omega)))) (by decide))).trans eNy
      have e46 := (hk1_86 X (tg_ne t_X (lo_k6_6 hL _ (lo_e25 hL _ (lo_k7_2 hL _ t_pr) _ (by omega))) (by decide)) (tg_ne t_X (lo_k5_2 hL _ (lo_k6_6 hL _ (lo_e25 hL _ (lo_k7_2 hL _ t_pr) _ (by omega)))) (by decide))).trans e46
      have e49 := (hk1_86 pr (tg_ne t_pr (lo_k6_6 hL _ (lo_e25 hL _ (lo_k7_2 hL _ t_pr) _ (by omega))) (by decide)) (tg_ne t_pr (lo_k5_2 hL _ (lo_k6_6 hL _ (lo_e25 hL _ (lo_k7_2 hL _ t_pr) _ (by omega)))) (by decide))).trans e49
      have e54 := (hk1_86 (g.lk pr 2) (tg_ne (lo_k7_2 hL _ t_pr) (lo_k6_6 hL _ (lo_e25 hL _ (lo_k7_2 hL _ t_pr) _ (by omega))) (by decide)) (tg_ne (lo_k7_2 hL _ t_pr) (lo_k5_2 hL _ (lo_k6_6 hL _ (lo_e25 hL _ (lo_k7_2 hL _ t_pr) _ (by omega)))) (by decide))).trans e54
      have e70 := (hk1_86 (g.lk (g.lk (g.lk pr 2) ri) 6) (tn_ne ((lo_n6 hL _ (lo_e25 hL _ (lo_k7_2 hL _ t_pr) _ (by omega))).trans (lo_n25 hL _ (lo_k7_2 hL _ t_pr) _ (by omega))) ((lo_n6 hL _ (lo_e25 hL _ (lo_k7_2 hL _ t_pr) _ (by omega))).trans (lo_n25 hL _ (lo_k7_2 hL _ t_pr) _ (by omega))) (by omega)) (tg_ne (lo_k6_6 hL _ (lo_e25 hL _ (lo_k7_2 hL _ t_pr) _ (by omega))) (lo_k5_2 hL _ (lo_k6_6 hL _ (lo_e25 hL _ (lo_k7_2 hL _ t_pr) _ (by omega)))) (by decide))).trans e70
      have e71 := (hk1_86 (g.lk (g.lk (g.lk (g.lk pr 2) ri) 6) 2) (tg_ne (lo_k5_2 hL _ (lo_k6_6 hL _ (lo_e25 hL _ (lo_k7_2 hL _ t_pr) _ (by omega)))) (lo_k6_6 hL _ (lo_e25 hL _ (lo_k7_2 hL _ t_pr) _ (by omega))) (by decide)) (fun q9 => (tn_ne ((lo_n6 hL _ (lo_e25 hL _ (lo_k7_2 hL _ t_pr) _ (by omega))).trans (lo_n25 hL _ (lo_k7_2 hL _ t_pr) _ (by omega))) ((lo_n6 hL _ (lo_e25 hL _ (lo_k7_2 hL _ t_pr) _ (by omega))).trans (lo_n25 hL _ (lo_k7_2 hL _ t_pr) _ (by omega))) (by omega)) (lo_inj5 hL _ _ (lo_k6_6 hL _ (lo_e25 hL _ (lo_k7_2 hL _ t_pr) _ (by omega))) (lo_k6_6 hL _ (lo_e25 hL _ (lo_k7_2 hL _ t_pr) _ (by omega))) q9))).trans e71
      obtain ⟨sg87, nn88, dd89, e90, e91, hN92⟩ := lv_82
      have c93 : ∀ i, i < 15 → ∃ k, k < 1000000000 ∧ dd89 i = nI k := hN92.2.1
      have hnn88 : nn88 ≤ 15 := hN92.1
      refine lv_istore (lv' := [(4, .int r78), (3, .ref (g.lk (g.lk (g.lk pr 2) ri) 6)), (2, .ref (g.lk (g.lk (g.lk pr 2) le) 6)), (0, .ref X), (1, .ref (g.lk (g.lk pr 2) n))]) hx hb d_NRunner_operateLong_109 hl (by decide) rfl (fun ls hl => ?_)
      refine lv_goto (tgt := 183) hx hb d_NRunner_operateLong_111 (by decide) ?_
      refine lv_iload hx hb d_NRunner_operateLong_183 (lv_at hl 0 rfl) ?_
      refine lv_if_eq (tgt := 192) hx hb d_NRunner_operateLong_185 (by decide) (fun b94 => ?_) (fun b94 => ?_)
      · skip
        have hr95 : r78 = nI 0 := b94
        have hi96 := i0_84 hr95
        have hfit8 : T12 ≤ (opv 2 vx vy).natAbs := by rw [← (show vx + sg67.toInt * _ = opv 2 vx vy from congrArg (vx + ·) hFy.1.2.2.2.2.symm)]; exact i0_84 hr95
        refine lv_iconst (v := nI 2) hx hb d_NRunner_operateLong_192 (by decide) ?_
        exact pe_iret hx hb hr hlocks hK hP hD hS d_NRunner_operateLong_193 ⟨⟨(lo + ((nI 1))), e46⟩, (congrArg nI (otr_2 (by decide) (Or.inl (by decide)) hfit8).symm), (fun z9 => absurd (z9.symm.trans (otr_2 (by decide) (Or.inl (by decide)) hfit8)) (by decide)), hI1_85, hu⟩
      · skip
        have hr97 : r78 = nI 1 := (bl_1 bo_81 b94)
        have hi98 := i1_83 hr97
        have hfit9 : (opv 2 vx vy).natAbs < T12 := by rw [← (show vx + sg67.toInt * _ = opv 2 vx vy from congrArg (vx + ·) hFy.1.2.2.2.2.symm)]; exact i1_83 hr97
        refine lv_iconst (v := nI 0) hx hb d_NRunner_operateLong_188 (by decide) ?_
        refine lv_goto (tgt := 193) hx hb d_NRunner_operateLong_189 (by decide) ?_
        exact pe_iret hx hb hr hlocks hK hP hD hS d_NRunner_operateLong_193 ⟨⟨(lo + ((nI 1))), e46⟩, (congrArg nI (otr_0 (by decide) (Or.inl (by decide)) hfit9).symm), (fun _ => ⟨_, _, _, e90, e91, LNV_cast hN92 (show vx + sg67.toInt * _ = opv 2 vx vy from congrArg (vx + ·) hFy.1.2.2.2.2.symm)⟩), hI1_85, hu⟩
    · skip
      obtain ⟨kx1, kx2, kx3, mx, eNx, hsx, hlx, htx⟩ := hVx
      obtain ⟨ky1, ky2, ky3, my, eNy, hsy, hly, hty⟩ := hVy
      obtain ⟨sgy, ny, dy, eay, eby, hNy⟩ := hly rfl
      have hFy : LNF sgy ny dy vy := ⟨hNy, hty⟩
      have cby : ∀ i, i < 15 → ∃ k, k < 1000000000 ∧ dy i = nI k := hNy.2.1
      have hny : ny ≤ 15 := hNy.1
      refine lv_aload_n hx hb d_NRunner_operateLong_0 rfl (lv_at hl 0 rfl) ?_
      refine lv_dup hx hb d_NRunner_operateLong_1 rfl ?_
      refine pf_get (v := .int lo) (C := "BigRunner$Runner") (T := FT8) (N := 13) hx hb (hw8 hB _) (fun _ h9 => h9) hown hK hP (lo_in hL t_X (by decide)) eX rfl 11 (by decide) (wd_347 hB _) rfl d_NRunner_operateLong_2 ?_
      refine lv_iconst (v := nI 1) hx hb d_NRunner_operateLong_5 (by decide) ?_
      refine lv_iadd hx hb d_NRunner_operateLong_6 ?_
      refine pf_put (v := .int (lo + ((nI 1)))) (ty := .int) (fs' := [.ref pr, .ref (g.lk X 1), .int (nI ix), .ref (g.lk X 3), .ref (g.lk X 4), .ref (g.lk X 5), .ref (g.lk X 6), .ref (g.lk X 7), .int (nI os), .int (nI st), .int mo, .int (lo + ((nI 1))), .int (nI tr)]) (C := "BigRunner$Runner") (T := FT8) (N := 13) hx hb (hw8 hB _) (fun _ h9 => h9) TY8 ok8 nm8 hown hK hP hD hS (lo_in hL t_X (by decide)) eX rfl 11 (by decide) (wd_347 hB _) rfl (by decide +kernel) rfl rfl (Nat.le_of_ble_eq_true rfl) rfl d_NRunner_operateLong_7 (fun f99 H locs e100 k101 hP hD hS => ?_)
      have eN := (k101 (g.lk (g.lk pr 2) n) (tg_ne (lo_e25 hL _ (lo_k7_2 hL _ t_pr) _ (by omega)) t_X (by decide))).trans eN
      have eNx := (k101 (g.lk (g.lk pr 2) le) (tg_ne (lo_e25 hL _ (lo_k7_2 hL _ t_pr) _ (by omega)) t_X (by decide))).trans eNx
      have eNy := (k101 (g.lk (g.lk pr 2) ri) (tg_ne (lo_e25 hL _ (lo_k7_2 hL _ t_pr) _ (by omega)) t_X (by decide))).trans eNy
      have eay := (k101 (g.lk (g.lk (g.lk pr 2) ri) 6) (tg_ne (lo_k6_6 hL _ (lo_e25 hL _ (lo_k7_2 hL _ t_pr) _ (by omega))) t_X (by decide))).trans eay
      have eby := (k101 (g.lk (g.lk (g.lk (g.lk pr 2) ri) 6) 2) (tg_ne (lo_k5_2 hL _ (lo_k6_6 hL _ (lo_e25 hL _ (lo_k7_2 hL _ t_pr) _ (by omega)))) t_X (by decide))).trans eby
      have hu : ∀ b, b ≠ X → b ≠ (g.lk (g.lk (g.lk pr 2) n) 6) → b ≠ (g.lk (g.lk (g.lk (g.lk pr 2) n) 6) 2) → b ≠ (g.lk (g.lk (g.lk pr 2) le) 6) → b ≠ (g.lk (g.lk (g.lk (g.lk pr 2) le) 6) 2) → b ≠ (g.lk (g.lk (g.lk pr 2) ri) 6) → b ≠ (g.lk (g.lk (g.lk (g.lk pr 2) ri) 6) 2) → b ≠ (g.lk X 6) → b ≠ (g.lk (g.lk X 6) 0) → b ≠ (g.lk (g.lk X 6) 1) → f99 b = f b := fun b q0 q1 q2 q3 q4 q5 q6 q7 q8 q9 => (k101 b q0).trans (hu b q0 q1 q2 q3 q4 q5 q6 q7 q8 q9)
      have hk102 : ∀ b, b ≠ X → f99 b = f b := k101
      refine lv_aload_n hx hb d_NRunner_operateLong_10 rfl (lv_at hl 0 rfl) ?_
      refine pf_get (v := .ref pr) (C := "BigRunner$Runner") (T := FT8) (N := 13) hx hb (hw8 hB _) (fun _ h9 => h9) hown hK hP (lo_in hL t_X (by decide)) e100 rfl 0 (by decide) (wd_330 hB _) rfl d_NRunner_operateLong_11 ?_
      obtain ⟨sc_104, nc_105, e103, c106, c107⟩ := oc_7.of t_pr (hI.1 pr)
      replace e103 := (hk102 pr (tg_ne t_pr t_X (by decide))).trans e103
      refine pf_get (v := .ref (g.lk pr 2)) (C := "BigRunner$Program") (T := FT6) (N := 6) hx hb (hw6 hB _) (fun _ h9 => h9) hown hK hP (lo_in hL t_pr (by decide)) e103 rfl 2 (by decide) (wd_249 hB _) rfl d_NRunner_operateLong_14 ?_
      refine lv_aload_n hx hb d_NRunner_operateLong_17 rfl (lv_at hl 1 rfl) ?_
      refine pf_get (v := .int (nI le)) (C := "BigRunner$Node") (T := FT5) (N := 7) hx hb (hw5 hB _) (fun _ h9 => h9) hown hK hP (lo_in hL (lo_e25 hL _ (lo_k7_2 hL _ t_pr) _ (by omega)) (by decide)) eN rfl 1 (by decide) (wd_208 hB _) rfl d_NRunner_operateLong_18 ?_
      have e108 := oc_25.of (lo_k7_2 hL _ t_pr) (hI.1 (g.lk pr 2))
      replace e108 := (hk102 (g.lk pr 2) (tg_ne (lo_k7_2 hL _ t_pr) t_X (by decide))).trans e108
      refine pf_aald (i := le) hx hb hK hP (lo_in hL (lo_k7_2 hL _ t_pr) (by decide)) e108 (lo_t25 hL _ (lo_k7_2 hL _ t_pr)) (by omega) (by decide) d_NRunner_operateLong_21 ?_
      have hI109 := iv_1 hI hL t_X (by decide) hk102 (oc_9.mk t_X (⟨pr, ix, os, st, mo, ((lo + ((nI 1)))), tr, e100, t_pr, (by omega), (by omega), (by omega), (by omega)⟩))
      refine pcc_r (va_runV (C := "BigRunner$Node") (As := []) (rest := []) ⟨hx, hb, hml, hown, tb_nil⟩ (v_widenedS l g H.size f99 ((g.lk (g.lk pr 2) le)) kx1 kx2 kx3 mx hL (lo_e25 hL _ (lo_k7_2 hL _ t_pr) _ (by omega)) hI109 eNx (by rw [(hsx rfl).1]; exact (hsx rfl).2)) ⟨(callB_of 0 (tb_one (wd_761 hB _)) tb_good1 rfl rfl rfl (wd_77 hB _) (wd_758 hB _) (by decide +kernel) ⟨Nat.le_of_ble_eq_true rfl, Nat.le_of_ble_eq_true rfl⟩), (wd_759 hB _), (wd_760 hB _)⟩ ⟨pe_bl, pg_recv (ci := 5) hK hP (lo_in hL (lo_e25 hL _ (lo_k7_2 hL _ t_pr) _ (by omega)) (by decide)) eNx rfl, pe_pre hB hK hP hD⟩ rfl rfl hl.1 rfl (lv_room (Nat.le_of_ble_eq_true rfl)) d_NRunner_operateLong_22 ⟨Nat.le_of_ble_eq_true rfl, Nat.le_of_ble_eq_true rfl⟩) hS (fun r110 f111 H locs hq112 hP hD hS => ?_)
      obtain ⟨ra_113, lv_114, hI1_115, hk1_116⟩ := hq112
      subst ra_113
      have hu : ∀ b, b ≠ X → b ≠ (g.lk (g.lk (g.lk pr 2) n) 6) → b ≠ (g.lk (g.lk (g.lk (g.lk pr 2) n) 6) 2) → b ≠ (g.lk (g.lk (g.lk pr 2) le) 6) → b ≠ (g.lk (g.lk (g.lk (g.lk pr 2) le) 6) 2) → b ≠ (g.lk (g.lk (g.lk pr 2) ri) 6) → b ≠ (g.lk (g.lk (g.lk (g.lk pr 2) ri) 6) 2) → b ≠ (g.lk X 6) → b ≠ (g.lk (g.lk X 6) 0) → b ≠ (g.lk (g.lk X 6) 1) → f111 b = f b := fun b q0 q1 q2 q3 q4 q5 q6 q7 q8 q9 => (hk1_116 b q3 q4).trans (hu b q0 q1 q2 q3 q4 q5 q6 q7 q8 q9)
      have eN := (hk1_116 (g.lk (g.lk pr 2) n) (tg_ne (lo_e25 hL _ (lo_k7_2 hL _ t_pr) _ (by omega)) (lo_k6_6 hL _ (lo_e25 hL _ (lo_k7_2 hL _ t_pr) _ (by omega))) (by decide)) (tg_ne (lo_e25 hL _ (lo_k7_2 hL _ t_pr) _ (by omega)) (lo_k5_2 hL _ (lo_k6_6 hL _ (lo_e25 hL _ (lo_k7_2 hL _ t_pr) _ (by omega)))) (by decide))).trans eN
      have eNx := (hk1_116 (g.lk (g.lk pr 2) le) (tg_ne (lo_e25 hL _ (lo_k7_2 hL _ t_pr) _ (by omega)) (lo_k6_6 hL _ (lo_e25 hL _ (lo_k7_2 hL _ t_pr) _ (by omega))) (by decide)) (tg_ne (lo_e25 hL _ (lo_k7_2 hL _ t_pr) _ (by omega)) (lo_k5_2 hL _ (lo_k6_6 hL _ (lo_e25 hL _ (lo_k7_2 hL _ t_pr) _ (by omega)))) (by decide))).trans eNx
      have eNy := (hk1_116 (g.lk (g.lk pr 2) ri) (tg_ne (lo_e25 hL _ (lo_k7_2 hL _ t_pr) _ (by omega)) (lo_k6_6 hL _ (lo_e25 hL _ (lo_k7_2 hL _ t_pr) _ (by omega))) (by decide)) (tg_ne (lo_e25 hL _ (lo_k7_2 hL _ t_pr) _ (by omega)) (lo_k5_2 hL _ (lo_k6_6 hL _ (lo_e25 hL _ (lo_k7_2 hL _ t_pr) _ (by omega)))) (by decide))).trans eNy
      have eay := (hk1_116 (g.lk (g.lk (g.lk pr 2) ri) 6) (tn_ne ((lo_n6 hL _ (lo_e25 hL _ (lo_k7_2 hL _ t_pr) _ (by omega))).trans (lo_n25 hL _ (lo_k7_2 hL _ t_pr) _ (by omega))) ((lo_n6 hL _ (lo_e25 hL _ (lo_k7_2 hL _ t_pr) _ (by omega))).trans (lo_n25 hL _ (lo_k7_2 hL _ t_pr) _ (by omega))) (by omega)) (tg_ne (lo_k6_6 hL _ (lo_e25 hL _ (lo_k7_2 hL _ t_pr) _ (by omega))) (lo_k5_2 hL _ (lo_k6_6 hL _ (lo_e25 hL _ (lo_k7_2 hL _ t_pr) _ (by omega)))) (by decide))).trans eay
      have eby := (hk1_116 (g.lk (g.lk (g.lk (g.lk pr 2) ri) 6) 2) (tg_ne (lo_k5_2 hL _ (lo_k6_6 hL _ (lo_e25 hL _ (lo_k7_2 hL _ t_pr) _ (by omega)))) (lo_k6_6 hL _ (lo_e25 hL _ (lo_k7_2 hL _ t_pr) _ (by omega))) (by decide)) (fun q9 => (tn_ne ((lo_n6 hL _ (lo_e25 hL _ (lo_k7_2 hL _ t_pr) _ (by omega))).trans (lo_n25 hL _ (lo_k7_2 hL _ t_pr) _ (by omega))) ((lo_n6 hL _ (lo_e25 hL _ (lo_k7_2 hL _ t_pr) _ (by omega))).trans (lo_n25 hL _ (lo_k7_2 hL _ t_pr) _ (by omega))) (by omega)) (lo_inj5 hL _ _ (lo_k6_6 hL _ (lo_e25 hL _ (lo_k7_2 hL _ t_pr) _ (by omega))) (lo_k6_6 hL _ (lo_e25 hL _ (lo_k7_2 hL _ t_pr) _ (by omega))) q9))).trans eby
      have e100 := (hk1_116 X (tg_ne t_X (lo_k6_6 hL _ (lo_e25 hL _ (lo_k7_2 hL _ t_pr) _ (by omega))) (by decide)) (tg_ne t_X (lo_k5_2 hL _ (lo_k6_6 hL _ (lo_e25 hL _ (lo_k7_2 hL _ t_pr) _ (by omega)))) (by decide))).trans e100
      have e103 := (hk1_116 pr (tg_ne t_pr (lo_k6_6 hL _ (lo_e25 hL _ (lo_k7_2 hL _ t_pr) _ (by omega))) (by decide)) (tg_ne t_pr (lo_k5_2 hL _ (lo_k6_6 hL _ (lo_e25 hL _ (lo_k7_2 hL _ t_pr) _ (by omega)))) (by decide))).trans e103
      have e108 := (hk1_116 (g.lk pr 2) (tg_ne (lo_k7_2 hL _ t_pr) (lo_k6_6 hL _ (lo_e25 hL _ (lo_k7_2 hL _ t_pr) _ (by omega))) (by decide)) (tg_ne (lo_k7_2 hL _ t_pr) (lo_k5_2 hL _ (lo_k6_6 hL _ (lo_e25 hL _ (lo_k7_2 hL _ t_pr) _ (by omega)))) (by decide))).trans e108
      obtain ⟨sg117, nn118, dd119, e120, e121, hN122⟩ := lv_114
      have c123 : ∀ i, i < 15 → ∃ k, k < 1000000000 ∧ dd119 i = nI k := hN122.2.1
      have hnn118 : nn118 ≤ 15 := hN122.1
      refine lv_astore_n (lv' := [(2, .ref (g.lk (g.lk (g.lk pr 2) le) 6)), (0, .ref X), (1, .ref (g.lk (g.lk pr 2) n))]) hx hb d_NRunner_operateLong_25 rfl hl (by decide) rfl (fun ls hl => ?_)
      have hFx : LNF sg117 nn118 dd119 vx := ⟨LNV_cast hN122 (hsx rfl).1, htx⟩
      refine lv_aload_n hx hb d_NRunner_operateLong_26 rfl (lv_at hl 1 rfl) ?_
      refine pf_get (v := .ref pr) (C := "BigRunner$Runner") (T := FT8) (N := 13) hx hb (hw8 hB _) (fun _ h9 => h9) hown hK hP (lo_in hL t_X (by decide)) e100 rfl 0 (by decide) (wd_330 hB _) rfl d_NRunner_operateLong_27 ?_
      refine pf_get (v := .ref (g.lk pr 2)) (C := "BigRunner$Program") (T := FT6) (N := 6) hx hb (hw6 hB _) (fun _ h9 => h9) hown hK hP (lo_in hL t_pr (by decide)) e103 rfl 2 (by decide) (wd_249 hB _) rfl d_NRunner_operateLong_30 ?_
      refine lv_aload_n hx hb d_NRunner_operateLong_33 rfl (lv_at hl 2 rfl) ?_
      refine pf_get (v := .int (nI ri)) (C := "BigRunner$Node") (T := FT5) (N := 7) hx hb (hw5 hB _) (fun _ h9 => h9) hown hK hP (lo_in hL (lo_e25 hL _ (lo_k7_2 hL _ t_pr) _ (by omega)) (by decide)) eN rfl 2 (by decide) (wd_212 hB _) rfl d_NRunner_operateLong_34 ?_
      refine pf_aald (i := ri) hx hb hK hP (lo_in hL (lo_k7_2 hL _ t_pr) (by decide)) e108 (lo_t25 hL _ (lo_k7_2 hL _ t_pr)) (by omega) (by decide) d_NRunner_operateLong_37 ?_
      refine pcc_r (va_runV (C := "BigRunner$Node") (As := []) (rest := []) ⟨hx, hb, hml, hown, tb_nil⟩ (v_widenedL l g H.size f111 ((g.lk (g.lk pr 2) ri)) ky1 ky2 ky3 my hL (lo_e25 hL _ (lo_k7_2 hL _ t_pr) _ (by omega)) hI1_115.1 eNy) ⟨(callB_of 0 (tb_one (wd_761 hB _)) tb_good1 rfl rfl rfl (wd_77 hB _) (wd_758 hB _) (by decide +kernel) ⟨Nat.le_of_ble_eq_true rfl, Nat.le_of_ble_eq_true rfl⟩), (wd_759 hB _), (wd_760 hB _)⟩ ⟨pe_bl, pg_recv (ci := 5) hK hP (lo_in hL (lo_e25 hL _ (lo_k7_2 hL _ t_pr) _ (by omega)) (by decide)) eNy rfl, pe_pre hB hK hP hD⟩ rfl rfl hl.1 rfl (lv_room (Nat.le_of_ble_eq_true rfl)) d_NRunner_operateLong_38 ⟨Nat.le_of_ble_eq_true rfl, Nat.le_of_ble_eq_true rfl⟩) hS (fun r124 f125 H locs hq126 hP hD hS => ?_)
      obtain ⟨ra_127, rfl⟩ := hq126
      subst ra_127
      refine lv_astore_n (lv' := [(3, .ref (g.lk (g.lk (g.lk pr 2) ri) 6)), (2, .ref (g.lk (g.lk (g.lk pr 2) le) 6)), (0, .ref X), (1, .ref (g.lk (g.lk pr 2) n))]) hx hb d_NRunner_operateLong_41 rfl hl (by decide) rfl (fun ls hl => ?_)
      refine lv_iconst (v := nI 1) hx hb d_NRunner_operateLong_42 (by decide) ?_
      refine lv_istore (lv' := [(4, .int (nI 1)), (3, .ref (g.lk (g.lk (g.lk pr 2) ri) 6)), (2, .ref (g.lk (g.lk (g.lk pr 2) le) 6)), (0, .ref X), (1, .ref (g.lk (g.lk pr 2) n))]) hx hb d_NRunner_operateLong_43 hl (by decide) rfl (fun ls hl => ?_)
      refine lv_aload_n hx hb d_NRunner_operateLong_45 rfl (lv_at hl 4 rfl) ?_
      refine pf_get (v := .int (nI 3)) (C := "BigRunner$Node") (T := FT5) (N := 7) hx hb (hw5 hB _) (fun _ h9 => h9) hown hK hP (lo_in hL (lo_e25 hL _ (lo_k7_2 hL _ t_pr) _ (by omega)) (by decide)) eN rfl 0 (by decide) (wd_204 hB _) rfl d_NRunner_operateLong_46 ?_
      refine lv_tableIn (off := 47) (tgt := 96) hx hb d_NRunner_operateLong_49 (by rw [nI_toInt (by omega)]; omega) (by rw [nI_toInt (by omega)]; omega) (by rw [nI_toInt (by omega)]; rfl) (by decide) ?_
      refine lv_aload_n hx hb d_NRunner_operateLong_96 rfl (lv_at hl 4 rfl) ?_
      refine pf_get (v := .ref (g.lk (g.lk (g.lk pr 2) n) 6)) (C := "BigRunner$Node") (T := FT5) (N := 7) hx hb (hw5 hB _) (fun _ h9 => h9) hown hK hP (lo_in hL (lo_e25 hL _ (lo_k7_2 hL _ t_pr) _ (by omega)) (by decide)) eN rfl 6 (by decide) (wd_224 hB _) rfl d_NRunner_operateLong_97 ?_
      refine lv_aload_n hx hb d_NRunner_operateLong_100 rfl (lv_at hl 2 rfl) ?_
      refine lv_aload_n hx hb d_NRunner_operateLong_101 rfl (lv_at hl 1 rfl) ?_
      refine lv_aload_n hx hb d_NRunner_operateLong_102 rfl (lv_at hl 1 rfl) ?_
      refine pf_get (v := .int sgy) (C := "BigRunner$LongNumber") (T := FT4) (N := 3) hx hb (hw4 hB _) (fun _ h9 => h9) hown hK hP (lo_in hL (lo_k6_6 hL _ (lo_e25 hL _ (lo_k7_2 hL _ t_pr) _ (by omega))) (by decide)) eay rfl 0 (by decide) (wd_189 hB _) rfl d_NRunner_operateLong_103 ?_
      obtain ⟨sg_129, n_130, e128, c131⟩ := oc_5.of (lo_k6_6 hL _ (lo_e25 hL _ (lo_k7_2 hL _ t_pr) _ (by omega))) (hI1_115.1 (g.lk (g.lk (g.lk pr 2) n) 6))
      refine pcc_i (va_runV (C := "BigRunner$LongNumber") (As := [.ref (g.lk (g.lk (g.lk pr 2) le) 6), .ref (g.lk (g.lk (g.lk pr 2) ri) 6), .int sgy]) (rest := []) ⟨hx, hb, hml, hown, tb_nil⟩ (v_setSum l g H.size f111 ((g.lk (g.lk (g.lk pr 2) n) 6)) ((g.lk (g.lk (g.lk pr 2) le) 6)) sg117 nn118 dd119 vx ((g.lk (g.lk (g.lk pr 2) ri) 6)) sgy ny dy vy sgy hL (lo_k6_6 hL _ (lo_e25 hL _ (lo_k7_2 hL _ t_pr) _ (by omega))) (lo_k6_6 hL _ (lo_e25 hL _ (lo_k7_2 hL _ t_pr) _ (by omega))) (lo_k6_6 hL _ (lo_e25 hL _ (lo_k7_2 hL _ t_pr) _ (by omega))) hI1_115 e120 e121 hFx eay eby hFy (tn_ne ((lo_n6 hL _ (lo_e25 hL _ (lo_k7_2 hL _ t_pr) _ (by omega))).trans (lo_n25 hL _ (lo_k7_2 hL _ t_pr) _ (by omega))) ((lo_n6 hL _ (lo_e25 hL _ (lo_k7_2 hL _ t_pr) _ (by omega))).trans (lo_n25 hL _ (lo_k7_2 hL _ t_pr) _ (by omega))) (by omega)) (tn_ne ((lo_n6 hL _ (lo_e25 hL _ (lo_k7_2 hL _ t_pr) _ (by omega))).trans (lo_n25 hL _ (lo_k7_2 hL _ t_pr) _ (by omega))) ((lo_n6 hL _ (lo_e25 hL _ (lo_k7_2 hL _ t_pr) _ (by omega))).trans (lo_n25 hL _ (lo_k7_2 hL _ t_pr) _ (by omega))) (by omega)) hFy.1.2.2.1) ⟨(callB_of 3 (tb_one (wd_766 hB _)) tb_good1 rfl rfl rfl (wd_78 hB _) (wd_763 hB _) (by decide +kernel) ⟨Nat.le_of_ble_eq_true rfl, Nat.le_of_ble_eq_true rfl⟩), (wd_764 hB _), (wd_765 hB _)⟩ ⟨pe_bl, pg_recv (ci := 4) hK hP (lo_in hL (lo_k6_6 hL _ (lo_e25 hL _ (lo_k7_2 hL _ t_pr) _ (by omega))) (by decide)) e128 rfl, pe_pre hB hK hP hD⟩ rfl rfl hl.1 rfl (lv_room (Nat.le_of_ble_eq_true rfl)) d_NRunner_operateLong_106 ⟨Nat.le_of_ble_eq_true rfl, Nat.le_of_ble_eq_true rfl⟩) hS (fun r132 f133 H locs hq134 hP hD hS => ?_)
      obtain ⟨bo_135, lv_136, i1_137, i0_138, hI1_139, hk1_140⟩ := hq134
      have hu : ∀ b, b ≠ X → b ≠ (g.lk (g.lk (g.lk pr 2) n) 6) → b ≠ (g.lk (g.lk (g.lk (g.lk pr 2) n) 6) 2) → b ≠ (g.lk (g.lk (g.lk pr 2) le) 6) → b ≠ (g.lk (g.lk (g.lk (g.lk pr 2) le) 6) 2) → b ≠ (g.lk (g.lk (g.lk pr 2) ri) 6) → b ≠ (g.lk (g.lk (g.lk (g.lk pr 2) ri) 6) 2) → b ≠ (g.lk X 6) → b ≠ (g.lk (g.lk X 6) 0) → b ≠ (g.lk (g.lk X 6) 1) → f133 b = f b := fun b q0 q1 q2 q3 q4 q5 q6 q7 q8 q9 => (hk1_140 b q1 q2).trans (hu b q0 q1 q2 q3 q4 q5 q6 q7 q8 q9)
      have eN := (hk1_140 (g.lk (g.lk pr 2) n) (tg_ne (lo_e25 hL _ (lo_k7_2 hL _ t_pr) _ (by omega)) (lo_k6_6 hL _ (lo_e25 hL _ (lo_k7_2 hL _ t_pr) _ (by omega))) (by decide)) (tg_ne (lo_e25 hL _ (lo_k7_2 hL _ t_pr) _ (by omega)) (lo_k5_2 hL _ (lo_k6_6 hL _ (lo_e25 hL _ (lo_k7_2 hL _ t_pr) _ (by omega)))) (by decide))).trans eN
      have eNx := (hk1_140 (g.lk (g.lk pr 2) le) (tg_ne (lo_e25 hL _ (lo_k7_2 hL _ t_pr) _ (by omega)) (lo_k6_6 hL _ (lo_e25 hL _ (lo_k7_2 hL _ t_pr) _ (by omega))) (by decide)) (tg_ne (lo_e25 hL _ (lo_k7_2 hL _ t_pr) _ (by omega)) (lo_k5_2 hL _ (lo_k6_6 hL _ (lo_e25 hL _ (lo_k7_2 hL _ t_pr) _ (by omega)))) (by decide))).trans eNx
      have eNy := (hk1_140 (g.lk (g.lk pr 2) ri) (tg_ne (lo_e25 hL _ (lo_k7_2 hL _ t_pr) _ (by omega)) (lo_k6_6 hL _ (lo_e25 hL _ (lo_k7_2 hL _ t_pr) _ (by omega))) (by decide)) (tg_ne (lo_e25 hL _ (lo_k7_2 hL _ t_pr) _ (by omega)) (lo_k5_2 hL _ (lo_k6_6 hL _ (lo_e25 hL _ (lo_k7_2 hL _ t_pr) _ (by omega)))) (by decide))).trans eNy
      have eay := (hk1_140 (g.lk (g.lk (g.lk pr 2) ri) 6) (tn_ne ((lo_n6 hL _ (lo_e25 hL _ (lo_k7_2 hL _ t_pr) _ (by omega))).trans (lo_n25 hL _ (lo_k7_2 hL _ t_pr) _ (by omega))) ((lo_n6 hL _ (lo_e25 hL _ (lo_k7_2 hL _ t_pr) _ (by omega))).trans (lo_n25 hL _ (lo_k7_2 hL _ t_pr) _ (by omega))) (by omega)) (tg_ne (lo_k6_6 hL _ (lo_e25 hL _ (lo_k7_2 hL _ t_pr) _ (by omega))) (lo_k5_2 hL _ (lo_k6_6 hL _ (lo_e25 hL _ (lo_k7_2 hL _ t_pr) _ (by omega)))) (by decide))).trans eay
      have eby := (hk1_140 (g.lk (g.lk (g.lk (g.lk pr 2) ri) 6) 2) (tg_ne (lo_k5_2 hL _ (lo_k6_6 hL _ (lo_e25 hL _ (lo_k7_2 hL _ t_pr) _ (by omega)))) (lo_k6_6 hL _ (lo_e25 hL _ (lo_k7_2 hL _ t_pr) _ (by omega))) (by decide)) (fun q9 => (tn_ne ((lo_n6 hL _ (lo_e25 hL _ (lo_k7_2 hL _ t_pr) _ (by omega))).trans (lo_n25 hL _ (lo_k7_2 hL _ t_pr) _ (by omega))) ((lo_n6 hL _ (lo_e25 hL _ (lo_k7_2 hL _ t_pr) _ (by omega))).trans (lo_n25 hL _ (lo_k7_2 hL _ t_pr) _ (by omega))) (by omega)) (lo_inj5 hL _ _ (lo_k6_6 hL _ (lo_e25 hL _ (lo_k7_2 hL _ t_pr) _ (by omega))) (lo_k6_6 hL _ (lo_e25 hL _ (lo_k7_2 hL _ t_pr) _ (by omega))) q9))).trans eby
      have e100 := (hk1_140 X (tg_ne t_X (lo_k6_6 hL _ (lo_e25 hL _ (lo_k7_2 hL _ t_pr) _ (by omega))) (by decide)) (tg_ne t_X (lo_k5_2 hL _ (lo_k6_6 hL _ (lo_e25 hL _ (lo_k7_2 hL _ t_pr) _ (by omega)))) (by decide))).trans e100
      have e103 := (hk1_140 pr (tg_ne t_pr (lo_k6_6 hL _ (lo_e25 hL _ (lo_k7_2 hL _ t_pr) _ (by omega))) (by decide)) (tg_ne t_pr (lo_k5_2 hL _ (lo_k6_6 hL _ (lo_e25 hL _ (lo_k7_2 hL _ t_pr) _ (by omega)))) (by decide))).trans e103
      have e108 := (hk1_140 (g.lk pr 2) (tg_ne (lo_k7_2 hL _ t_pr) (lo_k6_6 hL _ (lo_e25 hL _ (lo_k7_2 hL _ t_pr) _ (by omega))) (by decide)) (tg_ne (lo_k7_2 hL _ t_pr) (lo_k5_2 hL _ (lo_k6_6 hL _ (lo_e25 hL _ (lo_k7_2 hL _ t_pr) _ (by omega)))) (by decide))).trans e108
      have e120 := (hk1_140 (g.lk (g.lk (g.lk pr 2) le) 6) (tn_ne ((lo_n6 hL _ (lo_e25 hL _ (lo_k7_2 hL _ t_pr) _ (by omega))).trans (lo_n25 hL _ (lo_k7_2 hL _ t_pr) _ (by omega))) ((lo_n6 hL _ (lo_e25 hL _ (lo_k7_2 hL _ t_pr) _ (by omega))).trans (lo_n25 hL _ (lo_k7_2 hL _ t_pr) _ (by omega))) (by omega)) (tg_ne (lo_k6_6 hL _ (lo_e25 hL _ (lo_k7_2 hL _ t_pr) _ (by omega))) (lo_k5_2 hL _ (lo_k6_6 hL _ (lo_e25 hL _ (lo_k7_2 hL _ t_pr) _ (by omega)))) (by decide))).trans e120
      have e121 := (hk1_140 (g.lk (g.lk (g.lk (g.lk pr 2) le) 6) 2) (tg_ne (lo_k5_2 hL _ (lo_k6_6 hL _ (lo_e25 hL _ (lo_k7_2 hL _ t_pr) _ (by omega)))) (lo_k6_6 hL _ (lo_e25 hL _ (lo_k7_2 hL _ t_pr) _ (by omega))) (by decide)) (fun q9 => (tn_ne ((lo_n6 hL _ (lo_e25 hL _ (lo_k7_2 hL _ t_pr) _ (by omega))).trans (lo_n25 hL _ (lo_k7_2 hL _ t_pr) _ (by omega))) ((lo_n6 hL _ (lo_e25 hL _ (lo_k7_2 hL _ t_pr) _ (by omega))).trans (lo_n25 hL _ (lo_k7_2 hL _ t_pr) _ (by omega))) (by omega)) (lo_inj5 hL _ _ (lo_k6_6 hL _ (lo_e25 hL _ (lo_k7_2 hL _ t_pr) _ (by omega))) (lo_k6_6 hL _ (lo_e25 hL _ (lo_k7_2 hL _ t_pr) _ (by omega))) q9))).trans e121
      obtain ⟨sg141, nn142, dd143, e144, e145, hN146⟩ := lv_136
      have c147 : ∀ i, i < 15 → ∃ k, k < 1000000000 ∧ dd143 i = nI k := hN146.2.1
      have hnn142 : nn142 ≤ 15 := hN146.1
      refine lv_istore (lv' := [(4, .int r132), (3, .ref (g.lk (g.lk (g.lk pr 2) ri) 6)), (2, .ref (g.lk (g.lk (g.lk pr 2) le) 6)), (0, .ref X), (1, .ref (g.lk (g.lk pr 2) n))]) hx hb d_NRunner_operateLong_109 hl (by decide) rfl (fun ls hl => ?_)
      refine lv_goto (tgt := 183) hx hb d_NRunner_operateLong_111 (by decide) ?_
      refine lv_iload hx hb d_NRunner_operateLong_183 (lv_at hl 0 rfl) ?_
      refine lv_if_eq (tgt := 192) hx hb d_NRunner_operateLong_185 (by decide) (fun b148 => ?_) (fun b148 => ?_)
      · skip
        have hr149 : r132 = nI 0 := b148
        have hi150 := i0_138 hr149
        have hfit8 : T12 ≤ (opv 2 vx vy).natAbs := by rw [← (show vx + sgy.toInt * _ = opv 2 vx vy from congrArg (vx + ·) hFy.1.2.2.2.2.symm)]; exact i0_138 hr149
        refine lv_iconst (v := nI 2) hx hb d_NRunner_operateLong_192 (by decide) ?_
        exact pe_iret hx hb hr hlocks hK hP hD hS d_NRunner_operateLong_193 ⟨⟨(lo + ((nI 1))), e100⟩, (congrArg nI (otr_2 (by decide) (Or.inl (by decide)) hfit8).symm), (fun z9 => absurd (z9.symm.trans (otr_2 (by decide) (Or.inl (by decide)) hfit8)) (by decide)), hI1_139, hu⟩
      · skip
        have hr151 : r132 = nI 1 := (bl_1 bo_135 b148)
        have hi152 := i1_137 hr151
        have hfit9 : (opv 2 vx vy).natAbs < T12 := by rw [← (show vx + sgy.toInt * _ = opv 2 vx vy from congrArg (vx + ·) hFy.1.2.2.2.2.symm)]; exact i1_137 hr151
        refine lv_iconst (v := nI 0) hx hb d_NRunner_operateLong_188 (by decide) ?_
        refine lv_goto (tgt := 193) hx hb d_NRunner_operateLong_189 (by decide) ?_
        exact pe_iret hx hb hr hlocks hK hP hD hS d_NRunner_operateLong_193 ⟨⟨(lo + ((nI 1))), e100⟩, (congrArg nI (otr_0 (by decide) (Or.inl (by decide)) hfit9).symm), (fun _ => ⟨_, _, _, e144, e145, LNV_cast hN146 (show vx + sgy.toInt * _ = opv 2 vx vy from congrArg (vx + ·) hFy.1.2.2.2.2.symm)⟩), hI1_139, hu⟩
    · skip
      obtain ⟨kx1, kx2, kx3, mx, eNx, hsx, hlx, htx⟩ := hVx
      obtain ⟨ky1, ky2, ky3, my, eNy, hsy, hly, hty⟩ := hVy
      refine lv_aload_n hx hb d_NRunner_operateLong_0 rfl (lv_at hl 0 rfl) ?_
      refine lv_dup hx hb d_NRunner_operateLong_1 rfl ?_
      refine pf_get (v := .int lo) (C := "BigRunner$Runner") (T := FT8) (N := 13) hx hb (hw8 hB _) (fun _ h9 => h9) hown hK hP (lo_in hL t_X (by decide)) eX rfl 11 (by decide) (wd_347 hB _) rfl d_NRunner_operateLong_2 ?_
      refine lv_iconst (v := nI 1) hx hb d_NRunner_operateLong_5 (by decide) ?_
      refine lv_iadd hx hb d_NRunner_operateLong_6 ?_
      refine pf_put (v := .int (lo + ((nI 1)))) (ty := .int) (fs' := [.ref pr, .ref (g.lk X 1), .int (nI ix), .ref (g.lk X 3), .ref (g.lk X 4), .ref (g.lk X 5), .ref (g.lk X 6), .ref (g.lk X 7), .int (nI os), .int (nI st), .int mo, .int (lo + ((nI 1))), .int (nI tr)]) (C := "BigRunner$Runner") (T := FT8) (N := 13) hx hb (hw8 hB _) (fun _ h9 => h9) TY8 ok8 nm8 hown hK hP hD hS (lo_in hL t_X (by decide)) eX rfl 11 (by decide) (wd_347 hB _) rfl (by decide +kernel) rfl rfl (Nat.le_of_ble_eq_true rfl) rfl d_NRunner_operateLong_7 (fun f153 H locs e154 k155 hP hD hS => ?_)
      have eN := (k155 (g.lk (g.lk pr 2) n) (tg_ne (lo_e25 hL _ (lo_k7_2 hL _ t_pr) _ (by omega)) t_X (by decide))).trans eN
      have eNx := (k155 (g.lk (g.lk pr 2) le) (tg_ne (lo_e25 hL _ (lo_k7_2 hL _ t_pr) _ (by omega)) t_X (by decide))).trans eNx
      have eNy := (k155 (g.lk (g.lk pr 2) ri) (tg_ne (lo_e25 hL _ (lo_k7_2 hL _ t_pr) _ (by omega)) t_X (by decide))).trans eNy
      have hu : ∀ b, b ≠ X → b ≠ (g.lk (g.lk (g.lk pr 2) n) 6) → b ≠ (g.lk (g.lk (g.lk (g.lk pr 2) n) 6) 2) → b ≠ (g.lk (g.lk (g.lk pr 2) le) 6) → b ≠ (g.lk (g.lk (g.lk (g.lk pr 2) le) 6) 2) → b ≠ (g.lk (g.lk (g.lk pr 2) ri) 6) → b ≠ (g.lk (g.lk (g.lk (g.lk pr 2) ri) 6) 2) → b ≠ (g.lk X 6) → b ≠ (g.lk (g.lk X 6) 0) → b ≠ (g.lk (g.lk X 6) 1) → f153 b = f b := fun b q0 q1 q2 q3 q4 q5 q6 q7 q8 q9 => (k155 b q0).trans (hu b q0 q1 q2 q3 q4 q5 q6 q7 q8 q9)
      have hk156 : ∀ b, b ≠ X → f153 b = f b := k155
      refine lv_aload_n hx hb d_NRunner_operateLong_10 rfl (lv_at hl 0 rfl) ?_
      refine pf_get (v := .ref pr) (C := "BigRunner$Runner") (T := FT8) (N := 13) hx hb (hw8 hB _) (fun _ h9 => h9) hown hK hP (lo_in hL t_X (by decide)) e154 rfl 0 (by decide) (wd_330 hB _) rfl d_NRunner_operateLong_11 ?_
      obtain ⟨sc_158, nc_159, e157, c160, c161⟩ := oc_7.of t_pr (hI.1 pr)
      replace e157 := (hk156 pr (tg_ne t_pr t_X (by decide))).trans e157
      refine pf_get (v := .ref (g.lk pr 2)) (C := "BigRunner$Program") (T := FT6) (N := 6) hx hb (hw6 hB _) (fun _ h9 => h9) hown hK hP (lo_in hL t_pr (by decide)) e157 rfl 2 (by decide) (wd_249 hB _) rfl d_NRunner_operateLong_14 ?_
      refine lv_aload_n hx hb d_NRunner_operateLong_17 rfl (lv_at hl 1 rfl) ?_
      refine pf_get (v := .int (nI le)) (C := "BigRunner$Node") (T := FT5) (N := 7) hx hb (hw5 hB _) (fun _ h9 => h9) hown hK hP (lo_in hL (lo_e25 hL _ (lo_k7_2 hL _ t_pr) _ (by omega)) (by decide)) eN rfl 1 (by decide) (wd_208 hB _) rfl d_NRunner_operateLong_18 ?_
      have e162 := oc_25.of (lo_k7_2 hL _ t_pr) (hI.1 (g.lk pr 2))
      replace e162 := (hk156 (g.lk pr 2) (tg_ne (lo_k7_2 hL _ t_pr) t_X (by decide))).trans e162
      refine pf_aald (i := le) hx hb hK hP (lo_in hL (lo_k7_2 hL _ t_pr) (by decide)) e162 (lo_t25 hL _ (lo_k7_2 hL _ t_pr)) (by omega) (by decide) d_NRunner_operateLong_21 ?_
      have hI163 := iv_1 hI hL t_X (by decide) hk156 (oc_9.mk t_X (⟨pr, ix, os, st, mo, ((lo + ((nI 1)))), tr, e154, t_pr, (by omega), (by omega), (by omega), (by omega)⟩))
      refine pcc_r (va_runV (C := "BigRunner$Node") (As := []) (rest := []) ⟨hx, hb, hml, hown, tb_nil⟩ (v_widenedS l g H.size f153 ((g.lk (g.lk pr 2) le)) kx1 kx2 kx3 mx hL (lo_e25 hL _ (lo_k7_2 hL _ t_pr) _ (by omega)) hI163 eNx (by rw [(hsx rfl).1]; exact (hsx rfl).2)) ⟨(callB_of 0 (tb_one (wd_761 hB _)) tb_good1 rfl rfl rfl (wd_77 hB _) (wd_758 hB _) (by decide +kernel) ⟨Nat.le_of_ble_eq_true rfl, Nat.le_of_ble_eq_true rfl⟩), (wd_759 hB _), (wd_760 hB _)⟩ ⟨pe_bl, pg_recv (ci := 5) hK hP (lo_in hL (lo_e25 hL _ (lo_k7_2 hL _ t_pr) _ (by omega)) (by decide)) eNx rfl, pe_pre hB hK hP hD⟩ rfl rfl hl.1 rfl (lv_room (Nat.le_of_ble_eq_true rfl)) d_NRunner_operateLong_22 ⟨Nat.le_of_ble_eq_true rfl, Nat.le_of_ble_eq_true rfl⟩) hS (fun r164 f165 H locs hq166 hP hD hS => ?_)
      obtain ⟨ra_167, lv_168, hI1_169, hk1_170⟩ := hq166
      subst ra_167
      have hu : ∀ b, b ≠ X → b ≠ (g.lk (g.lk (g.lk pr 2) n) 6) → b ≠ (g.lk (g.lk (g.lk (g.lk pr 2) n) 6) 2) → b ≠ (g.lk (g.lk (g.lk pr 2) le) 6) → b ≠ (g.lk (g.lk (g.lk (g.lk pr 2) le) 6) 2) → b ≠ (g.lk (g.lk (g.lk pr 2) ri) 6) → b ≠ (g.lk (g.lk (g.lk (g.lk pr 2) ri) 6) 2) → b ≠ (g.lk X 6) → b ≠ (g.lk (g.lk X 6) 0) → b ≠ (g.lk (g.lk X 6) 1) → f165 b = f b := fun b q0 q1 q2 q3 q4 q5 q6 q7 q8 q9 => (hk1_170 b q3 q4).trans (hu b q0 q1 q2 q3 q4 q5 q6 q7 q8 q9)
      have eN := (hk1_170 (g.lk (g.lk pr 2) n) (tg_ne (lo_e25 hL _ (lo_k7_2 hL _ t_pr) _ (by omega)) (lo_k6_6 hL _ (lo_e25 hL _ (lo_k7_2 hL _ t_pr) _ (by omega))) (by decide)) (tg_ne (lo_e25 hL _ (lo_k7_2 hL _ t_pr) _ (by omega)) (lo_k5_2 hL _ (lo_k6_6 hL _ (lo_e25 hL _ (lo_k7_2 hL _ t_pr) _ (by omega)))) (by decide))).trans eN
      have eNx := (hk1_170 (g.lk (g.lk pr 2) le) (tg_ne (lo_e25 hL _ (lo_k7_2 hL _ t_pr) _ (by omega)) (lo_k6_6 hL _ (lo_e25 hL _ (lo_k7_2 hL _ t_pr) _ (by omega))) (by decide)) (tg_ne (lo_e25 hL _ (lo_k7_2 hL _ t_pr) _ (by omega)) (lo_k5_2 hL _ (lo_k6_6 hL _ (lo_e25 hL _ (lo_k7_2 hL _ t_pr) _ (by omega)))) (by decide))).trans eNx
      have eNy := (hk1_170 (g.lk (g.lk pr 2) ri) (tg_ne (lo_e25 hL _ (lo_k7_2 hL _ t_pr) _ (by omega)) (lo_k6_6 hL _ (lo_e25 hL _ (lo_k7_2 hL _ t_pr) _ (by omega))) (by decide)) (tg_ne (lo_e25 hL _ (lo_k7_2 hL _ t_pr) _ (by omega)) (lo_k5_2 hL _ (lo_k6_6 hL _ (lo_e25 hL _ (lo_k7_2 hL _ t_pr) _ (by omega)))) (by decide))).trans eNy
      have e154 := (hk1_170 X (tg_ne t_X (lo_k6_6 hL _ (lo_e25 hL _ (lo_k7_2 hL _ t_pr) _ (by omega))) (by decide)) (tg_ne t_X (lo_k5_2 hL _ (lo_k6_6 hL _ (lo_e25 hL _ (lo_k7_2 hL _ t_pr) _ (by omega)))) (by decide))).trans e154
      have e157 := (hk1_170 pr (tg_ne t_pr (lo_k6_6 hL _ (lo_e25 hL _ (lo_k7_2 hL _ t_pr) _ (by omega))) (by decide)) (tg_ne t_pr (lo_k5_2 hL _ (lo_k6_6 hL _ (lo_e25 hL _ (lo_k7_2 hL _ t_pr) _ (by omega)))) (by decide))).trans e157
      have e162 := (hk1_170 (g.lk pr 2) (tg_ne (lo_k7_2 hL _ t_pr) (lo_k6_6 hL _ (lo_e25 hL _ (lo_k7_2 hL _ t_pr) _ (by omega))) (by decide)) (tg_ne (lo_k7_2 hL _ t_pr) (lo_k5_2 hL _ (lo_k6_6 hL _ (lo_e25 hL _ (lo_k7_2 hL _ t_pr) _ (by omega)))) (by decide))).trans e162
      obtain ⟨sg171, nn172, dd173, e174, e175, hN176⟩ := lv_168
      have c177 : ∀ i, i < 15 → ∃ k, k < 1000000000 ∧ dd173 i = nI k := hN176.2.1
      have hnn172 : nn172 ≤ 15 := hN176.1
      refine lv_astore_n (lv' := [(2, .ref (g.lk (g.lk (g.lk pr 2) le) 6)), (0, .ref X), (1, .ref (g.lk (g.lk pr 2) n))]) hx hb d_NRunner_operateLong_25 rfl hl (by decide) rfl (fun ls hl => ?_)
      have hFx : LNF sg171 nn172 dd173 vx := ⟨LNV_cast hN176 (hsx rfl).1, htx⟩
      refine lv_aload_n hx hb d_NRunner_operateLong_26 rfl (lv_at hl 1 rfl) ?_
      refine pf_get (v := .ref pr) (C := "BigRunner$Runner") (T := FT8) (N := 13) hx hb (hw8 hB _) (fun _ h9 => h9) hown hK hP (lo_in hL t_X (by decide)) e154 rfl 0 (by decide) (wd_330 hB _) rfl d_NRunner_operateLong_27 ?_
      refine pf_get (v := .ref (g.lk pr 2)) (C := "BigRunner$Program") (T := FT6) (N := 6) hx hb (hw6 hB _) (fun _ h9 => h9) hown hK hP (lo_in hL t_pr (by decide)) e157 rfl 2 (by decide) (wd_249 hB _) rfl d_NRunner_operateLong_30 ?_
      refine lv_aload_n hx hb d_NRunner_operateLong_33 rfl (lv_at hl 2 rfl) ?_
      refine pf_get (v := .int (nI ri)) (C := "BigRunner$Node") (T := FT5) (N := 7) hx hb (hw5 hB _) (fun _ h9 => h9) hown hK hP (lo_in hL (lo_e25 hL _ (lo_k7_2 hL _ t_pr) _ (by omega)) (by decide)) eN rfl 2 (by decide) (wd_212 hB _) rfl d_NRunner_operateLong_34 ?_
      refine pf_aald (i := ri) hx hb hK hP (lo_in hL (lo_k7_2 hL _ t_pr) (by decide)) e162 (lo_t25 hL _ (lo_k7_2 hL _ t_pr)) (by omega) (by decide) d_NRunner_operateLong_37 ?_
      refine pcc_r (va_runV (C := "BigRunner$Node") (As := []) (rest := []) ⟨hx, hb, hml, hown, tb_nil⟩ (v_widenedS l g H.size f165 ((g.lk (g.lk pr 2) ri)) ky1 ky2 ky3 my hL (lo_e25 hL _ (lo_k7_2 hL _ t_pr) _ (by omega)) hI1_169 eNy (by rw [(hsy rfl).1]; exact (hsy rfl).2)) ⟨(callB_of 0 (tb_one (wd_761 hB _)) tb_good1 rfl rfl rfl (wd_77 hB _) (wd_758 hB _) (by decide +kernel) ⟨Nat.le_of_ble_eq_true rfl, Nat.le_of_ble_eq_true rfl⟩), (wd_759 hB _), (wd_760 hB _)⟩ ⟨pe_bl, pg_recv (ci := 5) hK hP (lo_in hL (lo_e25 hL _ (lo_k7_2 hL _ t_pr) _ (by omega)) (by decide)) eNy rfl, pe_pre hB hK hP hD⟩ rfl rfl hl.1 rfl (lv_room (Nat.le_of_ble_eq_true rfl)) d_NRunner_operateLong_38 ⟨Nat.le_of_ble_eq_true rfl, Nat.le_of_ble_eq_true rfl⟩) hS (fun r178 f179 H locs hq180 hP hD hS => ?_)
      obtain ⟨ra_181, lv_182, hI1_183, hk1_184⟩ := hq180
      subst ra_181
      have hu : ∀ b, b ≠ X → b ≠ (g.lk (g.lk (g.lk pr 2) n) 6) → b ≠ (g.lk (g.lk (g.lk (g.lk pr 2) n) 6) 2) → b ≠ (g.lk (g.lk (g.lk pr 2) le) 6) → b ≠ (g.lk (g.lk (g.lk (g.lk pr 2) le) 6) 2) → b ≠ (g.lk (g.lk (g.lk pr 2) ri) 6) → b ≠ (g.lk (g.lk (g.lk (g.lk pr 2) ri) 6) 2) → b ≠ (g.lk X 6) → b ≠ (g.lk (g.lk X 6) 0) → b ≠ (g.lk (g.lk X 6) 1) → f179 b = f b := fun b q0 q1 q2 q3 q4 q5 q6 q7 q8 q9 => (hk1_184 b q5 q6).trans (hu b q0 q1 q2 q3 q4 q5 q6 q7 q8 q9)
      have eN := (hk1_184 (g.lk (g.lk pr 2) n) (tg_ne (lo_e25 hL _ (lo_k7_2 hL _ t_pr) _ (by omega)) (lo_k6_6 hL _ (lo_e25 hL _ (lo_k7_2 hL _ t_pr) _ (by omega))) (by decide)) (tg_ne (lo_e25 hL _ (lo_k7_2 hL _ t_pr) _ (by omega)) (lo_k5_2 hL _ (lo_k6_6 hL _ (lo_e25 hL _ (lo_k7_2 hL _ t_pr) _ (by omega)))) (by decide))).trans eN
      have eNx := (hk1_184 (g.lk (g.lk pr 2) le) (tg_ne (lo_e25 hL _ (lo_k7_2 hL _ t_pr) _ (by omega)) (lo_k6_6 hL _ (lo_e25 hL _ (lo_k7_2 hL _ t_pr) _ (by omega))) (by decide)) (tg_ne (lo_e25 hL _ (lo_k7_2 hL _ t_pr) _ (by omega)) (lo_k5_2 hL _ (lo_k6_6 hL _ (lo_e25 hL _ (lo_k7_2 hL _ t_pr) _ (by omega)))) (by decide))).trans eNx
      have eNy := (hk1_184 (g.lk (g.lk pr 2) ri) (tg_ne (lo_e25 hL _ (lo_k7_2 hL _ t_pr) _ (by omega)) (lo_k6_6 hL _ (lo_e25 hL _ (lo_k7_2 hL _ t_pr) _ (by omega))) (by decide)) (tg_ne (lo_e25 hL _ (lo_k7_2 hL _ t_pr) _ (by omega)) (lo_k5_2 hL _ (lo_k6_6 hL _ (lo_e25 hL _ (lo_k7_2 hL _ t_pr) _ (by omega)))) (by decide))).trans eNy
      have e154 := (hk1_184 X (tg_ne t_X (lo_k6_6 hL _ (lo_e25 hL _ (lo_k7_2 hL _ t_pr) _ (by omega))) (by decide)) (tg_ne t_X (lo_k5_2 hL _ (lo_k6_6 hL _ (lo_e25 hL _ (lo_k7_2 hL _ t_pr) _ (by omega)))) (by decide))).trans e154
      have e157 := (hk1_184 pr (tg_ne t_pr (lo_k6_6 hL _ (lo_e25 hL _ (lo_k7_2 hL _ t_pr) _ (by omega))) (by decide)) (tg_ne t_pr (lo_k5_2 hL _ (lo_k6_6 hL _ (lo_e25 hL _ (lo_k7_2 hL _ t_pr) _ (by omega)))) (by decide))).trans e157
      have e162 := (hk1_184 (g.lk pr 2) (tg_ne (lo_k7_2 hL _ t_pr) (lo_k6_6 hL _ (lo_e25 hL _ (lo_k7_2 hL _ t_pr) _ (by omega))) (by decide)) (tg_ne (lo_k7_2 hL _ t_pr) (lo_k5_2 hL _ (lo_k6_6 hL _ (lo_e25 hL _ (lo_k7_2 hL _ t_pr) _ (by omega)))) (by decide))).trans e162
      have e174 := (hk1_184 (g.lk (g.lk (g.lk pr 2) le) 6) (tn_ne ((lo_n6 hL _ (lo_e25 hL _ (lo_k7_2 hL _ t_pr) _ (by omega))).trans (lo_n25 hL _ (lo_k7_2 hL _ t_pr) _ (by omega))) ((lo_n6 hL _ (lo_e25 hL _ (lo_k7_2 hL _ t_pr) _ (by omega))).trans (lo_n25 hL _ (lo_k7_2 hL _ t_pr) _ (by omega))) (by omega)) (tg_ne (lo_k6_6 hL _ (lo_e25 hL _ (lo_k7_2 hL _ t_pr) _ (by omega))) (lo_k5_2 hL _ (lo_k6_6 hL _ (lo_e25 hL _ (lo_k7_2 hL _ t_pr) _ (by omega)))) (by decide))).trans e174
      have e175 := (hk1_184 (g.lk (g.lk (g.lk (g.lk pr 2) le) 6) 2) (tg_ne (lo_k5_2 hL _ (lo_k6_6 hL _ (lo_e25 hL _ (lo_k7_2 hL _ t_pr) _ (by omega)))) (lo_k6_6 hL _ (lo_e25 hL _ (lo_k7_2 hL _ t_pr) _ (by omega))) (by decide)) (fun q9 => (tn_ne ((lo_n6 hL _ (lo_e25 hL _ (lo_k7_2 hL _ t_pr) _ (by omega))).trans (lo_n25 hL _ (lo_k7_2 hL _ t_pr) _ (by omega))) ((lo_n6 hL _ (lo_e25 hL _ (lo_k7_2 hL _ t_pr) _ (by omega))).trans (lo_n25 hL _ (lo_k7_2 hL _ t_pr) _ (by omega))) (by omega)) (lo_inj5 hL _ _ (lo_k6_6 hL _ (lo_e25 hL _ (lo_k7_2 hL _ t_pr) _ (by omega))) (lo_k6_6 hL _ (lo_e25 hL _ (lo_k7_2 hL _ t_pr) _ (by omega))) q9))).trans e175
      obtain ⟨sg185, nn186, dd187, e188, e189, hN190⟩ := lv_182
      have c191 : ∀ i, i < 15 → ∃ k, k < 1000000000 ∧ dd187 i = nI k := hN190.2.1
      have hnn186 : nn186 ≤ 15 := hN190.1
      refine lv_astore_n (lv' := [(3, .ref (g.lk (g.lk (g.lk pr 2) ri) 6)), (2, .ref (g.lk (g.lk (g.lk pr 2) le) 6)), (0, .ref X), (1, .ref (g.lk (g.lk pr 2) n))]) hx hb d_NRunner_operateLong_41 rfl hl (by decide) rfl (fun ls hl => ?_)
      have hFy : LNF sg185 nn186 dd187 vy := ⟨LNV_cast hN190 (hsy rfl).1, hty⟩
      refine lv_iconst (v := nI 1) hx hb d_NRunner_operateLong_42 (by decide) ?_
      refine lv_istore (lv' := [(4, .int (nI 1)), (3, .ref (g.lk (g.lk (g.lk pr 2) ri) 6)), (2, .ref (g.lk (g.lk (g.lk pr 2) le) 6)), (0, .ref X), (1, .ref (g.lk (g.lk pr 2) n))]) hx hb d_NRunner_operateLong_43 hl (by decide) rfl (fun ls hl => ?_)
      refine lv_aload_n hx hb d_NRunner_operateLong_45 rfl (lv_at hl 4 rfl) ?_
      refine pf_get (v := .int (nI 3)) (C := "BigRunner$Node") (T := FT5) (N := 7) hx hb (hw5 hB _) (fun _ h9 => h9) hown hK hP (lo_in hL (lo_e25 hL _ (lo_k7_2 hL _ t_pr) _ (by omega)) (by decide)) eN rfl 0 (by decide) (wd_204 hB _) rfl d_NRunner_operateLong_46 ?_
      refine lv_tableIn (off := 47) (tgt := 96) hx hb d_NRunner_operateLong_49 (by rw [nI_toInt (by omega)]; omega) (by rw [nI_toInt (by omega)]; omega) (by rw [nI_toInt (by omega)]; rfl) (by decide) ?_
      refine lv_aload_n hx hb d_NRunner_operateLong_96 rfl (lv_at hl 4 rfl) ?_
      refine pf_get (v := .ref (g.lk (g.lk (g.lk pr 2) n) 6)) (C := "BigRunner$Node") (T := FT5) (N := 7) hx hb (hw5 hB _) (fun _ h9 => h9) hown hK hP (lo_in hL (lo_e25 hL _ (lo_k7_2 hL _ t_pr) _ (by omega)) (by decide)) eN rfl 6 (by decide) (wd_224 hB _) rfl d_NRunner_operateLong_97 ?_
      refine lv_aload_n hx hb d_NRunner_operateLong_100 rfl (lv_at hl 2 rfl) ?_
      refine lv_aload_n hx hb d_NRunner_operateLong_101 rfl (lv_at hl 1 rfl) ?_
      refine lv_aload_n hx hb d_NRunner_operateLong_102 rfl (lv_at hl 1 rfl) ?_
      refine pf_get (v := .int sg185) (C := "BigRunner$LongNumber") (T := FT4) (N := 3) hx hb (hw4 hB _) (fun _ h9 => h9) hown hK hP (lo_in hL (lo_k6_6 hL _ (lo_e25 hL _ (lo_k7_2 hL _ t_pr) _ (by omega))) (by decide)) e188 rfl 0 (by decide) (wd_189 hB _) rfl d_NRunner_operateLong_103 ?_
      obtain ⟨sg_193, n_194, e192, c195⟩ := oc_5.of (lo_k6_6 hL _ (lo_e25 hL _ (lo_k7_2 hL _ t_pr) _ (by omega))) (hI1_183.1 (g.lk (g.lk (g.lk pr 2) n) 6))
      refine pcc_i (va_runV (C := "BigRunner$LongNumber") (As := [.ref (g.lk (g.lk (g.lk pr 2) le) 6), .ref (g.lk (g.lk (g.lk pr 2) ri) 6), .int sg185]) (rest := []) ⟨hx, hb, hml, hown, tb_nil⟩ (v_setSum l g H.size f179 ((g.lk (g.lk (g.lk pr 2) n) 6)) ((g.lk (g.lk (g.lk pr 2) le) 6)) sg171 nn172 dd173 vx ((g.lk (g.lk (g.lk pr 2) ri) 6)) sg185 nn186 dd187 vy sg185 hL (lo_k6_6 hL _ (lo_e25 hL _ (lo_k7_2 hL _ t_pr) _ (by omega))) (lo_k6_6 hL _ (lo_e25 hL _ (lo_k7_2 hL _ t_pr) _ (by omega))) (lo_k6_6 hL _ (lo_e25 hL _ (lo_k7_2 hL _ t_pr) _ (by omega))) hI1_183 e174 e175 hFx e188 e189 hFy (tn_ne ((lo_n6 hL _ (lo_e25 hL _ (lo_k7_2 hL _ t_pr) _ (by omega))).trans (lo_n25 hL _ (lo_k7_2 hL _ t_pr) _ (by omega))) ((lo_n6 hL _ (lo_e25 hL _ (lo_k7_2 hL _ t_pr) _ (by omega))).trans (lo_n25 hL _ (lo_k7_2 hL _ t_pr) _ (by omega))) (by omega)) (tn_ne ((lo_n6 hL _ (lo_e25 hL _ (lo_k7_2 hL _ t_pr) _ (by omega))).trans (lo_n25 hL _ (lo_k7_2 hL _ t_pr) _ (by omega))) ((lo_n6 hL _ (lo_e25 hL _ (lo_k7_2 hL _ t_pr) _ (by omega))).trans (lo_n25 hL _ (lo_k7_2 hL _ t_pr) _ (by omega))) (by omega)) hFy.1.2.2.1) ⟨(callB_of 3 (tb_one (wd_766 hB _)) tb_good1 rfl rfl rfl (wd_78 hB _) (wd_763 hB _) (by decide +kernel) ⟨Nat.le_of_ble_eq_true rfl, Nat.le_of_ble_eq_true rfl⟩), (wd_764 hB _), (wd_765 hB _)⟩ ⟨pe_bl, pg_recv (ci := 4) hK hP (lo_in hL (lo_k6_6 hL _ (lo_e25 hL _ (lo_k7_2 hL _ t_pr) _ (by omega))) (by decide)) e192 rfl, pe_pre hB hK hP hD⟩ rfl rfl hl.1 rfl (lv_room (Nat.le_of_ble_eq_true rfl)) d_NRunner_operateLong_106 ⟨Nat.le_of_ble_eq_true rfl, Nat.le_of_ble_eq_true rfl⟩) hS (fun r196 f197 H locs hq198 hP hD hS => ?_)
      obtain ⟨bo_199, lv_200, i1_201, i0_202, hI1_203, hk1_204⟩ := hq198
      have hu : ∀ b, b ≠ X → b ≠ (g.lk (g.lk (g.lk pr 2) n) 6) → b ≠ (g.lk (g.lk (g.lk (g.lk pr 2) n) 6) 2) → b ≠ (g.lk (g.lk (g.lk pr 2) le) 6) → b ≠ (g.lk (g.lk (g.lk (g.lk pr 2) le) 6) 2) → b ≠ (g.lk (g.lk (g.lk pr 2) ri) 6) → b ≠ (g.lk (g.lk (g.lk (g.lk pr 2) ri) 6) 2) → b ≠ (g.lk X 6) → b ≠ (g.lk (g.lk X 6) 0) → b ≠ (g.lk (g.lk X 6) 1) → f197 b = f b := fun b q0 q1 q2 q3 q4 q5 q6 q7 q8 q9 => (hk1_204 b q1 q2).trans (hu b q0 q1 q2 q3 q4 q5 q6 q7 q8 q9)
      have eN := (hk1_204 (g.lk (g.lk pr 2) n) (tg_ne (lo_e25 hL _ (lo_k7_2 hL _ t_pr) _ (by omega)) (lo_k6_6 hL _ (lo_e25 hL _ (lo_k7_2 hL _ t_pr) _ (by omega))) (by decide)) (tg_ne (lo_e25 hL _ (lo_k7_2 hL _ t_pr) _ (by omega)) (lo_k5_2 hL _ (lo_k6_6 hL _ (lo_e25 hL _ (lo_k7_2 hL _ t_pr) _ (by omega)))) (by decide))).trans eN
      have eNx := (hk1_204 (g.lk (g.lk pr 2) le) (tg_ne (lo_e25 hL _ (lo_k7_2 hL _ t_pr) _ (by omega)) (lo_k6_6 hL _ (lo_e25 hL _ (lo_k7_2 hL _ t_pr) _ (by omega))) (by decide)) (tg_ne (lo_e25 hL _ (lo_k7_2 hL _ t_pr) _ (by omega)) (lo_k5_2 hL _ (lo_k6_6 hL _ (lo_e25 hL _ (lo_k7_2 hL _ t_pr) _ (by omega)))) (by decide))).trans eNx
      have eNy := (hk1_204 (g.lk (g.lk pr 2) ri) (tg_ne (lo_e25 hL _ (lo_k7_2 hL _ t_pr) _ (by omega)) (lo_k6_6 hL _ (lo_e25 hL _ (lo_k7_2 hL _ t_pr) _ (by omega))) (by decide)) (tg_ne (lo_e25 hL _ (lo_k7_2 hL _ t_pr) _ (by omega)) (lo_k5_2 hL _ (lo_k6_6 hL _ (lo_e25 hL _ (lo_k7_2 hL _ t_pr) _ (by omega)))) (by decide))).trans eNy
      have e154 := (hk1_204 X (tg_ne t_X (lo_k6_6 hL _ (lo_e25 hL _ (lo_k7_2 hL _ t_pr) _ (by omega))) (by decide)) (tg_ne t_X (lo_k5_2 hL _ (lo_k6_6 hL _ (lo_e25 hL _ (lo_k7_2 hL _ t_pr) _ (by omega)))) (by decide))).trans e154
      have e157 := (hk1_204 pr (tg_ne t_pr (lo_k6_6 hL _ (lo_e25 hL _ (lo_k7_2 hL _ t_pr) _ (by omega))) (by decide)) (tg_ne t_pr (lo_k5_2 hL _ (lo_k6_6 hL _ (lo_e25 hL _ (lo_k7_2 hL _ t_pr) _ (by omega)))) (by decide))).trans e157
      have e162 := (hk1_204 (g.lk pr 2) (tg_ne (lo_k7_2 hL _ t_pr) (lo_k6_6 hL _ (lo_e25 hL _ (lo_k7_2 hL _ t_pr) _ (by omega))) (by decide)) (tg_ne (lo_k7_2 hL _ t_pr) (lo_k5_2 hL _ (lo_k6_6 hL _ (lo_e25 hL _ (lo_k7_2 hL _ t_pr) _ (by omega)))) (by decide))).trans e162
      have e174 := (hk1_204 (g.lk (g.lk (g.lk pr 2) le) 6) (tn_ne ((lo_n6 hL _ (lo_e25 hL _ (lo_k7_2 hL _ t_pr) _ (by omega))).trans (lo_n25 hL _ (lo_k7_2 hL _ t_pr) _ (by omega))) ((lo_n6 hL _ (lo_e25 hL _ (lo_k7_2 hL _ t_pr) _ (by omega))).trans (lo_n25 hL _ (lo_k7_2 hL _ t_pr) _ (by omega))) (by omega)) (tg_ne (lo_k6_6 hL _ (lo_e25 hL _ (lo_k7_2 hL _ t_pr) _ (by omega))) (lo_k5_2 hL _ (lo_k6_6 hL _ (lo_e25 hL _ (lo_k7_2 hL _ t_pr) _ (by omega)))) (by decide))).trans e174
      have e175 := (hk1_204 (g.lk (g.lk (g.lk (g.lk pr 2) le) 6) 2) (tg_ne (lo_k5_2 hL _ (lo_k6_6 hL _ (lo_e25 hL _ (lo_k7_2 hL _ t_pr) _ (by omega)))) (lo_k6_6 hL _ (lo_e25 hL _ (lo_k7_2 hL _ t_pr) _ (by omega))) (by decide)) (fun q9 => (tn_ne ((lo_n6 hL _ (lo_e25 hL _ (lo_k7_2 hL _ t_pr) _ (by omega))).trans (lo_n25 hL _ (lo_k7_2 hL _ t_pr) _ (by omega))) ((lo_n6 hL _ (lo_e25 hL _ (lo_k7_2 hL _ t_pr) _ (by omega))).trans (lo_n25 hL _ (lo_k7_2 hL _ t_pr) _ (by omega))) (by omega)) (lo_inj5 hL _ _ (lo_k6_6 hL _ (lo_e25 hL _ (lo_k7_2 hL _ t_pr) _ (by omega))) (lo_k6_6 hL _ (lo_e25 hL _ (lo_k7_2 hL _ t_pr) _ (by omega))) q9))).trans e175
      have e188 := (hk1_204 (g.lk (g.lk (g.lk pr 2) ri) 6) (tn_ne ((lo_n6 hL _ (lo_e25 hL _ (lo_k7_2 hL _ t_pr) _ (by omega))).trans (lo_n25 hL _ (lo_k7_2 hL _ t_pr) _ (by omega))) ((lo_n6 hL _ (lo_e25 hL _ (lo_k7_2 hL _ t_pr) _ (by omega))).trans (lo_n25 hL _ (lo_k7_2 hL _ t_pr) _ (by omega))) (by omega)) (tg_ne (lo_k6_6 hL _ (lo_e25 hL _ (lo_k7_2 hL _ t_pr) _ (by omega))) (lo_k5_2 hL _ (lo_k6_6 hL _ (lo_e25 hL _ (lo_k7_2 hL _ t_pr) _ (by omega)))) (by decide))).trans e188
      have e189 := (hk1_204 (g.lk (g.lk (g.lk (g.lk pr 2) ri) 6) 2) (tg_ne (lo_k5_2 hL _ (lo_k6_6 hL _ (lo_e25 hL _ (lo_k7_2 hL _ t_pr) _ (by omega)))) (lo_k6_6 hL _ (lo_e25 hL _ (lo_k7_2 hL _ t_pr) _ (by omega))) (by decide)) (fun q9 => (tn_ne ((lo_n6 hL _ (lo_e25 hL _ (lo_k7_2 hL _ t_pr) _ (by omega))).trans (lo_n25 hL _ (lo_k7_2 hL _ t_pr) _ (by omega))) ((lo_n6 hL _ (lo_e25 hL _ (lo_k7_2 hL _ t_pr) _ (by omega))).trans (lo_n25 hL _ (lo_k7_2 hL _ t_pr) _ (by omega))) (by omega)) (lo_inj5 hL _ _ (lo_k6_6 hL _ (lo_e25 hL _ (lo_k7_2 hL _ t_pr) _ (by omega))) (lo_k6_6 hL _ (lo_e25 hL _ (lo_k7_2 hL _ t_pr) _ (by omega))) q9))).trans e189
      obtain ⟨sg205, nn206, dd207, e208, e209, hN210⟩ := lv_200
      have c211 : ∀ i, i < 15 → ∃ k, k < 1000000000 ∧ dd207 i = nI k := hN210.2.1
      have hnn206 : nn206 ≤ 15 := hN210.1
      refine lv_istore (lv' := [(4, .int r196), (3, .ref (g.lk (g.lk (g.lk pr 2) ri) 6)), (2, .ref (g.lk (g.lk (g.lk pr 2) le) 6)), (0, .ref X), (1, .ref (g.lk (g.lk pr 2) n))]) hx hb d_NRunner_operateLong_109 hl (by decide) rfl (fun ls hl => ?_)
      refine lv_goto (tgt := 183) hx hb d_NRunner_operateLong_111 (by decide) ?_
      refine lv_iload hx hb d_NRunner_operateLong_183 (lv_at hl 0 rfl) ?_
      refine lv_if_eq (tgt := 192) hx hb d_NRunner_operateLong_185 (by decide) (fun b212 => ?_) (fun b212 => ?_)
      · skip
        have hr213 : r196 = nI 0 := b212
        have hi214 := i0_202 hr213
        have hfit8 : T12 ≤ (opv 2 vx vy).natAbs := by rw [← (show vx + sg185.toInt * _ = opv 2 vx vy from congrArg (vx + ·) hFy.1.2.2.2.2.symm)]; exact i0_202 hr213
        refine lv_iconst (v := nI 2) hx hb d_NRunner_operateLong_192 (by decide) ?_
        exact pe_iret hx hb hr hlocks hK hP hD hS d_NRunner_operateLong_193 ⟨⟨(lo + ((nI 1))), e154⟩, (congrArg nI (otr_2 (by decide) (Or.inl (by decide)) hfit8).symm), (fun z9 => absurd (z9.symm.trans (otr_2 (by decide) (Or.inl (by decide)) hfit8)) (by decide)), hI1_203, hu⟩
      · skip
        have hr215 : r196 = nI 1 := (bl_1 bo_199 b212)
        have hi216 := i1_201 hr215
        have hfit9 : (opv 2 vx vy).natAbs < T12 := by rw [← (show vx + sg185.toInt * _ = opv 2 vx vy from congrArg (vx + ·) hFy.1.2.2.2.2.symm)]; exact i1_201 hr215
        refine lv_iconst (v := nI 0) hx hb d_NRunner_operateLong_188 (by decide) ?_
        refine lv_goto (tgt := 193) hx hb d_NRunner_operateLong_189 (by decide) ?_
        exact pe_iret hx hb hr hlocks hK hP hD hS d_NRunner_operateLong_193 ⟨⟨(lo + ((nI 1))), e154⟩, (congrArg nI (otr_0 (by decide) (Or.inl (by decide)) hfit9).symm), (fun _ => ⟨_, _, _, e208, e209, LNV_cast hN210 (show vx + sg185.toInt * _ = opv 2 vx vy from congrArg (vx + ·) hFy.1.2.2.2.2.symm)⟩), hI1_203, hu⟩
  · skip
    rw [show km 3 = 4 from rfl] at eN
    rcases hsx with rfl | rfl <;> rcases hsy with rfl | rfl
    · skip
      obtain ⟨kx1, kx2, kx3, mx, eNx, hsx, hlx, htx⟩ := hVx
      obtain ⟨sgx, nx, dx, eax, ebx, hNx⟩ := hlx rfl
      have hFx : LNF sgx nx dx vx := ⟨hNx, htx⟩
      have cbx : ∀ i, i < 15 → ∃ k, k < 1000000000 ∧ dx i = nI k := hNx.2.1
      have hnx : nx ≤ 15 := hNx.1
      obtain ⟨ky1, ky2, ky3, my, eNy, hsy, hly, hty⟩ := hVy
      obtain ⟨sgy, ny, dy, eay, eby, hNy⟩ := hly rfl
      have hFy : LNF sgy ny dy vy := ⟨hNy, hty⟩
      have cby : ∀ i, i < 15 → ∃ k, k < 1000000000 ∧ dy i = nI k := hNy.2.1
      have hny : ny ≤ 15 := hNy.1
      refine lv_aload_n hx hb d_NRunner_operateLong_0 rfl (lv_at hl 0 rfl) ?_
      refine lv_dup hx hb d_NRunner_operateLong_1 rfl ?_
      refine pf_get (v := .int lo) (C := "BigRunner$Runner") (T := FT8) (N := 13) hx hb (hw8 hB _) (fun _ h9 => h9) hown hK hP (lo_in hL t_X (by decide)) eX rfl 11 (by decide) (wd_347 hB _) rfl d_NRunner_operateLong_2 ?_
      refine lv_iconst (v := nI 1) hx hb d_NRunner_operateLong_5 (by decide) ?_
      refine lv_iadd hx hb d_NRunner_operateLong_6 ?_
      refine pf_put (v := .int (lo + ((nI 1)))) (ty := .int) (fs' := [.ref pr, .ref (g.lk X 1), .int (nI ix), .ref (g.lk X 3), .ref (g.lk X 4), .ref (g.lk X 5), .ref (g.lk X 6), .ref (g.lk X 7), .int (nI os), .int (nI st), .int mo, .int (lo + ((nI 1))), .int (nI tr)]) (C := "BigRunner$Runner") (T := FT8) (N := 13) hx hb (hw8 hB _) (fun _ h9 => h9) TY8 ok8 nm8 hown hK hP hD hS (lo_in hL t_X (by decide)) eX rfl 11 (by decide) (wd_347 hB _) rfl (by decide +kernel) rfl rfl (Nat.le_of_ble_eq_true rfl) rfl d_NRunner_operateLong_7 (fun f217 H locs e218 k219 hP hD hS => ?_)
      have eN := (k219 (g.lk (g.lk pr 2) n) (tg_ne (lo_e25 hL _ (lo_k7_2 hL _ t_pr) _ (by omega)) t_X (by decide))).trans eN
      have eNx := (k219 (g.lk (g.lk pr 2) le) (tg_ne (lo_e25 hL _ (lo_k7_2 hL _ t_pr) _ (by omega)) t_X (by decide))).trans eNx
      have eax := (k219 (g.lk (g.lk (g.lk pr 2) le) 6) (tg_ne (lo_k6_6 hL _ (lo_e25 hL _ (lo_k7_2 hL _ t_pr) _ (by omega))) t_X (by decide))).trans eax
      have ebx := (k219 (g.lk (g.lk (g.lk (g.lk pr 2) le) 6) 2) (tg_ne (lo_k5_2 hL _ (lo_k6_6 hL _ (lo_e25 hL _ (lo_k7_2 hL _ t_pr) _ (by omega)))) t_X (by decide))).trans ebx
      have eNy := (k219 (g.lk (g.lk pr 2) ri) (tg_ne (lo_e25 hL _ (lo_k7_2 hL _ t_pr) _ (by omega)) t_X (by decide))).trans eNy
      have eay := (k219 (g.lk (g.lk (g.lk pr 2) ri) 6) (tg_ne (lo_k6_6 hL _ (lo_e25 hL _ (lo_k7_2 hL _ t_pr) _ (by omega))) t_X (by decide))).trans eay
      have eby := (k219 (g.lk (g.lk (g.lk (g.lk pr 2) ri) 6) 2) (tg_ne (lo_k5_2 hL _ (lo_k6_6 hL _ (lo_e25 hL _ (lo_k7_2 hL _ t_pr) _ (by omega)))) t_X (by decide))).trans eby
      have hu : ∀ b, b ≠ X → b ≠ (g.lk (g.lk (g.lk pr 2) n) 6) → b ≠ (g.lk (g.lk (g.lk (g.lk pr 2) n) 6) 2) → b ≠ (g.lk (g.lk (g.lk pr 2) le) 6) → b ≠ (g.lk (g.lk (g.lk (g.lk pr 2) le) 6) 2) → b ≠ (g.lk (g.lk (g.lk pr 2) ri) 6) → b ≠ (g.lk (g.lk (g.lk (g.lk pr 2) ri) 6) 2) → b ≠ (g.lk X 6) → b ≠ (g.lk (g.lk X 6) 0) → b ≠ (g.lk (g.lk X 6) 1) → f217 b = f b := fun b q0 q1 q2 q3 q4 q5 q6 q7 q8 q9 => (k219 b q0).trans (hu b q0 q1 q2 q3 q4 q5 q6 q7 q8 q9)
      have hk220 : ∀ b, b ≠ X → f217 b = f b := k219
      refine lv_aload_n hx hb d_NRunner_operateLong_10 rfl (lv_at hl 0 rfl) ?_
      refine pf_get (v := .ref pr) (C := "BigRunner$Runner") (T := FT8) (N := 13) hx hb (hw8 hB _) (fun _ h9 => h9) hown hK hP (lo_in hL t_X (by decide)) e218 rfl 0 (by decide) (wd_330 hB _) rfl d_NRunner_operateLong_11 ?_
      obtain ⟨sc_222, nc_223, e221, c224, c225⟩ := oc_7.of t_pr (hI.1 pr)
      replace e221 := (hk220 pr (tg_ne t_pr t_X (by decide))).trans e221
      refine pf_get (v := .ref (g.lk pr 2)) (C := "BigRunner$Program") (T := FT6) (N := 6) hx hb (hw6 hB _) (fun _ h9 => h9) hown hK hP (lo_in hL t_pr (by decide)) e221 rfl 2 (by decide) (wd_249 hB _) rfl d_NRunner_operateLong_14 ?_
      refine lv_aload_n hx hb d_NRunner_operateLong_17 rfl (lv_at hl 1 rfl) ?_
      refine pf_get (v := .int (nI le)) (C := "BigRunner$Node") (T := FT5) (N := 7) hx hb (hw5 hB _) (fun _ h9 => h9) hown hK hP (lo_in hL (lo_e25 hL _ (lo_k7_2 hL _ t_pr) _ (by omega)) (by decide)) eN rfl 1 (by decide) (wd_208 hB _) rfl d_NRunner_operateLong_18 ?_
      have e226 := oc_25.of (lo_k7_2 hL _ t_pr) (hI.1 (g.lk pr 2))
      replace e226 := (hk220 (g.lk pr 2) (tg_ne (lo_k7_2 hL _ t_pr) t_X (by decide))).trans e226
      refine pf_aald (i := le) hx hb hK hP (lo_in hL (lo_k7_2 hL _ t_pr) (by decide)) e226 (lo_t25 hL _ (lo_k7_2 hL _ t_pr)) (by omega) (by decide) d_NRunner_operateLong_21 ?_
      have hI227 := iv_1 hI hL t_X (by decide) hk220 (oc_9.mk t_X (⟨pr, ix, os, st, mo, ((lo + ((nI 1)))), tr, e218, t_pr, (by omega), (by omega), (by omega), (by omega)⟩))
      refine pcc_r (va_runV (C := "BigRunner$Node") (As := []) (rest := []) ⟨hx, hb, hml, hown, tb_nil⟩ (v_widenedL l g H.size f217 ((g.lk (g.lk pr 2) le)) kx1 kx2 kx3 mx hL (lo_e25 hL _ (lo_k7_2 hL _ t_pr) _ (by omega)) hI227.1 eNx) ⟨(callB_of 0 (tb_one (wd_761 hB _)) tb_good1 rfl rfl rfl (wd_77 hB _) (wd_758 hB _) (by decide +kernel) ⟨Nat.le_of_ble_eq_true rfl, Nat.le_of_ble_eq_true rfl⟩), (wd_759 hB _), (wd_760 hB _)⟩ ⟨pe_bl, pg_recv (ci := 5) hK hP (lo_in hL (lo_e25 hL _ (lo_k7_2 hL _ t_pr) _ (by omega)) (by decide)) eNx rfl, pe_pre hB hK hP hD⟩ rfl rfl hl.1 rfl (lv_room (Nat.le_of_ble_eq_true rfl)) d_NRunner_operateLong_22 ⟨Nat.le_of_ble_eq_true rfl, Nat.le_of_ble_eq_true rfl⟩) hS (fun r228 f229 H locs hq230 hP hD hS => ?_)
      obtain ⟨ra_231, rfl⟩ := hq230
      subst ra_231
      refine lv_astore_n (lv' := [(2, .ref (g.lk (g.lk (g.lk pr 2) le) 6)), (0, .ref X), (1, .ref (g.lk (g.lk pr 2) n))]) hx hb d_NRunner_operateLong_25 rfl hl (by decide) rfl (fun ls hl => ?_)
      refine lv_aload_n hx hb d_NRunner_operateLong_26 rfl (lv_at hl 1 rfl) ?_
      refine pf_get (v := .ref pr) (C := "BigRunner$Runner") (T := FT8) (N := 13) hx hb (hw8 hB _) (fun _ h9 => h9) hown hK hP (lo_in hL t_X (by decide)) e218 rfl 0 (by decide) (wd_330 hB _) rfl d_NRunner_operateLong_27 ?_
      refine pf_get (v := .ref (g.lk pr 2)) (C := "BigRunner$Program") (T := FT6) (N := 6) hx hb (hw6 hB _) (fun _ h9 => h9) hown hK hP (lo_in hL t_pr (by decide)) e221 rfl 2 (by decide) (wd_249 hB _) rfl d_NRunner_operateLong_30 ?_
      refine lv_aload_n hx hb d_NRunner_operateLong_33 rfl (lv_at hl 2 rfl) ?_
      refine pf_get (v := .int (nI ri)) (C := "BigRunner$Node") (T := FT5) (N := 7) hx hb (hw5 hB _) (fun _ h9 => h9) hown hK hP (lo_in hL (lo_e25 hL _ (lo_k7_2 hL _ t_pr) _ (by omega)) (by decide)) eN rfl 2 (by decide) (wd_212 hB _) rfl d_NRunner_operateLong_34 ?_
      refine pf_aald (i := ri) hx hb hK hP (lo_in hL (lo_k7_2 hL _ t_pr) (by decide)) e226 (lo_t25 hL _ (lo_k7_2 hL _ t_pr)) (by omega) (by decide) d_NRunner_operateLong_37 ?_
      refine pcc_r (va_runV (C := "BigRunner$Node") (As := []) (rest := []) ⟨hx, hb, hml, hown, tb_nil⟩ (v_widenedL l g H.size f217 ((g.lk (g.lk pr 2) ri)) ky1 ky2 ky3 my hL (lo_e25 hL _ (lo_k7_2 hL _ t_pr) _ (by omega)) hI227.1 eNy) ⟨(callB_of 0 (tb_one (wd_761 hB _)) tb_good1 rfl rfl rfl (wd_77 hB _) (wd_758 hB _) (by decide +kernel) ⟨Nat.le_of_ble_eq_true rfl, Nat.le_of_ble_eq_true rfl⟩), (wd_759 hB _), (wd_760 hB _)⟩ ⟨pe_bl, pg_recv (ci := 5) hK hP (lo_in hL (lo_e25 hL _ (lo_k7_2 hL _ t_pr) _ (by omega)) (by decide)) eNy rfl, pe_pre hB hK hP hD⟩ rfl rfl hl.1 rfl (lv_room (Nat.le_of_ble_eq_true rfl)) d_NRunner_operateLong_38 ⟨Nat.le_of_ble_eq_true rfl, Nat.le_of_ble_eq_true rfl⟩) hS (fun r232 f233 H locs hq234 hP hD hS => ?_)
      obtain ⟨ra_235, rfl⟩ := hq234
      subst ra_235
      refine lv_astore_n (lv' := [(3, .ref (g.lk (g.lk (g.lk pr 2) ri) 6)), (2, .ref (g.lk (g.lk (g.lk pr 2) le) 6)), (0, .ref X), (1, .ref (g.lk (g.lk pr 2) n))]) hx hb d_NRunner_operateLong_41 rfl hl (by decide) rfl (fun ls hl => ?_)
      refine lv_iconst (v := nI 1) hx hb d_NRunner_operateLong_42 (by decide) ?_
      refine lv_istore (lv' := [(4, .int (nI 1)), (3, .ref (g.lk (g.lk (g.lk pr 2) ri) 6)), (2, .ref (g.lk (g.lk (g.lk pr 2) le) 6)), (0, .ref X), (1, .ref (g.lk (g.lk pr 2) n))]) hx hb d_NRunner_operateLong_43 hl (by decide) rfl (fun ls hl => ?_)
      refine lv_aload_n hx hb d_NRunner_operateLong_45 rfl (lv_at hl 4 rfl) ?_
      refine pf_get (v := .int (nI 4)) (C := "BigRunner$Node") (T := FT5) (N := 7) hx hb (hw5 hB _) (fun _ h9 => h9) hown hK hP (lo_in hL (lo_e25 hL _ (lo_k7_2 hL _ t_pr) _ (by omega)) (by decide)) eN rfl 0 (by decide) (wd_204 hB _) rfl d_NRunner_operateLong_46 ?_
      refine lv_tableIn (off := 65) (tgt := 114) hx hb d_NRunner_operateLong_49 (by rw [nI_toInt (by omega)]; omega) (by rw [nI_toInt (by omega)]; omega) (by rw [nI_toInt (by omega)]; rfl) (by decide) ?_
      refine lv_aload_n hx hb d_NRunner_operateLong_114 rfl (lv_at hl 4 rfl) ?_
      refine pf_get (v := .ref (g.lk (g.lk (g.lk pr 2) n) 6)) (C := "BigRunner$Node") (T := FT5) (N := 7) hx hb (hw5 hB _) (fun _ h9 => h9) hown hK hP (lo_in hL (lo_e25 hL _ (lo_k7_2 hL _ t_pr) _ (by omega)) (by decide)) eN rfl 6 (by decide) (wd_224 hB _) rfl d_NRunner_operateLong_115 ?_
      refine lv_aload_n hx hb d_NRunner_operateLong_118 rfl (lv_at hl 2 rfl) ?_
      refine lv_aload_n hx hb d_NRunner_operateLong_119 rfl (lv_at hl 1 rfl) ?_
      refine lv_aload_n hx hb d_NRunner_operateLong_120 rfl (lv_at hl 1 rfl) ?_
      refine pf_get (v := .int sgy) (C := "BigRunner$LongNumber") (T := FT4) (N := 3) hx hb (hw4 hB _) (fun _ h9 => h9) hown hK hP (lo_in hL (lo_k6_6 hL _ (lo_e25 hL _ (lo_k7_2 hL _ t_pr) _ (by omega))) (by decide)) eay rfl 0 (by decide) (wd_189 hB _) rfl d_NRunner_operateLong_121 ?_
      refine lv_ineg hx hb d_NRunner_operateLong_124 ?_
      obtain ⟨sg_237, n_238, e236, c239⟩ := oc_5.of (lo_k6_6 hL _ (lo_e25 hL _ (lo_k7_2 hL _ t_pr) _ (by omega))) (hI227.1 (g.lk (g.lk (g.lk pr 2) n) 6))
      refine pcc_i (va_runV (C := "BigRunner$LongNumber") (As := [.ref (g.lk (g.lk (g.lk pr 2) le) 6), .ref (g.lk (g.lk (g.lk pr 2) ri) 6), .int (-sgy)]) (rest := []) ⟨hx, hb, hml, hown, tb_nil⟩ (v_setSum l g H.size f217 ((g.lk (g.lk (g.lk pr 2) n) 6)) ((g.lk (g.lk (g.lk pr 2) le) 6)) sgx nx dx vx ((g.lk (g.lk (g.lk pr 2) ri) 6)) sgy ny dy vy ((-sgy)) hL (lo_k6_6 hL _ (lo_e25 hL _ (lo_k7_2 hL _ t_pr) _ (by omega))) (lo_k6_6 hL _ (lo_e25 hL _ (lo_k7_2 hL _ t_pr) _ (by omega))) (lo_k6_6 hL _ (lo_e25 hL _ (lo_k7_2 hL _ t_pr) _ (by omega))) hI227 eax ebx hFx eay eby hFy (tn_ne ((lo_n6 hL _ (lo_e25 hL _ (lo_k7_2 hL _ t_pr) _ (by omega))).trans (lo_n25 hL _ (lo_k7_2 hL _ t_pr) _ (by omega))) ((lo_n6 hL _ (lo_e25 hL _ (lo_k7_2 hL _ t_pr) _ (by omega))).trans (lo_n25 hL _ (lo_k7_2 hL _ t_pr) _ (by omega))) (by omega)) (tn_ne ((lo_n6 hL _ (lo_e25 hL _ (lo_k7_2 hL _ t_pr) _ (by omega))).trans (lo_n25 hL _ (lo_k7_2 hL _ t_pr) _ (by omega))) ((lo_n6 hL _ (lo_e25 hL _ (lo_k7_2 hL _ t_pr) _ (by omega))).trans (lo_n25 hL _ (lo_k7_2 hL _ t_pr) _ (by omega))) (by omega)) ((LS_neg hFy.1.2.2.1).1)) ⟨(callB_of 3 (tb_one (wd_766 hB _)) tb_good1 rfl rfl rfl (wd_78 hB _) (wd_763 hB _) (by decide +kernel) ⟨Nat.le_of_ble_eq_true rfl, Nat.le_of_ble_eq_true rfl⟩), (wd_764 hB _), (wd_765 hB _)⟩ ⟨pe_bl, pg_recv (ci := 4) hK hP (lo_in hL (lo_k6_6 hL _ (lo_e25 hL _ (lo_k7_2 hL _ t_pr) _ (by omega))) (by decide)) e236 rfl, pe_pre hB hK hP hD⟩ rfl rfl hl.1 rfl (lv_room (Nat.le_of_ble_eq_true rfl)) d_NRunner_operateLong_125 ⟨Nat.le_of_ble_eq_true rfl, Nat.le_of_ble_eq_true rfl⟩) hS (fun r240 f241 H locs hq242 hP hD hS => ?_)
      obtain ⟨bo_243, lv_244, i1_245, i0_246, hI1_247, hk1_248⟩ := hq242
      have hu : ∀ b, b ≠ X → b ≠ (g.lk (g.lk (g.lk pr 2) n) 6) → b ≠ (g.lk (g.lk (g.lk (g.lk pr 2) n) 6) 2) → b ≠ (g.lk (g.lk (g.lk pr 2) le) 6) → b ≠ (g.lk (g.lk (g.lk (g.lk pr 2) le) 6) 2) → b ≠ (g.lk (g.lk (g.lk pr 2) ri) 6) → b ≠ (g.lk (g.lk (g.lk (g.lk pr 2) ri) 6) 2) → b ≠ (g.lk X 6) → b ≠ (g.lk (g.lk X 6) 0) → b ≠ (g.lk (g.lk X 6) 1) → f241 b = f b := fun b q0 q1 q2 q3 q4 q5 q6 q7 q8 q9 => (hk1_248 b q1 q2).trans (hu b q0 q1 q2 q3 q4 q5 q6 q7 q8 q9)
      have eN := (hk1_248 (g.lk (g.lk pr 2) n) (tg_ne (lo_e25 hL _ (lo_k7_2 hL _ t_pr) _ (by omega)) (lo_k6_6 hL _ (lo_e25 hL _ (lo_k7_2 hL _ t_pr) _ (by omega))) (by decide)) (tg_ne (lo_e25 hL _ (lo_k7_2 hL _ t_pr) _ (by omega)) (lo_k5_2 hL _ (lo_k6_6 hL _ (lo_e25 hL _ (lo_k7_2 hL _ t_pr) _ (by omega)))) (by decide))).trans eN
      have eNx := (hk1_248 (g.lk (g.lk pr 2) le) (tg_ne (lo_e25 hL _ (lo_k7_2 hL _ t_pr) _ (by omega)) (lo_k6_6 hL _ (lo_e25 hL _ (lo_k7_2 hL _ t_pr) _ (by omega))) (by decide)) (tg_ne (lo_e25 hL _ (lo_k7_2 hL _ t_pr) _ (by omega)) (lo_k5_2 hL _ (lo_k6_6 hL _ (lo_e25 hL _ (lo_k7_2 hL _ t_pr) _ (by omega)))) (by decide))).trans eNx
      have eax := (hk1_248 (g.lk (g.lk (g.lk pr 2) le) 6) (tn_ne ((lo_n6 hL _ (lo_e25 hL _ (lo_k7_2 hL _ t_pr) _ (by omega))).trans (lo_n25 hL _ (lo_k7_2 hL _ t_pr) _ (by omega))) ((lo_n6 hL _ (lo_e25 hL _ (lo_k7_2 hL _ t_pr) _ (by omega))).trans (lo_n25 hL _ (lo_k7_2 hL _ t_pr) _ (by omega))) (by omega)) (tg_ne (lo_k6_6 hL _ (lo_e25 hL _ (lo_k7_2 hL _ t_pr) _ (by omega))) (lo_k5_2 hL _ (lo_k6_6 hL _ (lo_e25 hL _ (lo_k7_2 hL _ t_pr) _ (by omega)))) (by decide))).trans eax
      have ebx := (hk1_248 (g.lk (g.lk (g.lk (g.lk pr 2) le) 6) 2) (tg_ne (lo_k5_2 hL _ (lo_k6_6 hL _ (lo_e25 hL _ (lo_k7_2 hL _ t_pr) _ (by omega)))) (lo_k6_6 hL _ (lo_e25 hL _ (lo_k7_2 hL _ t_pr) _ (by omega))) (by decide)) (fun q9 => (tn_ne ((lo_n6 hL _ (lo_e25 hL _ (lo_k7_2 hL _ t_pr) _ (by omega))).trans (lo_n25 hL _ (lo_k7_2 hL _ t_pr) _ (by omega))) ((lo_n6 hL _ (lo_e25 hL _ (lo_k7_2 hL _ t_pr) _ (by omega))).trans (lo_n25 hL _ (lo_k7_2 hL _ t_pr) _ (by omega))) (by omega)) (lo_inj5 hL _ _ (lo_k6_6 hL _ (lo_e25 hL _ (lo_k7_2 hL _ t_pr) _ (by omega))) (lo_k6_6 hL _ (lo_e25 hL _ (lo_k7_2 hL _ t_pr) _ (by omega))) q9))).trans ebx
      have eNy := (hk1_248 (g.lk (g.lk pr 2) ri) (tg_ne (lo_e25 hL _ (lo_k7_2 hL _ t_pr) _ (by omega)) (lo_k6_6 hL _ (lo_e25 hL _ (lo_k7_2 hL _ t_pr) _ (by omega))) (by decide)) (tg_ne (lo_e25 hL _ (lo_k7_2 hL _ t_pr) _ (by omega)) (lo_k5_2 hL _ (lo_k6_6 hL _ (lo_e25 hL _ (lo_k7_2 hL _ t_pr) _ (by omega)))) (by decide))).trans eNy
      have eay := (hk1_248 (g.lk (g.lk (g.lk pr 2) ri) 6) (tn_ne ((lo_n6 hL _ (lo_e25 hL _ (lo_k7_2 hL _ t_pr) _ (by omega))).trans (lo_n25 hL _ (lo_k7_2 hL _ t_pr) _ (by omega))) ((lo_n6 hL _ (lo_e25 hL _ (lo_k7_2 hL _ t_pr) _ (by omega))).trans (lo_n25 hL _ (lo_k7_2 hL _ t_pr) _ (by omega))) (by omega)) (tg_ne (lo_k6_6 hL _ (lo_e25 hL _ (lo_k7_2 hL _ t_pr) _ (by omega))) (lo_k5_2 hL _ (lo_k6_6 hL _ (lo_e25 hL _ (lo_k7_2 hL _ t_pr) _ (by omega)))) (by decide))).trans eay
      have eby := (hk1_248 (g.lk (g.lk (g.lk (g.lk pr 2) ri) 6) 2) (tg_ne (lo_k5_2 hL _ (lo_k6_6 hL _ (lo_e25 hL _ (lo_k7_2 hL _ t_pr) _ (by omega)))) (lo_k6_6 hL _ (lo_e25 hL _ (lo_k7_2 hL _ t_pr) _ (by omega))) (by decide)) (fun q9 => (tn_ne ((lo_n6 hL _ (lo_e25 hL _ (lo_k7_2 hL _ t_pr) _ (by omega))).trans (lo_n25 hL _ (lo_k7_2 hL _ t_pr) _ (by omega))) ((lo_n6 hL _ (lo_e25 hL _ (lo_k7_2 hL _ t_pr) _ (by omega))).trans (lo_n25 hL _ (lo_k7_2 hL _ t_pr) _ (by omega))) (by omega)) (lo_inj5 hL _ _ (lo_k6_6 hL _ (lo_e25 hL _ (lo_k7_2 hL _ t_pr) _ (by omega))) (lo_k6_6 hL _ (lo_e25 hL _ (lo_k7_2 hL _ t_pr) _ (by omega))) q9))).trans eby
      have e218 := (hk1_248 X (tg_ne t_X (lo_k6_6 hL _ (lo_e25 hL _ (lo_k7_2 hL _ t_pr) _ (by omega))) (by decide)) (tg_ne t_X (lo_k5_2 hL _ (lo_k6_6 hL _ (lo_e25 hL _ (lo_k7_2 hL _ t_pr) _ (by omega)))) (by decide))).trans e218
      have e221 := (hk1_248 pr (tg_ne t_pr (lo_k6_6 hL _ (lo_e25 hL _ (lo_k7_2 hL _ t_pr) _ (by omega))) (by decide)) (tg_ne t_pr (lo_k5_2 hL _ (lo_k6_6 hL _ (lo_e25 hL _ (lo_k7_2 hL _ t_pr) _ (by omega)))) (by decide))).trans e221
      have e226 := (hk1_248 (g.lk pr 2) (tg_ne (lo_k7_2 hL _ t_pr) (lo_k6_6 hL _ (lo_e25 hL _ (lo_k7_2 hL _ t_pr) _ (by omega))) (by decide)) (tg_ne (lo_k7_2 hL _ t_pr) (lo_k5_2 hL _ (lo_k6_6 hL _ (lo_e25 hL _ (lo_k7_2 hL _ t_pr) _ (by omega)))) (by decide))).trans e226
      obtain ⟨sg249, nn250, dd251, e252, e253, hN254⟩ := lv_244
      have c255 : ∀ i, i < 15 → ∃ k, k < 1000000000 ∧ dd251 i = nI k := hN254.2.1
      have hnn250 : nn250 ≤ 15 := hN254.1
      refine lv_istore (lv' := [(4, .int r240), (3, .ref (g.lk (g.lk (g.lk pr 2) ri) 6)), (2, .ref (g.lk (g.lk (g.lk pr 2) le) 6)), (0, .ref X), (1, .ref (g.lk (g.lk pr 2) n))]) hx hb d_NRunner_operateLong_128 hl (by decide) rfl (fun ls hl => ?_)
      refine lv_goto (tgt := 183) hx hb d_NRunner_operateLong_130 (by decide) ?_
      refine lv_iload hx hb d_NRunner_operateLong_183 (lv_at hl 0 rfl) ?_
      refine lv_if_eq (tgt := 192) hx hb d_NRunner_operateLong_185 (by decide) (fun b256 => ?_) (fun b256 => ?_)
      · skip
        have hr257 : r240 = nI 0 := b256
        have hi258 := i0_246 hr257
        have hfit8 : T12 ≤ (opv 3 vx vy).natAbs := by rw [← (show vx + (-sgy).toInt * _ = opv 3 vx vy by rw [(LS_neg hFy.1.2.2.1).2, Int.neg_mul, ← hFy.1.2.2.2.2]; rfl)]; exact i0_246 hr257
        refine lv_iconst (v := nI 2) hx hb d_NRunner_operateLong_192 (by decide) ?_
        exact pe_iret hx hb hr hlocks hK hP hD hS d_NRunner_operateLong_193 ⟨⟨(lo + ((nI 1))), e218⟩, (congrArg nI (otr_2 (by decide) (Or.inl (by decide)) hfit8).symm), (fun z9 => absurd (z9.symm.trans (otr_2 (by decide) (Or.inl (by decide)) hfit8)) (by decide)), hI1_247, hu⟩
      · skip
        have hr259 : r240 = nI 1 := (bl_1 bo_243 b256)
        have hi260 := i1_245 hr259
        have hfit9 : (opv 3 vx vy).natAbs < T12 := by rw [← (show vx + (-sgy).toInt * _ = opv 3 vx vy by rw [(LS_neg hFy.1.2.2.1).2, Int.neg_mul, ← hFy.1.2.2.2.2]; rfl)]; exact i1_245 hr259
        refine lv_iconst (v := nI 0) hx hb d_NRunner_operateLong_188 (by decide) ?_
        refine lv_goto (tgt := 193) hx hb d_NRunner_operateLong_189 (by decide) ?_
        exact pe_iret hx hb hr hlocks hK hP hD hS d_NRunner_operateLong_193 ⟨⟨(lo + ((nI 1))), e218⟩, (congrArg nI (otr_0 (by decide) (Or.inl (by decide)) hfit9).symm), (fun _ => ⟨_, _, _, e252, e253, LNV_cast hN254 (show vx + (-sgy).toInt * _ = opv 3 vx vy by rw [(LS_neg hFy.1.2.2.1).2, Int.neg_mul, ← hFy.1.2.2.2.2]; rfl)⟩), hI1_247, hu⟩
    · skip
      obtain ⟨kx1, kx2, kx3, mx, eNx, hsx, hlx, htx⟩ := hVx
      obtain ⟨sgx, nx, dx, eax, ebx, hNx⟩ := hlx rfl
      have hFx : LNF sgx nx dx vx := ⟨hNx, htx⟩
      have cbx : ∀ i, i < 15 → ∃ k, k < 1000000000 ∧ dx i = nI k := hNx.2.1
      have hnx : nx ≤ 15 := hNx.1
      obtain ⟨ky1, ky2, ky3, my, eNy, hsy, hly, hty⟩ := hVy
      refine lv_aload_n hx hb d_NRunner_operateLong_0 rfl (lv_at hl 0 rfl) ?_
      refine lv_dup hx hb d_NRunner_operateLong_1 rfl ?_
      refine pf_get (v := .int lo) (C := "BigRunner$Runner") (T := FT8) (N := 13) hx hb (hw8 hB _) (fun _ h9 => h9) hown hK hP (lo_in hL t_X (by decide)) eX rfl 11 (by decide) (wd_347 hB _) rfl d_NRunner_operateLong_2 ?_
      refine lv_iconst (v := nI 1) hx hb d_NRunner_operateLong_5 (by decide) ?_
      refine lv_iadd hx hb d_NRunner_operateLong_6 ?_
      refine pf_put (v := .int (lo + ((nI 1)))) (ty := .int) (fs' := [.ref pr, .ref (g.lk X 1), .int (nI ix), .ref (g.lk X 3), .ref (g.lk X 4), .ref (g.lk X 5), .ref (g.lk X 6), .ref (g.lk X 7), .int (nI os), .int (nI st), .int mo, .int (lo + ((nI 1))), .int (nI tr)]) (C := "BigRunner$Runner") (T := FT8) (N := 13) hx hb (hw8 hB _) (fun _ h9 => h9) TY8 ok8 nm8 hown hK hP hD hS (lo_in hL t_X (by decide)) eX rfl 11 (by decide) (wd_347 hB _) rfl (by decide +kernel) rfl rfl (Nat.le_of_ble_eq_true rfl) rfl d_NRunner_operateLong_7 (fun f261 H locs e262 k263 hP hD hS => ?_)
      have eN := (k263 (g.lk (g.lk pr 2) n) (tg_ne (lo_e25 hL _ (lo_k7_2 hL _ t_pr) _ (by omega)) t_X (by decide))).trans eN
      have eNx := (k263 (g.lk (g.lk pr 2) le) (tg_ne (lo_e25 hL _ (lo_k7_2 hL _ t_pr) _ (by omega)) t_X (by decide))).trans eNx
      have eax := (k263 (g.lk (g.lk (g.lk pr 2) le) 6) (tg_ne (lo_k6_6 hL _ (lo_e25 hL _ (lo_k7_2 hL _ t_pr) _ (by omega))) t_X (by decide))).trans eax
      have ebx := (k263 (g.lk (g.lk (g.lk (g.lk pr 2) le) 6) 2) (tg_ne (lo_k5_2 hL _ (lo_k6_6 hL _ (lo_e25 hL _ (lo_k7_2 hL _ t_pr) _ (by omega)))) t_X (by decide))).trans ebx
      have eNy := (k263 (g.lk (g.lk pr 2) ri) (tg_ne (lo_e25 hL _ (lo_k7_2 hL _ t_pr) _ (by omega)) t_X (by decide))).trans eNy
      have hu : ∀ b, b ≠ X → b ≠ (g.lk (g.lk (g.lk pr 2) n) 6) → b ≠ (g.lk (g.lk (g.lk (g.lk pr 2) n) 6) 2) → b ≠ (g.lk (g.lk (g.lk pr 2) le) 6) → b ≠ (g.lk (g.lk (g.lk (g.lk pr 2) le) 6) 2) → b ≠ (g.lk (g.lk (g.lk pr 2) ri) 6) → b ≠ (g.lk (g.lk (g.lk (g.lk pr 2) ri) 6) 2) → b ≠ (g.lk X 6) → b ≠ (g.lk (g.lk X 6) 0) → b ≠ (g.lk (g.lk X 6) 1) → f261 b = f b := fun b q0 q1 q2 q3 q4 q5 q6 q7 q8 q9 => (k263 b q0).trans (hu b q0 q1 q2 q3 q4 q5 q6 q7 q8 q9)
      have hk264 : ∀ b, b ≠ X → f261 b = f b := k263
      refine lv_aload_n hx hb d_NRunner_operateLong_10 rfl (lv_at hl 0 rfl) ?_
      refine pf_get (v := .ref pr) (C := "BigRunner$Runner") (T := FT8) (N := 13) hx hb (hw8 hB _) (fun _ h9 => h9) hown hK hP (lo_in hL t_X (by decide)) e262 rfl 0 (by decide) (wd_330 hB _) rfl d_NRunner_operateLong_11 ?_
      obtain ⟨sc_266, nc_267, e265, c268, c269⟩ := oc_7.of t_pr (hI.1 pr)
      replace e265 := (hk264 pr (tg_ne t_pr t_X (by decide))).trans e265
      refine pf_get (v := .ref (g.lk pr 2)) (C := "BigRunner$Program") (T := FT6) (N := 6) hx hb (hw6 hB _) (fun _ h9 => h9) hown hK hP (lo_in hL t_pr (by decide)) e265 rfl 2 (by decide) (wd_249 hB _) rfl d_NRunner_operateLong_14 ?_
      refine lv_aload_n hx hb d_NRunner_operateLong_17 rfl (lv_at hl 1 rfl) ?_
      refine pf_get (v := .int (nI le)) (C := "BigRunner$Node") (T := FT5) (N := 7) hx hb (hw5 hB _) (fun _ h9 => h9) hown hK hP (lo_in hL (lo_e25 hL _ (lo_k7_2 hL _ t_pr) _ (by omega)) (by decide)) eN rfl 1 (by decide) (wd_208 hB _) rfl d_NRunner_operateLong_18 ?_
      have e270 := oc_25.of (lo_k7_2 hL _ t_pr) (hI.1 (g.lk pr 2))
      replace e270 := (hk264 (g.lk pr 2) (tg_ne (lo_k7_2 hL _ t_pr) t_X (by decide))).trans e270
      refine pf_aald (i := le) hx hb hK hP (lo_in hL (lo_k7_2 hL _ t_pr) (by decide)) e270 (lo_t25 hL _ (lo_k7_2 hL _ t_pr)) (by omega) (by decide) d_NRunner_operateLong_21 ?_
      have hI271 := iv_1 hI hL t_X (by decide) hk264 (oc_9.mk t_X (⟨pr, ix, os, st, mo, ((lo + ((nI 1)))), tr, e262, t_pr, (by omega), (by omega), (by omega), (by omega)⟩))
      refine pcc_r (va_runV (C := "BigRunner$Node") (As := []) (rest := []) ⟨hx, hb, hml, hown, tb_nil⟩ (v_widenedL l g H.size f261 ((g.lk (g.lk pr 2) le)) kx1 kx2 kx3 mx hL (lo_e25 hL _ (lo_k7_2 hL _ t_pr) _ (by omega)) hI271.1 eNx) ⟨(callB_of 0 (tb_one (wd_761 hB _)) tb_good1 rfl rfl rfl (wd_77 hB _) (wd_758 hB _) (by decide +kernel) ⟨Nat.le_of_ble_eq_true rfl, Nat.le_of_ble_eq_true rfl⟩), (wd_759 hB _), (wd_760 hB _)⟩ ⟨pe_bl, pg_recv (ci := 5) hK hP (lo_in hL (lo_e25 hL _ (lo_k7_2 hL _ t_pr) _ (by omega)) (by decide)) eNx rfl, pe_pre hB hK hP hD⟩ rfl rfl hl.1 rfl (lv_room (Nat.le_of_ble_eq_true rfl)) d_NRunner_operateLong_22 ⟨Nat.le_of_ble_eq_true rfl, Nat.le_of_ble_eq_true rfl⟩) hS (fun r272 f273 H locs hq274 hP hD hS => ?_)
      obtain ⟨ra_275, rfl⟩ := hq274
      subst ra_275
      refine lv_astore_n (lv' := [(2, .ref (g.lk (g.lk (g.lk pr 2) le) 6)), (0, .ref X), (1, .ref (g.lk (g.lk pr 2) n))]) hx hb d_NRunner_operateLong_25 rfl hl (by decide) rfl (fun ls hl => ?_)
      refine lv_aload_n hx hb d_NRunner_operateLong_26 rfl (lv_at hl 1 rfl) ?_
      refine pf_get (v := .ref pr) (C := "BigRunner$Runner") (T := FT8) (N := 13) hx hb (hw8 hB _) (fun _ h9 => h9) hown hK hP (lo_in hL t_X (by decide)) e262 rfl 0 (by decide) (wd_330 hB _) rfl d_NRunner_operateLong_27 ?_
      refine pf_get (v := .ref (g.lk pr 2)) (C := "BigRunner$Program") (T := FT6) (N := 6) hx hb (hw6 hB _) (fun _ h9 => h9) hown hK hP (lo_in hL t_pr (by decide)) e265 rfl 2 (by decide) (wd_249 hB _) rfl d_NRunner_operateLong_30 ?_
      refine lv_aload_n hx hb d_NRunner_operateLong_33 rfl (lv_at hl 2 rfl) ?_
      refine pf_get (v := .int (nI ri)) (C := "BigRunner$Node") (T := FT5) (N := 7) hx hb (hw5 hB _) (fun _ h9 => h9) hown hK hP (lo_in hL (lo_e25 hL _ (lo_k7_2 hL _ t_pr) _ (by omega)) (by decide)) eN rfl 2 (by decide) (wd_212 hB _) rfl d_NRunner_operateLong_34 ?_
      refine pf_aald (i := ri) hx hb hK hP (lo_in hL (lo_k7_2 hL _ t_pr) (by decide)) e270 (lo_t25 hL _ (lo_k7_2 hL _ t_pr)) (by omega) (by decide) d_NRunner_operateLong_37 ?_
      refine pcc_r (va_runV (C := "BigRunner$Node") (As := []) (rest := []) ⟨hx, hb, hml, hown, tb_nil⟩ (v_widenedS l g H.size f261 ((g.lk (g.lk pr 2) ri)) ky1 ky2 ky3 my hL (lo_e25 hL _ (lo_k7_2 hL _ t_pr) _ (by omega)) hI271 eNy (by rw [(hsy rfl).1]; exact (hsy rfl).2)) ⟨(callB_of 0 (tb_one (wd_761 hB _)) tb_good1 rfl rfl rfl (wd_77 hB _) (wd_758 hB _) (by decide +kernel) ⟨Nat.le_of_ble_eq_true rfl, Nat.le_of_ble_eq_true rfl⟩), (wd_759 hB _), (wd_760 hB _)⟩ ⟨pe_bl, pg_recv (ci := 5) hK hP (lo_in hL (lo_e25 hL _ (lo_k7_2 hL _ t_pr) _ (by omega)) (by decide)) eNy rfl, pe_pre hB hK hP hD⟩ rfl rfl hl.1 rfl (lv_room (Nat.le_of_ble_eq_true rfl)) d_NRunner_operateLong_38 ⟨Nat.le_of_ble_eq_true rfl, Nat.le_of_ble_eq_true rfl⟩) hS (fun r276 f277 H locs hq278 hP hD hS => ?_)
      obtain ⟨ra_279, lv_280, hI1_281, hk1_282⟩ := hq278
      subst ra_279
      have hu : ∀ b, b ≠ X → b ≠ (g.lk (g.lk (g.lk pr 2) n) 6) → b ≠ (g.lk (g.lk (g.lk (g.lk pr 2) n) 6) 2) → b ≠ (g.lk (g.lk (g.lk pr 2) le) 6) → b ≠ (g.lk (g.lk (g.lk (g.lk pr 2) le) 6) 2) → b ≠ (g.lk (g.lk (g.lk pr 2) ri) 6) → b ≠ (g.lk (g.lk (g.lk (g.lk pr 2) ri) 6) 2) → b ≠ (g.lk X 6) → b ≠ (g.lk (g.lk X 6) 0) → b ≠ (g.lk (g.lk X 6) 1) → f277 b = f b := fun b q0 q1 q2 q3 q4 q5 q6 q7 q8 q9 => (hk1_282 b q5 q6).trans (hu b q0 q1 q2 q3 q4 q5 q6 q7 q8 q9)
      have eN := (hk1_282 (g.lk (g.lk pr 2) n) (tg_ne (lo_e25 hL _ (lo_k7_2 hL _ t_pr) _ (by omega)) (lo_k6_6 hL _ (lo_e25 hL _ (lo_k7_2 hL _ t_pr) _ (by omega))) (by decide)) (tg_ne (lo_e25 hL _ (lo_k7_2 hL _ t_pr) _ (by omega)) (lo_k5_2 hL _ (lo_k6_6 hL _ (lo_e25 hL _ (lo_k7_2 hL _ t_pr) _ (by omega)))) (by decide))).trans eN
      have eNx := (hk1_282 (g.lk (g.lk pr 2) le) (tg_ne (lo_e25 hL _ (lo_k7_2 hL _ t_pr) _ (by omega)) (lo_k6_6 hL _ (lo_e25 hL _ (lo_k7_2 hL _ t_pr) _ (by omega))) (by decide)) (tg_ne (lo_e25 hL _ (lo_k7_2 hL _ t_pr) _ (by omega)) (lo_k5_2 hL _ (lo_k6_6 hL _ (lo_e25 hL _ (lo_k7_2 hL _ t_pr) _ (by omega)))) (by decide))).trans eNx
      have eax := (hk1_282 (g.lk (g.lk (g.lk pr 2) le) 6) (tn_ne ((lo_n6 hL _ (lo_e25 hL _ (lo_k7_2 hL _ t_pr) _ (by omega))).trans (lo_n25 hL _ (lo_k7_2 hL _ t_pr) _ (by omega))) ((lo_n6 hL _ (lo_e25 hL _ (lo_k7_2 hL _ t_pr) _ (by omega))).trans (lo_n25 hL _ (lo_k7_2 hL _ t_pr) _ (by omega))) (by omega)) (tg_ne (lo_k6_6 hL _ (lo_e25 hL _ (lo_k7_2 hL _ t_pr) _ (by omega))) (lo_k5_2 hL _ (lo_k6_6 hL _ (lo_e25 hL _ (lo_k7_2 hL _ t_pr) _ (by omega)))) (by decide))).trans eax
      have ebx := (hk1_282 (g.lk (g.lk (g.lk (g.lk pr 2) le) 6) 2) (tg_ne (lo_k5_2 hL _ (lo_k6_6 hL _ (lo_e25 hL _ (lo_k7_2 hL _ t_pr) _ (by omega)))) (lo_k6_6 hL _ (lo_e25 hL _ (lo_k7_2 hL _ t_pr) _ (by omega))) (by decide)) (fun q9 => (tn_ne ((lo_n6 hL _ (lo_e25 hL _ (lo_k7_2 hL _ t_pr) _ (by omega))).trans (lo_n25 hL _ (lo_k7_2 hL _ t_pr) _ (by omega))) ((lo_n6 hL _ (lo_e25 hL _ (lo_k7_2 hL _ t_pr) _ (by omega))).trans (lo_n25 hL _ (lo_k7_2 hL _ t_pr) _ (by omega))) (by omega)) (lo_inj5 hL _ _ (lo_k6_6 hL _ (lo_e25 hL _ (lo_k7_2 hL _ t_pr) _ (by omega))) (lo_k6_6 hL _ (lo_e25 hL _ (lo_k7_2 hL _ t_pr) _ (by omega))) q9))).trans ebx
      have eNy := (hk1_282 (g.lk (g.lk pr 2) ri) (tg_ne (lo_e25 hL _ (lo_k7_2 hL _ t_pr) _ (by omega)) (lo_k6_6 hL _ (lo_e25 hL _ (lo_k7_2 hL _ t_pr) _ (by omega))) (by decide)) (tg_ne (lo_e25 hL _ (lo_k7_2 hL _ t_pr) _ (by omega)) (lo_k5_2 hL _ (lo_k6_6 hL _ (lo_e25 hL _ (lo_k7_2 hL _ t_pr) _ (by omega)))) (by decide))).trans eNy
      have e262 := (hk1_282 X (tg_ne t_X (lo_k6_6 hL _ (lo_e25 hL _ (lo_k7_2 hL _ t_pr) _ (by omega))) (by decide)) (tg_ne t_X (lo_k5_2 hL _ (lo_k6_6 hL _ (lo_e25 hL _ (lo_k7_2 hL _ t_pr) _ (by omega)))) (by decide))).trans e262
      have e265 := (hk1_282 pr (tg_ne t_pr (lo_k6_6 hL _ (lo_e25 hL _ (lo_k7_2 hL _ t_pr) _ (by omega))) (by decide)) (tg_ne t_pr (lo_k5_2 hL _ (lo_k6_6 hL _ (lo_e25 hL _ (lo_k7_2 hL _ t_pr) _ (by omega)))) (by decide))).trans e265
      have e270 := (hk1_282 (g.lk pr 2) (tg_ne (lo_k7_2 hL _ t_pr) (lo_k6_6 hL _ (lo_e25 hL _ (lo_k7_2 hL _ t_pr) _ (by omega))) (by decide)) (tg_ne (lo_k7_2 hL _ t_pr) (lo_k5_2 hL _ (lo_k6_6 hL _ (lo_e25 hL _ (lo_k7_2 hL _ t_pr) _ (by omega)))) (by decide))).trans e270
      obtain ⟨sg283, nn284, dd285, e286, e287, hN288⟩ := lv_280
      have c289 : ∀ i, i < 15 → ∃ k, k < 1000000000 ∧ dd285 i = nI k := hN288.2.1
      have hnn284 : nn284 ≤ 15 := hN288.1
      refine lv_astore_n (lv' := [(3, .ref (g.lk (g.lk (g.lk pr 2) ri) 6)), (2, .ref (g.lk (g.lk (g.lk pr 2) le) 6)), (0, .ref X), (1, .ref (g.lk (g.lk pr 2) n))]) hx hb d_NRunner_operateLong_41 rfl hl (by decide) rfl (fun ls hl => ?_)
      have hFy : LNF sg283 nn284 dd285 vy := ⟨LNV_cast hN288 (hsy rfl).1, hty⟩
      refine lv_iconst (v := nI 1) hx hb d_NRunner_operateLong_42 (by decide) ?_
      refine lv_istore (lv' := [(4, .int (nI 1)), (3, .ref (g.lk (g.lk (g.lk pr 2) ri) 6)), (2, .ref (g.lk (g.lk (g.lk pr 2) le) 6)), (0, .ref X), (1, .ref (g.lk (g.lk pr 2) n))]) hx hb d_NRunner_operateLong_43 hl (by decide) rfl (fun ls hl => ?_)
      refine lv_aload_n hx hb d_NRunner_operateLong_45 rfl (lv_at hl 4 rfl) ?_
      refine pf_get (v := .int (nI 4)) (C := "BigRunner$Node") (T := FT5) (N := 7) hx hb (hw5 hB _) (fun _ h9 => h9) hown hK hP (lo_in hL (lo_e25 hL _ (lo_k7_2 hL _ t_pr) _ (by omega)) (by decide)) eN rfl 0 (by decide) (wd_204 hB _) rfl d_NRunner_operateLong_46 ?_
      refine lv_tableIn (off := 65) (tgt := 114) hx hb d_NRunner_operateLong_49 (by rw [nI_toInt (by omega)]; omega) (by rw [nI_toInt (by omega)]; omega) (by rw [nI_toInt (by omega)]; rfl) (by decide) ?_
      refine lv_aload_n hx hb d_NRunner_operateLong_114 rfl (lv_at hl 4 rfl) ?_
      refine pf_get (v := .ref (g.lk (g.lk (g.lk pr 2) n) 6)) (C := "BigRunner$Node") (T := FT5) (N := 7) hx hb (hw5 hB _) (fun _ h9 => h9) hown hK hP (lo_in hL (lo_e25 hL _ (lo_k7_2 hL _ t_pr) _ (by omega)) (by decide)) eN rfl 6 (by decide) (wd_224 hB _) rfl d_NRunner_operateLong_115 ?_
      refine lv_aload_n hx hb d_NRunner_operateLong_118 rfl (lv_at hl 2 rfl) ?_
      refine lv_aload_n hx hb d_NRunner_operateLong_119 rfl (lv_at hl 1 rfl) ?_
      refine lv_aload_n hx hb d_NRunner_operateLong_120 rfl (lv_at hl 1 rfl) ?_
      refine pf_get (v := .int sg283) (C := "BigRunner$LongNumber") (T := FT4) (N := 3) hx hb (hw4 hB _) (fun _ h9 => h9) hown hK hP (lo_in hL (lo_k6_6 hL _ (lo_e25 hL _ (lo_k7_2 hL _ t_pr) _ (by omega))) (by decide)) e286 rfl 0 (by decide) (wd_189 hB _) rfl d_NRunner_operateLong_121 ?_
      refine lv_ineg hx hb d_NRunner_operateLong_124 ?_
      obtain ⟨sg_291, n_292, e290, c293⟩ := oc_5.of (lo_k6_6 hL _ (lo_e25 hL _ (lo_k7_2 hL _ t_pr) _ (by omega))) (hI1_281.1 (g.lk (g.lk (g.lk pr 2) n) 6))
      refine pcc_i (va_runV (C := "BigRunner$LongNumber") (As := [.ref (g.lk (g.lk (g.lk pr 2) le) 6), .ref (g.lk (g.lk (g.lk pr 2) ri) 6), .int (-sg283)]) (rest := []) ⟨hx, hb, hml, hown, tb_nil⟩ (v_setSum l g H.size f277 ((g.lk (g.lk (g.lk pr 2) n) 6)) ((g.lk (g.lk (g.lk pr 2) le) 6)) sgx nx dx vx ((g.lk (g.lk (g.lk pr 2) ri) 6)) sg283 nn284 dd285 vy ((-sg283)) hL (lo_k6_6 hL _ (lo_e25 hL _ (lo_k7_2 hL _ t_pr) _ (by omega))) (lo_k6_6 hL _ (lo_e25 hL _ (lo_k7_2 hL _ t_pr) _ (by omega))) (lo_k6_6 hL _ (lo_e25 hL _ (lo_k7_2 hL _ t_pr) _ (by omega))) hI1_281 eax ebx hFx e286 e287 hFy (tn_ne ((lo_n6 hL _ (lo_e25 hL _ (lo_k7_2 hL _ t_pr) _ (by omega))).trans (lo_n25 hL _ (lo_k7_2 hL _ t_pr) _ (by omega))) ((lo_n6 hL _ (lo_e25 hL _ (lo_k7_2 hL _ t_pr) _ (by omega))).trans (lo_n25 hL _ (lo_k7_2 hL _ t_pr) _ (by omega))) (by omega)) (tn_ne ((lo_n6 hL _ (lo_e25 hL _ (lo_k7_2 hL _ t_pr) _ (by omega))).trans (lo_n25 hL _ (lo_k7_2 hL _ t_pr) _ (by omega))) ((lo_n6 hL _ (lo_e25 hL _ (lo_k7_2 hL _ t_pr) _ (by omega))).trans (lo_n25 hL _ (lo_k7_2 hL _ t_pr) _ (by omega))) (by omega)) ((LS_neg hFy.1.2.2.1).1)) ⟨(callB_of 3 (tb_one (wd_766 hB _)) tb_good1 rfl rfl rfl (wd_78 hB _) (wd_763 hB _) (by decide +kernel) ⟨Nat.le_of_ble_eq_true rfl, Nat.le_of_ble_eq_true rfl⟩), (wd_764 hB _), (wd_765 hB _)⟩ ⟨pe_bl, pg_recv (ci := 4) hK hP (lo_in hL (lo_k6_6 hL _ (lo_e25 hL _ (lo_k7_2 hL _ t_pr) _ (by omega))) (by decide)) e290 rfl, pe_pre hB hK hP hD⟩ rfl rfl hl.1 rfl (lv_room (Nat.le_of_ble_eq_true rfl)) d_NRunner_operateLong_125 ⟨Nat.le_of_ble_eq_true rfl, Nat.le_of_ble_eq_true rfl⟩) hS (fun r294 f295 H locs hq296 hP hD hS => ?_)
      obtain ⟨bo_297, lv_298, i1_299, i0_300, hI1_301, hk1_302⟩ := hq296
      have hu : ∀ b, b ≠ X → b ≠ (g.lk (g.lk (g.lk pr 2) n) 6) → b ≠ (g.lk (g.lk (g.lk (g.lk pr 2) n) 6) 2) → b ≠ (g.lk (g.lk (g.lk pr 2) le) 6) → b ≠ (g.lk (g.lk (g.lk (g.lk pr 2) le) 6) 2) → b ≠ (g.lk (g.lk (g.lk pr 2) ri) 6) → b ≠ (g.lk (g.lk (g.lk (g.lk pr 2) ri) 6) 2) → b ≠ (g.lk X 6) → b ≠ (g.lk (g.lk X 6) 0) → b ≠ (g.lk (g.lk X 6) 1) → f295 b = f b := fun b q0 q1 q2 q3 q4 q5 q6 q7 q8 q9 => (hk1_302 b q1 q2).trans (hu b q0 q1 q2 q3 q4 q5 q6 q7 q8 q9)
      have eN := (hk1_302 (g.lk (g.lk pr 2) n) (tg_ne (lo_e25 hL _ (lo_k7_2 hL _ t_pr) _ (by omega)) (lo_k6_6 hL _ (lo_e25 hL _ (lo_k7_2 hL _ t_pr) _ (by omega))) (by decide)) (tg_ne (lo_e25 hL _ (lo_k7_2 hL _ t_pr) _ (by omega)) (lo_k5_2 hL _ (lo_k6_6 hL _ (lo_e25 hL _ (lo_k7_2 hL _ t_pr) _ (by omega)))) (by decide))).trans eN
      have eNx := (hk1_302 (g.lk (g.lk pr 2) le) (tg_ne (lo_e25 hL _ (lo_k7_2 hL _ t_pr) _ (by omega)) (lo_k6_6 hL _ (lo_e25 hL _ (lo_k7_2 hL _ t_pr) _ (by omega))) (by decide)) (tg_ne (lo_e25 hL _ (lo_k7_2 hL _ t_pr) _ (by omega)) (lo_k5_2 hL _ (lo_k6_6 hL _ (lo_e25 hL _ (lo_k7_2 hL _ t_pr) _ (by omega)))) (by decide))).trans eNx
      have eax := (hk1_302 (g.lk (g.lk (g.lk pr 2) le) 6) (tn_ne ((lo_n6 hL _ (lo_e25 hL _ (lo_k7_2 hL _ t_pr) _ (by omega))).trans (lo_n25 hL _ (lo_k7_2 hL _ t_pr) _ (by omega))) ((lo_n6 hL _ (lo_e25 hL _ (lo_k7_2 hL _ t_pr) _ (by omega))).trans (lo_n25 hL _ (lo_k7_2 hL _ t_pr) _ (by omega))) (by omega)) (tg_ne (lo_k6_6 hL _ (lo_e25 hL _ (lo_k7_2 hL _ t_pr) _ (by omega))) (lo_k5_2 hL _ (lo_k6_6 hL _ (lo_e25 hL _ (lo_k7_2 hL _ t_pr) _ (by omega)))) (by decide))).trans eax
      have ebx := (hk1_302 (g.lk (g.lk (g.lk (g.lk pr 2) le) 6) 2) (tg_ne (lo_k5_2 hL _ (lo_k6_6 hL _ (lo_e25 hL _ (lo_k7_2 hL _ t_pr) _ (by omega)))) (lo_k6_6 hL _ (lo_e25 hL _ (lo_k7_2 hL _ t_pr) _ (by omega))) (by decide)) (fun q9 => (tn_ne ((lo_n6 hL _ (lo_e25 hL _ (lo_k7_2 hL _ t_pr) _ (by omega))).trans (lo_n25 hL _ (lo_k7_2 hL _ t_pr) _ (by omega))) ((lo_n6 hL _ (lo_e25 hL _ (lo_k7_2 hL _ t_pr) _ (by omega))).trans (lo_n25 hL _ (lo_k7_2 hL _ t_pr) _ (by omega))) (by omega)) (lo_inj5 hL _ _ (lo_k6_6 hL _ (lo_e25 hL _ (lo_k7_2 hL _ t_pr) _ (by omega))) (lo_k6_6 hL _ (lo_e25 hL _ (lo_k7_2 hL _ t_pr) _ (by omega))) q9))).trans ebx
      have eNy := (hk1_302 (g.lk (g.lk pr 2) ri) (tg_ne (lo_e25 hL _ (lo_k7_2 hL _ t_pr) _ (by omega)) (lo_k6_6 hL _ (lo_e25 hL _ (lo_k7_2 hL _ t_pr) _ (by omega))) (by decide)) (tg_ne (lo_e25 hL _ (lo_k7_2 hL _ t_pr) _ (by omega)) (lo_k5_2 hL _ (lo_k6_6 hL _ (lo_e25 hL _ (lo_k7_2 hL _ t_pr) _ (by omega)))) (by decide))).trans eNy
      have e262 := (hk1_302 X (tg_ne t_X (lo_k6_6 hL _ (lo_e25 hL _ (lo_k7_2 hL _ t_pr) _ (by omega))) (by decide)) (tg_ne t_X (lo_k5_2 hL _ (lo_k6_6 hL _ (lo_e25 hL _ (lo_k7_2 hL _ t_pr) _ (by omega)))) (by decide))).trans e262
      have e265 := (hk1_302 pr (tg_ne t_pr (lo_k6_6 hL _ (lo_e25 hL _ (lo_k7_2 hL _ t_pr) _ (by omega))) (by decide)) (tg_ne t_pr (lo_k5_2 hL _ (lo_k6_6 hL _ (lo_e25 hL _ (lo_k7_2 hL _ t_pr) _ (by omega)))) (by decide))).trans e265
      have e270 := (hk1_302 (g.lk pr 2) (tg_ne (lo_k7_2 hL _ t_pr) (lo_k6_6 hL _ (lo_e25 hL _ (lo_k7_2 hL _ t_pr) _ (by omega))) (by decide)) (tg_ne (lo_k7_2 hL _ t_pr) (lo_k5_2 hL _ (lo_k6_6 hL _ (lo_e25 hL _ (lo_k7_2 hL _ t_pr) _ (by omega)))) (by decide))).trans e270
      have e286 := (hk1_302 (g.lk (g.lk (g.lk pr 2) ri) 6) (tn_ne ((lo_n6 hL _ (lo_e25 hL _ (lo_k7_2 hL _ t_pr) _ (by omega))).trans (lo_n25 hL _ (lo_k7_2 hL _ t_pr) _ (by omega))) ((lo_n6 hL _ (lo_e25 hL _ (lo_k7_2 hL _ t_pr) _ (by omega))).trans (lo_n25 hL _ (lo_k7_2 hL _ t_pr) _ (by omega))) (by omega)) (tg_ne (lo_k6_6 hL _ (lo_e25 hL _ (lo_k7_2 hL _ t_pr) _ (by omega))) (lo_k5_2 hL _ (lo_k6_6 hL _ (lo_e25 hL _ (lo_k7_2 hL _ t_pr) _ (by omega)))) (by decide))).trans e286
      have e287 := (hk1_302 (g.lk (g.lk (g.lk (g.lk pr 2) ri) 6) 2) (tg_ne (lo_k5_2 hL _ (lo_k6_6 hL _ (lo_e25 hL _ (lo_k7_2 hL _ t_pr) _ (by omega)))) (lo_k6_6 hL _ (lo_e25 hL _ (lo_k7_2 hL _ t_pr) _ (by omega))) (by decide)) (fun q9 => (tn_ne ((lo_n6 hL _ (lo_e25 hL _ (lo_k7_2 hL _ t_pr) _ (by omega))).trans (lo_n25 hL _ (lo_k7_2 hL _ t_pr) _ (by omega))) ((lo_n6 hL _ (lo_e25 hL _ (lo_k7_2 hL _ t_pr) _ (by omega))).trans (lo_n25 hL _ (lo_k7_2 hL _ t_pr) _ (by omega))) (by omega)) (lo_inj5 hL _ _ (lo_k6_6 hL _ (lo_e25 hL _ (lo_k7_2 hL _ t_pr) _ (by omega))) (lo_k6_6 hL _ (lo_e25 hL _ (lo_k7_2 hL _ t_pr) _ (by omega))) q9))).trans e287
      obtain ⟨sg303, nn304, dd305, e306, e307, hN308⟩ := lv_298
      have c309 : ∀ i, i < 15 → ∃ k, k < 1000000000 ∧ dd305 i = nI k := hN308.2.1
      have hnn304 : nn304 ≤ 15 := hN308.1
      refine lv_istore (lv' := [(4, .int r294), (3, .ref (g.lk (g.lk (g.lk pr 2) ri) 6)), (2, .ref (g.lk (g.lk (g.lk pr 2) le) 6)), (0, .ref X), (1, .ref (g.lk (g.lk pr 2) n))]) hx hb d_NRunner_operateLong_128 hl (by decide) rfl (fun ls hl => ?_)
      refine lv_goto (tgt := 183) hx hb d_NRunner_operateLong_130 (by decide) ?_
      refine lv_iload hx hb d_NRunner_operateLong_183 (lv_at hl 0 rfl) ?_
      refine lv_if_eq (tgt := 192) hx hb d_NRunner_operateLong_185 (by decide) (fun b310 => ?_) (fun b310 => ?_)
      · skip
        have hr311 : r294 = nI 0 := b310
        have hi312 := i0_300 hr311
        have hfit8 : T12 ≤ (opv 3 vx vy).natAbs := by rw [← (show vx + (-sg283).toInt * _ = opv 3 vx vy by rw [(LS_neg hFy.1.2.2.1).2, Int.neg_mul, ← hFy.1.2.2.2.2]; rfl)]; exact i0_300 hr311
        refine lv_iconst (v := nI 2) hx hb d_NRunner_operateLong_192 (by decide) ?_
        exact pe_iret hx hb hr hlocks hK hP hD hS d_NRunner_operateLong_193 ⟨⟨(lo + ((nI 1))), e262⟩, (congrArg nI (otr_2 (by decide) (Or.inl (by decide)) hfit8).symm), (fun z9 => absurd (z9.symm.trans (otr_2 (by decide) (Or.inl (by decide)) hfit8)) (by decide)), hI1_301, hu⟩
      · skip
        have hr313 : r294 = nI 1 := (bl_1 bo_297 b310)
        have hi314 := i1_299 hr313
        have hfit9 : (opv 3 vx vy).natAbs < T12 := by rw [← (show vx + (-sg283).toInt * _ = opv 3 vx vy by rw [(LS_neg hFy.1.2.2.1).2, Int.neg_mul, ← hFy.1.2.2.2.2]; rfl)]; exact i1_299 hr313
        refine lv_iconst (v := nI 0) hx hb d_NRunner_operateLong_188 (by decide) ?_
        refine lv_goto (tgt := 193) hx hb d_NRunner_operateLong_189 (by decide) ?_
        exact pe_iret hx hb hr hlocks hK hP hD hS d_NRunner_operateLong_193 ⟨⟨(lo + ((nI 1))), e262⟩, (congrArg nI (otr_0 (by decide) (Or.inl (by decide)) hfit9).symm), (fun _ => ⟨_, _, _, e306, e307, LNV_cast hN308 (show vx + (-sg283).toInt * _ = opv 3 vx vy by rw [(LS_neg hFy.1.2.2.1).2, Int.neg_mul, ← hFy.1.2.2.2.2]; rfl)⟩), hI1_301, hu⟩
    · skip
      obtain ⟨kx1, kx2, kx3, mx, eNx, hsx, hlx, htx⟩ := hVx
      obtain ⟨ky1, ky2, ky3, my, eNy, hsy, hly, hty⟩ := hVy
      obtain ⟨sgy, ny, dy, eay, eby, hNy⟩ := hly rfl
      have hFy : LNF sgy ny dy vy := ⟨hNy, hty⟩
      have cby : ∀ i, i < 15 → ∃ k, k < 1000000000 ∧ dy i = nI k := hNy.2.1
      have hny : ny ≤ 15 := hNy.1
      refine lv_aload_n hx hb d_NRunner_operateLong_0 rfl (lv_at hl 0 rfl) ?_
      refine lv_dup hx hb d_NRunner_operateLong_1 rfl ?_
      refine pf_get (v := .int lo) (C := "BigRunner$Runner") (T := FT8) (N := 13) hx hb (hw8 hB _) (fun _ h9 => h9) hown hK hP (lo_in hL t_X (by decide)) eX rfl 11 (by decide) (wd_347 hB _) rfl d_NRunner_operateLong_2 ?_
      refine lv_iconst (v := nI 1) hx hb d_NRunner_operateLong_5 (by decide) ?_
      refine lv_iadd hx hb d_NRunner_operateLong_6 ?_
      refine pf_put (v := .int (lo + ((nI 1)))) (ty := .int) (fs' := [.ref pr, .ref (g.lk X 1), .int (nI ix), .ref (g.lk X 3), .ref (g.lk X 4), .ref (g.lk X 5), .ref (g.lk X 6), .ref (g.lk X 7), .int (nI os), .int (nI st), .int mo, .int (lo + ((nI 1))), .int (nI tr)]) (C := "BigRunner$Runner") (T := FT8) (N := 13) hx hb (hw8 hB _) (fun _ h9 => h9) TY8 ok8 nm8 hown hK hP hD hS (lo_in hL t_X (by decide)) eX rfl 11 (by decide) (wd_347 hB _) rfl (by decide +kernel) rfl rfl (Nat.le_of_ble_eq_true rfl) rfl d_NRunner_operateLong_7 (fun f315 H locs e316 k317 hP hD hS => ?_)
      have eN := (k317 (g.lk (g.lk pr 2) n) (tg_ne (lo_e25 hL _ (lo_k7_2 hL _ t_pr) _ (by omega)) t_X (by decide))).trans eN
      have eNx := (k317 (g.lk (g.lk pr 2) le) (tg_ne (lo_e25 hL _ (lo_k7_2 hL _ t_pr) _ (by omega)) t_X (by decide))).trans eNx
      have eNy := (k317 (g.lk (g.lk pr 2) ri) (tg_ne (lo_e25 hL _ (lo_k7_2 hL _ t_pr) _ (by omega)) t_X (by decide))).trans eNy
      have eay := (k317 (g.lk (g.lk (g.lk pr 2) ri) 6) (tg_ne (lo_k6_6 hL _ (lo_e25 hL _ (lo_k7_2 hL _ t_pr) _ (by omega))) t_X (by decide))).trans eay
      have eby := (k317 (g.lk (g.lk (g.lk (g.lk pr 2) ri) 6) 2) (tg_ne (lo_k5_2 hL _ (lo_k6_6 hL _ (lo_e25 hL _ (lo_k7_2 hL _ t_pr) _ (by omega)))) t_X (by decide))).trans eby
      have hu : ∀ b, b ≠ X → b ≠ (g.lk (g.lk (g.lk pr 2) n) 6) → b ≠ (g.lk (g.lk (g.lk (g.lk pr 2) n) 6) 2) → b ≠ (g.lk (g.lk (g.lk pr 2) le) 6) → b ≠ (g.lk (g.lk (g.lk (g.lk pr 2) le) 6) 2) → b ≠ (g.lk (g.lk (g.lk pr 2) ri) 6) → b ≠ (g.lk (g.lk (g.lk (g.lk pr 2) ri) 6) 2) → b ≠ (g.lk X 6) → b ≠ (g.lk (g.lk X 6) 0) → b ≠ (g.lk (g.lk X 6) 1) → f315 b = f b := fun b q0 q1 q2 q3 q4 q5 q6 q7 q8 q9 => (k317 b q0).trans (hu b q0 q1 q2 q3 q4 q5 q6 q7 q8 q9)
      have hk318 : ∀ b, b ≠ X → f315 b = f b := k317
      refine lv_aload_n hx hb d_NRunner_operateLong_10 rfl (lv_at hl 0 rfl) ?_
      refine pf_get (v := .ref pr) (C := "BigRunner$Runner") (T := FT8) (N := 13) hx hb (hw8 hB _) (fun _ h9 => h9) hown hK hP (lo_in hL t_X (by decide)) e316 rfl 0 (by decide) (wd_330 hB _) rfl d_NRunner_operateLong_11 ?_
      obtain ⟨sc_320, nc_321, e319, c322, c323⟩ := oc_7.of t_pr (hI.1 pr)
      replace e319 := (hk318 pr (tg_ne t_pr t_X (by decide))).trans e319
      refine pf_get (v := .ref (g.lk pr 2)) (C := "BigRunner$Program") (T := FT6) (N := 6) hx hb (hw6 hB _) (fun _ h9 => h9) hown hK hP (lo_in hL t_pr (by decide)) e319 rfl 2 (by decide) (wd_249 hB _) rfl d_NRunner_operateLong_14 ?_
      refine lv_aload_n hx hb d_NRunner_operateLong_17 rfl (lv_at hl 1 rfl) ?_
      refine pf_get (v := .int (nI le)) (C := "BigRunner$Node") (T := FT5) (N := 7) hx hb (hw5 hB _) (fun _ h9 => h9) hown hK hP (lo_in hL (lo_e25 hL _ (lo_k7_2 hL _ t_pr) _ (by omega)) (by decide)) eN rfl 1 (by decide) (wd_208 hB _) rfl d_NRunner_operateLong_18 ?_
      have e324 := oc_25.of (lo_k7_2 hL _ t_pr) (hI.1 (g.lk pr 2))
      replace e324 := (hk318 (g.lk pr 2) (tg_ne (lo_k7_2 hL _ t_pr) t_X (by decide))).trans e324
      refine pf_aald (i := le) hx hb hK hP (lo_in hL (lo_k7_2 hL _ t_pr) (by decide)) e324 (lo_t25 hL _ (lo_k7_2 hL _ t_pr)) (by omega) (by decide) d_NRunner_operateLong_21 ?_
      have hI325 := iv_1 hI hL t_X (by decide) hk318 (oc_9.mk t_X (⟨pr, ix, os, st, mo, ((lo + ((nI 1)))), tr, e316, t_pr, (by omega), (by omega), (by omega), (by omega)⟩))
      refine pcc_r (va_runV (C := "BigRunner$Node") (As := []) (rest := []) ⟨hx, hb, hml, hown, tb_nil⟩ (v_widenedS l g H.size f315 ((g.lk (g.lk pr 2) le)) kx1 kx2 kx3 mx hL (lo_e25 hL _ (lo_k7_2 hL _ t_pr) _ (by omega)) hI325 eNx (by rw [(hsx rfl).1]; exact (hsx rfl).2)) ⟨(callB_of 0 (tb_one (wd_761 hB _)) tb_good1 rfl rfl rfl (wd_77 hB _) (wd_758 hB _) (by decide +kernel) ⟨Nat.le_of_ble_eq_true rfl, Nat.le_of_ble_eq_true rfl⟩), (wd_759 hB _), (wd_760 hB _)⟩ ⟨pe_bl, pg_recv (ci := 5) hK hP (lo_in hL (lo_e25 hL _ (lo_k7_2 hL _ t_pr) _ (by omega)) (by decide)) eNx rfl, pe_pre hB hK hP hD⟩ rfl rfl hl.1 rfl (lv_room (Nat.le_of_ble_eq_true rfl)) d_NRunner_operateLong_22 ⟨Nat.le_of_ble_eq_true rfl, Nat.le_of_ble_eq_true rfl⟩) hS (fun r326 f327 H locs hq328 hP hD hS => ?_)
      obtain ⟨ra_329, lv_330, hI1_331, hk1_332⟩ := hq328
      subst ra_329
      have hu : ∀ b, b ≠ X → b ≠ (g.lk (g.lk (g.lk pr 2) n) 6) → b ≠ (g.lk (g.lk (g.lk (g.lk pr 2) n) 6) 2) → b ≠ (g.lk (g.lk (g.lk pr 2) le) 6) → b ≠ (g.lk (g.lk (g.lk (g.lk pr 2) le) 6) 2) → b ≠ (g.lk (g.lk (g.lk pr 2) ri) 6) → b ≠ (g.lk (g.lk (g.lk (g.lk pr 2) ri) 6) 2) → b ≠ (g.lk X 6) → b ≠ (g.lk (g.lk X 6) 0) → b ≠ (g.lk (g.lk X 6) 1) → f327 b = f b := fun b q0 q1 q2 q3 q4 q5 q6 q7 q8 q9 => (hk1_332 b q3 q4).trans (hu b q0 q1 q2 q3 q4 q5 q6 q7 q8 q9)
      have eN := (hk1_332 (g.lk (g.lk pr 2) n) (tg_ne (lo_e25 hL _ (lo_k7_2 hL _ t_pr) _ (by omega)) (lo_k6_6 hL _ (lo_e25 hL _ (lo_k7_2 hL _ t_pr) _ (by omega))) (by decide)) (tg_ne (lo_e25 hL _ (lo_k7_2 hL _ t_pr) _ (by omega)) (lo_k5_2 hL _ (lo_k6_6 hL _ (lo_e25 hL _ (lo_k7_2 hL _ t_pr) _ (by omega)))) (by decide))).trans eN
      have eNx := (hk1_332 (g.lk (g.lk pr 2) le) (tg_ne (lo_e25 hL _ (lo_k7_2 hL _ t_pr) _ (by omega)) (lo_k6_6 hL _ (lo_e25 hL _ (lo_k7_2 hL _ t_pr) _ (by omega))) (by decide)) (tg_ne (lo_e25 hL _ (lo_k7_2 hL _ t_pr) _ (by omega)) (lo_k5_2 hL _ (lo_k6_6 hL _ (lo_e25 hL _ (lo_k7_2 hL _ t_pr) _ (by omega)))) (by decide))).trans eNx
      have eNy := (hk1_332 (g.lk (g.lk pr 2) ri) (tg_ne (lo_e25 hL _ (lo_k7_2 hL _ t_pr) _ (by omega)) (lo_k6_6 hL _ (lo_e25 hL _ (lo_k7_2 hL _ t_pr) _ (by omega))) (by decide)) (tg_ne (lo_e25 hL _ (lo_k7_2 hL _ t_pr) _ (by omega)) (lo_k5_2 hL _ (lo_k6_6 hL _ (lo_e25 hL _ (lo_k7_2 hL _ t_pr) _ (by omega)))) (by decide))).trans eNy
      have eay := (hk1_332 (g.lk (g.lk (g.lk pr 2) ri) 6) (tn_ne ((lo_n6 hL _ (lo_e25 hL _ (lo_k7_2 hL _ t_pr) _ (by omega))).trans (lo_n25 hL _ (lo_k7_2 hL _ t_pr) _ (by omega))) ((lo_n6 hL _ (lo_e25 hL _ (lo_k7_2 hL _ t_pr) _ (by omega))).trans (lo_n25 hL _ (lo_k7_2 hL _ t_pr) _ (by omega))) (by omega)) (tg_ne (lo_k6_6 hL _ (lo_e25 hL _ (lo_k7_2 hL _ t_pr) _ (by omega))) (lo_k5_2 hL _ (lo_k6_6 hL _ (lo_e25 hL _ (lo_k7_2 hL _ t_pr) _ (by omega)))) (by decide))).trans eay
      have eby := (hk1_332 (g.lk (g.lk (g.lk (g.lk pr 2) ri) 6) 2) (tg_ne (lo_k5_2 hL _ (lo_k6_6 hL _ (lo_e25 hL _ (lo_k7_2 hL _ t_pr) _ (by omega)))) (lo_k6_6 hL _ (lo_e25 hL _ (lo_k7_2 hL _ t_pr) _ (by omega))) (by decide)) (fun q9 => (tn_ne ((lo_n6 hL _ (lo_e25 hL _ (lo_k7_2 hL _ t_pr) _ (by omega))).trans (lo_n25 hL _ (lo_k7_2 hL _ t_pr) _ (by omega))) ((lo_n6 hL _ (lo_e25 hL _ (lo_k7_2 hL _ t_pr) _ (by omega))).trans (lo_n25 hL _ (lo_k7_2 hL _ t_pr) _ (by omega))) (by omega)) (lo_inj5 hL _ _ (lo_k6_6 hL _ (lo_e25 hL _ (lo_k7_2 hL _ t_pr) _ (by omega))) (lo_k6_6 hL _ (lo_e25 hL _ (lo_k7_2 hL _ t_pr) _ (by omega))) q9))).trans eby
      have e316 := (hk1_332 X (tg_ne t_X (lo_k6_6 hL _ (lo_e25 hL _ (lo_k7_2 hL _ t_pr) _ (by omega))) (by decide)) (tg_ne t_X (lo_k5_2 hL _ (lo_k6_6 hL _ (lo_e25 hL _ (lo_k7_2 hL _ t_pr) _ (by omega)))) (by decide))).trans e316
      have e319 := (hk1_332 pr (tg_ne t_pr (lo_k6_6 hL _ (lo_e25 hL _ (lo_k7_2 hL _ t_pr) _ (by omega))) (by decide)) (tg_ne t_pr (lo_k5_2 hL _ (lo_k6_6 hL _ (lo_e25 hL _ (lo_k7_2 hL _ t_pr) _ (by omega)))) (by decide))).trans e319
      have e324 := (hk1_332 (g.lk pr 2) (tg_ne (lo_k7_2 hL _ t_pr) (lo_k6_6 hL _ (lo_e25 hL _ (lo_k7_2 hL _ t_pr) _ (by omega))) (by decide)) (tg_ne (lo_k7_2 hL _ t_pr) (lo_k5_2 hL _ (lo_k6_6 hL _ (lo_e25 hL _ (lo_k7_2 hL _ t_pr) _ (by omega)))) (by decide))).trans e324
      obtain ⟨sg333, nn334, dd335, e336, e337, hN338⟩ := lv_330
      have c339 : ∀ i, i < 15 → ∃ k, k < 1000000000 ∧ dd335 i = nI k := hN338.2.1
      have hnn334 : nn334 ≤ 15 := hN338.1
      refine lv_astore_n (lv' := [(2, .ref (g.lk (g.lk (g.lk pr 2) le) 6)), (0, .ref X), (1, .ref (g.lk (g.lk pr 2) n))]) hx hb d_NRunner_operateLong_25 rfl hl (by decide) rfl (fun ls hl => ?_)
      have hFx : LNF sg333 nn334 dd335 vx := ⟨LNV_cast hN338 (hsx rfl).1, htx⟩
      refine lv_aload_n hx hb d_NRunner_operateLong_26 rfl (lv_at hl 1 rfl) ?_
      refine pf_get (v := .ref pr) (C := "BigRunner$Runner") (T := FT8) (N := 13) hx hb (hw8 hB _) (fun _ h9 => h9) hown hK hP (lo_in hL t_X (by decide)) e316 rfl 0 (by decide) (wd_330 hB _) rfl d_NRunner_operateLong_27 ?_
      refine pf_get (v := .ref (g.lk pr 2)) (C := "BigRunner$Program") (T := FT6) (N := 6) hx hb (hw6 hB _) (fun _ h9 => h9) hown hK hP (lo_in hL t_pr (by decide)) e319 rfl 2 (by decide) (wd_249 hB _) rfl d_NRunner_operateLong_30 ?_
      refine lv_aload_n hx hb d_NRunner_operateLong_33 rfl (lv_at hl 2 rfl) ?_
      refine pf_get (v := .int (nI ri)) (C := "BigRunner$Node") (T := FT5) (N := 7) hx hb (hw5 hB _) (fun _ h9 => h9) hown hK hP (lo_in hL (lo_e25 hL _ (lo_k7_2 hL _ t_pr) _ (by omega)) (by decide)) eN rfl 2 (by decide) (wd_212 hB _) rfl d_NRunner_operateLong_34 ?_
      refine pf_aald (i := ri) hx hb hK hP (lo_in hL (lo_k7_2 hL _ t_pr) (by decide)) e324 (lo_t25 hL _ (lo_k7_2 hL _ t_pr)) (by omega) (by decide) d_NRunner_operateLong_37 ?_
      refine pcc_r (va_runV (C := "BigRunner$Node") (As := []) (rest := []) ⟨hx, hb, hml, hown, tb_nil⟩ (v_widenedL l g H.size f327 ((g.lk (g.lk pr 2) ri)) ky1 ky2 ky3 my hL (lo_e25 hL _ (lo_k7_2 hL _ t_pr) _ (by omega)) hI1_331.1 eNy) ⟨(callB_of 0 (tb_one (wd_761 hB _)) tb_good1 rfl rfl rfl (wd_77 hB _) (wd_758 hB _) (by decide +kernel) ⟨Nat.le_of_ble_eq_true rfl, Nat.le_of_ble_eq_true rfl⟩), (wd_759 hB _), (wd_760 hB _)⟩ ⟨pe_bl, pg_recv (ci := 5) hK hP (lo_in hL (lo_e25 hL _ (lo_k7_2 hL _ t_pr) _ (by omega)) (by decide)) eNy rfl, pe_pre hB hK hP hD⟩ rfl rfl hl.1 rfl (lv_room (Nat.le_of_ble_eq_true rfl)) d_NRunner_operateLong_38 ⟨Nat.le_of_ble_eq_true rfl, Nat.le_of_ble_eq_true rfl⟩) hS (fun r340 f341 H locs hq342 hP hD hS => ?_)
      obtain ⟨ra_343, rfl⟩ := hq342
      subst ra_343
      refine lv_astore_n (lv' := [(3, .ref (g.lk (g.lk (g.lk pr 2) ri) 6)), (2, .ref (g.lk (g.lk (g.lk pr 2) le) 6)), (0, .ref X), (1, .ref (g.lk (g.lk pr 2) n))]) hx hb d_NRunner_operateLong_41 rfl hl (by decide) rfl (fun ls hl => ?_)
      refine lv_iconst (v := nI 1) hx hb d_NRunner_operateLong_42 (by decide) ?_
      refine lv_istore (lv' := [(4, .int (nI 1)), (3, .ref (g.lk (g.lk (g.lk pr 2) ri) 6)), (2, .ref (g.lk (g.lk (g.lk pr 2) le) 6)), (0, .ref X), (1, .ref (g.lk (g.lk pr 2) n))]) hx hb d_NRunner_operateLong_43 hl (by decide) rfl (fun ls hl => ?_)
      refine lv_aload_n hx hb d_NRunner_operateLong_45 rfl (lv_at hl 4 rfl) ?_
      refine pf_get (v := .int (nI 4)) (C := "BigRunner$Node") (T := FT5) (N := 7) hx hb (hw5 hB _) (fun _ h9 => h9) hown hK hP (lo_in hL (lo_e25 hL _ (lo_k7_2 hL _ t_pr) _ (by omega)) (by decide)) eN rfl 0 (by decide) (wd_204 hB _) rfl d_NRunner_operateLong_46 ?_
      refine lv_tableIn (off := 65) (tgt := 114) hx hb d_NRunner_operateLong_49 (by rw [nI_toInt (by omega)]; omega) (by rw [nI_toInt (by omega)]; omega) (by rw [nI_toInt (by omega)]; rfl) (by decide) ?_
      refine lv_aload_n hx hb d_NRunner_operateLong_114 rfl (lv_at hl 4 rfl) ?_
      refine pf_get (v := .ref (g.lk (g.lk (g.lk pr 2) n) 6)) (C := "BigRunner$Node") (T := FT5) (N := 7) hx hb (hw5 hB _) (fun _ h9 => h9) hown hK hP (lo_in hL (lo_e25 hL _ (lo_k7_2 hL _ t_pr) _ (by omega)) (by decide)) eN rfl 6 (by decide) (wd_224 hB _) rfl d_NRunner_operateLong_115 ?_
      refine lv_aload_n hx hb d_NRunner_operateLong_118 rfl (lv_at hl 2 rfl) ?_
      refine lv_aload_n hx hb d_NRunner_operateLong_119 rfl (lv_at hl 1 rfl) ?_
      refine lv_aload_n hx hb d_NRunner_operateLong_120 rfl (lv_at hl 1 rfl) ?_
      refine pf_get (v := .int sgy) (C := "BigRunner$LongNumber") (T := FT4) (N := 3) hx hb (hw4 hB _) (fun _ h9 => h9) hown hK hP (lo_in hL (lo_k6_6 hL _ (lo_e25 hL _ (lo_k7_2 hL _ t_pr) _ (by omega))) (by decide)) eay rfl 0 (by decide) (wd_189 hB _) rfl d_NRunner_operateLong_121 ?_
      refine lv_ineg hx hb d_NRunner_operateLong_124 ?_
      obtain ⟨sg_345, n_346, e344, c347⟩ := oc_5.of (lo_k6_6 hL _ (lo_e25 hL _ (lo_k7_2 hL _ t_pr) _ (by omega))) (hI1_331.1 (g.lk (g.lk (g.lk pr 2) n) 6))
      refine pcc_i (va_runV (C := "BigRunner$LongNumber") (As := [.ref (g.lk (g.lk (g.lk pr 2) le) 6), .ref (g.lk (g.lk (g.lk pr 2) ri) 6), .int (-sgy)]) (rest := []) ⟨hx, hb, hml, hown, tb_nil⟩ (v_setSum l g H.size f327 ((g.lk (g.lk (g.lk pr 2) n) 6)) ((g.lk (g.lk (g.lk pr 2) le) 6)) sg333 nn334 dd335 vx ((g.lk (g.lk (g.lk pr 2) ri) 6)) sgy ny dy vy ((-sgy)) hL (lo_k6_6 hL _ (lo_e25 hL _ (lo_k7_2 hL _ t_pr) _ (by omega))) (lo_k6_6 hL _ (lo_e25 hL _ (lo_k7_2 hL _ t_pr) _ (by omega))) (lo_k6_6 hL _ (lo_e25 hL _ (lo_k7_2 hL _ t_pr) _ (by omega))) hI1_331 e336 e337 hFx eay eby hFy (tn_ne ((lo_n6 hL _ (lo_e25 hL _ (lo_k7_2 hL _ t_pr) _ (by omega))).trans (lo_n25 hL _ (lo_k7_2 hL _ t_pr) _ (by omega))) ((lo_n6 hL _ (lo_e25 hL _ (lo_k7_2 hL _ t_pr) _ (by omega))).trans (lo_n25 hL _ (lo_k7_2 hL _ t_pr) _ (by omega))) (by omega)) (tn_ne ((lo_n6 hL _ (lo_e25 hL _ (lo_k7_2 hL _ t_pr) _ (by omega))).trans (lo_n25 hL _ (lo_k7_2 hL _ t_pr) _ (by omega))) ((lo_n6 hL _ (lo_e25 hL _ (lo_k7_2 hL _ t_pr) _ (by omega))).trans (lo_n25 hL _ (lo_k7_2 hL _ t_pr) _ (by omega))) (by omega)) ((LS_neg hFy.1.2.2.1).1)) ⟨(callB_of 3 (tb_one (wd_766 hB _)) tb_good1 rfl rfl rfl (wd_78 hB _) (wd_763 hB _) (by decide +kernel) ⟨Nat.le_of_ble_eq_true rfl, Nat.le_of_ble_eq_true rfl⟩), (wd_764 hB _), (wd_765 hB _)⟩ ⟨pe_bl, pg_recv (ci := 4) hK hP (lo_in hL (lo_k6_6 hL _ (lo_e25 hL _ (lo_k7_2 hL _ t_pr) _ (by omega))) (by decide)) e344 rfl, pe_pre hB hK hP hD⟩ rfl rfl hl.1 rfl (lv_room (Nat.le_of_ble_eq_true rfl)) d_NRunner_operateLong_125 ⟨Nat.le_of_ble_eq_true rfl, Nat.le_of_ble_eq_true rfl⟩) hS (fun r348 f349 H locs hq350 hP hD hS => ?_)
      obtain ⟨bo_351, lv_352, i1_353, i0_354, hI1_355, hk1_356⟩ := hq350
      have hu : ∀ b, b ≠ X → b ≠ (g.lk (g.lk (g.lk pr 2) n) 6) → b ≠ (g.lk (g.lk (g.lk (g.lk pr 2) n) 6) 2) → b ≠ (g.lk (g.lk (g.lk pr 2) le) 6) → b ≠ (g.lk (g.lk (g.lk (g.lk pr 2) le) 6) 2) → b ≠ (g.lk (g.lk (g.lk pr 2) ri) 6) → b ≠ (g.lk (g.lk (g.lk (g.lk pr 2) ri) 6) 2) → b ≠ (g.lk X 6) → b ≠ (g.lk (g.lk X 6) 0) → b ≠ (g.lk (g.lk X 6) 1) → f349 b = f b := fun b q0 q1 q2 q3 q4 q5 q6 q7 q8 q9 => (hk1_356 b q1 q2).trans (hu b q0 q1 q2 q3 q4 q5 q6 q7 q8 q9)
      have eN := (hk1_356 (g.lk (g.lk pr 2) n) (tg_ne (lo_e25 hL _ (lo_k7_2 hL _ t_pr) _ (by omega)) (lo_k6_6 hL _ (lo_e25 hL _ (lo_k7_2 hL _ t_pr) _ (by omega))) (by decide)) (tg_ne (lo_e25 hL _ (lo_k7_2 hL _ t_pr) _ (by omega)) (lo_k5_2 hL _ (lo_k6_6 hL _ (lo_e25 hL _ (lo_k7_2 hL _ t_pr) _ (by omega)))) (by decide))).trans eN
      have eNx := (hk1_356 (g.lk (g.lk pr 2) le) (tg_ne (lo_e25 hL _ (lo_k7_2 hL _ t_pr) _ (by omega)) (lo_k6_6 hL _ (lo_e25 hL _ (lo_k7_2 hL _ t_pr) _ (by omega))) (by decide)) (tg_ne (lo_e25 hL _ (lo_k7_2 hL _ t_pr) _ (by omega)) (lo_k5_2 hL _ (lo_k6_6 hL _ (lo_e25 hL _ (lo_k7_2 hL _ t_pr) _ (by omega)))) (by decide))).trans eNx
      have eNy := (hk1_356 (g.lk (g.lk pr 2) ri) (tg_ne (lo_e25 hL _ (lo_k7_2 hL _ t_pr) _ (by omega)) (lo_k6_6 hL _ (lo_e25 hL _ (lo_k7_2 hL _ t_pr) _ (by omega))) (by decide)) (tg_ne (lo_e25 hL _ (lo_k7_2 hL _ t_pr) _ (by omega)) (lo_k5_2 hL _ (lo_k6_6 hL _ (lo_e25 hL _ (lo_k7_2 hL _ t_pr) _ (by omega)))) (by decide))).trans eNy
      have eay := (hk1_356 (g.lk (g.lk (g.lk pr 2) ri) 6) (tn_ne ((lo_n6 hL _ (lo_e25 hL _ (lo_k7_2 hL _ t_pr) _ (by omega))).trans (lo_n25 hL _ (lo_k7_2 hL _ t_pr) _ (by omega))) ((lo_n6 hL _ (lo_e25 hL _ (lo_k7_2 hL _ t_pr) _ (by omega))).trans (lo_n25 hL _ (lo_k7_2 hL _ t_pr) _ (by omega))) (by omega)) (tg_ne (lo_k6_6 hL _ (lo_e25 hL _ (lo_k7_2 hL _ t_pr) _ (by omega))) (lo_k5_2 hL _ (lo_k6_6 hL _ (lo_e25 hL _ (lo_k7_2 hL _ t_pr) _ (by omega)))) (by decide))).trans eay
      have eby := (hk1_356 (g.lk (g.lk (g.lk (g.lk pr 2) ri) 6) 2) (tg_ne (lo_k5_2 hL _ (lo_k6_6 hL _ (lo_e25 hL _ (lo_k7_2 hL _ t_pr) _ (by omega)))) (lo_k6_6 hL _ (lo_e25 hL _ (lo_k7_2 hL _ t_pr) _ (by omega))) (by decide)) (fun q9 => (tn_ne ((lo_n6 hL _ (lo_e25 hL _ (lo_k7_2 hL _ t_pr) _ (by omega))).trans (lo_n25 hL _ (lo_k7_2 hL _ t_pr) _ (by omega))) ((lo_n6 hL _ (lo_e25 hL _ (lo_k7_2 hL _ t_pr) _ (by omega))).trans (lo_n25 hL _ (lo_k7_2 hL _ t_pr) _ (by omega))) (by omega)) (lo_inj5 hL _ _ (lo_k6_6 hL _ (lo_e25 hL _ (lo_k7_2 hL _ t_pr) _ (by omega))) (lo_k6_6 hL _ (lo_e25 hL _ (lo_k7_2 hL _ t_pr) _ (by omega))) q9))).trans eby
      have e316 := (hk1_356 X (tg_ne t_X (lo_k6_6 hL _ (lo_e25 hL _ (lo_k7_2 hL _ t_pr) _ (by omega))) (by decide)) (tg_ne t_X (lo_k5_2 hL _ (lo_k6_6 hL _ (lo_e25 hL _ (lo_k7_2 hL _ t_pr) _ (by omega)))) (by decide))).trans e316
      have e319 := (hk1_356 pr (tg_ne t_pr (lo_k6_6 hL _ (lo_e25 hL _ (lo_k7_2 hL _ t_pr) _ (by omega))) (by decide)) (tg_ne t_pr (lo_k5_2 hL _ (lo_k6_6 hL _ (lo_e25 hL _ (lo_k7_2 hL _ t_pr) _ (by omega)))) (by decide))).trans e319
      have e324 := (hk1_356 (g.lk pr 2) (tg_ne (lo_k7_2 hL _ t_pr) (lo_k6_6 hL _ (lo_e25 hL _ (lo_k7_2 hL _ t_pr) _ (by omega))) (by decide)) (tg_ne (lo_k7_2 hL _ t_pr) (lo_k5_2 hL _ (lo_k6_6 hL _ (lo_e25 hL _ (lo_k7_2 hL _ t_pr) _ (by omega)))) (by decide))).trans e324
      have e336 := (hk1_356 (g.lk (g.lk (g.lk pr 2) le) 6) (tn_ne ((lo_n6 hL _ (lo_e25 hL _ (lo_k7_2 hL _ t_pr) _ (by omega))).trans (lo_n25 hL _ (lo_k7_2 hL _ t_pr) _ (by omega))) ((lo_n6 hL _ (lo_e25 hL _ (lo_k7_2 hL _ t_pr) _ (by omega))).trans (lo_n25 hL _ (lo_k7_2 hL _ t_pr) _ (by omega))) (by omega)) (tg_ne (lo_k6_6 hL _ (lo_e25 hL _ (lo_k7_2 hL _ t_pr) _ (by omega))) (lo_k5_2 hL _ (lo_k6_6 hL _ (lo_e25 hL _ (lo_k7_2 hL _ t_pr) _ (by omega)))) (by decide))).trans e336
      have e337 := (hk1_356 (g.lk (g.lk (g.lk (g.lk pr 2) le) 6) 2) (tg_ne (lo_k5_2 hL _ (lo_k6_6 hL _ (lo_e25 hL _ (lo_k7_2 hL _ t_pr) _ (by omega)))) (lo_k6_6 hL _ (lo_e25 hL _ (lo_k7_2 hL _ t_pr) _ (by omega))) (by decide)) (fun q9 => (tn_ne ((lo_n6 hL _ (lo_e25 hL _ (lo_k7_2 hL _ t_pr) _ (by omega))).trans (lo_n25 hL _ (lo_k7_2 hL _ t_pr) _ (by omega))) ((lo_n6 hL _ (lo_e25 hL _ (lo_k7_2 hL _ t_pr) _ (by omega))).trans (lo_n25 hL _ (lo_k7_2 hL _ t_pr) _ (by omega))) (by omega)) (lo_inj5 hL _ _ (lo_k6_6 hL _ (lo_e25 hL _ (lo_k7_2 hL _ t_pr) _ (by omega))) (lo_k6_6 hL _ (lo_e25 hL _ (lo_k7_2 hL _ t_pr) _ (by omega))) q9))).trans e337
      obtain ⟨sg357, nn358, dd359, e360, e361, hN362⟩ := lv_352
      have c363 : ∀ i, i < 15 → ∃ k, k < 1000000000 ∧ dd359 i = nI k := hN362.2.1
      have hnn358 : nn358 ≤ 15 := hN362.1
      refine lv_istore (lv' := [(4, .int r348), (3, .ref (g.lk (g.lk (g.lk pr 2) ri) 6)), (2, .ref (g.lk (g.lk (g.lk pr 2) le) 6)), (0, .ref X), (1, .ref (g.lk (g.lk pr 2) n))]) hx hb d_NRunner_operateLong_128 hl (by decide) rfl (fun ls hl => ?_)
      refine lv_goto (tgt := 183) hx hb d_NRunner_operateLong_130 (by decide) ?_
      refine lv_iload hx hb d_NRunner_operateLong_183 (lv_at hl 0 rfl) ?_
      refine lv_if_eq (tgt := 192) hx hb d_NRunner_operateLong_185 (by decide) (fun b364 => ?_) (fun b364 => ?_)
      · skip
        have hr365 : r348 = nI 0 := b364
        have hi366 := i0_354 hr365
        have hfit8 : T12 ≤ (opv 3 vx vy).natAbs := by rw [← (show vx + (-sgy).toInt * _ = opv 3 vx vy by rw [(LS_neg hFy.1.2.2.1).2, Int.neg_mul, ← hFy.1.2.2.2.2]; rfl)]; exact i0_354 hr365
        refine lv_iconst (v := nI 2) hx hb d_NRunner_operateLong_192 (by decide) ?_
        exact pe_iret hx hb hr hlocks hK hP hD hS d_NRunner_operateLong_193 ⟨⟨(lo + ((nI 1))), e316⟩, (congrArg nI (otr_2 (by decide) (Or.inl (by decide)) hfit8).symm), (fun z9 => absurd (z9.symm.trans (otr_2 (by decide) (Or.inl (by decide)) hfit8)) (by decide)), hI1_355, hu⟩
      · skip
        have hr367 : r348 = nI 1 := (bl_1 bo_351 b364)
        have hi368 := i1_353 hr367
        have hfit9 : (opv 3 vx vy).natAbs < T12 := by rw [← (show vx + (-sgy).toInt * _ = opv 3 vx vy by rw [(LS_neg hFy.1.2.2.1).2, Int.neg_mul, ← hFy.1.2.2.2.2]; rfl)]; exact i1_353 hr367
        refine lv_iconst (v := nI 0) hx hb d_NRunner_operateLong_188 (by decide) ?_
        refine lv_goto (tgt := 193) hx hb d_NRunner_operateLong_189 (by decide) ?_
        exact pe_iret hx hb hr hlocks hK hP hD hS d_NRunner_operateLong_193 ⟨⟨(lo + ((nI 1))), e316⟩, (congrArg nI (otr_0 (by decide) (Or.inl (by decide)) hfit9).symm), (fun _ => ⟨_, _, _, e360, e361, LNV_cast hN362 (show vx + (-sgy).toInt * _ = opv 3 vx vy by rw [(LS_neg hFy.1.2.2.1).2, Int.neg_mul, ← hFy.1.2.2.2.2]; rfl)⟩), hI1_355, hu⟩
    · skip
      obtain ⟨kx1, kx2, kx3, mx, eNx, hsx, hlx, htx⟩ := hVx
      obtain ⟨ky1, ky2, ky3, my, eNy, hsy, hly, hty⟩ := hVy
      refine lv_aload_n hx hb d_NRunner_operateLong_0 rfl (lv_at hl 0 rfl) ?_
      refine lv_dup hx hb d_NRunner_operateLong_1 rfl ?_
      refine pf_get (v := .int lo) (C := "BigRunner$Runner") (T := FT8) (N := 13) hx hb (hw8 hB _) (fun _ h9 => h9) hown hK hP (lo_in hL t_X (by decide)) eX rfl 11 (by decide) (wd_347 hB _) rfl d_NRunner_operateLong_2 ?_
      refine lv_iconst (v := nI 1) hx hb d_NRunner_operateLong_5 (by decide) ?_
      refine lv_iadd hx hb d_NRunner_operateLong_6 ?_
      refine pf_put (v := .int (lo + ((nI 1)))) (ty := .int) (fs' := [.ref pr, .ref (g.lk X 1), .int (nI ix), .ref (g.lk X 3), .ref (g.lk X 4), .ref (g.lk X 5), .ref (g.lk X 6), .ref (g.lk X 7), .int (nI os), .int (nI st), .int mo, .int (lo + ((nI 1))), .int (nI tr)]) (C := "BigRunner$Runner") (T := FT8) (N := 13) hx hb (hw8 hB _) (fun _ h9 => h9) TY8 ok8 nm8 hown hK hP hD hS (lo_in hL t_X (by decide)) eX rfl 11 (by decide) (wd_347 hB _) rfl (by decide +kernel) rfl rfl (Nat.le_of_ble_eq_true rfl) rfl d_NRunner_operateLong_7 (fun f369 H locs e370 k371 hP hD hS => ?_)
      have eN := (k371 (g.lk (g.lk pr 2) n) (tg_ne (lo_e25 hL _ (lo_k7_2 hL _ t_pr) _ (by omega)) t_X (by decide))).trans eN
      have eNx := (k371 (g.lk (g.lk pr 2) le) (tg_ne (lo_e25 hL _ (lo_k7_2 hL _ t_pr) _ (by omega)) t_X (by decide))).trans eNx
      have eNy := (k371 (g.lk (g.lk pr 2) ri) (tg_ne (lo_e25 hL _ (lo_k7_2 hL _ t_pr) _ (by omega)) t_X (by decide))).trans eNy
      have hu : ∀ b, b ≠ X → b ≠ (g.lk (g.lk (g.lk pr 2) n) 6) → b ≠ (g.lk (g.lk (g.lk (g.lk pr 2) n) 6) 2) → b ≠ (g.lk (g.lk (g.lk pr 2) le) 6) → b ≠ (g.lk (g.lk (g.lk (g.lk pr 2) le) 6) 2) → b ≠ (g.lk (g.lk (g.lk pr 2) ri) 6) → b ≠ (g.lk (g.lk (g.lk (g.lk pr 2) ri) 6) 2) → b ≠ (g.lk X 6) → b ≠ (g.lk (g.lk X 6) 0) → b ≠ (g.lk (g.lk X 6) 1) → f369 b = f b := fun b q0 q1 q2 q3 q4 q5 q6 q7 q8 q9 => (k371 b q0).trans (hu b q0 q1 q2 q3 q4 q5 q6 q7 q8 q9)
      have hk372 : ∀ b, b ≠ X → f369 b = f b := k371
      refine lv_aload_n hx hb d_NRunner_operateLong_10 rfl (lv_at hl 0 rfl) ?_
      refine pf_get (v := .ref pr) (C := "BigRunner$Runner") (T := FT8) (N := 13) hx hb (hw8 hB _) (fun _ h9 => h9) hown hK hP (lo_in hL t_X (by decide)) e370 rfl 0 (by decide) (wd_330 hB _) rfl d_NRunner_operateLong_11 ?_
      obtain ⟨sc_374, nc_375, e373, c376, c377⟩ := oc_7.of t_pr (hI.1 pr)
      replace e373 := (hk372 pr (tg_ne t_pr t_X (by decide))).trans e373
      refine pf_get (v := .ref (g.lk pr 2)) (C := "BigRunner$Program") (T := FT6) (N := 6) hx hb (hw6 hB _) (fun _ h9 => h9) hown hK hP (lo_in hL t_pr (by decide)) e373 rfl 2 (by decide) (wd_249 hB _) rfl d_NRunner_operateLong_14 ?_
      refine lv_aload_n hx hb d_NRunner_operateLong_17 rfl (lv_at hl 1 rfl) ?_
      refine pf_get (v := .int (nI le)) (C := "BigRunner$Node") (T := FT5) (N := 7) hx hb (hw5 hB _) (fun _ h9 => h9) hown hK hP (lo_in hL (lo_e25 hL _ (lo_k7_2 hL _ t_pr) _ (by omega)) (by decide)) eN rfl 1 (by decide) (wd_208 hB _) rfl d_NRunner_operateLong_18 ?_
      have e378 := oc_25.of (lo_k7_2 hL _ t_pr) (hI.1 (g.lk pr 2))
      replace e378 := (hk372 (g.lk pr 2) (tg_ne (lo_k7_2 hL _ t_pr) t_X (by decide))).trans e378
      refine pf_aald (i := le) hx hb hK hP (lo_in hL (lo_k7_2 hL _ t_pr) (by decide)) e378 (lo_t25 hL _ (lo_k7_2 hL _ t_pr)) (by omega) (by decide) d_NRunner_operateLong_21 ?_
      have hI379 := iv_1 hI hL t_X (by decide) hk372 (oc_9.mk t_X (⟨pr, ix, os, st, mo, ((lo + ((nI 1)))), tr, e370, t_pr, (by omega), (by omega), (by omega), (by omega)⟩))
      refine pcc_r (va_runV (C := "BigRunner$Node") (As := []) (rest := []) ⟨hx, hb, hml, hown, tb_nil⟩ (v_widenedS l g H.size f369 ((g.lk (g.lk pr 2) le)) kx1 kx2 kx3 mx hL (lo_e25 hL _ (lo_k7_2 hL _ t_pr) _ (by omega)) hI379 eNx (by rw [(hsx rfl).1]; exact (hsx rfl).2)) ⟨(callB_of 0 (tb_one (wd_761 hB _)) tb_good1 rfl rfl rfl (wd_77 hB _) (wd_758 hB _) (by decide +kernel) ⟨Nat.le_of_ble_eq_true rfl, Nat.le_of_ble_eq_true rfl⟩), (wd_759 hB _), (wd_760 hB _)⟩ ⟨pe_bl, pg_recv (ci := 5) hK hP (lo_in hL (lo_e25 hL _ (lo_k7_2 hL _ t_pr) _ (by omega)) (by decide)) eNx rfl, pe_pre hB hK hP hD⟩ rfl rfl hl.1 rfl (lv_room (Nat.le_of_ble_eq_true rfl)) d_NRunner_operateLong_22 ⟨Nat.le_of_ble_eq_true rfl, Nat.le_of_ble_eq_true rfl⟩) hS (fun r380 f381 H locs hq382 hP hD hS => ?_)
      obtain ⟨ra_383, lv_384, hI1_385, hk1_386⟩ := hq382
      subst ra_383
      have hu : ∀ b, b ≠ X → b ≠ (g.lk (g.lk (g.lk pr 2) n) 6) → b ≠ (g.lk (g.lk (g.lk (g.lk pr 2) n) 6) 2) → b ≠ (g.lk (g.lk (g.lk pr 2) le) 6) → b ≠ (g.lk (g.lk (g.lk (g.lk pr 2) le) 6) 2) → b ≠ (g.lk (g.lk (g.lk pr 2) ri) 6) → b ≠ (g.lk (g.lk (g.lk (g.lk pr 2) ri) 6) 2) → b ≠ (g.lk X 6) → b ≠ (g.lk (g.lk X 6) 0) → b ≠ (g.lk (g.lk X 6) 1) → f381 b = f b := fun b q0 q1 q2 q3 q4 q5 q6 q7 q8 q9 => (hk1_386 b q3 q4).trans (hu b q0 q1 q2 q3 q4 q5 q6 q7 q8 q9)
      have eN := (hk1_386 (g.lk (g.lk pr 2) n) (tg_ne (lo_e25 hL _ (lo_k7_2 hL _ t_pr) _ (by omega)) (lo_k6_6 hL _ (lo_e25 hL _ (lo_k7_2 hL _ t_pr) _ (by omega))) (by decide)) (tg_ne (lo_e25 hL _ (lo_k7_2 hL _ t_pr) _ (by omega)) (lo_k5_2 hL _ (lo_k6_6 hL _ (lo_e25 hL _ (lo_k7_2 hL _ t_pr) _ (by omega)))) (by decide))).trans eN
      have eNx := (hk1_386 (g.lk (g.lk pr 2) le) (tg_ne (lo_e25 hL _ (lo_k7_2 hL _ t_pr) _ (by omega)) (lo_k6_6 hL _ (lo_e25 hL _ (lo_k7_2 hL _ t_pr) _ (by omega))) (by decide)) (tg_ne (lo_e25 hL _ (lo_k7_2 hL _ t_pr) _ (by omega)) (lo_k5_2 hL _ (lo_k6_6 hL _ (lo_e25 hL _ (lo_k7_2 hL _ t_pr) _ (by omega)))) (by decide))).trans eNx
      have eNy := (hk1_386 (g.lk (g.lk pr 2) ri) (tg_ne (lo_e25 hL _ (lo_k7_2 hL _ t_pr) _ (by omega)) (lo_k6_6 hL _ (lo_e25 hL _ (lo_k7_2 hL _ t_pr) _ (by omega))) (by decide)) (tg_ne (lo_e25 hL _ (lo_k7_2 hL _ t_pr) _ (by omega)) (lo_k5_2 hL _ (lo_k6_6 hL _ (lo_e25 hL _ (lo_k7_2 hL _ t_pr) _ (by omega)))) (by decide))).trans eNy
      have e370 := (hk1_386 X (tg_ne t_X (lo_k6_6 hL _ (lo_e25 hL _ (lo_k7_2 hL _ t_pr) _ (by omega))) (by decide)) (tg_ne t_X (lo_k5_2 hL _ (lo_k6_6 hL _ (lo_e25 hL _ (lo_k7_2 hL _ t_pr) _ (by omega)))) (by decide))).trans e370
      have e373 := (hk1_386 pr (tg_ne t_pr (lo_k6_6 hL _ (lo_e25 hL _ (lo_k7_2 hL _ t_pr) _ (by omega))) (by decide)) (tg_ne t_pr (lo_k5_2 hL _ (lo_k6_6 hL _ (lo_e25 hL _ (lo_k7_2 hL _ t_pr) _ (by omega)))) (by decide))).trans e373
      have e378 := (hk1_386 (g.lk pr 2) (tg_ne (lo_k7_2 hL _ t_pr) (lo_k6_6 hL _ (lo_e25 hL _ (lo_k7_2 hL _ t_pr) _ (by omega))) (by decide)) (tg_ne (lo_k7_2 hL _ t_pr) (lo_k5_2 hL _ (lo_k6_6 hL _ (lo_e25 hL _ (lo_k7_2 hL _ t_pr) _ (by omega)))) (by decide))).trans e378
      obtain ⟨sg387, nn388, dd389, e390, e391, hN392⟩ := lv_384
      have c393 : ∀ i, i < 15 → ∃ k, k < 1000000000 ∧ dd389 i = nI k := hN392.2.1
      have hnn388 : nn388 ≤ 15 := hN392.1
      refine lv_astore_n (lv' := [(2, .ref (g.lk (g.lk (g.lk pr 2) le) 6)), (0, .ref X), (1, .ref (g.lk (g.lk pr 2) n))]) hx hb d_NRunner_operateLong_25 rfl hl (by decide) rfl (fun ls hl => ?_)
      have hFx : LNF sg387 nn388 dd389 vx := ⟨LNV_cast hN392 (hsx rfl).1, htx⟩
      refine lv_aload_n hx hb d_NRunner_operateLong_26 rfl (lv_at hl 1 rfl) ?_
      refine pf_get (v := .ref pr) (C := "BigRunner$Runner") (T := FT8) (N := 13) hx hb (hw8 hB _) (fun _ h9 => h9) hown hK hP (lo_in hL t_X (by decide)) e370 rfl 0 (by decide) (wd_330 hB _) rfl d_NRunner_operateLong_27 ?_
      refine pf_get (v := .ref (g.lk pr 2)) (C := "BigRunner$Program") (T := FT6) (N := 6) hx hb (hw6 hB _) (fun _ h9 => h9) hown hK hP (lo_in hL t_pr (by decide)) e373 rfl 2 (by decide) (wd_249 hB _) rfl d_NRunner_operateLong_30 ?_
      refine lv_aload_n hx hb d_NRunner_operateLong_33 rfl (lv_at hl 2 rfl) ?_
      refine pf_get (v := .int (nI ri)) (C := "BigRunner$Node") (T := FT5) (N := 7) hx hb (hw5 hB _) (fun _ h9 => h9) hown hK hP (lo_in hL (lo_e25 hL _ (lo_k7_2 hL _ t_pr) _ (by omega)) (by decide)) eN rfl 2 (by decide) (wd_212 hB _) rfl d_NRunner_operateLong_34 ?_
      refine pf_aald (i := ri) hx hb hK hP (lo_in hL (lo_k7_2 hL _ t_pr) (by decide)) e378 (lo_t25 hL _ (lo_k7_2 hL _ t_pr)) (by omega) (by decide) d_NRunner_operateLong_37 ?_
      refine pcc_r (va_runV (C := "BigRunner$Node") (As := []) (rest := []) ⟨hx, hb, hml, hown, tb_nil⟩ (v_widenedS l g H.size f381 ((g.lk (g.lk pr 2) ri)) ky1 ky2 ky3 my hL (lo_e25 hL _ (lo_k7_2 hL _ t_pr) _ (by omega)) hI1_385 eNy (by rw [(hsy rfl).1]; exact (hsy rfl).2)) ⟨(callB_of 0 (tb_one (wd_761 hB _)) tb_good1 rfl rfl rfl (wd_77 hB _) (wd_758 hB _) (by decide +kernel) ⟨Nat.le_of_ble_eq_true rfl, Nat.le_of_ble_eq_true rfl⟩), (wd_759 hB _), (wd_760 hB _)⟩ ⟨pe_bl, pg_recv (ci := 5) hK hP (lo_in hL (lo_e25 hL _ (lo_k7_2 hL _ t_pr) _ (by omega)) (by decide)) eNy rfl, pe_pre hB hK hP hD⟩ rfl rfl hl.1 rfl (lv_room (Nat.le_of_ble_eq_true rfl)) d_NRunner_operateLong_38 ⟨Nat.le_of_ble_eq_true rfl, Nat.le_of_ble_eq_true rfl⟩) hS (fun r394 f395 H locs hq396 hP hD hS => ?_)
      obtain ⟨ra_397, lv_398, hI1_399, hk1_400⟩ := hq396
      subst ra_397
      have hu : ∀ b, b ≠ X → b ≠ (g.lk (g.lk (g.lk pr 2) n) 6) → b ≠ (g.lk (g.lk (g.lk (g.lk pr 2) n) 6) 2) → b ≠ (g.lk (g.lk (g.lk pr 2) le) 6) → b ≠ (g.lk (g.lk (g.lk (g.lk pr 2) le) 6) 2) → b ≠ (g.lk (g.lk (g.lk pr 2) ri) 6) → b ≠ (g.lk (g.lk (g.lk (g.lk pr 2) ri) 6) 2) → b ≠ (g.lk X 6) → b ≠ (g.lk (g.lk X 6) 0) → b ≠ (g.lk (g.lk X 6) 1) → f395 b = f b := fun b q0 q1 q2 q3 q4 q5 q6 q7 q8 q9 => (hk1_400 b q5 q6).trans (hu b q0 q1 q2 q3 q4 q5 q6 q7 q8 q9)
      have eN := (hk1_400 (g.lk (g.lk pr 2) n) (tg_ne (lo_e25 hL _ (lo_k7_2 hL _ t_pr) _ (by omega)) (lo_k6_6 hL _ (lo_e25 hL _ (lo_k7_2 hL _ t_pr) _ (by omega))) (by decide)) (tg_ne (lo_e25 hL _ (lo_k7_2 hL _ t_pr) _ (by omega)) (lo_k5_2 hL _ (lo_k6_6 hL _ (lo_e25 hL _ (lo_k7_2 hL _ t_pr) _ (by omega)))) (by decide))).trans eN
      have eNx := (hk1_400 (g.lk (g.lk pr 2) le) (tg_ne (lo_e25 hL _ (lo_k7_2 hL _ t_pr) _ (by omega)) (lo_k6_6 hL _ (lo_e25 hL _ (lo_k7_2 hL _ t_pr) _ (by omega))) (by decide)) (tg_ne (lo_e25 hL _ (lo_k7_2 hL _ t_pr) _ (by omega)) (lo_k5_2 hL _ (lo_k6_6 hL _ (lo_e25 hL _ (lo_k7_2 hL _ t_pr) _ (by omega)))) (by decide))).trans eNx
      have eNy := (hk1_400 (g.lk (g.lk pr 2) ri) (tg_ne (lo_e25 hL _ (lo_k7_2 hL _ t_pr) _ (by omega)) (lo_k6_6 hL _ (lo_e25 hL _ (lo_k7_2 hL _ t_pr) _ (by omega))) (by decide)) (tg_ne (lo_e25 hL _ (lo_k7_2 hL _ t_pr) _ (by omega)) (lo_k5_2 hL _ (lo_k6_6 hL _ (lo_e25 hL _ (lo_k7_2 hL _ t_pr) _ (by omega)))) (by decide))).trans eNy
      have e370 := (hk1_400 X (tg_ne t_X (lo_k6_6 hL _ (lo_e25 hL _ (lo_k7_2 hL _ t_pr) _ (by omega))) (by decide)) (tg_ne t_X (lo_k5_2 hL _ (lo_k6_6 hL _ (lo_e25 hL _ (lo_k7_2 hL _ t_pr) _ (by omega)))) (by decide))).trans e370
      have e373 := (hk1_400 pr (tg_ne t_pr (lo_k6_6 hL _ (lo_e25 hL _ (lo_k7_2 hL _ t_pr) _ (by omega))) (by decide)) (tg_ne t_pr (lo_k5_2 hL _ (lo_k6_6 hL _ (lo_e25 hL _ (lo_k7_2 hL _ t_pr) _ (by omega)))) (by decide))).trans e373
      have e378 := (hk1_400 (g.lk pr 2) (tg_ne (lo_k7_2 hL _ t_pr) (lo_k6_6 hL _ (lo_e25 hL _ (lo_k7_2 hL _ t_pr) _ (by omega))) (by decide)) (tg_ne (lo_k7_2 hL _ t_pr) (lo_k5_2 hL _ (lo_k6_6 hL _ (lo_e25 hL _ (lo_k7_2 hL _ t_pr) _ (by omega)))) (by decide))).trans e378
      have e390 := (hk1_400 (g.lk (g.lk (g.lk pr 2) le) 6) (tn_ne ((lo_n6 hL _ (lo_e25 hL _ (lo_k7_2 hL _ t_pr) _ (by omega))).trans (lo_n25 hL _ (lo_k7_2 hL _ t_pr) _ (by omega))) ((lo_n6 hL _ (lo_e25 hL _ (lo_k7_2 hL _ t_pr) _ (by omega))).trans (lo_n25 hL _ (lo_k7_2 hL _ t_pr) _ (by omega))) (by omega)) (tg_ne (lo_k6_6 hL _ (lo_e25 hL _ (lo_k7_2 hL _ t_pr) _ (by omega))) (lo_k5_2 hL _ (lo_k6_6 hL _ (lo_e25 hL _ (lo_k7_2 hL _ t_pr) _ (by omega)))) (by decide))).trans e390
      have e391 := (hk1_400 (g.lk (g.lk (g.lk (g.lk pr 2) le) 6) 2) (tg_ne (lo_k5_2 hL _ (lo_k6_6 hL _ (lo_e25 hL _ (lo_k7_2 hL _ t_pr) _ (by omega)))) (lo_k6_6 hL _ (lo_e25 hL _ (lo_k7_2 hL _ t_pr) _ (by omega))) (by decide)) (fun q9 => (tn_ne ((lo_n6 hL _ (lo_e25 hL _ (lo_k7_2 hL _ t_pr) _ (by omega))).trans (lo_n25 hL _ (lo_k7_2 hL _ t_pr) _ (by omega))) ((lo_n6 hL _ (lo_e25 hL _ (lo_k7_2 hL _ t_pr) _ (by omega))).trans (lo_n25 hL _ (lo_k7_2 hL _ t_pr) _ (by omega))) (by omega)) (lo_inj5 hL _ _ (lo_k6_6 hL _ (lo_e25 hL _ (lo_k7_2 hL _ t_pr) _ (by omega))) (lo_k6_6 hL _ (lo_e25 hL _ (lo_k7_2 hL _ t_pr) _ (by omega))) q9))).trans e391
      obtain ⟨sg401, nn402, dd403, e404, e405, hN406⟩ := lv_398
      have c407 : ∀ i, i < 15 → ∃ k, k < 1000000000 ∧ dd403 i = nI k := hN406.2.1
      have hnn402 : nn402 ≤ 15 := hN406.1
      refine lv_astore_n (lv' := [(3, .ref (g.lk (g.lk (g.lk pr 2) ri) 6)), (2, .ref (g.lk (g.lk (g.lk pr 2) le) 6)), (0, .ref X), (1, .ref (g.lk (g.lk pr 2) n))]) hx hb d_NRunner_operateLong_41 rfl hl (by decide) rfl (fun ls hl => ?_)
      have hFy : LNF sg401 nn402 dd403 vy := ⟨LNV_cast hN406 (hsy rfl).1, hty⟩
      refine lv_iconst (v := nI 1) hx hb d_NRunner_operateLong_42 (by decide) ?_
      refine lv_istore (lv' := [(4, .int (nI 1)), (3, .ref (g.lk (g.lk (g.lk pr 2) ri) 6)), (2, .ref (g.lk (g.lk (g.lk pr 2) le) 6)), (0, .ref X), (1, .ref (g.lk (g.lk pr 2) n))]) hx hb d_NRunner_operateLong_43 hl (by decide) rfl (fun ls hl => ?_)
      refine lv_aload_n hx hb d_NRunner_operateLong_45 rfl (lv_at hl 4 rfl) ?_
      refine pf_get (v := .int (nI 4)) (C := "BigRunner$Node") (T := FT5) (N := 7) hx hb (hw5 hB _) (fun _ h9 => h9) hown hK hP (lo_in hL (lo_e25 hL _ (lo_k7_2 hL _ t_pr) _ (by omega)) (by decide)) eN rfl 0 (by decide) (wd_204 hB _) rfl d_NRunner_operateLong_46 ?_
      refine lv_tableIn (off := 65) (tgt := 114) hx hb d_NRunner_operateLong_49 (by rw [nI_toInt (by omega)]; omega) (by rw [nI_toInt (by omega)]; omega) (by rw [nI_toInt (by omega)]; rfl) (by decide) ?_
      refine lv_aload_n hx hb d_NRunner_operateLong_114 rfl (lv_at hl 4 rfl) ?_
      refine pf_get (v := .ref (g.lk (g.lk (g.lk pr 2) n) 6)) (C := "BigRunner$Node") (T := FT5) (N := 7) hx hb (hw5 hB _) (fun _ h9 => h9) hown hK hP (lo_in hL (lo_e25 hL _ (lo_k7_2 hL _ t_pr) _ (by omega)) (by decide)) eN rfl 6 (by decide) (wd_224 hB _) rfl d_NRunner_operateLong_115 ?_
      refine lv_aload_n hx hb d_NRunner_operateLong_118 rfl (lv_at hl 2 rfl) ?_
      refine lv_aload_n hx hb d_NRunner_operateLong_119 rfl (lv_at hl 1 rfl) ?_
      refine lv_aload_n hx hb d_NRunner_operateLong_120 rfl (lv_at hl 1 rfl) ?_
      refine pf_get (v := .int sg401) (C := "BigRunner$LongNumber") (T := FT4) (N := 3) hx hb (hw4 hB _) (fun _ h9 => h9) hown hK hP (lo_in hL (lo_k6_6 hL _ (lo_e25 hL _ (lo_k7_2 hL _ t_pr) _ (by omega))) (by decide)) e404 rfl 0 (by decide) (wd_189 hB _) rfl d_NRunner_operateLong_121 ?_
      refine lv_ineg hx hb d_NRunner_operateLong_124 ?_
      obtain ⟨sg_409, n_410, e408, c411⟩ := oc_5.of (lo_k6_6 hL _ (lo_e25 hL _ (lo_k7_2 hL _ t_pr) _ (by omega))) (hI1_399.1 (g.lk (g.lk (g.lk pr 2) n) 6))
      refine pcc_i (va_runV (C := "BigRunner$LongNumber") (As := [.ref (g.lk (g.lk (g.lk pr 2) le) 6), .ref (g.lk (g.lk (g.lk pr 2) ri) 6), .int (-sg401)]) (rest := []) ⟨hx, hb, hml, hown, tb_nil⟩ (v_setSum l g H.size f395 ((g.lk (g.lk (g.lk pr 2) n) 6)) ((g.lk (g.lk (g.lk pr 2) le) 6)) sg387 nn388 dd389 vx ((g.lk (g.lk (g.lk pr 2) ri) 6)) sg401 nn402 dd403 vy ((-sg401)) hL (lo_k6_6 hL _ (lo_e25 hL _ (lo_k7_2 hL _ t_pr) _ (by omega))) (lo_k6_6 hL _ (lo_e25 hL _ (lo_k7_2 hL _ t_pr) _ (by omega))) (lo_k6_6 hL _ (lo_e25 hL _ (lo_k7_2 hL _ t_pr) _ (by omega))) hI1_399 e390 e391 hFx e404 e405 hFy (tn_ne ((lo_n6 hL _ (lo_e25 hL _ (lo_k7_2 hL _ t_pr) _ (by omega))).trans (lo_n25 hL _ (lo_k7_2 hL _ t_pr) _ (by omega))) ((lo_n6 hL _ (lo_e25 hL _ (lo_k7_2 hL _ t_pr) _ (by omega))).trans (lo_n25 hL _ (lo_k7_2 hL _ t_pr) _ (by omega))) (by omega)) (tn_ne ((lo_n6 hL _ (lo_e25 hL _ (lo_k7_2 hL _ t_pr) _ (by omega))).trans (lo_n25 hL _ (lo_k7_2 hL _ t_pr) _ (by omega))) ((lo_n6 hL _ (lo_e25 hL _ (lo_k7_2 hL _ t_pr) _ (by omega))).trans (lo_n25 hL _ (lo_k7_2 hL _ t_pr) _ (by omega))) (by omega)) ((LS_neg hFy.1.2.2.1).1)) ⟨(callB_of 3 (tb_one (wd_766 hB _)) tb_good1 rfl rfl rfl (wd_78 hB _) (wd_763 hB _) (by decide +kernel) ⟨Nat.le_of_ble_eq_true rfl, Nat.le_of_ble_eq_true rfl⟩), (wd_764 hB _), (wd_765 hB _)⟩ ⟨pe_bl, pg_recv (ci := 4) hK hP (lo_in hL (lo_k6_6 hL _ (lo_e25 hL _ (lo_k7_2 hL _ t_pr) _ (by omega))) (by decide)) e408 rfl, pe_pre hB hK hP hD⟩ rfl rfl hl.1 rfl (lv_room (Nat.le_of_ble_eq_true rfl)) d_NRunner_operateLong_125 ⟨Nat.le_of_ble_eq_true rfl, Nat.le_of_ble_eq_true rfl⟩) hS (fun r412 f413 H locs hq414 hP hD hS => ?_)
      obtain ⟨bo_415, lv_416, i1_417, i0_418, hI1_419, hk1_420⟩ := hq414
      have hu : ∀ b, b ≠ X → b ≠ (g.lk (g.lk (g.lk pr 2) n) 6) → b ≠ (g.lk (g.lk (g.lk (g.lk pr 2) n) 6) 2) → b ≠ (g.lk (g.lk (g.lk pr 2) le) 6) → b ≠ (g.lk (g.lk (g.lk (g.lk pr 2) le) 6) 2) → b ≠ (g.lk (g.lk (g.lk pr 2) ri) 6) → b ≠ (g.lk (g.lk (g.lk (g.lk pr 2) ri) 6) 2) → b ≠ (g.lk X 6) → b ≠ (g.lk (g.lk X 6) 0) → b ≠ (g.lk (g.lk X 6) 1) → f413 b = f b := fun b q0 q1 q2 q3 q4 q5 q6 q7 q8 q9 => (hk1_420 b q1 q2).trans (hu b q0 q1 q2 q3 q4 q5 q6 q7 q8 q9)
      have eN := (hk1_420 (g.lk (g.lk pr 2) n) (tg_ne (lo_e25 hL _ (lo_k7_2 hL _ t_pr) _ (by omega)) (lo_k6_6 hL _ (lo_e25 hL _ (lo_k7_2 hL _ t_pr) _ (by omega))) (by decide)) (tg_ne (lo_e25 hL _ (lo_k7_2 hL _ t_pr) _ (by omega)) (lo_k5_2 hL _ (lo_k6_6 hL _ (lo_e25 hL _ (lo_k7_2 hL _ t_pr) _ (by omega)))) (by decide))).trans eN
      have eNx := (hk1_420 (g.lk (g.lk pr 2) le) (tg_ne (lo_e25 hL _ (lo_k7_2 hL _ t_pr) _ (by omega)) (lo_k6_6 hL _ (lo_e25 hL _ (lo_k7_2 hL _ t_pr) _ (by omega))) (by decide)) (tg_ne (lo_e25 hL _ (lo_k7_2 hL _ t_pr) _ (by omega)) (lo_k5_2 hL _ (lo_k6_6 hL _ (lo_e25 hL _ (lo_k7_2 hL _ t_pr) _ (by omega)))) (by decide))).trans eNx
      have eNy := (hk1_420 (g.lk (g.lk pr 2) ri) (tg_ne (lo_e25 hL _ (lo_k7_2 hL _ t_pr) _ (by omega)) (lo_k6_6 hL _ (lo_e25 hL _ (lo_k7_2 hL _ t_pr) _ (by omega))) (by decide)) (tg_ne (lo_e25 hL _ (lo_k7_2 hL _ t_pr) _ (by omega)) (lo_k5_2 hL _ (lo_k6_6 hL _ (lo_e25 hL _ (lo_k7_2 hL _ t_pr) _ (by omega)))) (by decide))).trans eNy
      have e370 := (hk1_420 X (tg_ne t_X (lo_k6_6 hL _ (lo_e25 hL _ (lo_k7_2 hL _ t_pr) _ (by omega))) (by decide)) (tg_ne t_X (lo_k5_2 hL _ (lo_k6_6 hL _ (lo_e25 hL _ (lo_k7_2 hL _ t_pr) _ (by omega)))) (by decide))).trans e370
      have e373 := (hk1_420 pr (tg_ne t_pr (lo_k6_6 hL _ (lo_e25 hL _ (lo_k7_2 hL _ t_pr) _ (by omega))) (by decide)) (tg_ne t_pr (lo_k5_2 hL _ (lo_k6_6 hL _ (lo_e25 hL _ (lo_k7_2 hL _ t_pr) _ (by omega)))) (by decide))).trans e373
      have e378 := (hk1_420 (g.lk pr 2) (tg_ne (lo_k7_2 hL _ t_pr) (lo_k6_6 hL _ (lo_e25 hL _ (lo_k7_2 hL _ t_pr) _ (by omega))) (by decide)) (tg_ne (lo_k7_2 hL _ t_pr) (lo_k5_2 hL _ (lo_k6_6 hL _ (lo_e25 hL _ (lo_k7_2 hL _ t_pr) _ (by omega)))) (by decide))).trans e378
      have e390 := (hk1_420 (g.lk (g.lk (g.lk pr 2) le) 6) (tn_ne ((lo_n6 hL _ (lo_e25 hL _ (lo_k7_2 hL _ t_pr) _ (by omega))).trans (lo_n25 hL _ (lo_k7_2 hL _ t_pr) _ (by omega))) ((lo_n6 hL _ (lo_e25 hL _ (lo_k7_2 hL _ t_pr) _ (by omega))).trans (lo_n25 hL _ (lo_k7_2 hL _ t_pr) _ (by omega))) (by omega)) (tg_ne (lo_k6_6 hL _ (lo_e25 hL _ (lo_k7_2 hL _ t_pr) _ (by omega))) (lo_k5_2 hL _ (lo_k6_6 hL _ (lo_e25 hL _ (lo_k7_2 hL _ t_pr) _ (by omega)))) (by decide))).trans e390
      have e391 := (hk1_420 (g.lk (g.lk (g.lk (g.lk pr 2) le) 6) 2) (tg_ne (lo_k5_2 hL _ (lo_k6_6 hL _ (lo_e25 hL _ (lo_k7_2 hL _ t_pr) _ (by omega)))) (lo_k6_6 hL _ (lo_e25 hL _ (lo_k7_2 hL _ t_pr) _ (by omega))) (by decide)) (fun q9 => (tn_ne ((lo_n6 hL _ (lo_e25 hL _ (lo_k7_2 hL _ t_pr) _ (by omega))).trans (lo_n25 hL _ (lo_k7_2 hL _ t_pr) _ (by omega))) ((lo_n6 hL _ (lo_e25 hL _ (lo_k7_2 hL _ t_pr) _ (by omega))).trans (lo_n25 hL _ (lo_k7_2 hL _ t_pr) _ (by omega))) (by omega)) (lo_inj5 hL _ _ (lo_k6_6 hL _ (lo_e25 hL _ (lo_k7_2 hL _ t_pr) _ (by omega))) (lo_k6_6 hL _ (lo_e25 hL _ (lo_k7_2 hL _ t_pr) _ (by omega))) q9))).trans e391
      have e404 := (hk1_420 (g.lk (g.lk (g.lk pr 2) ri) 6) (tn_ne ((lo_n6 hL _ (lo_e25 hL _ (lo_k7_2 hL _ t_pr) _ (by omega))).trans (lo_n25 hL _ (lo_k7_2 hL _ t_pr) _ (by omega))) ((lo_n6 hL _ (lo_e25 hL _ (lo_k7_2 hL _ t_pr) _ (by omega))).trans (lo_n25 hL _ (lo_k7_2 hL _ t_pr) _ (by omega))) (by omega)) (tg_ne (lo_k6_6 hL _ (lo_e25 hL _ (lo_k7_2 hL _ t_pr) _ (by omega))) (lo_k5_2 hL _ (lo_k6_6 hL _ (lo_e25 hL _ (lo_k7_2 hL _ t_pr) _ (by omega)))) (by decide))).trans e404
      have e405 := (hk1_420 (g.lk (g.lk (g.lk (g.lk pr 2) ri) 6) 2) (tg_ne (lo_k5_2 hL _ (lo_k6_6 hL _ (lo_e25 hL _ (lo_k7_2 hL _ t_pr) _ (by omega)))) (lo_k6_6 hL _ (lo_e25 hL _ (lo_k7_2 hL _ t_pr) _ (by omega))) (by decide)) (fun q9 => (tn_ne ((lo_n6 hL _ (lo_e25 hL _ (lo_k7_2 hL _ t_pr) _ (by omega))).trans (lo_n25 hL _ (lo_k7_2 hL _ t_pr) _ (by omega))) ((lo_n6 hL _ (lo_e25 hL _ (lo_k7_2 hL _ t_pr) _ (by omega))).trans (lo_n25 hL _ (lo_k7_2 hL _ t_pr) _ (by omega))) (by omega)) (lo_inj5 hL _ _ (lo_k6_6 hL _ (lo_e25 hL _ (lo_k7_2 hL _ t_pr) _ (by omega))) (lo_k6_6 hL _ (lo_e25 hL _ (lo_k7_2 hL _ t_pr) _ (by omega))) q9))).trans e405
      obtain ⟨sg421, nn422, dd423, e424, e425, hN426⟩ := lv_416
      have c427 : ∀ i, i < 15 → ∃ k, k < 1000000000 ∧ dd423 i = nI k := hN426.2.1
      have hnn422 : nn422 ≤ 15 := hN426.1
      refine lv_istore (lv' := [(4, .int r412), (3, .ref (g.lk (g.lk (g.lk pr 2) ri) 6)), (2, .ref (g.lk (g.lk (g.lk pr 2) le) 6)), (0, .ref X), (1, .ref (g.lk (g.lk pr 2) n))]) hx hb d_NRunner_operateLong_128 hl (by decide) rfl (fun ls hl => ?_)
      refine lv_goto (tgt := 183) hx hb d_NRunner_operateLong_130 (by decide) ?_
      refine lv_iload hx hb d_NRunner_operateLong_183 (lv_at hl 0 rfl) ?_
      refine lv_if_eq (tgt := 192) hx hb d_NRunner_operateLong_185 (by decide) (fun b428 => ?_) (fun b428 => ?_)
      · skip
        have hr429 : r412 = nI 0 := b428
        have hi430 := i0_418 hr429
        have hfit8 : T12 ≤ (opv 3 vx vy).natAbs := by rw [← (show vx + (-sg401).toInt * _ = opv 3 vx vy by rw [(LS_neg hFy.1.2.2.1).2, Int.neg_mul, ← hFy.1.2.2.2.2]; rfl)]; exact i0_418 hr429
        refine lv_iconst (v := nI 2) hx hb d_NRunner_operateLong_192 (by decide) ?_
        exact pe_iret hx hb hr hlocks hK hP hD hS d_NRunner_operateLong_193 ⟨⟨(lo + ((nI 1))), e370⟩, (congrArg nI (otr_2 (by decide) (Or.inl (by decide)) hfit8).symm), (fun z9 => absurd (z9.symm.trans (otr_2 (by decide) (Or.inl (by decide)) hfit8)) (by decide)), hI1_419, hu⟩
      · skip
        have hr431 : r412 = nI 1 := (bl_1 bo_415 b428)
        have hi432 := i1_417 hr431
        have hfit9 : (opv 3 vx vy).natAbs < T12 := by rw [← (show vx + (-sg401).toInt * _ = opv 3 vx vy by rw [(LS_neg hFy.1.2.2.1).2, Int.neg_mul, ← hFy.1.2.2.2.2]; rfl)]; exact i1_417 hr431
        refine lv_iconst (v := nI 0) hx hb d_NRunner_operateLong_188 (by decide) ?_
        refine lv_goto (tgt := 193) hx hb d_NRunner_operateLong_189 (by decide) ?_
        exact pe_iret hx hb hr hlocks hK hP hD hS d_NRunner_operateLong_193 ⟨⟨(lo + ((nI 1))), e370⟩, (congrArg nI (otr_0 (by decide) (Or.inl (by decide)) hfit9).symm), (fun _ => ⟨_, _, _, e424, e425, LNV_cast hN426 (show vx + (-sg401).toInt * _ = opv 3 vx vy by rw [(LS_neg hFy.1.2.2.1).2, Int.neg_mul, ← hFy.1.2.2.2.2]; rfl)⟩), hI1_419, hu⟩
  · skip
    rw [show km 4 = 5 from rfl] at eN
    rcases hsx with rfl | rfl <;> rcases hsy with rfl | rfl
    · skip
      obtain ⟨kx1, kx2, kx3, mx, eNx, hsx, hlx, htx⟩ := hVx
      obtain ⟨sgx, nx, dx, eax, ebx, hNx⟩ := hlx rfl
      have hFx : LNF sgx nx dx vx := ⟨hNx, htx⟩
      have cbx : ∀ i, i < 15 → ∃ k, k < 1000000000 ∧ dx i = nI k := hNx.2.1
      have hnx : nx ≤ 15 := hNx.1
      obtain ⟨ky1, ky2, ky3, my, eNy, hsy, hly, hty⟩ := hVy
      obtain ⟨sgy, ny, dy, eay, eby, hNy⟩ := hly rfl
      have hFy : LNF sgy ny dy vy := ⟨hNy, hty⟩
      have cby : ∀ i, i < 15 → ∃ k, k < 1000000000 ∧ dy i = nI k := hNy.2.1
      have hny : ny ≤ 15 := hNy.1
      refine lv_aload_n hx hb d_NRunner_operateLong_0 rfl (lv_at hl 0 rfl) ?_
      refine lv_dup hx hb d_NRunner_operateLong_1 rfl ?_
      refine pf_get (v := .int lo) (C := "BigRunner$Runner") (T := FT8) (N := 13) hx hb (hw8 hB _) (fun _ h9 => h9) hown hK hP (lo_in hL t_X (by decide)) eX rfl 11 (by decide) (wd_347 hB _) rfl d_NRunner_operateLong_2 ?_
      refine lv_iconst (v := nI 1) hx hb d_NRunner_operateLong_5 (by decide) ?_
      refine lv_iadd hx hb d_NRunner_operateLong_6 ?_
      refine pf_put (v := .int (lo + ((nI 1)))) (ty := .int) (fs' := [.ref pr, .ref (g.lk X 1), .int (nI ix), .ref (g.lk X 3), .ref (g.lk X 4), .ref (g.lk X 5), .ref (g.lk X 6), .ref (g.lk X 7), .int (nI os), .int (nI st), .int mo, .int (lo + ((nI 1))), .int (nI tr)]) (C := "BigRunner$Runner") (T := FT8) (N := 13) hx hb (hw8 hB _) (fun _ h9 => h9) TY8 ok8 nm8 hown hK hP hD hS (lo_in hL t_X (by decide)) eX rfl 11 (by decide) (wd_347 hB _) rfl (by decide +kernel) rfl rfl (Nat.le_of_ble_eq_true rfl) rfl d_NRunner_operateLong_7 (fun f433 H locs e434 k435 hP hD hS => ?_)
      have eN := (k435 (g.lk (g.lk pr 2) n) (tg_ne (lo_e25 hL _ (lo_k7_2 hL _ t_pr) _ (by omega)) t_X (by decide))).trans eN
      have eNx := (k435 (g.lk (g.lk pr 2) le) (tg_ne (lo_e25 hL _ (lo_k7_2 hL _ t_pr) _ (by omega)) t_X (by decide))).trans eNx
      have eax := (k435 (g.lk (g.lk (g.lk pr 2) le) 6) (tg_ne (lo_k6_6 hL _ (lo_e25 hL _ (lo_k7_2 hL _ t_pr) _ (by omega))) t_X (by decide))).trans eax
      have ebx := (k435 (g.lk (g.lk (g.lk (g.lk pr 2) le) 6) 2) (tg_ne (lo_k5_2 hL _ (lo_k6_6 hL _ (lo_e25 hL _ (lo_k7_2 hL _ t_pr) _ (by omega)))) t_X (by decide))).trans ebx
      have eNy := (k435 (g.lk (g.lk pr 2) ri) (tg_ne (lo_e25 hL _ (lo_k7_2 hL _ t_pr) _ (by omega)) t_X (by decide))).trans eNy
      have eay := (k435 (g.lk (g.lk (g.lk pr 2) ri) 6) (tg_ne (lo_k6_6 hL _ (lo_e25 hL _ (lo_k7_2 hL _ t_pr) _ (by omega))) t_X (by decide))).trans eay
      have eby := (k435 (g.lk (g.lk (g.lk (g.lk pr 2) ri) 6) 2) (tg_ne (lo_k5_2 hL _ (lo_k6_6 hL _ (lo_e25 hL _ (lo_k7_2 hL _ t_pr) _ (by omega)))) t_X (by decide))).trans eby
      have hu : ∀ b, b ≠ X → b ≠ (g.lk (g.lk (g.lk pr 2) n) 6) → b ≠ (g.lk (g.lk (g.lk (g.lk pr 2) n) 6) 2) → b ≠ (g.lk (g.lk (g.lk pr 2) le) 6) → b ≠ (g.lk (g.lk (g.lk (g.lk pr 2) le) 6) 2) → b ≠ (g.lk (g.lk (g.lk pr 2) ri) 6) → b ≠ (g.lk (g.lk (g.lk (g.lk pr 2) ri) 6) 2) → b ≠ (g.lk X 6) → b ≠ (g.lk (g.lk X 6) 0) → b ≠ (g.lk (g.lk X 6) 1) → f433 b = f b := fun b q0 q1 q2 q3 q4 q5 q6 q7 q8 q9 => (k435 b q0).trans (hu b q0 q1 q2 q3 q4 q5 q6 q7 q8 q9)
      have hk436 : ∀ b, b ≠ X → f433 b = f b := k435
      refine lv_aload_n hx hb d_NRunner_operateLong_10 rfl (lv_at hl 0 rfl) ?_
      refine pf_get (v := .ref pr) (C := "BigRunner$Runner") (T := FT8) (N := 13) hx hb (hw8 hB _) (fun _ h9 => h9) hown hK hP (lo_in hL t_X (by decide)) e434 rfl 0 (by decide) (wd_330 hB _) rfl d_NRunner_operateLong_11 ?_
      obtain ⟨sc_438, nc_439, e437, c440, c441⟩ := oc_7.of t_pr (hI.1 pr)
      replace e437 := (hk436 pr (tg_ne t_pr t_X (by decide))).trans e437
      refine pf_get (v := .ref (g.lk pr 2)) (C := "BigRunner$Program") (T := FT6) (N := 6) hx hb (hw6 hB _) (fun _ h9 => h9) hown hK hP (lo_in hL t_pr (by decide)) e437 rfl 2 (by decide) (wd_249 hB _) rfl d_NRunner_operateLong_14 ?_
      refine lv_aload_n hx hb d_NRunner_operateLong_17 rfl (lv_at hl 1 rfl) ?_
      refine pf_get (v := .int (nI le)) (C := "BigRunner$Node") (T := FT5) (N := 7) hx hb (hw5 hB _) (fun _ h9 => h9) hown hK hP (lo_in hL (lo_e25 hL _ (lo_k7_2 hL _ t_pr) _ (by omega)) (by decide)) eN rfl 1 (by decide) (wd_208 hB _) rfl d_NRunner_operateLong_18 ?_
      have e442 := oc_25.of (lo_k7_2 hL _ t_pr) (hI.1 (g.lk pr 2))
      replace e442 := (hk436 (g.lk pr 2) (tg_ne (lo_k7_2 hL _ t_pr) t_X (by decide))).trans e442
      refine pf_aald (i := le) hx hb hK hP (lo_in hL (lo_k7_2 hL _ t_pr) (by decide)) e442 (lo_t25 hL _ (lo_k7_2 hL _ t_pr)) (by omega) (by decide) d_NRunner_operateLong_21 ?_
      have hI443 := iv_1 hI hL t_X (by decide) hk436 (oc_9.mk t_X (⟨pr, ix, os, st, mo, ((lo + ((nI 1)))), tr, e434, t_pr, (by omega), (by omega), (by omega), (by omega)⟩))
      refine pcc_r (va_runV (C := "BigRunner$Node") (As := []) (rest := []) ⟨hx, hb, hml, hown, tb_nil⟩ (v_widenedL l g H.size f433 ((g.lk (g.lk pr 2) le)) kx1 kx2 kx3 mx hL (lo_e25 hL _ (lo_k7_2 hL _ t_pr) _ (by omega)) hI443.1 eNx) ⟨(callB_of 0 (tb_one (wd_761 hB _)) tb_good1 rfl rfl rfl (wd_77 hB _) (wd_758 hB _) (by decide +kernel) ⟨Nat.le_of_ble_eq_true rfl, Nat.le_of_ble_eq_true rfl⟩), (wd_759 hB _), (wd_760 hB _)⟩ ⟨pe_bl, pg_recv (ci := 5) hK hP (lo_in hL (lo_e25 hL _ (lo_k7_2 hL _ t_pr) _ (by omega)) (by decide)) eNx rfl, pe_pre hB hK hP hD⟩ rfl rfl hl.1 rfl (lv_room (Nat.le_of_ble_eq_true rfl)) d_NRunner_operateLong_22 ⟨Nat.le_of_ble_eq_true rfl, Nat.le_of_ble_eq_true rfl⟩) hS (fun r444 f445 H locs hq446 hP hD hS => ?_)
      obtain ⟨ra_447, rfl⟩ := hq446
      subst ra_447
      refine lv_astore_n (lv' := [(2, .ref (g.lk (g.lk (g.lk pr 2) le) 6)), (0, .ref X), (1, .ref (g.lk (g.lk pr 2) n))]) hx hb d_NRunner_operateLong_25 rfl hl (by decide) rfl (fun ls hl => ?_)
      refine lv_aload_n hx hb d_NRunner_operateLong_26 rfl (lv_at hl 1 rfl) ?_
      refine pf_get (v := .ref pr) (C := "BigRunner$Runner") (T := FT8) (N := 13) hx hb (hw8 hB _) (fun _ h9 => h9) hown hK hP (lo_in hL t_X (by decide)) e434 rfl 0 (by decide) (wd_330 hB _) rfl d_NRunner_operateLong_27 ?_
      refine pf_get (v := .ref (g.lk pr 2)) (C := "BigRunner$Program") (T := FT6) (N := 6) hx hb (hw6 hB _) (fun _ h9 => h9) hown hK hP (lo_in hL t_pr (by decide)) e437 rfl 2 (by decide) (wd_249 hB _) rfl d_NRunner_operateLong_30 ?_
      refine lv_aload_n hx hb d_NRunner_operateLong_33 rfl (lv_at hl 2 rfl) ?_
      refine pf_get (v := .int (nI ri)) (C := "BigRunner$Node") (T := FT5) (N := 7) hx hb (hw5 hB _) (fun _ h9 => h9) hown hK hP (lo_in hL (lo_e25 hL _ (lo_k7_2 hL _ t_pr) _ (by omega)) (by decide)) eN rfl 2 (by decide) (wd_212 hB _) rfl d_NRunner_operateLong_34 ?_
      refine pf_aald (i := ri) hx hb hK hP (lo_in hL (lo_k7_2 hL _ t_pr) (by decide)) e442 (lo_t25 hL _ (lo_k7_2 hL _ t_pr)) (by omega) (by decide) d_NRunner_operateLong_37 ?_
      refine pcc_r (va_runV (C := "BigRunner$Node") (As := []) (rest := []) ⟨hx, hb, hml, hown, tb_nil⟩ (v_widenedL l g H.size f433 ((g.lk (g.lk pr 2) ri)) ky1 ky2 ky3 my hL (lo_e25 hL _ (lo_k7_2 hL _ t_pr) _ (by omega)) hI443.1 eNy) ⟨(callB_of 0 (tb_one (wd_761 hB _)) tb_good1 rfl rfl rfl (wd_77 hB _) (wd_758 hB _) (by decide +kernel) ⟨Nat.le_of_ble_eq_true rfl, Nat.le_of_ble_eq_true rfl⟩), (wd_759 hB _), (wd_760 hB _)⟩ ⟨pe_bl, pg_recv (ci := 5) hK hP (lo_in hL (lo_e25 hL _ (lo_k7_2 hL _ t_pr) _ (by omega)) (by decide)) eNy rfl, pe_pre hB hK hP hD⟩ rfl rfl hl.1 rfl (lv_room (Nat.le_of_ble_eq_true rfl)) d_NRunner_operateLong_38 ⟨Nat.le_of_ble_eq_true rfl, Nat.le_of_ble_eq_true rfl⟩) hS (fun r448 f449 H locs hq450 hP hD hS => ?_)
      obtain ⟨ra_451, rfl⟩ := hq450
      subst ra_451
      refine lv_astore_n (lv' := [(3, .ref (g.lk (g.lk (g.lk pr 2) ri) 6)), (2, .ref (g.lk (g.lk (g.lk pr 2) le) 6)), (0, .ref X), (1, .ref (g.lk (g.lk pr 2) n))]) hx hb d_NRunner_operateLong_41 rfl hl (by decide) rfl (fun ls hl => ?_)
      refine lv_iconst (v := nI 1) hx hb d_NRunner_operateLong_42 (by decide) ?_
      refine lv_istore (lv' := [(4, .int (nI 1)), (3, .ref (g.lk (g.lk (g.lk pr 2) ri) 6)), (2, .ref (g.lk (g.lk (g.lk pr 2) le) 6)), (0, .ref X), (1, .ref (g.lk (g.lk pr 2) n))]) hx hb d_NRunner_operateLong_43 hl (by decide) rfl (fun ls hl => ?_)
      refine lv_aload_n hx hb d_NRunner_operateLong_45 rfl (lv_at hl 4 rfl) ?_
      refine pf_get (v := .int (nI 5)) (C := "BigRunner$Node") (T := FT5) (N := 7) hx hb (hw5 hB _) (fun _ h9 => h9) hown hK hP (lo_in hL (lo_e25 hL _ (lo_k7_2 hL _ t_pr) _ (by omega)) (by decide)) eN rfl 0 (by decide) (wd_204 hB _) rfl d_NRunner_operateLong_46 ?_
      refine lv_tableIn (off := 84) (tgt := 133) hx hb d_NRunner_operateLong_49 (by rw [nI_toInt (by omega)]; omega) (by rw [nI_toInt (by omega)]; omega) (by rw [nI_toInt (by omega)]; rfl) (by decide) ?_
      refine lv_aload_n hx hb d_NRunner_operateLong_133 rfl (lv_at hl 4 rfl) ?_
      refine pf_get (v := .ref (g.lk (g.lk (g.lk pr 2) n) 6)) (C := "BigRunner$Node") (T := FT5) (N := 7) hx hb (hw5 hB _) (fun _ h9 => h9) hown hK hP (lo_in hL (lo_e25 hL _ (lo_k7_2 hL _ t_pr) _ (by omega)) (by decide)) eN rfl 6 (by decide) (wd_224 hB _) rfl d_NRunner_operateLong_134 ?_
      refine lv_aload_n hx hb d_NRunner_operateLong_137 rfl (lv_at hl 2 rfl) ?_
      refine lv_aload_n hx hb d_NRunner_operateLong_138 rfl (lv_at hl 1 rfl) ?_
      obtain ⟨sg_453, n_454, e452, c455⟩ := oc_5.of (lo_k6_6 hL _ (lo_e25 hL _ (lo_k7_2 hL _ t_pr) _ (by omega))) (hI443.1 (g.lk (g.lk (g.lk pr 2) n) 6))
      refine pcc_i (va_runV (C := "BigRunner$LongNumber") (As := [.ref (g.lk (g.lk (g.lk pr 2) le) 6), .ref (g.lk (g.lk (g.lk pr 2) ri) 6)]) (rest := []) ⟨hx, hb, hml, hown, tb_nil⟩ (v_setProduct l g H.size f433 ((g.lk (g.lk (g.lk pr 2) n) 6)) ((g.lk (g.lk (g.lk pr 2) le) 6)) sgx nx dx vx ((g.lk (g.lk (g.lk pr 2) ri) 6)) sgy ny dy vy hL (lo_k6_6 hL _ (lo_e25 hL _ (lo_k7_2 hL _ t_pr) _ (by omega))) (lo_k6_6 hL _ (lo_e25 hL _ (lo_k7_2 hL _ t_pr) _ (by omega))) (lo_k6_6 hL _ (lo_e25 hL _ (lo_k7_2 hL _ t_pr) _ (by omega))) hI443 eax ebx hFx eay eby hFy (tn_ne ((lo_n6 hL _ (lo_e25 hL _ (lo_k7_2 hL _ t_pr) _ (by omega))).trans (lo_n25 hL _ (lo_k7_2 hL _ t_pr) _ (by omega))) ((lo_n6 hL _ (lo_e25 hL _ (lo_k7_2 hL _ t_pr) _ (by omega))).trans (lo_n25 hL _ (lo_k7_2 hL _ t_pr) _ (by omega))) (by omega)) (tn_ne ((lo_n6 hL _ (lo_e25 hL _ (lo_k7_2 hL _ t_pr) _ (by omega))).trans (lo_n25 hL _ (lo_k7_2 hL _ t_pr) _ (by omega))) ((lo_n6 hL _ (lo_e25 hL _ (lo_k7_2 hL _ t_pr) _ (by omega))).trans (lo_n25 hL _ (lo_k7_2 hL _ t_pr) _ (by omega))) (by omega))) ⟨(callB_of 2 (tb_one (wd_799 hB _)) tb_good1 rfl rfl rfl (wd_78 hB _) (wd_796 hB _) (by decide +kernel) ⟨Nat.le_of_ble_eq_true rfl, Nat.le_of_ble_eq_true rfl⟩), (wd_797 hB _), (wd_798 hB _)⟩ ⟨pe_bl, pg_recv (ci := 4) hK hP (lo_in hL (lo_k6_6 hL _ (lo_e25 hL _ (lo_k7_2 hL _ t_pr) _ (by omega))) (by decide)) e452 rfl, pe_pre hB hK hP hD⟩ rfl rfl hl.1 rfl (lv_room (Nat.le_of_ble_eq_true rfl)) d_NRunner_operateLong_139 ⟨Nat.le_of_ble_eq_true rfl, Nat.le_of_ble_eq_true rfl⟩) hS (fun r456 f457 H locs hq458 hP hD hS => ?_)
      obtain ⟨bo_459, i1_460, i0_461, hI1_462, hk1_463⟩ := hq458
      have hu : ∀ b, b ≠ X → b ≠ (g.lk (g.lk (g.lk pr 2) n) 6) → b ≠ (g.lk (g.lk (g.lk (g.lk pr 2) n) 6) 2) → b ≠ (g.lk (g.lk (g.lk pr 2) le) 6) → b ≠ (g.lk (g.lk (g.lk (g.lk pr 2) le) 6) 2) → b ≠ (g.lk (g.lk (g.lk pr 2) ri) 6) → b ≠ (g.lk (g.lk (g.lk (g.lk pr 2) ri) 6) 2) → b ≠ (g.lk X 6) → b ≠ (g.lk (g.lk X 6) 0) → b ≠ (g.lk (g.lk X 6) 1) → f457 b = f b := fun b q0 q1 q2 q3 q4 q5 q6 q7 q8 q9 => (hk1_463 b q1 q2).trans (hu b q0 q1 q2 q3 q4 q5 q6 q7 q8 q9)
      have eN := (hk1_463 (g.lk (g.lk pr 2) n) (tg_ne (lo_e25 hL _ (lo_k7_2 hL _ t_pr) _ (by omega)) (lo_k6_6 hL _ (lo_e25 hL _ (lo_k7_2 hL _ t_pr) _ (by omega))) (by decide)) (tg_ne (lo_e25 hL _ (lo_k7_2 hL _ t_pr) _ (by omega)) (lo_k5_2 hL _ (lo_k6_6 hL _ (lo_e25 hL _ (lo_k7_2 hL _ t_pr) _ (by omega)))) (by decide))).trans eN
      have eNx := (hk1_463 (g.lk (g.lk pr 2) le) (tg_ne (lo_e25 hL _ (lo_k7_2 hL _ t_pr) _ (by omega)) (lo_k6_6 hL _ (lo_e25 hL _ (lo_k7_2 hL _ t_pr) _ (by omega))) (by decide)) (tg_ne (lo_e25 hL _ (lo_k7_2 hL _ t_pr) _ (by omega)) (lo_k5_2 hL _ (lo_k6_6 hL _ (lo_e25 hL _ (lo_k7_2 hL _ t_pr) _ (by omega)))) (by decide))).trans eNx
      have eax := (hk1_463 (g.lk (g.lk (g.lk pr 2) le) 6) (tn_ne ((lo_n6 hL _ (lo_e25 hL _ (lo_k7_2 hL _ t_pr) _ (by omega))).trans (lo_n25 hL _ (lo_k7_2 hL _ t_pr) _ (by omega))) ((lo_n6 hL _ (lo_e25 hL _ (lo_k7_2 hL _ t_pr) _ (by omega))).trans (lo_n25 hL _ (lo_k7_2 hL _ t_pr) _ (by omega))) (by omega)) (tg_ne (lo_k6_6 hL _ (lo_e25 hL _ (lo_k7_2 hL _ t_pr) _ (by omega))) (lo_k5_2 hL _ (lo_k6_6 hL _ (lo_e25 hL _ (lo_k7_2 hL _ t_pr) _ (by omega)))) (by decide))).trans eax
      have ebx := (hk1_463 (g.lk (g.lk (g.lk (g.lk pr 2) le) 6) 2) (tg_ne (lo_k5_2 hL _ (lo_k6_6 hL _ (lo_e25 hL _ (lo_k7_2 hL _ t_pr) _ (by omega)))) (lo_k6_6 hL _ (lo_e25 hL _ (lo_k7_2 hL _ t_pr) _ (by omega))) (by decide)) (fun q9 => (tn_ne ((lo_n6 hL _ (lo_e25 hL _ (lo_k7_2 hL _ t_pr) _ (by omega))).trans (lo_n25 hL _ (lo_k7_2 hL _ t_pr) _ (by omega))) ((lo_n6 hL _ (lo_e25 hL _ (lo_k7_2 hL _ t_pr) _ (by omega))).trans (lo_n25 hL _ (lo_k7_2 hL _ t_pr) _ (by omega))) (by omega)) (lo_inj5 hL _ _ (lo_k6_6 hL _ (lo_e25 hL _ (lo_k7_2 hL _ t_pr) _ (by omega))) (lo_k6_6 hL _ (lo_e25 hL _ (lo_k7_2 hL _ t_pr) _ (by omega))) q9))).trans ebx
      have eNy := (hk1_463 (g.lk (g.lk pr 2) ri) (tg_ne (lo_e25 hL _ (lo_k7_2 hL _ t_pr) _ (by omega)) (lo_k6_6 hL _ (lo_e25 hL _ (lo_k7_2 hL _ t_pr) _ (by omega))) (by decide)) (tg_ne (lo_e25 hL _ (lo_k7_2 hL _ t_pr) _ (by omega)) (lo_k5_2 hL _ (lo_k6_6 hL _ (lo_e25 hL _ (lo_k7_2 hL _ t_pr) _ (by omega)))) (by decide))).trans eNy
      have eay := (hk1_463 (g.lk (g.lk (g.lk pr 2) ri) 6) (tn_ne ((lo_n6 hL _ (lo_e25 hL _ (lo_k7_2 hL _ t_pr) _ (by omega))).trans (lo_n25 hL _ (lo_k7_2 hL _ t_pr) _ (by omega))) ((lo_n6 hL _ (lo_e25 hL _ (lo_k7_2 hL _ t_pr) _ (by omega))).trans (lo_n25 hL _ (lo_k7_2 hL _ t_pr) _ (by omega))) (by omega)) (tg_ne (lo_k6_6 hL _ (lo_e25 hL _ (lo_k7_2 hL _ t_pr) _ (by omega))) (lo_k5_2 hL _ (lo_k6_6 hL _ (lo_e25 hL _ (lo_k7_2 hL _ t_pr) _ (by omega)))) (by decide))).trans eay
      have eby := (hk1_463 (g.lk (g.lk (g.lk (g.lk pr 2) ri) 6) 2) (tg_ne (lo_k5_2 hL _ (lo_k6_6 hL _ (lo_e25 hL _ (lo_k7_2 hL _ t_pr) _ (by omega)))) (lo_k6_6 hL _ (lo_e25 hL _ (lo_k7_2 hL _ t_pr) _ (by omega))) (by decide)) (fun q9 => (tn_ne ((lo_n6 hL _ (lo_e25 hL _ (lo_k7_2 hL _ t_pr) _ (by omega))).trans (lo_n25 hL _ (lo_k7_2 hL _ t_pr) _ (by omega))) ((lo_n6 hL _ (lo_e25 hL _ (lo_k7_2 hL _ t_pr) _ (by omega))).trans (lo_n25 hL _ (lo_k7_2 hL _ t_pr) _ (by omega))) (by omega)) (lo_inj5 hL _ _ (lo_k6_6 hL _ (lo_e25 hL _ (lo_k7_2 hL _ t_pr) _ (by omega))) (lo_k6_6 hL _ (lo_e25 hL _ (lo_k7_2 hL _ t_pr) _ (by omega))) q9))).trans eby
      have e434 := (hk1_463 X (tg_ne t_X (lo_k6_6 hL _ (lo_e25 hL _ (lo_k7_2 hL _ t_pr) _ (by omega))) (by decide)) (tg_ne t_X (lo_k5_2 hL _ (lo_k6_6 hL _ (lo_e25 hL _ (lo_k7_2 hL _ t_pr) _ (by omega)))) (by decide))).trans e434
      have e437 := (hk1_463 pr (tg_ne t_pr (lo_k6_6 hL _ (lo_e25 hL _ (lo_k7_2 hL _ t_pr) _ (by omega))) (by decide)) (tg_ne t_pr (lo_k5_2 hL _ (lo_k6_6 hL _ (lo_e25 hL _ (lo_k7_2 hL _ t_pr) _ (by omega)))) (by decide))).trans e437
      have e442 := (hk1_463 (g.lk pr 2) (tg_ne (lo_k7_2 hL _ t_pr) (lo_k6_6 hL _ (lo_e25 hL _ (lo_k7_2 hL _ t_pr) _ (by omega))) (by decide)) (tg_ne (lo_k7_2 hL _ t_pr) (lo_k5_2 hL _ (lo_k6_6 hL _ (lo_e25 hL _ (lo_k7_2 hL _ t_pr) _ (by omega)))) (by decide))).trans e442
      refine lv_istore (lv' := [(4, .int r456), (3, .ref (g.lk (g.lk (g.lk pr 2) ri) 6)), (2, .ref (g.lk (g.lk (g.lk pr 2) le) 6)), (0, .ref X), (1, .ref (g.lk (g.lk pr 2) n))]) hx hb d_NRunner_operateLong_142 hl (by decide) rfl (fun ls hl => ?_)
      refine lv_goto (tgt := 183) hx hb d_NRunner_operateLong_144 (by decide) ?_
      refine lv_iload hx hb d_NRunner_operateLong_183 (lv_at hl 0 rfl) ?_
      refine lv_if_eq (tgt := 192) hx hb d_NRunner_operateLong_185 (by decide) (fun b464 => ?_) (fun b464 => ?_)
      · skip
        have hr465 : r456 = nI 0 := b464
        have hi466 := i0_461 hr465
        have hfit8 : T12 ≤ (opv 4 vx vy).natAbs := i0_461 hr465
        refine lv_iconst (v := nI 2) hx hb d_NRunner_operateLong_192 (by decide) ?_
        exact pe_iret hx hb hr hlocks hK hP hD hS d_NRunner_operateLong_193 ⟨⟨(lo + ((nI 1))), e434⟩, (congrArg nI (otr_2 (by decide) (Or.inl (by decide)) hfit8).symm), (fun z9 => absurd (z9.symm.trans (otr_2 (by decide) (Or.inl (by decide)) hfit8)) (by decide)), hI1_462, hu⟩
      · skip
        have hr467 : r456 = nI 1 := (bl_1 bo_459 b464)
        have hi468 := i1_460 hr467
        have hlv8 := i1_460 hr467
        have hfit9 : (opv 4 vx vy).natAbs < T12 := hlv8.2
        have hlv9 : LV g f457 (g.lk (g.lk (g.lk pr 2) n) 6) (ovl 4 vx vy) := hlv8.1
        refine lv_iconst (v := nI 0) hx hb d_NRunner_operateLong_188 (by decide) ?_
        refine lv_goto (tgt := 193) hx hb d_NRunner_operateLong_189 (by decide) ?_
        exact pe_iret hx hb hr hlocks hK hP hD hS d_NRunner_operateLong_193 ⟨⟨(lo + ((nI 1))), e434⟩, (congrArg nI (otr_0 (by decide) (Or.inl (by decide)) hfit9).symm), (fun _ => hlv9), hI1_462, hu⟩
    · skip
      obtain ⟨kx1, kx2, kx3, mx, eNx, hsx, hlx, htx⟩ := hVx
      obtain ⟨sgx, nx, dx, eax, ebx, hNx⟩ := hlx rfl
      have hFx : LNF sgx nx dx vx := ⟨hNx, htx⟩
      have cbx : ∀ i, i < 15 → ∃ k, k < 1000000000 ∧ dx i = nI k := hNx.2.1
      have hnx : nx ≤ 15 := hNx.1
      obtain ⟨ky1, ky2, ky3, my, eNy, hsy, hly, hty⟩ := hVy
      refine lv_aload_n hx hb d_NRunner_operateLong_0 rfl (lv_at hl 0 rfl) ?_
      refine lv_dup hx hb d_NRunner_operateLong_1 rfl ?_
      refine pf_get (v := .int lo) (C := "BigRunner$Runner") (T := FT8) (N := 13) hx hb (hw8 hB _) (fun _ h9 => h9) hown hK hP (lo_in hL t_X (by decide)) eX rfl 11 (by decide) (wd_347 hB _) rfl d_NRunner_operateLong_2 ?_
      refine lv_iconst (v := nI 1) hx hb d_NRunner_operateLong_5 (by decide) ?_
      refine lv_iadd hx hb d_NRunner_operateLong_6 ?_
      refine pf_put (v := .int (lo + ((nI 1)))) (ty := .int) (fs' := [.ref pr, .ref (g.lk X 1), .int (nI ix), .ref (g.lk X 3), .ref (g.lk X 4), .ref (g.lk X 5), .ref (g.lk X 6), .ref (g.lk X 7), .int (nI os), .int (nI st), .int mo, .int (lo + ((nI 1))), .int (nI tr)]) (C := "BigRunner$Runner") (T := FT8) (N := 13) hx hb (hw8 hB _) (fun _ h9 => h9) TY8 ok8 nm8 hown hK hP hD hS (lo_in hL t_X (by decide)) eX rfl 11 (by decide) (wd_347 hB _) rfl (by decide +kernel) rfl rfl (Nat.le_of_ble_eq_true rfl) rfl d_NRunner_operateLong_7 (fun f469 H locs e470 k471 hP hD hS => ?_)
      have eN := (k471 (g.lk (g.lk pr 2) n) (tg_ne (lo_e25 hL _ (lo_k7_2 hL _ t_pr) _ (by omega)) t_X (by decide))).trans eN
      have eNx := (k471 (g.lk (g.lk pr 2) le) (tg_ne (lo_e25 hL _ (lo_k7_2 hL _ t_pr) _ (by omega)) t_X (by decide))).trans eNx
      have eax := (k471 (g.lk (g.lk (g.lk pr 2) le) 6) (tg_ne (lo_k6_6 hL _ (lo_e25 hL _ (lo_k7_2 hL _ t_pr) _ (by omega))) t_X (by decide))).trans eax
      have ebx := (k471 (g.lk (g.lk (g.lk (g.lk pr 2) le) 6) 2) (tg_ne (lo_k5_2 hL _ (lo_k6_6 hL _ (lo_e25 hL _ (lo_k7_2 hL _ t_pr) _ (by omega)))) t_X (by decide))).trans ebx
      have eNy := (k471 (g.lk (g.lk pr 2) ri) (tg_ne (lo_e25 hL _ (lo_k7_2 hL _ t_pr) _ (by omega)) t_X (by decide))).trans eNy
      have hu : ∀ b, b ≠ X → b ≠ (g.lk (g.lk (g.lk pr 2) n) 6) → b ≠ (g.lk (g.lk (g.lk (g.lk pr 2) n) 6) 2) → b ≠ (g.lk (g.lk (g.lk pr 2) le) 6) → b ≠ (g.lk (g.lk (g.lk (g.lk pr 2) le) 6) 2) → b ≠ (g.lk (g.lk (g.lk pr 2) ri) 6) → b ≠ (g.lk (g.lk (g.lk (g.lk pr 2) ri) 6) 2) → b ≠ (g.lk X 6) → b ≠ (g.lk (g.lk X 6) 0) → b ≠ (g.lk (g.lk X 6) 1) → f469 b = f b := fun b q0 q1 q2 q3 q4 q5 q6 q7 q8 q9 => (k471 b q0).trans (hu b q0 q1 q2 q3 q4 q5 q6 q7 q8 q9)
      have hk472 : ∀ b, b ≠ X → f469 b = f b := k471
      refine lv_aload_n hx hb d_NRunner_operateLong_10 rfl (lv_at hl 0 rfl) ?_
      refine pf_get (v := .ref pr) (C := "BigRunner$Runner") (T := FT8) (N := 13) hx hb (hw8 hB _) (fun _ h9 => h9) hown hK hP (lo_in hL t_X (by decide)) e470 rfl 0 (by decide) (wd_330 hB _) rfl d_NRunner_operateLong_11 ?_
      obtain ⟨sc_474, nc_475, e473, c476, c477⟩ := oc_7.of t_pr (hI.1 pr)
      replace e473 := (hk472 pr (tg_ne t_pr t_X (by decide))).trans e473
      refine pf_get (v := .ref (g.lk pr 2)) (C := "BigRunner$Program") (T := FT6) (N := 6) hx hb (hw6 hB _) (fun _ h9 => h9) hown hK hP (lo_in hL t_pr (by decide)) e473 rfl 2 (by decide) (wd_249 hB _) rfl d_NRunner_operateLong_14 ?_
      refine lv_aload_n hx hb d_NRunner_operateLong_17 rfl (lv_at hl 1 rfl) ?_
      refine pf_get (v := .int (nI le)) (C := "BigRunner$Node") (T := FT5) (N := 7) hx hb (hw5 hB _) (fun _ h9 => h9) hown hK hP (lo_in hL (lo_e25 hL _ (lo_k7_2 hL _ t_pr) _ (by omega)) (by decide)) eN rfl 1 (by decide) (wd_208 hB _) rfl d_NRunner_operateLong_18 ?_
      have e478 := oc_25.of (lo_k7_2 hL _ t_pr) (hI.1 (g.lk pr 2))
      replace e478 := (hk472 (g.lk pr 2) (tg_ne (lo_k7_2 hL _ t_pr) t_X (by decide))).trans e478
      refine pf_aald (i := le) hx hb hK hP (lo_in hL (lo_k7_2 hL _ t_pr) (by decide)) e478 (lo_t25 hL _ (lo_k7_2 hL _ t_pr)) (by omega) (by decide) d_NRunner_operateLong_21 ?_
      have hI479 := iv_1 hI hL t_X (by decide) hk472 (oc_9.mk t_X (⟨pr, ix, os, st, mo, ((lo + ((nI 1)))), tr, e470, t_pr, (by omega), (by omega), (by omega), (by omega)⟩))
      refine pcc_r (va_runV (C := "BigRunner$Node") (As := []) (rest := []) ⟨hx, hb, hml, hown, tb_nil⟩ (v_widenedL l g H.size f469 ((g.lk (g.lk pr 2) le)) kx1 kx2 kx3 mx hL (lo_e25 hL _ (lo_k7_2 hL _ t_pr) _ (by omega)) hI479.1 eNx) ⟨(callB_of 0 (tb_one (wd_761 hB _)) tb_good1 rfl rfl rfl (wd_77 hB _) (wd_758 hB _) (by decide +kernel) ⟨Nat.le_of_ble_eq_true rfl, Nat.le_of_ble_eq_true rfl⟩), (wd_759 hB _), (wd_760 hB _)⟩ ⟨pe_bl, pg_recv (ci := 5) hK hP (lo_in hL (lo_e25 hL _ (lo_k7_2 hL _ t_pr) _ (by omega)) (by decide)) eNx rfl, pe_pre hB hK hP hD⟩ rfl rfl hl.1 rfl (lv_room (Nat.le_of_ble_eq_true rfl)) d_NRunner_operateLong_22 ⟨Nat.le_of_ble_eq_true rfl, Nat.le_of_ble_eq_true rfl⟩) hS (fun r480 f481 H locs hq482 hP hD hS => ?_)
      obtain ⟨ra_483, rfl⟩ := hq482
      subst ra_483
      refine lv_astore_n (lv' := [(2, .ref (g.lk (g.lk (g.lk pr 2) le) 6)), (0, .ref X), (1, .ref (g.lk (g.lk pr 2) n))]) hx hb d_NRunner_operateLong_25 rfl hl (by decide) rfl (fun ls hl => ?_)
      refine lv_aload_n hx hb d_NRunner_operateLong_26 rfl (lv_at hl 1 rfl) ?_
      refine pf_get (v := .ref pr) (C := "BigRunner$Runner") (T := FT8) (N := 13) hx hb (hw8 hB _) (fun _ h9 => h9) hown hK hP (lo_in hL t_X (by decide)) e470 rfl 0 (by decide) (wd_330 hB _) rfl d_NRunner_operateLong_27 ?_
      refine pf_get (v := .ref (g.lk pr 2)) (C := "BigRunner$Program") (T := FT6) (N := 6) hx hb (hw6 hB _) (fun _ h9 => h9) hown hK hP (lo_in hL t_pr (by decide)) e473 rfl 2 (by decide) (wd_249 hB _) rfl d_NRunner_operateLong_30 ?_
      refine lv_aload_n hx hb d_NRunner_operateLong_33 rfl (lv_at hl 2 rfl) ?_
      refine pf_get (v := .int (nI ri)) (C := "BigRunner$Node") (T := FT5) (N := 7) hx hb (hw5 hB _) (fun _ h9 => h9) hown hK hP (lo_in hL (lo_e25 hL _ (lo_k7_2 hL _ t_pr) _ (by omega)) (by decide)) eN rfl 2 (by decide) (wd_212 hB _) rfl d_NRunner_operateLong_34 ?_
      refine pf_aald (i := ri) hx hb hK hP (lo_in hL (lo_k7_2 hL _ t_pr) (by decide)) e478 (lo_t25 hL _ (lo_k7_2 hL _ t_pr)) (by omega) (by decide) d_NRunner_operateLong_37 ?_
      refine pcc_r (va_runV (C := "BigRunner$Node") (As := []) (rest := []) ⟨hx, hb, hml, hown, tb_nil⟩ (v_widenedS l g H.size f469 ((g.lk (g.lk pr 2) ri)) ky1 ky2 ky3 my hL (lo_e25 hL _ (lo_k7_2 hL _ t_pr) _ (by omega)) hI479 eNy (by rw [(hsy rfl).1]; exact (hsy rfl).2)) ⟨(callB_of 0 (tb_one (wd_761 hB _)) tb_good1 rfl rfl rfl (wd_77 hB _) (wd_758 hB _) (by decide +kernel) ⟨Nat.le_of_ble_eq_true rfl, Nat.le_of_ble_eq_true rfl⟩), (wd_759 hB _), (wd_760 hB _)⟩ ⟨pe_bl, pg_recv (ci := 5) hK hP (lo_in hL (lo_e25 hL _ (lo_k7_2 hL _ t_pr) _ (by omega)) (by decide)) eNy rfl, pe_pre hB hK hP hD⟩ rfl rfl hl.1 rfl (lv_room (Nat.le_of_ble_eq_true rfl)) d_NRunner_operateLong_38 ⟨Nat.le_of_ble_eq_true rfl, Nat.le_of_ble_eq_true rfl⟩) hS (fun r484 f485 H locs hq486 hP hD hS => ?_)
      obtain ⟨ra_487, lv_488, hI1_489, hk1_490⟩ := hq486
      subst ra_487
      have hu : ∀ b, b ≠ X → b ≠ (g.lk (g.lk (g.lk pr 2) n) 6) → b ≠ (g.lk (g.lk (g.lk (g.lk pr 2) n) 6) 2) → b ≠ (g.lk (g.lk (g.lk pr 2) le) 6) → b ≠ (g.lk (g.lk (g.lk (g.lk pr 2) le) 6) 2) → b ≠ (g.lk (g.lk (g.lk pr 2) ri) 6) → b ≠ (g.lk (g.lk (g.lk (g.lk pr 2) ri) 6) 2) → b ≠ (g.lk X 6) → b ≠ (g.lk (g.lk X 6) 0) → b ≠ (g.lk (g.lk X 6) 1) → f485 b = f b := fun b q0 q1 q2 q3 q4 q5 q6 q7 q8 q9 => (hk1_490 b q5 q6).trans (hu b q0 q1 q2 q3 q4 q5 q6 q7 q8 q9)
      have eN := (hk1_490 (g.lk (g.lk pr 2) n) (tg_ne (lo_e25 hL _ (lo_k7_2 hL _ t_pr) _ (by omega)) (lo_k6_6 hL _ (lo_e25 hL _ (lo_k7_2 hL _ t_pr) _ (by omega))) (by decide)) (tg_ne (lo_e25 hL _ (lo_k7_2 hL _ t_pr) _ (by omega)) (lo_k5_2 hL _ (lo_k6_6 hL _ (lo_e25 hL _ (lo_k7_2 hL _ t_pr) _ (by omega)))) (by decide))).trans eN
      have eNx := (hk1_490 (g.lk (g.lk pr 2) le) (tg_ne (lo_e25 hL _ (lo_k7_2 hL _ t_pr) _ (by omega)) (lo_k6_6 hL _ (lo_e25 hL _ (lo_k7_2 hL _ t_pr) _ (by omega))) (by decide)) (tg_ne (lo_e25 hL _ (lo_k7_2 hL _ t_pr) _ (by omega)) (lo_k5_2 hL _ (lo_k6_6 hL _ (lo_e25 hL _ (lo_k7_2 hL _ t_pr) _ (by omega)))) (by decide))).trans eNx
      have eax := (hk1_490 (g.lk (g.lk (g.lk pr 2) le) 6) (tn_ne ((lo_n6 hL _ (lo_e25 hL _ (lo_k7_2 hL _ t_pr) _ (by omega))).trans (lo_n25 hL _ (lo_k7_2 hL _ t_pr) _ (by omega))) ((lo_n6 hL _ (lo_e25 hL _ (lo_k7_2 hL _ t_pr) _ (by omega))).trans (lo_n25 hL _ (lo_k7_2 hL _ t_pr) _ (by omega))) (by omega)) (tg_ne (lo_k6_6 hL _ (lo_e25 hL _ (lo_k7_2 hL _ t_pr) _ (by omega))) (lo_k5_2 hL _ (lo_k6_6 hL _ (lo_e25 hL _ (lo_k7_2 hL _ t_pr) _ (by omega)))) (by decide))).trans eax
      have ebx := (hk1_490 (g.lk (g.lk (g.lk (g.lk pr 2) le) 6) 2) (tg_ne (lo_k5_2 hL _ (lo_k6_6 hL _ (lo_e25 hL _ (lo_k7_2 hL _ t_pr) _ (by omega)))) (lo_k6_6 hL _ (lo_e25 hL _ (lo_k7_2 hL _ t_pr) _ (by omega))) (by decide)) (fun q9 => (tn_ne ((lo_n6 hL _ (lo_e25 hL _ (lo_k7_2 hL _ t_pr) _ (by omega))).trans (lo_n25 hL _ (lo_k7_2 hL _ t_pr) _ (by omega))) ((lo_n6 hL _ (lo_e25 hL _ (lo_k7_2 hL _ t_pr) _ (by omega))).trans (lo_n25 hL _ (lo_k7_2 hL _ t_pr) _ (by omega))) (by omega)) (lo_inj5 hL _ _ (lo_k6_6 hL _ (lo_e25 hL _ (lo_k7_2 hL _ t_pr) _ (by omega))) (lo_k6_6 hL _ (lo_e25 hL _ (lo_k7_2 hL _ t_pr) _ (by omega))) q9))).trans ebx
      have eNy := (hk1_490 (g.lk (g.lk pr 2) ri) (tg_ne (lo_e25 hL _ (lo_k7_2 hL _ t_pr) _ (by omega)) (lo_k6_6 hL _ (lo_e25 hL _ (lo_k7_2 hL _ t_pr) _ (by omega))) (by decide)) (tg_ne (lo_e25 hL _ (lo_k7_2 hL _ t_pr) _ (by omega)) (lo_k5_2 hL _ (lo_k6_6 hL _ (lo_e25 hL _ (lo_k7_2 hL _ t_pr) _ (by omega)))) (by decide))).trans eNy
      have e470 := (hk1_490 X (tg_ne t_X (lo_k6_6 hL _ (lo_e25 hL _ (lo_k7_2 hL _ t_pr) _ (by omega))) (by decide)) (tg_ne t_X (lo_k5_2 hL _ (lo_k6_6 hL _ (lo_e25 hL _ (lo_k7_2 hL _ t_pr) _ (by omega)))) (by decide))).trans e470
      have e473 := (hk1_490 pr (tg_ne t_pr (lo_k6_6 hL _ (lo_e25 hL _ (lo_k7_2 hL _ t_pr) _ (by omega))) (by decide)) (tg_ne t_pr (lo_k5_2 hL _ (lo_k6_6 hL _ (lo_e25 hL _ (lo_k7_2 hL _ t_pr) _ (by omega)))) (by decide))).trans e473
      have e478 := (hk1_490 (g.lk pr 2) (tg_ne (lo_k7_2 hL _ t_pr) (lo_k6_6 hL _ (lo_e25 hL _ (lo_k7_2 hL _ t_pr) _ (by omega))) (by decide)) (tg_ne (lo_k7_2 hL _ t_pr) (lo_k5_2 hL _ (lo_k6_6 hL _ (lo_e25 hL _ (lo_k7_2 hL _ t_pr) _ (by omega)))) (by decide))).trans e478
      obtain ⟨sg491, nn492, dd493, e494, e495, hN496⟩ := lv_488
      have c497 : ∀ i, i < 15 → ∃ k, k < 1000000000 ∧ dd493 i = nI k := hN496.2.1
      have hnn492 : nn492 ≤ 15 := hN496.1
      refine lv_astore_n (lv' := [(3, .ref (g.lk (g.lk (g.lk pr 2) ri) 6)), (2, .ref (g.lk (g.lk (g.lk pr 2) le) 6)), (0, .ref X), (1, .ref (g.lk (g.lk pr 2) n))]) hx hb d_NRunner_operateLong_41 rfl hl (by decide) rfl (fun ls hl => ?_)
      have hFy : LNF sg491 nn492 dd493 vy := ⟨LNV_cast hN496 (hsy rfl).1, hty⟩
      refine lv_iconst (v := nI 1) hx hb d_NRunner_operateLong_42 (by decide) ?_
      refine lv_istore (lv' := [(4, .int (nI 1)), (3, .ref (g.lk (g.lk (g.lk pr 2) ri) 6)), (2, .ref (g.lk (g.lk (g.lk pr 2) le) 6)), (0, .ref X), (1, .ref (g.lk (g.lk pr 2) n))]) hx hb d_NRunner_operateLong_43 hl (by decide) rfl (fun ls hl => ?_)
      refine lv_aload_n hx hb d_NRunner_operateLong_45 rfl (lv_at hl 4 rfl) ?_
      refine pf_get (v := .int (nI 5)) (C := "BigRunner$Node") (T := FT5) (N := 7) hx hb (hw5 hB _) (fun _ h9 => h9) hown hK hP (lo_in hL (lo_e25 hL _ (lo_k7_2 hL _ t_pr) _ (by omega)) (by decide)) eN rfl 0 (by decide) (wd_204 hB _) rfl d_NRunner_operateLong_46 ?_
      refine lv_tableIn (off := 84) (tgt := 133) hx hb d_NRunner_operateLong_49 (by rw [nI_toInt (by omega)]; omega) (by rw [nI_toInt (by omega)]; omega) (by rw [nI_toInt (by omega)]; rfl) (by decide) ?_
      refine lv_aload_n hx hb d_NRunner_operateLong_133 rfl (lv_at hl 4 rfl) ?_
      refine pf_get (v := .ref (g.lk (g.lk (g.lk pr 2) n) 6)) (C := "BigRunner$Node") (T := FT5) (N := 7) hx hb (hw5 hB _) (fun _ h9 => h9) hown hK hP (lo_in hL (lo_e25 hL _ (lo_k7_2 hL _ t_pr) _ (by omega)) (by decide)) eN rfl 6 (by decide) (wd_224 hB _) rfl d_NRunner_operateLong_134 ?_
      refine lv_aload_n hx hb d_NRunner_operateLong_137 rfl (lv_at hl 2 rfl) ?_
      refine lv_aload_n hx hb d_NRunner_operateLong_138 rfl (lv_at hl 1 rfl) ?_
      obtain ⟨sg_499, n_500, e498, c501⟩ := oc_5.of (lo_k6_6 hL _ (lo_e25 hL _ (lo_k7_2 hL _ t_pr) _ (by omega))) (hI1_489.1 (g.lk (g.lk (g.lk pr 2) n) 6))
      refine pcc_i (va_runV (C := "BigRunner$LongNumber") (As := [.ref (g.lk (g.lk (g.lk pr 2) le) 6), .ref (g.lk (g.lk (g.lk pr 2) ri) 6)]) (rest := []) ⟨hx, hb, hml, hown, tb_nil⟩ (v_setProduct l g H.size f485 ((g.lk (g.lk (g.lk pr 2) n) 6)) ((g.lk (g.lk (g.lk pr 2) le) 6)) sgx nx dx vx ((g.lk (g.lk (g.lk pr 2) ri) 6)) sg491 nn492 dd493 vy hL (lo_k6_6 hL _ (lo_e25 hL _ (lo_k7_2 hL _ t_pr) _ (by omega))) (lo_k6_6 hL _ (lo_e25 hL _ (lo_k7_2 hL _ t_pr) _ (by omega))) (lo_k6_6 hL _ (lo_e25 hL _ (lo_k7_2 hL _ t_pr) _ (by omega))) hI1_489 eax ebx hFx e494 e495 hFy (tn_ne ((lo_n6 hL _ (lo_e25 hL _ (lo_k7_2 hL _ t_pr) _ (by omega))).trans (lo_n25 hL _ (lo_k7_2 hL _ t_pr) _ (by omega))) ((lo_n6 hL _ (lo_e25 hL _ (lo_k7_2 hL _ t_pr) _ (by omega))).trans (lo_n25 hL _ (lo_k7_2 hL _ t_pr) _ (by omega))) (by omega)) (tn_ne ((lo_n6 hL _ (lo_e25 hL _ (lo_k7_2 hL _ t_pr) _ (by omega))).trans (lo_n25 hL _ (lo_k7_2 hL _ t_pr) _ (by omega))) ((lo_n6 hL _ (lo_e25 hL _ (lo_k7_2 hL _ t_pr) _ (by omega))).trans (lo_n25 hL _ (lo_k7_2 hL _ t_pr) _ (by omega))) (by omega))) ⟨(callB_of 2 (tb_one (wd_799 hB _)) tb_good1 rfl rfl rfl (wd_78 hB _) (wd_796 hB _) (by decide +kernel) ⟨Nat.le_of_ble_eq_true rfl, Nat.le_of_ble_eq_true rfl⟩), (wd_797 hB _), (wd_798 hB _)⟩ ⟨pe_bl, pg_recv (ci := 4) hK hP (lo_in hL (lo_k6_6 hL _ (lo_e25 hL _ (lo_k7_2 hL _ t_pr) _ (by omega))) (by decide)) e498 rfl, pe_pre hB hK hP hD⟩ rfl rfl hl.1 rfl (lv_room (Nat.le_of_ble_eq_true rfl)) d_NRunner_operateLong_139 ⟨Nat.le_of_ble_eq_true rfl, Nat.le_of_ble_eq_true rfl⟩) hS (fun r502 f503 H locs hq504 hP hD hS => ?_)
      obtain ⟨bo_505, i1_506, i0_507, hI1_508, hk1_509⟩ := hq504
      have hu : ∀ b, b ≠ X → b ≠ (g.lk (g.lk (g.lk pr 2) n) 6) → b ≠ (g.lk (g.lk (g.lk (g.lk pr 2) n) 6) 2) → b ≠ (g.lk (g.lk (g.lk pr 2) le) 6) → b ≠ (g.lk (g.lk (g.lk (g.lk pr 2) le) 6) 2) → b ≠ (g.lk (g.lk (g.lk pr 2) ri) 6) → b ≠ (g.lk (g.lk (g.lk (g.lk pr 2) ri) 6) 2) → b ≠ (g.lk X 6) → b ≠ (g.lk (g.lk X 6) 0) → b ≠ (g.lk (g.lk X 6) 1) → f503 b = f b := fun b q0 q1 q2 q3 q4 q5 q6 q7 q8 q9 => (hk1_509 b q1 q2).trans (hu b q0 q1 q2 q3 q4 q5 q6 q7 q8 q9)
      have eN := (hk1_509 (g.lk (g.lk pr 2) n) (tg_ne (lo_e25 hL _ (lo_k7_2 hL _ t_pr) _ (by omega)) (lo_k6_6 hL _ (lo_e25 hL _ (lo_k7_2 hL _ t_pr) _ (by omega))) (by decide)) (tg_ne (lo_e25 hL _ (lo_k7_2 hL _ t_pr) _ (by omega)) (lo_k5_2 hL _ (lo_k6_6 hL _ (lo_e25 hL _ (lo_k7_2 hL _ t_pr) _ (by omega)))) (by decide))).trans eN
      have eNx := (hk1_509 (g.lk (g.lk pr 2) le) (tg_ne (lo_e25 hL _ (lo_k7_2 hL _ t_pr) _ (by omega)) (lo_k6_6 hL _ (lo_e25 hL _ (lo_k7_2 hL _ t_pr) _ (by omega))) (by decide)) (tg_ne (lo_e25 hL _ (lo_k7_2 hL _ t_pr) _ (by omega)) (lo_k5_2 hL _ (lo_k6_6 hL _ (lo_e25 hL _ (lo_k7_2 hL _ t_pr) _ (by omega)))) (by decide))).trans eNx
      have eax := (hk1_509 (g.lk (g.lk (g.lk pr 2) le) 6) (tn_ne ((lo_n6 hL _ (lo_e25 hL _ (lo_k7_2 hL _ t_pr) _ (by omega))).trans (lo_n25 hL _ (lo_k7_2 hL _ t_pr) _ (by omega))) ((lo_n6 hL _ (lo_e25 hL _ (lo_k7_2 hL _ t_pr) _ (by omega))).trans (lo_n25 hL _ (lo_k7_2 hL _ t_pr) _ (by omega))) (by omega)) (tg_ne (lo_k6_6 hL _ (lo_e25 hL _ (lo_k7_2 hL _ t_pr) _ (by omega))) (lo_k5_2 hL _ (lo_k6_6 hL _ (lo_e25 hL _ (lo_k7_2 hL _ t_pr) _ (by omega)))) (by decide))).trans eax
      have ebx := (hk1_509 (g.lk (g.lk (g.lk (g.lk pr 2) le) 6) 2) (tg_ne (lo_k5_2 hL _ (lo_k6_6 hL _ (lo_e25 hL _ (lo_k7_2 hL _ t_pr) _ (by omega)))) (lo_k6_6 hL _ (lo_e25 hL _ (lo_k7_2 hL _ t_pr) _ (by omega))) (by decide)) (fun q9 => (tn_ne ((lo_n6 hL _ (lo_e25 hL _ (lo_k7_2 hL _ t_pr) _ (by omega))).trans (lo_n25 hL _ (lo_k7_2 hL _ t_pr) _ (by omega))) ((lo_n6 hL _ (lo_e25 hL _ (lo_k7_2 hL _ t_pr) _ (by omega))).trans (lo_n25 hL _ (lo_k7_2 hL _ t_pr) _ (by omega))) (by omega)) (lo_inj5 hL _ _ (lo_k6_6 hL _ (lo_e25 hL _ (lo_k7_2 hL _ t_pr) _ (by omega))) (lo_k6_6 hL _ (lo_e25 hL _ (lo_k7_2 hL _ t_pr) _ (by omega))) q9))).trans ebx
      have eNy := (hk1_509 (g.lk (g.lk pr 2) ri) (tg_ne (lo_e25 hL _ (lo_k7_2 hL _ t_pr) _ (by omega)) (lo_k6_6 hL _ (lo_e25 hL _ (lo_k7_2 hL _ t_pr) _ (by omega))) (by decide)) (tg_ne (lo_e25 hL _ (lo_k7_2 hL _ t_pr) _ (by omega)) (lo_k5_2 hL _ (lo_k6_6 hL _ (lo_e25 hL _ (lo_k7_2 hL _ t_pr) _ (by omega)))) (by decide))).trans eNy
      have e470 := (hk1_509 X (tg_ne t_X (lo_k6_6 hL _ (lo_e25 hL _ (lo_k7_2 hL _ t_pr) _ (by omega))) (by decide)) (tg_ne t_X (lo_k5_2 hL _ (lo_k6_6 hL _ (lo_e25 hL _ (lo_k7_2 hL _ t_pr) _ (by omega)))) (by decide))).trans e470
      have e473 := (hk1_509 pr (tg_ne t_pr (lo_k6_6 hL _ (lo_e25 hL _ (lo_k7_2 hL _ t_pr) _ (by omega))) (by decide)) (tg_ne t_pr (lo_k5_2 hL _ (lo_k6_6 hL _ (lo_e25 hL _ (lo_k7_2 hL _ t_pr) _ (by omega)))) (by decide))).trans e473
      have e478 := (hk1_509 (g.lk pr 2) (tg_ne (lo_k7_2 hL _ t_pr) (lo_k6_6 hL _ (lo_e25 hL _ (lo_k7_2 hL _ t_pr) _ (by omega))) (by decide)) (tg_ne (lo_k7_2 hL _ t_pr) (lo_k5_2 hL _ (lo_k6_6 hL _ (lo_e25 hL _ (lo_k7_2 hL _ t_pr) _ (by omega)))) (by decide))).trans e478
      have e494 := (hk1_509 (g.lk (g.lk (g.lk pr 2) ri) 6) (tn_ne ((lo_n6 hL _ (lo_e25 hL _ (lo_k7_2 hL _ t_pr) _ (by omega))).trans (lo_n25 hL _ (lo_k7_2 hL _ t_pr) _ (by omega))) ((lo_n6 hL _ (lo_e25 hL _ (lo_k7_2 hL _ t_pr) _ (by omega))).trans (lo_n25 hL _ (lo_k7_2 hL _ t_pr) _ (by omega))) (by omega)) (tg_ne (lo_k6_6 hL _ (lo_e25 hL _ (lo_k7_2 hL _ t_pr) _ (by omega))) (lo_k5_2 hL _ (lo_k6_6 hL _ (lo_e25 hL _ (lo_k7_2 hL _ t_pr) _ (by omega)))) (by decide))).trans e494
      have e495 := (hk1_509 (g.lk (g.lk (g.lk (g.lk pr 2) ri) 6) 2) (tg_ne (lo_k5_2 hL _ (lo_k6_6 hL _ (lo_e25 hL _ (lo_k7_2 hL _ t_pr) _ (by omega)))) (lo_k6_6 hL _ (lo_e25 hL _ (lo_k7_2 hL _ t_pr) _ (by omega))) (by decide)) (fun q9 => (tn_ne ((lo_n6 hL _ (lo_e25 hL _ (lo_k7_2 hL _ t_pr) _ (by omega))).trans (lo_n25 hL _ (lo_k7_2 hL _ t_pr) _ (by omega))) ((lo_n6 hL _ (lo_e25 hL _ (lo_k7_2 hL _ t_pr) _ (by omega))).trans (lo_n25 hL _ (lo_k7_2 hL _ t_pr) _ (by omega))) (by omega)) (lo_inj5 hL _ _ (lo_k6_6 hL _ (lo_e25 hL _ (lo_k7_2 hL _ t_pr) _ (by omega))) (lo_k6_6 hL _ (lo_e25 hL _ (lo_k7_2 hL _ t_pr) _ (by omega))) q9))).trans e495
      refine lv_istore (lv' := [(4, .int r502), (3, .ref (g.lk (g.lk (g.lk pr 2) ri) 6)), (2, .ref (g.lk (g.lk (g.lk pr 2) le) 6)), (0, .ref X), (1, .ref (g.lk (g.lk pr 2) n))]) hx hb d_NRunner_operateLong_142 hl (by decide) rfl (fun ls hl => ?_)
      refine lv_goto (tgt := 183) hx hb d_NRunner_operateLong_144 (by decide) ?_
      refine lv_iload hx hb d_NRunner_operateLong_183 (lv_at hl 0 rfl) ?_
      refine lv_if_eq (tgt := 192) hx hb d_NRunner_operateLong_185 (by decide) (fun b510 => ?_) (fun b510 => ?_)
      · skip
        have hr511 : r502 = nI 0 := b510
        have hi512 := i0_507 hr511
        have hfit8 : T12 ≤ (opv 4 vx vy).natAbs := i0_507 hr511
        refine lv_iconst (v := nI 2) hx hb d_NRunner_operateLong_192 (by decide) ?_
        exact pe_iret hx hb hr hlocks hK hP hD hS d_NRunner_operateLong_193 ⟨⟨(lo + ((nI 1))), e470⟩, (congrArg nI (otr_2 (by decide) (Or.inl (by decide)) hfit8).symm), (fun z9 => absurd (z9.symm.trans (otr_2 (by decide) (Or.inl (by decide)) hfit8)) (by decide)), hI1_508, hu⟩
      · skip
        have hr513 : r502 = nI 1 := (bl_1 bo_505 b510)
        have hi514 := i1_506 hr513
        have hlv8 := i1_506 hr513
        have hfit9 : (opv 4 vx vy).natAbs < T12 := hlv8.2
        have hlv9 : LV g f503 (g.lk (g.lk (g.lk pr 2) n) 6) (ovl 4 vx vy) := hlv8.1
        refine lv_iconst (v := nI 0) hx hb d_NRunner_operateLong_188 (by decide) ?_
        refine lv_goto (tgt := 193) hx hb d_NRunner_operateLong_189 (by decide) ?_
        exact pe_iret hx hb hr hlocks hK hP hD hS d_NRunner_operateLong_193 ⟨⟨(lo + ((nI 1))), e470⟩, (congrArg nI (otr_0 (by decide) (Or.inl (by decide)) hfit9).symm), (fun _ => hlv9), hI1_508, hu⟩
    · skip
      obtain ⟨kx1, kx2, kx3, mx, eNx, hsx, hlx, htx⟩ := hVx
      obtain ⟨ky1, ky2, ky3, my, eNy, hsy, hly, hty⟩ := hVy
      obtain ⟨sgy, ny, dy, eay, eby, hNy⟩ := hly rfl
      have hFy : LNF sgy ny dy vy := ⟨hNy, hty⟩
      have cby : ∀ i, i < 15 → ∃ k, k < 1000000000 ∧ dy i = nI k := hNy.2.1
      have hny : ny ≤ 15 := hNy.1
      refine lv_aload_n hx hb d_NRunner_operateLong_0 rfl (lv_at hl 0 rfl) ?_
      refine lv_dup hx hb d_NRunner_operateLong_1 rfl ?_
      refine pf_get (v := .int lo) (C := "BigRunner$Runner") (T := FT8) (N := 13) hx hb (hw8 hB _) (fun _ h9 => h9) hown hK hP (lo_in hL t_X (by decide)) eX rfl 11 (by decide) (wd_347 hB _) rfl d_NRunner_operateLong_2 ?_
      refine lv_iconst (v := nI 1) hx hb d_NRunner_operateLong_5 (by decide) ?_
      refine lv_iadd hx hb d_NRunner_operateLong_6 ?_
      refine pf_put (v := .int (lo + ((nI 1)))) (ty := .int) (fs' := [.ref pr, .ref (g.lk X 1), .int (nI ix), .ref (g.lk X 3), .ref (g.lk X 4), .ref (g.lk X 5), .ref (g.lk X 6), .ref (g.lk X 7), .int (nI os), .int (nI st), .int mo, .int (lo + ((nI 1))), .int (nI tr)]) (C := "BigRunner$Runner") (T := FT8) (N := 13) hx hb (hw8 hB _) (fun _ h9 => h9) TY8 ok8 nm8 hown hK hP hD hS (lo_in hL t_X (by decide)) eX rfl 11 (by decide) (wd_347 hB _) rfl (by decide +kernel) rfl rfl (Nat.le_of_ble_eq_true rfl) rfl d_NRunner_operateLong_7 (fun f515 H locs e516 k517 hP hD hS => ?_)
      have eN := (k517 (g.lk (g.lk pr 2) n) (tg_ne (lo_e25 hL _ (lo_k7_2 hL _ t_pr) _ (by omega)) t_X (by decide))).trans eN
      have eNx := (k517 (g.lk (g.lk pr 2) le) (tg_ne (lo_e25 hL _ (lo_k7_2 hL _ t_pr) _ (by omega)) t_X (by decide))).trans eNx
      have eNy := (k517 (g.lk (g.lk pr 2) ri) (tg_ne (lo_e25 hL _ (lo_k7_2 hL _ t_pr) _ (by omega)) t_X (by decide))).trans eNy
      have eay := (k517 (g.lk (g.lk (g.lk pr 2) ri) 6) (tg_ne (lo_k6_6 hL _ (lo_e25 hL _ (lo_k7_2 hL _ t_pr) _ (by omega))) t_X (by decide))).trans eay
      have eby := (k517 (g.lk (g.lk (g.lk (g.lk pr 2) ri) 6) 2) (tg_ne (lo_k5_2 hL _ (lo_k6_6 hL _ (lo_e25 hL _ (lo_k7_2 hL _ t_pr) _ (by omega)))) t_X (by decide))).trans eby
      have hu : ∀ b, b ≠ X → b ≠ (g.lk (g.lk (g.lk pr 2) n) 6) → b ≠ (g.lk (g.lk (g.lk (g.lk pr 2) n) 6) 2) → b ≠ (g.lk (g.lk (g.lk pr 2) le) 6) → b ≠ (g.lk (g.lk (g.lk (g.lk pr 2) le) 6) 2) → b ≠ (g.lk (g.lk (g.lk pr 2) ri) 6) → b ≠ (g.lk (g.lk (g.lk (g.lk pr 2) ri) 6) 2) → b ≠ (g.lk X 6) → b ≠ (g.lk (g.lk X 6) 0) → b ≠ (g.lk (g.lk X 6) 1) → f515 b = f b := fun b q0 q1 q2 q3 q4 q5 q6 q7 q8 q9 => (k517 b q0).trans (hu b q0 q1 q2 q3 q4 q5 q6 q7 q8 q9)
      have hk518 : ∀ b, b ≠ X → f515 b = f b := k517
      refine lv_aload_n hx hb d_NRunner_operateLong_10 rfl (lv_at hl 0 rfl) ?_
      refine pf_get (v := .ref pr) (C := "BigRunner$Runner") (T := FT8) (N := 13) hx hb (hw8 hB _) (fun _ h9 => h9) hown hK hP (lo_in hL t_X (by decide)) e516 rfl 0 (by decide) (wd_330 hB _) rfl d_NRunner_operateLong_11 ?_
      obtain ⟨sc_520, nc_521, e519, c522, c523⟩ := oc_7.of t_pr (hI.1 pr)
      replace e519 := (hk518 pr (tg_ne t_pr t_X (by decide))).trans e519
      refine pf_get (v := .ref (g.lk pr 2)) (C := "BigRunner$Program") (T := FT6) (N := 6) hx hb (hw6 hB _) (fun _ h9 => h9) hown hK hP (lo_in hL t_pr (by decide)) e519 rfl 2 (by decide) (wd_249 hB _) rfl d_NRunner_operateLong_14 ?_
      refine lv_aload_n hx hb d_NRunner_operateLong_17 rfl (lv_at hl 1 rfl) ?_
      refine pf_get (v := .int (nI le)) (C := "BigRunner$Node") (T := FT5) (N := 7) hx hb (hw5 hB _) (fun _ h9 => h9) hown hK hP (lo_in hL (lo_e25 hL _ (lo_k7_2 hL _ t_pr) _ (by omega)) (by decide)) eN rfl 1 (by decide) (wd_208 hB _) rfl d_NRunner_operateLong_18 ?_
      have e524 := oc_25.of (lo_k7_2 hL _ t_pr) (hI.1 (g.lk pr 2))
      replace e524 := (hk518 (g.lk pr 2) (tg_ne (lo_k7_2 hL _ t_pr) t_X (by decide))).trans e524
      refine pf_aald (i := le) hx hb hK hP (lo_in hL (lo_k7_2 hL _ t_pr) (by decide)) e524 (lo_t25 hL _ (lo_k7_2 hL _ t_pr)) (by omega) (by decide) d_NRunner_operateLong_21 ?_
      have hI525 := iv_1 hI hL t_X (by decide) hk518 (oc_9.mk t_X (⟨pr, ix, os, st, mo, ((lo + ((nI 1)))), tr, e516, t_pr, (by omega), (by omega), (by omega), (by omega)⟩))
      refine pcc_r (va_runV (C := "BigRunner$Node") (As := []) (rest := []) ⟨hx, hb, hml, hown, tb_nil⟩ (v_widenedS l g H.size f515 ((g.lk (g.lk pr 2) le)) kx1 kx2 kx3 mx hL (lo_e25 hL _ (lo_k7_2 hL _ t_pr) _ (by omega)) hI525 eNx (by rw [(hsx rfl).1]; exact (hsx rfl).2)) ⟨(callB_of 0 (tb_one (wd_761 hB _)) tb_good1 rfl rfl rfl (wd_77 hB _) (wd_758 hB _) (by decide +kernel) ⟨Nat.le_of_ble_eq_true rfl, Nat.le_of_ble_eq_true rfl⟩), (wd_759 hB _), (wd_760 hB _)⟩ ⟨pe_bl, pg_recv (ci := 5) hK hP (lo_in hL (lo_e25 hL _ (lo_k7_2 hL _ t_pr) _ (by omega)) (by decide)) eNx rfl, pe_pre hB hK hP hD⟩ rfl rfl hl.1 rfl (lv_room (Nat.le_of_ble_eq_true rfl)) d_NRunner_operateLong_22 ⟨Nat.le_of_ble_eq_true rfl, Nat.le_of_ble_eq_true rfl⟩) hS (fun r526 f527 H locs hq528 hP hD hS => ?_)
      obtain ⟨ra_529, lv_530, hI1_531, hk1_532⟩ := hq528
      subst ra_529
      have hu : ∀ b, b ≠ X → b ≠ (g.lk (g.lk (g.lk pr 2) n) 6) → b ≠ (g.lk (g.lk (g.lk (g.lk pr 2) n) 6) 2) → b ≠ (g.lk (g.lk (g.lk pr 2) le) 6) → b ≠ (g.lk (g.lk (g.lk (g.lk pr 2) le) 6) 2) → b ≠ (g.lk (g.lk (g.lk pr 2) ri) 6) → b ≠ (g.lk (g.lk (g.lk (g.lk pr 2) ri) 6) 2) → b ≠ (g.lk X 6) → b ≠ (g.lk (g.lk X 6) 0) → b ≠ (g.lk (g.lk X 6) 1) → f527 b = f b := fun b q0 q1 q2 q3 q4 q5 q6 q7 q8 q9 => (hk1_532 b q3 q4).trans (hu b q0 q1 q2 q3 q4 q5 q6 q7 q8 q9)
      have eN := (hk1_532 (g.lk (g.lk pr 2) n) (tg_ne (lo_e25 hL _ (lo_k7_2 hL _ t_pr) _ (by omega)) (lo_k6_6 hL _ (lo_e25 hL _ (lo_k7_2 hL _ t_pr) _ (by omega))) (by decide)) (tg_ne (lo_e25 hL _ (lo_k7_2 hL _ t_pr) _ (by omega)) (lo_k5_2 hL _ (lo_k6_6 hL _ (lo_e25 hL _ (lo_k7_2 hL _ t_pr) _ (by omega)))) (by decide))).trans eN
      have eNx := (hk1_532 (g.lk (g.lk pr 2) le) (tg_ne (lo_e25 hL _ (lo_k7_2 hL _ t_pr) _ (by omega)) (lo_k6_6 hL _ (lo_e25 hL _ (lo_k7_2 hL _ t_pr) _ (by omega))) (by decide)) (tg_ne (lo_e25 hL _ (lo_k7_2 hL _ t_pr) _ (by omega)) (lo_k5_2 hL _ (lo_k6_6 hL _ (lo_e25 hL _ (lo_k7_2 hL _ t_pr) _ (by omega)))) (by decide))).trans eNx
      have eNy := (hk1_532 (g.lk (g.lk pr 2) ri) (tg_ne (lo_e25 hL _ (lo_k7_2 hL _ t_pr) _ (by omega)) (lo_k6_6 hL _ (lo_e25 hL _ (lo_k7_2 hL _ t_pr) _ (by omega))) (by decide)) (tg_ne (lo_e25 hL _ (lo_k7_2 hL _ t_pr) _ (by omega)) (lo_k5_2 hL _ (lo_k6_6 hL _ (lo_e25 hL _ (lo_k7_2 hL _ t_pr) _ (by omega)))) (by decide))).trans eNy
      have eay := (hk1_532 (g.lk (g.lk (g.lk pr 2) ri) 6) (tn_ne ((lo_n6 hL _ (lo_e25 hL _ (lo_k7_2 hL _ t_pr) _ (by omega))).trans (lo_n25 hL _ (lo_k7_2 hL _ t_pr) _ (by omega))) ((lo_n6 hL _ (lo_e25 hL _ (lo_k7_2 hL _ t_pr) _ (by omega))).trans (lo_n25 hL _ (lo_k7_2 hL _ t_pr) _ (by omega))) (by omega)) (tg_ne (lo_k6_6 hL _ (lo_e25 hL _ (lo_k7_2 hL _ t_pr) _ (by omega))) (lo_k5_2 hL _ (lo_k6_6 hL _ (lo_e25 hL _ (lo_k7_2 hL _ t_pr) _ (by omega)))) (by decide))).trans eay
      have eby := (hk1_532 (g.lk (g.lk (g.lk (g.lk pr 2) ri) 6) 2) (tg_ne (lo_k5_2 hL _ (lo_k6_6 hL _ (lo_e25 hL _ (lo_k7_2 hL _ t_pr) _ (by omega)))) (lo_k6_6 hL _ (lo_e25 hL _ (lo_k7_2 hL _ t_pr) _ (by omega))) (by decide)) (fun q9 => (tn_ne ((lo_n6 hL _ (lo_e25 hL _ (lo_k7_2 hL _ t_pr) _ (by omega))).trans (lo_n25 hL _ (lo_k7_2 hL _ t_pr) _ (by omega))) ((lo_n6 hL _ (lo_e25 hL _ (lo_k7_2 hL _ t_pr) _ (by omega))).trans (lo_n25 hL _ (lo_k7_2 hL _ t_pr) _ (by omega))) (by omega)) (lo_inj5 hL _ _ (lo_k6_6 hL _ (lo_e25 hL _ (lo_k7_2 hL _ t_pr) _ (by omega))) (lo_k6_6 hL _ (lo_e25 hL _ (lo_k7_2 hL _ t_pr) _ (by omega))) q9))).trans eby
      have e516 := (hk1_532 X (tg_ne t_X (lo_k6_6 hL _ (lo_e25 hL _ (lo_k7_2 hL _ t_pr) _ (by omega))) (by decide)) (tg_ne t_X (lo_k5_2 hL _ (lo_k6_6 hL _ (lo_e25 hL _ (lo_k7_2 hL _ t_pr) _ (by omega)))) (by decide))).trans e516
      have e519 := (hk1_532 pr (tg_ne t_pr (lo_k6_6 hL _ (lo_e25 hL _ (lo_k7_2 hL _ t_pr) _ (by omega))) (by decide)) (tg_ne t_pr (lo_k5_2 hL _ (lo_k6_6 hL _ (lo_e25 hL _ (lo_k7_2 hL _ t_pr) _ (by omega)))) (by decide))).trans e519
      have e524 := (hk1_532 (g.lk pr 2) (tg_ne (lo_k7_2 hL _ t_pr) (lo_k6_6 hL _ (lo_e25 hL _ (lo_k7_2 hL _ t_pr) _ (by omega))) (by decide)) (tg_ne (lo_k7_2 hL _ t_pr) (lo_k5_2 hL _ (lo_k6_6 hL _ (lo_e25 hL _ (lo_k7_2 hL _ t_pr) _ (by omega)))) (by decide))).trans e524
      obtain ⟨sg533, nn534, dd535, e536, e537, hN538⟩ := lv_530
      have c539 : ∀ i, i < 15 → ∃ k, k < 1000000000 ∧ dd535 i = nI k := hN538.2.1
      have hnn534 : nn534 ≤ 15 := hN538.1
      refine lv_astore_n (lv' := [(2, .ref (g.lk (g.lk (g.lk pr 2) le) 6)), (0, .ref X), (1, .ref (g.lk (g.lk pr 2) n))]) hx hb d_NRunner_operateLong_25 rfl hl (by decide) rfl (fun ls hl => ?_)
      have hFx : LNF sg533 nn534 dd535 vx := ⟨LNV_cast hN538 (hsx rfl).1, htx⟩
      refine lv_aload_n hx hb d_NRunner_operateLong_26 rfl (lv_at hl 1 rfl) ?_
      refine pf_get (v := .ref pr) (C := "BigRunner$Runner") (T := FT8) (N := 13) hx hb (hw8 hB _) (fun _ h9 => h9) hown hK hP (lo_in hL t_X (by decide)) e516 rfl 0 (by decide) (wd_330 hB _) rfl d_NRunner_operateLong_27 ?_
      refine pf_get (v := .ref (g.lk pr 2)) (C := "BigRunner$Program") (T := FT6) (N := 6) hx hb (hw6 hB _) (fun _ h9 => h9) hown hK hP (lo_in hL t_pr (by decide)) e519 rfl 2 (by decide) (wd_249 hB _) rfl d_NRunner_operateLong_30 ?_
      refine lv_aload_n hx hb d_NRunner_operateLong_33 rfl (lv_at hl 2 rfl) ?_
      refine pf_get (v := .int (nI ri)) (C := "BigRunner$Node") (T := FT5) (N := 7) hx hb (hw5 hB _) (fun _ h9 => h9) hown hK hP (lo_in hL (lo_e25 hL _ (lo_k7_2 hL _ t_pr) _ (by omega)) (by decide)) eN rfl 2 (by decide) (wd_212 hB _) rfl d_NRunner_operateLong_34 ?_
      refine pf_aald (i := ri) hx hb hK hP (lo_in hL (lo_k7_2 hL _ t_pr) (by decide)) e524 (lo_t25 hL _ (lo_k7_2 hL _ t_pr)) (by omega) (by decide) d_NRunner_operateLong_37 ?_
      refine pcc_r (va_runV (C := "BigRunner$Node") (As := []) (rest := []) ⟨hx, hb, hml, hown, tb_nil⟩ (v_widenedL l g H.size f527 ((g.lk (g.lk pr 2) ri)) ky1 ky2 ky3 my hL (lo_e25 hL _ (lo_k7_2 hL _ t_pr) _ (by omega)) hI1_531.1 eNy) ⟨(callB_of 0 (tb_one (wd_761 hB _)) tb_good1 rfl rfl rfl (wd_77 hB _) (wd_758 hB _) (by decide +kernel) ⟨Nat.le_of_ble_eq_true rfl, Nat.le_of_ble_eq_true rfl⟩), (wd_759 hB _), (wd_760 hB _)⟩ ⟨pe_bl, pg_recv (ci := 5) hK hP (lo_in hL (lo_e25 hL _ (lo_k7_2 hL _ t_pr) _ (by omega)) (by decide)) eNy rfl, pe_pre hB hK hP hD⟩ rfl rfl hl.1 rfl (lv_room (Nat.le_of_ble_eq_true rfl)) d_NRunner_operateLong_38 ⟨Nat.le_of_ble_eq_true rfl, Nat.le_of_ble_eq_true rfl⟩) hS (fun r540 f541 H locs hq542 hP hD hS => ?_)
      obtain ⟨ra_543, rfl⟩ := hq542
      subst ra_543
      refine lv_astore_n (lv' := [(3, .ref (g.lk (g.lk (g.lk pr 2) ri) 6)), (2, .ref (g.lk (g.lk (g.lk pr 2) le) 6)), (0, .ref X), (1, .ref (g.lk (g.lk pr 2) n))]) hx hb d_NRunner_operateLong_41 rfl hl (by decide) rfl (fun ls hl => ?_)
      refine lv_iconst (v := nI 1) hx hb d_NRunner_operateLong_42 (by decide) ?_
      refine lv_istore (lv' := [(4, .int (nI 1)), (3, .ref (g.lk (g.lk (g.lk pr 2) ri) 6)), (2, .ref (g.lk (g.lk (g.lk pr 2) le) 6)), (0, .ref X), (1, .ref (g.lk (g.lk pr 2) n))]) hx hb d_NRunner_operateLong_43 hl (by decide) rfl (fun ls hl => ?_)
      refine lv_aload_n hx hb d_NRunner_operateLong_45 rfl (lv_at hl 4 rfl) ?_
      refine pf_get (v := .int (nI 5)) (C := "BigRunner$Node") (T := FT5) (N := 7) hx hb (hw5 hB _) (fun _ h9 => h9) hown hK hP (lo_in hL (lo_e25 hL _ (lo_k7_2 hL _ t_pr) _ (by omega)) (by decide)) eN rfl 0 (by decide) (wd_204 hB _) rfl d_NRunner_operateLong_46 ?_
      refine lv_tableIn (off := 84) (tgt := 133) hx hb d_NRunner_operateLong_49 (by rw [nI_toInt (by omega)]; omega) (by rw [nI_toInt (by omega)]; omega) (by rw [nI_toInt (by omega)]; rfl) (by decide) ?_
      refine lv_aload_n hx hb d_NRunner_operateLong_133 rfl (lv_at hl 4 rfl) ?_
      refine pf_get (v := .ref (g.lk (g.lk (g.lk pr 2) n) 6)) (C := "BigRunner$Node") (T := FT5) (N := 7) hx hb (hw5 hB _) (fun _ h9 => h9) hown hK hP (lo_in hL (lo_e25 hL _ (lo_k7_2 hL _ t_pr) _ (by omega)) (by decide)) eN rfl 6 (by decide) (wd_224 hB _) rfl d_NRunner_operateLong_134 ?_
      refine lv_aload_n hx hb d_NRunner_operateLong_137 rfl (lv_at hl 2 rfl) ?_
      refine lv_aload_n hx hb d_NRunner_operateLong_138 rfl (lv_at hl 1 rfl) ?_
      obtain ⟨sg_545, n_546, e544, c547⟩ := oc_5.of (lo_k6_6 hL _ (lo_e25 hL _ (lo_k7_2 hL _ t_pr) _ (by omega))) (hI1_531.1 (g.lk (g.lk (g.lk pr 2) n) 6))
      refine pcc_i (va_runV (C := "BigRunner$LongNumber") (As := [.ref (g.lk (g.lk (g.lk pr 2) le) 6), .ref (g.lk (g.lk (g.lk pr 2) ri) 6)]) (rest := []) ⟨hx, hb, hml, hown, tb_nil⟩ (v_setProduct l g H.size f527 ((g.lk (g.lk (g.lk pr 2) n) 6)) ((g.lk (g.lk (g.lk pr 2) le) 6)) sg533 nn534 dd535 vx ((g.lk (g.lk (g.lk pr 2) ri) 6)) sgy ny dy vy hL (lo_k6_6 hL _ (lo_e25 hL _ (lo_k7_2 hL _ t_pr) _ (by omega))) (lo_k6_6 hL _ (lo_e25 hL _ (lo_k7_2 hL _ t_pr) _ (by omega))) (lo_k6_6 hL _ (lo_e25 hL _ (lo_k7_2 hL _ t_pr) _ (by omega))) hI1_531 e536 e537 hFx eay eby hFy (tn_ne ((lo_n6 hL _ (lo_e25 hL _ (lo_k7_2 hL _ t_pr) _ (by omega))).trans (lo_n25 hL _ (lo_k7_2 hL _ t_pr) _ (by omega))) ((lo_n6 hL _ (lo_e25 hL _ (lo_k7_2 hL _ t_pr) _ (by omega))).trans (lo_n25 hL _ (lo_k7_2 hL _ t_pr) _ (by omega))) (by omega)) (tn_ne ((lo_n6 hL _ (lo_e25 hL _ (lo_k7_2 hL _ t_pr) _ (by omega))).trans (lo_n25 hL _ (lo_k7_2 hL _ t_pr) _ (by omega))) ((lo_n6 hL _ (lo_e25 hL _ (lo_k7_2 hL _ t_pr) _ (by omega))).trans (lo_n25 hL _ (lo_k7_2 hL _ t_pr) _ (by omega))) (by omega))) ⟨(callB_of 2 (tb_one (wd_799 hB _)) tb_good1 rfl rfl rfl (wd_78 hB _) (wd_796 hB _) (by decide +kernel) ⟨Nat.le_of_ble_eq_true rfl, Nat.le_of_ble_eq_true rfl⟩), (wd_797 hB _), (wd_798 hB _)⟩ ⟨pe_bl, pg_recv (ci := 4) hK hP (lo_in hL (lo_k6_6 hL _ (lo_e25 hL _ (lo_k7_2 hL _ t_pr) _ (by omega))) (by decide)) e544 rfl, pe_pre hB hK hP hD⟩ rfl rfl hl.1 rfl (lv_room (Nat.le_of_ble_eq_true rfl)) d_NRunner_operateLong_139 ⟨Nat.le_of_ble_eq_true rfl, Nat.le_of_ble_eq_true rfl⟩) hS (fun r548 f549 H locs hq550 hP hD hS => ?_)
      obtain ⟨bo_551, i1_552, i0_553, hI1_554, hk1_555⟩ := hq550
      have hu : ∀ b, b ≠ X → b ≠ (g.lk (g.lk (g.lk pr 2) n) 6) → b ≠ (g.lk (g.lk (g.lk (g.lk pr 2) n) 6) 2) → b ≠ (g.lk (g.lk (g.lk pr 2) le) 6) → b ≠ (g.lk (g.lk (g.lk (g.lk pr 2) le) 6) 2) → b ≠ (g.lk (g.lk (g.lk pr 2) ri) 6) → b ≠ (g.lk (g.lk (g.lk (g.lk pr 2) ri) 6) 2) → b ≠ (g.lk X 6) → b ≠ (g.lk (g.lk X 6) 0) → b ≠ (g.lk (g.lk X 6) 1) → f549 b = f b := fun b q0 q1 q2 q3 q4 q5 q6 q7 q8 q9 => (hk1_555 b q1 q2).trans (hu b q0 q1 q2 q3 q4 q5 q6 q7 q8 q9)
      have eN := (hk1_555 (g.lk (g.lk pr 2) n) (tg_ne (lo_e25 hL _ (lo_k7_2 hL _ t_pr) _ (by omega)) (lo_k6_6 hL _ (lo_e25 hL _ (lo_k7_2 hL _ t_pr) _ (by omega))) (by decide)) (tg_ne (lo_e25 hL _ (lo_k7_2 hL _ t_pr) _ (by omega)) (lo_k5_2 hL _ (lo_k6_6 hL _ (lo_e25 hL _ (lo_k7_2 hL _ t_pr) _ (by omega)))) (by decide))).trans eN
      have eNx := (hk1_555 (g.lk (g.lk pr 2) le) (tg_ne (lo_e25 hL _ (lo_k7_2 hL _ t_pr) _ (by omega)) (lo_k6_6 hL _ (lo_e25 hL _ (lo_k7_2 hL _ t_pr) _ (by omega))) (by decide)) (tg_ne (lo_e25 hL _ (lo_k7_2 hL _ t_pr) _ (by omega)) (lo_k5_2 hL _ (lo_k6_6 hL _ (lo_e25 hL _ (lo_k7_2 hL _ t_pr) _ (by omega)))) (by decide))).trans eNx
      have eNy := (hk1_555 (g.lk (g.lk pr 2) ri) (tg_ne (lo_e25 hL _ (lo_k7_2 hL _ t_pr) _ (by omega)) (lo_k6_6 hL _ (lo_e25 hL _ (lo_k7_2 hL _ t_pr) _ (by omega))) (by decide)) (tg_ne (lo_e25 hL _ (lo_k7_2 hL _ t_pr) _ (by omega)) (lo_k5_2 hL _ (lo_k6_6 hL _ (lo_e25 hL _ (lo_k7_2 hL _ t_pr) _ (by omega)))) (by decide))).trans eNy
      have eay := (hk1_555 (g.lk (g.lk (g.lk pr 2) ri) 6) (tn_ne ((lo_n6 hL _ (lo_e25 hL _ (lo_k7_2 hL _ t_pr) _ (by omega))).trans (lo_n25 hL _ (lo_k7_2 hL _ t_pr) _ (by omega))) ((lo_n6 hL _ (lo_e25 hL _ (lo_k7_2 hL _ t_pr) _ (by omega))).trans (lo_n25 hL _ (lo_k7_2 hL _ t_pr) _ (by omega))) (by omega)) (tg_ne (lo_k6_6 hL _ (lo_e25 hL _ (lo_k7_2 hL _ t_pr) _ (by omega))) (lo_k5_2 hL _ (lo_k6_6 hL _ (lo_e25 hL _ (lo_k7_2 hL _ t_pr) _ (by omega)))) (by decide))).trans eay
      have eby := (hk1_555 (g.lk (g.lk (g.lk (g.lk pr 2) ri) 6) 2) (tg_ne (lo_k5_2 hL _ (lo_k6_6 hL _ (lo_e25 hL _ (lo_k7_2 hL _ t_pr) _ (by omega)))) (lo_k6_6 hL _ (lo_e25 hL _ (lo_k7_2 hL _ t_pr) _ (by omega))) (by decide)) (fun q9 => (tn_ne ((lo_n6 hL _ (lo_e25 hL _ (lo_k7_2 hL _ t_pr) _ (by omega))).trans (lo_n25 hL _ (lo_k7_2 hL _ t_pr) _ (by omega))) ((lo_n6 hL _ (lo_e25 hL _ (lo_k7_2 hL _ t_pr) _ (by omega))).trans (lo_n25 hL _ (lo_k7_2 hL _ t_pr) _ (by omega))) (by omega)) (lo_inj5 hL _ _ (lo_k6_6 hL _ (lo_e25 hL _ (lo_k7_2 hL _ t_pr) _ (by omega))) (lo_k6_6 hL _ (lo_e25 hL _ (lo_k7_2 hL _ t_pr) _ (by omega))) q9))).trans eby
      have e516 := (hk1_555 X (tg_ne t_X (lo_k6_6 hL _ (lo_e25 hL _ (lo_k7_2 hL _ t_pr) _ (by omega))) (by decide)) (tg_ne t_X (lo_k5_2 hL _ (lo_k6_6 hL _ (lo_e25 hL _ (lo_k7_2 hL _ t_pr) _ (by omega)))) (by decide))).trans e516
      have e519 := (hk1_555 pr (tg_ne t_pr (lo_k6_6 hL _ (lo_e25 hL _ (lo_k7_2 hL _ t_pr) _ (by omega))) (by decide)) (tg_ne t_pr (lo_k5_2 hL _ (lo_k6_6 hL _ (lo_e25 hL _ (lo_k7_2 hL _ t_pr) _ (by omega)))) (by decide))).trans e519
      have e524 := (hk1_555 (g.lk pr 2) (tg_ne (lo_k7_2 hL _ t_pr) (lo_k6_6 hL _ (lo_e25 hL _ (lo_k7_2 hL _ t_pr) _ (by omega))) (by decide)) (tg_ne (lo_k7_2 hL _ t_pr) (lo_k5_2 hL _ (lo_k6_6 hL _ (lo_e25 hL _ (lo_k7_2 hL _ t_pr) _ (by omega)))) (by decide))).trans e524
      have e536 := (hk1_555 (g.lk (g.lk (g.lk pr 2) le) 6) (tn_ne ((lo_n6 hL _ (lo_e25 hL _ (lo_k7_2 hL _ t_pr) _ (by omega))).trans (lo_n25 hL _ (lo_k7_2 hL _ t_pr) _ (by omega))) ((lo_n6 hL _ (lo_e25 hL _ (lo_k7_2 hL _ t_pr) _ (by omega))).trans (lo_n25 hL _ (lo_k7_2 hL _ t_pr) _ (by omega))) (by omega)) (tg_ne (lo_k6_6 hL _ (lo_e25 hL _ (lo_k7_2 hL _ t_pr) _ (by omega))) (lo_k5_2 hL _ (lo_k6_6 hL _ (lo_e25 hL _ (lo_k7_2 hL _ t_pr) _ (by omega)))) (by decide))).trans e536
      have e537 := (hk1_555 (g.lk (g.lk (g.lk (g.lk pr 2) le) 6) 2) (tg_ne (lo_k5_2 hL _ (lo_k6_6 hL _ (lo_e25 hL _ (lo_k7_2 hL _ t_pr) _ (by omega)))) (lo_k6_6 hL _ (lo_e25 hL _ (lo_k7_2 hL _ t_pr) _ (by omega))) (by decide)) (fun q9 => (tn_ne ((lo_n6 hL _ (lo_e25 hL _ (lo_k7_2 hL _ t_pr) _ (by omega))).trans (lo_n25 hL _ (lo_k7_2 hL _ t_pr) _ (by omega))) ((lo_n6 hL _ (lo_e25 hL _ (lo_k7_2 hL _ t_pr) _ (by omega))).trans (lo_n25 hL _ (lo_k7_2 hL _ t_pr) _ (by omega))) (by omega)) (lo_inj5 hL _ _ (lo_k6_6 hL _ (lo_e25 hL _ (lo_k7_2 hL _ t_pr) _ (by omega))) (lo_k6_6 hL _ (lo_e25 hL _ (lo_k7_2 hL _ t_pr) _ (by omega))) q9))).trans e537
      refine lv_istore (lv' := [(4, .int r548), (3, .ref (g.lk (g.lk (g.lk pr 2) ri) 6)), (2, .ref (g.lk (g.lk (g.lk pr 2) le) 6)), (0, .ref X), (1, .ref (g.lk (g.lk pr 2) n))]) hx hb d_NRunner_operateLong_142 hl (by decide) rfl (fun ls hl => ?_)
      refine lv_goto (tgt := 183) hx hb d_NRunner_operateLong_144 (by decide) ?_
      refine lv_iload hx hb d_NRunner_operateLong_183 (lv_at hl 0 rfl) ?_
      refine lv_if_eq (tgt := 192) hx hb d_NRunner_operateLong_185 (by decide) (fun b556 => ?_) (fun b556 => ?_)
      · skip
        have hr557 : r548 = nI 0 := b556
        have hi558 := i0_553 hr557
        have hfit8 : T12 ≤ (opv 4 vx vy).natAbs := i0_553 hr557
        refine lv_iconst (v := nI 2) hx hb d_NRunner_operateLong_192 (by decide) ?_
        exact pe_iret hx hb hr hlocks hK hP hD hS d_NRunner_operateLong_193 ⟨⟨(lo + ((nI 1))), e516⟩, (congrArg nI (otr_2 (by decide) (Or.inl (by decide)) hfit8).symm), (fun z9 => absurd (z9.symm.trans (otr_2 (by decide) (Or.inl (by decide)) hfit8)) (by decide)), hI1_554, hu⟩
      · skip
        have hr559 : r548 = nI 1 := (bl_1 bo_551 b556)
        have hi560 := i1_552 hr559
        have hlv8 := i1_552 hr559
        have hfit9 : (opv 4 vx vy).natAbs < T12 := hlv8.2
        have hlv9 : LV g f549 (g.lk (g.lk (g.lk pr 2) n) 6) (ovl 4 vx vy) := hlv8.1
        refine lv_iconst (v := nI 0) hx hb d_NRunner_operateLong_188 (by decide) ?_
        refine lv_goto (tgt := 193) hx hb d_NRunner_operateLong_189 (by decide) ?_
        exact pe_iret hx hb hr hlocks hK hP hD hS d_NRunner_operateLong_193 ⟨⟨(lo + ((nI 1))), e516⟩, (congrArg nI (otr_0 (by decide) (Or.inl (by decide)) hfit9).symm), (fun _ => hlv9), hI1_554, hu⟩
    · skip
      obtain ⟨kx1, kx2, kx3, mx, eNx, hsx, hlx, htx⟩ := hVx
      obtain ⟨ky1, ky2, ky3, my, eNy, hsy, hly, hty⟩ := hVy
      refine lv_aload_n hx hb d_NRunner_operateLong_0 rfl (lv_at hl 0 rfl) ?_
      refine lv_dup hx hb d_NRunner_operateLong_1 rfl ?_
      refine pf_get (v := .int lo) (C := "BigRunner$Runner") (T := FT8) (N := 13) hx hb (hw8 hB _) (fun _ h9 => h9) hown hK hP (lo_in hL t_X (by decide)) eX rfl 11 (by decide) (wd_347 hB _) rfl d_NRunner_operateLong_2 ?_
      refine lv_iconst (v := nI 1) hx hb d_NRunner_operateLong_5 (by decide) ?_
      refine lv_iadd hx hb d_NRunner_operateLong_6 ?_
      refine pf_put (v := .int (lo + ((nI 1)))) (ty := .int) (fs' := [.ref pr, .ref (g.lk X 1), .int (nI ix), .ref (g.lk X 3), .ref (g.lk X 4), .ref (g.lk X 5), .ref (g.lk X 6), .ref (g.lk X 7), .int (nI os), .int (nI st), .int mo, .int (lo + ((nI 1))), .int (nI tr)]) (C := "BigRunner$Runner") (T := FT8) (N := 13) hx hb (hw8 hB _) (fun _ h9 => h9) TY8 ok8 nm8 hown hK hP hD hS (lo_in hL t_X (by decide)) eX rfl 11 (by decide) (wd_347 hB _) rfl (by decide +kernel) rfl rfl (Nat.le_of_ble_eq_true rfl) rfl d_NRunner_operateLong_7 (fun f561 H locs e562 k563 hP hD hS => ?_)
      have eN := (k563 (g.lk (g.lk pr 2) n) (tg_ne (lo_e25 hL _ (lo_k7_2 hL _ t_pr) _ (by omega)) t_X (by decide))).trans eN
      have eNx := (k563 (g.lk (g.lk pr 2) le) (tg_ne (lo_e25 hL _ (lo_k7_2 hL _ t_pr) _ (by omega)) t_X (by decide))).trans eNx
      have eNy := (k563 (g.lk (g.lk pr 2) ri) (tg_ne (lo_e25 hL _ (lo_k7_2 hL _ t_pr) _ (by omega)) t_X (by decide))).trans eNy
      have hu : ∀ b, b ≠ X → b ≠ (g.lk (g.lk (g.lk pr 2) n) 6) → b ≠ (g.lk (g.lk (g.lk (g.lk pr 2) n) 6) 2) → b ≠ (g.lk (g.lk (g.lk pr 2) le) 6) → b ≠ (g.lk (g.lk (g.lk (g.lk pr 2) le) 6) 2) → b ≠ (g.lk (g.lk (g.lk pr 2) ri) 6) → b ≠ (g.lk (g.lk (g.lk (g.lk pr 2) ri) 6) 2) → b ≠ (g.lk X 6) → b ≠ (g.lk (g.lk X 6) 0) → b ≠ (g.lk (g.lk X 6) 1) → f561 b = f b := fun b q0 q1 q2 q3 q4 q5 q6 q7 q8 q9 => (k563 b q0).trans (hu b q0 q1 q2 q3 q4 q5 q6 q7 q8 q9)
      have hk564 : ∀ b, b ≠ X → f561 b = f b := k563
      refine lv_aload_n hx hb d_NRunner_operateLong_10 rfl (lv_at hl 0 rfl) ?_
      refine pf_get (v := .ref pr) (C := "BigRunner$Runner") (T := FT8) (N := 13) hx hb (hw8 hB _) (fun _ h9 => h9) hown hK hP (lo_in hL t_X (by decide)) e562 rfl 0 (by decide) (wd_330 hB _) rfl d_NRunner_operateLong_11 ?_
      obtain ⟨sc_566, nc_567, e565, c568, c569⟩ := oc_7.of t_pr (hI.1 pr)
      replace e565 := (hk564 pr (tg_ne t_pr t_X (by decide))).trans e565
      refine pf_get (v := .ref (g.lk pr 2)) (C := "BigRunner$Program") (T := FT6) (N := 6) hx hb (hw6 hB _) (fun _ h9 => h9) hown hK hP (lo_in hL t_pr (by decide)) e565 rfl 2 (by decide) (wd_249 hB _) rfl d_NRunner_operateLong_14 ?_
      refine lv_aload_n hx hb d_NRunner_operateLong_17 rfl (lv_at hl 1 rfl) ?_
      refine pf_get (v := .int (nI le)) (C := "BigRunner$Node") (T := FT5) (N := 7) hx hb (hw5 hB _) (fun _ h9 => h9) hown hK hP (lo_in hL (lo_e25 hL _ (lo_k7_2 hL _ t_pr) _ (by omega)) (by decide)) eN rfl 1 (by decide) (wd_208 hB _) rfl d_NRunner_operateLong_18 ?_
      have e570 := oc_25.of (lo_k7_2 hL _ t_pr) (hI.1 (g.lk pr 2))
      replace e570 := (hk564 (g.lk pr 2) (tg_ne (lo_k7_2 hL _ t_pr) t_X (by decide))).trans e570
      refine pf_aald (i := le) hx hb hK hP (lo_in hL (lo_k7_2 hL _ t_pr) (by decide)) e570 (lo_t25 hL _ (lo_k7_2 hL _ t_pr)) (by omega) (by decide) d_NRunner_operateLong_21 ?_
      have hI571 := iv_1 hI hL t_X (by decide) hk564 (oc_9.mk t_X (⟨pr, ix, os, st, mo, ((lo + ((nI 1)))), tr, e562, t_pr, (by omega), (by omega), (by omega), (by omega)⟩))
      refine pcc_r (va_runV (C := "BigRunner$Node") (As := []) (rest := []) ⟨hx, hb, hml, hown, tb_nil⟩ (v_widenedS l g H.size f561 ((g.lk (g.lk pr 2) le)) kx1 kx2 kx3 mx hL (lo_e25 hL _ (lo_k7_2 hL _ t_pr) _ (by omega)) hI571 eNx (by rw [(hsx rfl).1]; exact (hsx rfl).2)) ⟨(callB_of 0 (tb_one (wd_761 hB _)) tb_good1 rfl rfl rfl (wd_77 hB _) (wd_758 hB _) (by decide +kernel) ⟨Nat.le_of_ble_eq_true rfl, Nat.le_of_ble_eq_true rfl⟩), (wd_759 hB _), (wd_760 hB _)⟩ ⟨pe_bl, pg_recv (ci := 5) hK hP (lo_in hL (lo_e25 hL _ (lo_k7_2 hL _ t_pr) _ (by omega)) (by decide)) eNx rfl, pe_pre hB hK hP hD⟩ rfl rfl hl.1 rfl (lv_room (Nat.le_of_ble_eq_true rfl)) d_NRunner_operateLong_22 ⟨Nat.le_of_ble_eq_true rfl, Nat.le_of_ble_eq_true rfl⟩) hS (fun r572 f573 H locs hq574 hP hD hS => ?_)
      obtain ⟨ra_575, lv_576, hI1_577, hk1_578⟩ := hq574
      subst ra_575
      have hu : ∀ b, b ≠ X → b ≠ (g.lk (g.lk (g.lk pr 2) n) 6) → b ≠ (g.lk (g.lk (g.lk (g.lk pr 2) n) 6) 2) → b ≠ (g.lk (g.lk (g.lk pr 2) le) 6) → b ≠ (g.lk (g.lk (g.lk (g.lk pr 2) le) 6) 2) → b ≠ (g.lk (g.lk (g.lk pr 2) ri) 6) → b ≠ (g.lk (g.lk (g.lk (g.lk pr 2) ri) 6) 2) → b ≠ (g.lk X 6) → b ≠ (g.lk (g.lk X 6) 0) → b ≠ (g.lk (g.lk X 6) 1) → f573 b = f b := fun b q0 q1 q2 q3 q4 q5 q6 q7 q8 q9 => (hk1_578 b q3 q4).trans (hu b q0 q1 q2 q3 q4 q5 q6 q7 q8 q9)
      have eN := (hk1_578 (g.lk (g.lk pr 2) n) (tg_ne (lo_e25 hL _ (lo_k7_2 hL _ t_pr) _ (by omega)) (lo_k6_6 hL _ (lo_e25 hL _ (lo_k7_2 hL _ t_pr) _ (by omega))) (by decide)) (tg_ne (lo_e25 hL _ (lo_k7_2 hL _ t_pr) _ (by omega)) (lo_k5_2 hL _ (lo_k6_6 hL _ (lo_e25 hL _ (lo_k7_2 hL _ t_pr) _ (by omega)))) (by decide))).trans eN
      have eNx := (hk1_578 (g.lk (g.lk pr 2) le) (tg_ne (lo_e25 hL _ (lo_k7_2 hL _ t_pr) _ (by omega)) (lo_k6_6 hL _ (lo_e25 hL _ (lo_k7_2 hL _ t_pr) _ (by omega))) (by decide)) (tg_ne (lo_e25 hL _ (lo_k7_2 hL _ t_pr) _ (by omega)) (lo_k5_2 hL _ (lo_k6_6 hL _ (lo_e25 hL _ (lo_k7_2 hL _ t_pr) _ (by omega)))) (by decide))).trans eNx
      have eNy := (hk1_578 (g.lk (g.lk pr 2) ri) (tg_ne (lo_e25 hL _ (lo_k7_2 hL _ t_pr) _ (by omega)) (lo_k6_6 hL _ (lo_e25 hL _ (lo_k7_2 hL _ t_pr) _ (by omega))) (by decide)) (tg_ne (lo_e25 hL _ (lo_k7_2 hL _ t_pr) _ (by omega)) (lo_k5_2 hL _ (lo_k6_6 hL _ (lo_e25 hL _ (lo_k7_2 hL _ t_pr) _ (by omega)))) (by decide))).trans eNy
      have e562 := (hk1_578 X (tg_ne t_X (lo_k6_6 hL _ (lo_e25 hL _ (lo_k7_2 hL _ t_pr) _ (by omega))) (by decide)) (tg_ne t_X (lo_k5_2 hL _ (lo_k6_6 hL _ (lo_e25 hL _ (lo_k7_2 hL _ t_pr) _ (by omega)))) (by decide))).trans e562
      have e565 := (hk1_578 pr (tg_ne t_pr (lo_k6_6 hL _ (lo_e25 hL _ (lo_k7_2 hL _ t_pr) _ (by omega))) (by decide)) (tg_ne t_pr (lo_k5_2 hL _ (lo_k6_6 hL _ (lo_e25 hL _ (lo_k7_2 hL _ t_pr) _ (by omega)))) (by decide))).trans e565
      have e570 := (hk1_578 (g.lk pr 2) (tg_ne (lo_k7_2 hL _ t_pr) (lo_k6_6 hL _ (lo_e25 hL _ (lo_k7_2 hL _ t_pr) _ (by omega))) (by decide)) (tg_ne (lo_k7_2 hL _ t_pr) (lo_k5_2 hL _ (lo_k6_6 hL _ (lo_e25 hL _ (lo_k7_2 hL _ t_pr) _ (by omega)))) (by decide))).trans e570
      obtain ⟨sg579, nn580, dd581, e582, e583, hN584⟩ := lv_576
      have c585 : ∀ i, i < 15 → ∃ k, k < 1000000000 ∧ dd581 i = nI k := hN584.2.1
      have hnn580 : nn580 ≤ 15 := hN584.1
      refine lv_astore_n (lv' := [(2, .ref (g.lk (g.lk (g.lk pr 2) le) 6)), (0, .ref X), (1, .ref (g.lk (g.lk pr 2) n))]) hx hb d_NRunner_operateLong_25 rfl hl (by decide) rfl (fun ls hl => ?_)
      have hFx : LNF sg579 nn580 dd581 vx := ⟨LNV_cast hN584 (hsx rfl).1, htx⟩
      refine lv_aload_n hx hb d_NRunner_operateLong_26 rfl (lv_at hl 1 rfl) ?_
      refine pf_get (v := .ref pr) (C := "BigRunner$Runner") (T := FT8) (N := 13) hx hb (hw8 hB _) (fun _ h9 => h9) hown hK hP (lo_in hL t_X (by decide)) e562 rfl 0 (by decide) (wd_330 hB _) rfl d_NRunner_operateLong_27 ?_
      refine pf_get (v := .ref (g.lk pr 2)) (C := "BigRunner$Program") (T := FT6) (N := 6) hx hb (hw6 hB _) (fun _ h9 => h9) hown hK hP (lo_in hL t_pr (by decide)) e565 rfl 2 (by decide) (wd_249 hB _) rfl d_NRunner_operateLong_30 ?_
      refine lv_aload_n hx hb d_NRunner_operateLong_33 rfl (lv_at hl 2 rfl) ?_
      refine pf_get (v := .int (nI ri)) (C := "BigRunner$Node") (T := FT5) (N := 7) hx hb (hw5 hB _) (fun _ h9 => h9) hown hK hP (lo_in hL (lo_e25 hL _ (lo_k7_2 hL _ t_pr) _ (by omega)) (by decide)) eN rfl 2 (by decide) (wd_212 hB _) rfl d_NRunner_operateLong_34 ?_
      refine pf_aald (i := ri) hx hb hK hP (lo_in hL (lo_k7_2 hL _ t_pr) (by decide)) e570 (lo_t25 hL _ (lo_k7_2 hL _ t_pr)) (by omega) (by decide) d_NRunner_operateLong_37 ?_
      refine pcc_r (va_runV (C := "BigRunner$Node") (As := []) (rest := []) ⟨hx, hb, hml, hown, tb_nil⟩ (v_widenedS l g H.size f573 ((g.lk (g.lk pr 2) ri)) ky1 ky2 ky3 my hL (lo_e25 hL _ (lo_k7_2 hL _ t_pr) _ (by omega)) hI1_577 eNy (by rw [(hsy rfl).1]; exact (hsy rfl).2)) ⟨(callB_of 0 (tb_one (wd_761 hB _)) tb_good1 rfl rfl rfl (wd_77 hB _) (wd_758 hB _) (by decide +kernel) ⟨Nat.le_of_ble_eq_true rfl, Nat.le_of_ble_eq_true rfl⟩), (wd_759 hB _), (wd_760 hB _)⟩ ⟨pe_bl, pg_recv (ci := 5) hK hP (lo_in hL (lo_e25 hL _ (lo_k7_2 hL _ t_pr) _ (by omega)) (by decide)) eNy rfl, pe_pre hB hK hP hD⟩ rfl rfl hl.1 rfl (lv_room (Nat.le_of_ble_eq_true rfl)) d_NRunner_operateLong_38 ⟨Nat.le_of_ble_eq_true rfl, Nat.le_of_ble_eq_true rfl⟩) hS (fun r586 f587 H locs hq588 hP hD hS => ?_)
      obtain ⟨ra_589, lv_590, hI1_591, hk1_592⟩ := hq588
      subst ra_589
      have hu : ∀ b, b ≠ X → b ≠ (g.lk (g.lk (g.lk pr 2) n) 6) → b ≠ (g.lk (g.lk (g.lk (g.lk pr 2) n) 6) 2) → b ≠ (g.lk (g.lk (g.lk pr 2) le) 6) → b ≠ (g.lk (g.lk (g.lk (g.lk pr 2) le) 6) 2) → b ≠ (g.lk (g.lk (g.lk pr 2) ri) 6) → b ≠ (g.lk (g.lk (g.lk (g.lk pr 2) ri) 6) 2) → b ≠ (g.lk X 6) → b ≠ (g.lk (g.lk X 6) 0) → b ≠ (g.lk (g.lk X 6) 1) → f587 b = f b := fun b q0 q1 q2 q3 q4 q5 q6 q7 q8 q9 => (hk1_592 b q5 q6).trans (hu b q0 q1 q2 q3 q4 q5 q6 q7 q8 q9)
      have eN := (hk1_592 (g.lk (g.lk pr 2) n) (tg_ne (lo_e25 hL _ (lo_k7_2 hL _ t_pr) _ (by omega)) (lo_k6_6 hL _ (lo_e25 hL _ (lo_k7_2 hL _ t_pr) _ (by omega))) (by decide)) (tg_ne (lo_e25 hL _ (lo_k7_2 hL _ t_pr) _ (by omega)) (lo_k5_2 hL _ (lo_k6_6 hL _ (lo_e25 hL _ (lo_k7_2 hL _ t_pr) _ (by omega)))) (by decide))).trans eN
      have eNx := (hk1_592 (g.lk (g.lk pr 2) le) (tg_ne (lo_e25 hL _ (lo_k7_2 hL _ t_pr) _ (by omega)) (lo_k6_6 hL _ (lo_e25 hL _ (lo_k7_2 hL _ t_pr) _ (by omega))) (by decide)) (tg_ne (lo_e25 hL _ (lo_k7_2 hL _ t_pr) _ (by omega)) (lo_k5_2 hL _ (lo_k6_6 hL _ (lo_e25 hL _ (lo_k7_2 hL _ t_pr) _ (by omega)))) (by decide))).trans eNx
      have eNy := (hk1_592 (g.lk (g.lk pr 2) ri) (tg_ne (lo_e25 hL _ (lo_k7_2 hL _ t_pr) _ (by omega)) (lo_k6_6 hL _ (lo_e25 hL _ (lo_k7_2 hL _ t_pr) _ (by omega))) (by decide)) (tg_ne (lo_e25 hL _ (lo_k7_2 hL _ t_pr) _ (by omega)) (lo_k5_2 hL _ (lo_k6_6 hL _ (lo_e25 hL _ (lo_k7_2 hL _ t_pr) _ (by omega)))) (by decide))).trans eNy
      have e562 := (hk1_592 X (tg_ne t_X (lo_k6_6 hL _ (lo_e25 hL _ (lo_k7_2 hL _ t_pr) _ (by omega))) (by decide)) (tg_ne t_X (lo_k5_2 hL _ (lo_k6_6 hL _ (lo_e25 hL _ (lo_k7_2 hL _ t_pr) _ (by omega)))) (by decide))).trans e562
      have e565 := (hk1_592 pr (tg_ne t_pr (lo_k6_6 hL _ (lo_e25 hL _ (lo_k7_2 hL _ t_pr) _ (by omega))) (by decide)) (tg_ne t_pr (lo_k5_2 hL _ (lo_k6_6 hL _ (lo_e25 hL _ (lo_k7_2 hL _ t_pr) _ (by omega)))) (by decide))).trans e565
      have e570 := (hk1_592 (g.lk pr 2) (tg_ne (lo_k7_2 hL _ t_pr) (lo_k6_6 hL _ (lo_e25 hL _ (lo_k7_2 hL _ t_pr) _ (by omega))) (by decide)) (tg_ne (lo_k7_2 hL _ t_pr) (lo_k5_2 hL _ (lo_k6_6 hL _ (lo_e25 hL _ (lo_k7_2 hL _ t_pr) _ (by omega)))) (by decide))).trans e570
      have e582 := (hk1_592 (g.lk (g.lk (g.lk pr 2) le) 6) (tn_ne ((lo_n6 hL _ (lo_e25 hL _ (lo_k7_2 hL _ t_pr) _ (by omega))).trans (lo_n25 hL _ (lo_k7_2 hL _ t_pr) _ (by omega))) ((lo_n6 hL _ (lo_e25 hL _ (lo_k7_2 hL _ t_pr) _ (by omega))).trans (lo_n25 hL _ (lo_k7_2 hL _ t_pr) _ (by omega))) (by omega)) (tg_ne (lo_k6_6 hL _ (lo_e25 hL _ (lo_k7_2 hL _ t_pr) _ (by omega))) (lo_k5_2 hL _ (lo_k6_6 hL _ (lo_e25 hL _ (lo_k7_2 hL _ t_pr) _ (by omega)))) (by decide))).trans e582
      have e583 := (hk1_592 (g.lk (g.lk (g.lk (g.lk pr 2) le) 6) 2) (tg_ne (lo_k5_2 hL _ (lo_k6_6 hL _ (lo_e25 hL _ (lo_k7_2 hL _ t_pr) _ (by omega)))) (lo_k6_6 hL _ (lo_e25 hL _ (lo_k7_2 hL _ t_pr) _ (by omega))) (by decide)) (fun q9 => (tn_ne ((lo_n6 hL _ (lo_e25 hL _ (lo_k7_2 hL _ t_pr) _ (by omega))).trans (lo_n25 hL _ (lo_k7_2 hL _ t_pr) _ (by omega))) ((lo_n6 hL _ (lo_e25 hL _ (lo_k7_2 hL _ t_pr) _ (by omega))).trans (lo_n25 hL _ (lo_k7_2 hL _ t_pr) _ (by omega))) (by omega)) (lo_inj5 hL _ _ (lo_k6_6 hL _ (lo_e25 hL _ (lo_k7_2 hL _ t_pr) _ (by omega))) (lo_k6_6 hL _ (lo_e25 hL _ (lo_k7_2 hL _ t_pr) _ (by omega))) q9))).trans e583
      obtain ⟨sg593, nn594, dd595, e596, e597, hN598⟩ := lv_590
      have c599 : ∀ i, i < 15 → ∃ k, k < 1000000000 ∧ dd595 i = nI k := hN598.2.1
      have hnn594 : nn594 ≤ 15 := hN598.1
      refine lv_astore_n (lv' := [(3, .ref (g.lk (g.lk (g.lk pr 2) ri) 6)), (2, .ref (g.lk (g.lk (g.lk pr 2) le) 6)), (0, .ref X), (1, .ref (g.lk (g.lk pr 2) n))]) hx hb d_NRunner_operateLong_41 rfl hl (by decide) rfl (fun ls hl => ?_)
      have hFy : LNF sg593 nn594 dd595 vy := ⟨LNV_cast hN598 (hsy rfl).1, hty⟩
      refine lv_iconst (v := nI 1) hx hb d_NRunner_operateLong_42 (by decide) ?_
      refine lv_istore (lv' := [(4, .int (nI 1)), (3, .ref (g.lk (g.lk (g.lk pr 2) ri) 6)), (2, .ref (g.lk (g.lk (g.lk pr 2) le) 6)), (0, .ref X), (1, .ref (g.lk (g.lk pr 2) n))]) hx hb d_NRunner_operateLong_43 hl (by decide) rfl (fun ls hl => ?_)
      refine lv_aload_n hx hb d_NRunner_operateLong_45 rfl (lv_at hl 4 rfl) ?_
      refine pf_get (v := .int (nI 5)) (C := "BigRunner$Node") (T := FT5) (N := 7) hx hb (hw5 hB _) (fun _ h9 => h9) hown hK hP (lo_in hL (lo_e25 hL _ (lo_k7_2 hL _ t_pr) _ (by omega)) (by decide)) eN rfl 0 (by decide) (wd_204 hB _) rfl d_NRunner_operateLong_46 ?_
      refine lv_tableIn (off := 84) (tgt := 133) hx hb d_NRunner_operateLong_49 (by rw [nI_toInt (by omega)]; omega) (by rw [nI_toInt (by omega)]; omega) (by rw [nI_toInt (by omega)]; rfl) (by decide) ?_
      refine lv_aload_n hx hb d_NRunner_operateLong_133 rfl (lv_at hl 4 rfl) ?_
      refine pf_get (v := .ref (g.lk (g.lk (g.lk pr 2) n) 6)) (C := "BigRunner$Node") (T := FT5) (N := 7) hx hb (hw5 hB _) (fun _ h9 => h9) hown hK hP (lo_in hL (lo_e25 hL _ (lo_k7_2 hL _ t_pr) _ (by omega)) (by decide)) eN rfl 6 (by decide) (wd_224 hB _) rfl d_NRunner_operateLong_134 ?_
      refine lv_aload_n hx hb d_NRunner_operateLong_137 rfl (lv_at hl 2 rfl) ?_
      refine lv_aload_n hx hb d_NRunner_operateLong_138 rfl (lv_at hl 1 rfl) ?_
      obtain ⟨sg_601, n_602, e600, c603⟩ := oc_5.of (lo_k6_6 hL _ (lo_e25 hL _ (lo_k7_2 hL _ t_pr) _ (by omega))) (hI1_591.1 (g.lk (g.lk (g.lk pr 2) n) 6))
      refine pcc_i (va_runV (C := "BigRunner$LongNumber") (As := [.ref (g.lk (g.lk (g.lk pr 2) le) 6), .ref (g.lk (g.lk (g.lk pr 2) ri) 6)]) (rest := []) ⟨hx, hb, hml, hown, tb_nil⟩ (v_setProduct l g H.size f587 ((g.lk (g.lk (g.lk pr 2) n) 6)) ((g.lk (g.lk (g.lk pr 2) le) 6)) sg579 nn580 dd581 vx ((g.lk (g.lk (g.lk pr 2) ri) 6)) sg593 nn594 dd595 vy hL (lo_k6_6 hL _ (lo_e25 hL _ (lo_k7_2 hL _ t_pr) _ (by omega))) (lo_k6_6 hL _ (lo_e25 hL _ (lo_k7_2 hL _ t_pr) _ (by omega))) (lo_k6_6 hL _ (lo_e25 hL _ (lo_k7_2 hL _ t_pr) _ (by omega))) hI1_591 e582 e583 hFx e596 e597 hFy (tn_ne ((lo_n6 hL _ (lo_e25 hL _ (lo_k7_2 hL _ t_pr) _ (by omega))).trans (lo_n25 hL _ (lo_k7_2 hL _ t_pr) _ (by omega))) ((lo_n6 hL _ (lo_e25 hL _ (lo_k7_2 hL _ t_pr) _ (by omega))).trans (lo_n25 hL _ (lo_k7_2 hL _ t_pr) _ (by omega))) (by omega)) (tn_ne ((lo_n6 hL _ (lo_e25 hL _ (lo_k7_2 hL _ t_pr) _ (by omega))).trans (lo_n25 hL _ (lo_k7_2 hL _ t_pr) _ (by omega))) ((lo_n6 hL _ (lo_e25 hL _ (lo_k7_2 hL _ t_pr) _ (by omega))).trans (lo_n25 hL _ (lo_k7_2 hL _ t_pr) _ (by omega))) (by omega))) ⟨(callB_of 2 (tb_one (wd_799 hB _)) tb_good1 rfl rfl rfl (wd_78 hB _) (wd_796 hB _) (by decide +kernel) ⟨Nat.le_of_ble_eq_true rfl, Nat.le_of_ble_eq_true rfl⟩), (wd_797 hB _), (wd_798 hB _)⟩ ⟨pe_bl, pg_recv (ci := 4) hK hP (lo_in hL (lo_k6_6 hL _ (lo_e25 hL _ (lo_k7_2 hL _ t_pr) _ (by omega))) (by decide)) e600 rfl, pe_pre hB hK hP hD⟩ rfl rfl hl.1 rfl (lv_room (Nat.le_of_ble_eq_true rfl)) d_NRunner_operateLong_139 ⟨Nat.le_of_ble_eq_true rfl, Nat.le_of_ble_eq_true rfl⟩) hS (fun r604 f605 H locs hq606 hP hD hS => ?_)
      obtain ⟨bo_607, i1_608, i0_609, hI1_610, hk1_611⟩ := hq606
      have hu : ∀ b, b ≠ X → b ≠ (g.lk (g.lk (g.lk pr 2) n) 6) → b ≠ (g.lk (g.lk (g.lk (g.lk pr 2) n) 6) 2) → b ≠ (g.lk (g.lk (g.lk pr 2) le) 6) → b ≠ (g.lk (g.lk (g.lk (g.lk pr 2) le) 6) 2) → b ≠ (g.lk (g.lk (g.lk pr 2) ri) 6) → b ≠ (g.lk (g.lk (g.lk (g.lk pr 2) ri) 6) 2) → b ≠ (g.lk X 6) → b ≠ (g.lk (g.lk X 6) 0) → b ≠ (g.lk (g.lk X 6) 1) → f605 b = f b := fun b q0 q1 q2 q3 q4 q5 q6 q7 q8 q9 => (hk1_611 b q1 q2).trans (hu b q0 q1 q2 q3 q4 q5 q6 q7 q8 q9)
      have eN := (hk1_611 (g.lk (g.lk pr 2) n) (tg_ne (lo_e25 hL _ (lo_k7_2 hL _ t_pr) _ (by omega)) (lo_k6_6 hL _ (lo_e25 hL _ (lo_k7_2 hL _ t_pr) _ (by omega))) (by decide)) (tg_ne (lo_e25 hL _ (lo_k7_2 hL _ t_pr) _ (by omega)) (lo_k5_2 hL _ (lo_k6_6 hL _ (lo_e25 hL _ (lo_k7_2 hL _ t_pr) _ (by omega)))) (by decide))).trans eN
      have eNx := (hk1_611 (g.lk (g.lk pr 2) le) (tg_ne (lo_e25 hL _ (lo_k7_2 hL _ t_pr) _ (by omega)) (lo_k6_6 hL _ (lo_e25 hL _ (lo_k7_2 hL _ t_pr) _ (by omega))) (by decide)) (tg_ne (lo_e25 hL _ (lo_k7_2 hL _ t_pr) _ (by omega)) (lo_k5_2 hL _ (lo_k6_6 hL _ (lo_e25 hL _ (lo_k7_2 hL _ t_pr) _ (by omega)))) (by decide))).trans eNx
      have eNy := (hk1_611 (g.lk (g.lk pr 2) ri) (tg_ne (lo_e25 hL _ (lo_k7_2 hL _ t_pr) _ (by omega)) (lo_k6_6 hL _ (lo_e25 hL _ (lo_k7_2 hL _ t_pr) _ (by omega))) (by decide)) (tg_ne (lo_e25 hL _ (lo_k7_2 hL _ t_pr) _ (by omega)) (lo_k5_2 hL _ (lo_k6_6 hL _ (lo_e25 hL _ (lo_k7_2 hL _ t_pr) _ (by omega)))) (by decide))).trans eNy
      have e562 := (hk1_611 X (tg_ne t_X (lo_k6_6 hL _ (lo_e25 hL _ (lo_k7_2 hL _ t_pr) _ (by omega))) (by decide)) (tg_ne t_X (lo_k5_2 hL _ (lo_k6_6 hL _ (lo_e25 hL _ (lo_k7_2 hL _ t_pr) _ (by omega)))) (by decide))).trans e562
      have e565 := (hk1_611 pr (tg_ne t_pr (lo_k6_6 hL _ (lo_e25 hL _ (lo_k7_2 hL _ t_pr) _ (by omega))) (by decide)) (tg_ne t_pr (lo_k5_2 hL _ (lo_k6_6 hL _ (lo_e25 hL _ (lo_k7_2 hL _ t_pr) _ (by omega)))) (by decide))).trans e565
      have e570 := (hk1_611 (g.lk pr 2) (tg_ne (lo_k7_2 hL _ t_pr) (lo_k6_6 hL _ (lo_e25 hL _ (lo_k7_2 hL _ t_pr) _ (by omega))) (by decide)) (tg_ne (lo_k7_2 hL _ t_pr) (lo_k5_2 hL _ (lo_k6_6 hL _ (lo_e25 hL _ (lo_k7_2 hL _ t_pr) _ (by omega)))) (by decide))).trans e570
      have e582 := (hk1_611 (g.lk (g.lk (g.lk pr 2) le) 6) (tn_ne ((lo_n6 hL _ (lo_e25 hL _ (lo_k7_2 hL _ t_pr) _ (by omega))).trans (lo_n25 hL _ (lo_k7_2 hL _ t_pr) _ (by omega))) ((lo_n6 hL _ (lo_e25 hL _ (lo_k7_2 hL _ t_pr) _ (by omega))).trans (lo_n25 hL _ (lo_k7_2 hL _ t_pr) _ (by omega))) (by omega)) (tg_ne (lo_k6_6 hL _ (lo_e25 hL _ (lo_k7_2 hL _ t_pr) _ (by omega))) (lo_k5_2 hL _ (lo_k6_6 hL _ (lo_e25 hL _ (lo_k7_2 hL _ t_pr) _ (by omega)))) (by decide))).trans e582
      have e583 := (hk1_611 (g.lk (g.lk (g.lk (g.lk pr 2) le) 6) 2) (tg_ne (lo_k5_2 hL _ (lo_k6_6 hL _ (lo_e25 hL _ (lo_k7_2 hL _ t_pr) _ (by omega)))) (lo_k6_6 hL _ (lo_e25 hL _ (lo_k7_2 hL _ t_pr) _ (by omega))) (by decide)) (fun q9 => (tn_ne ((lo_n6 hL _ (lo_e25 hL _ (lo_k7_2 hL _ t_pr) _ (by omega))).trans (lo_n25 hL _ (lo_k7_2 hL _ t_pr) _ (by omega))) ((lo_n6 hL _ (lo_e25 hL _ (lo_k7_2 hL _ t_pr) _ (by omega))).trans (lo_n25 hL _ (lo_k7_2 hL _ t_pr) _ (by omega))) (by omega)) (lo_inj5 hL _ _ (lo_k6_6 hL _ (lo_e25 hL _ (lo_k7_2 hL _ t_pr) _ (by omega))) (lo_k6_6 hL _ (lo_e25 hL _ (lo_k7_2 hL _ t_pr) _ (by omega))) q9))).trans e583
      have e596 := (hk1_611 (g.lk (g.lk (g.lk pr 2) ri) 6) (tn_ne ((lo_n6 hL _ (lo_e25 hL _ (lo_k7_2 hL _ t_pr) _ (by omega))).trans (lo_n25 hL _ (lo_k7_2 hL _ t_pr) _ (by omega))) ((lo_n6 hL _ (lo_e25 hL _ (lo_k7_2 hL _ t_pr) _ (by omega))).trans (lo_n25 hL _ (lo_k7_2 hL _ t_pr) _ (by omega))) (by omega)) (tg_ne (lo_k6_6 hL _ (lo_e25 hL _ (lo_k7_2 hL _ t_pr) _ (by omega))) (lo_k5_2 hL _ (lo_k6_6 hL _ (lo_e25 hL _ (lo_k7_2 hL _ t_pr) _ (by omega)))) (by decide))).trans e596
      have e597 := (hk1_611 (g.lk (g.lk (g.lk (g.lk pr 2) ri) 6) 2) (tg_ne (lo_k5_2 hL _ (lo_k6_6 hL _ (lo_e25 hL _ (lo_k7_2 hL _ t_pr) _ (by omega)))) (lo_k6_6 hL _ (lo_e25 hL _ (lo_k7_2 hL _ t_pr) _ (by omega))) (by decide)) (fun q9 => (tn_ne ((lo_n6 hL _ (lo_e25 hL _ (lo_k7_2 hL _ t_pr) _ (by omega))).trans (lo_n25 hL _ (lo_k7_2 hL _ t_pr) _ (by omega))) ((lo_n6 hL _ (lo_e25 hL _ (lo_k7_2 hL _ t_pr) _ (by omega))).trans (lo_n25 hL _ (lo_k7_2 hL _ t_pr) _ (by omega))) (by omega)) (lo_inj5 hL _ _ (lo_k6_6 hL _ (lo_e25 hL _ (lo_k7_2 hL _ t_pr) _ (by omega))) (lo_k6_6 hL _ (lo_e25 hL _ (lo_k7_2 hL _ t_pr) _ (by omega))) q9))).trans e597
      refine lv_istore (lv' := [(4, .int r604), (3, .ref (g.lk (g.lk (g.lk pr 2) ri) 6)), (2, .ref (g.lk (g.lk (g.lk pr 2) le) 6)), (0, .ref X), (1, .ref (g.lk (g.lk pr 2) n))]) hx hb d_NRunner_operateLong_142 hl (by decide) rfl (fun ls hl => ?_)
      refine lv_goto (tgt := 183) hx hb d_NRunner_operateLong_144 (by decide) ?_
      refine lv_iload hx hb d_NRunner_operateLong_183 (lv_at hl 0 rfl) ?_
      refine lv_if_eq (tgt := 192) hx hb d_NRunner_operateLong_185 (by decide) (fun b612 => ?_) (fun b612 => ?_)
      · skip
        have hr613 : r604 = nI 0 := b612
        have hi614 := i0_609 hr613
        have hfit8 : T12 ≤ (opv 4 vx vy).natAbs := i0_609 hr613
        refine lv_iconst (v := nI 2) hx hb d_NRunner_operateLong_192 (by decide) ?_
        exact pe_iret hx hb hr hlocks hK hP hD hS d_NRunner_operateLong_193 ⟨⟨(lo + ((nI 1))), e562⟩, (congrArg nI (otr_2 (by decide) (Or.inl (by decide)) hfit8).symm), (fun z9 => absurd (z9.symm.trans (otr_2 (by decide) (Or.inl (by decide)) hfit8)) (by decide)), hI1_610, hu⟩
      · skip
        have hr615 : r604 = nI 1 := (bl_1 bo_607 b612)
        have hi616 := i1_608 hr615
        have hlv8 := i1_608 hr615
        have hfit9 : (opv 4 vx vy).natAbs < T12 := hlv8.2
        have hlv9 : LV g f605 (g.lk (g.lk (g.lk pr 2) n) 6) (ovl 4 vx vy) := hlv8.1
        refine lv_iconst (v := nI 0) hx hb d_NRunner_operateLong_188 (by decide) ?_
        refine lv_goto (tgt := 193) hx hb d_NRunner_operateLong_189 (by decide) ?_
        exact pe_iret hx hb hr hlocks hK hP hD hS d_NRunner_operateLong_193 ⟨⟨(lo + ((nI 1))), e562⟩, (congrArg nI (otr_0 (by decide) (Or.inl (by decide)) hfit9).symm), (fun _ => hlv9), hI1_610, hu⟩
  · skip
    rw [show km 5 = 6 from rfl] at eN
    rcases hsx with rfl | rfl <;> rcases hsy with rfl | rfl
    · skip
      obtain ⟨kx1, kx2, kx3, mx, eNx, hsx, hlx, htx⟩ := hVx
      obtain ⟨sgx, nx, dx, eax, ebx, hNx⟩ := hlx rfl
      have hFx : LNF sgx nx dx vx := ⟨hNx, htx⟩
      have cbx : ∀ i, i < 15 → ∃ k, k < 1000000000 ∧ dx i = nI k := hNx.2.1
      have hnx : nx ≤ 15 := hNx.1
      obtain ⟨ky1, ky2, ky3, my, eNy, hsy, hly, hty⟩ := hVy
      obtain ⟨sgy, ny, dy, eay, eby, hNy⟩ := hly rfl
      have hFy : LNF sgy ny dy vy := ⟨hNy, hty⟩
      have cby : ∀ i, i < 15 → ∃ k, k < 1000000000 ∧ dy i = nI k := hNy.2.1
      have hny : ny ≤ 15 := hNy.1
      refine lv_aload_n hx hb d_NRunner_operateLong_0 rfl (lv_at hl 0 rfl) ?_
      refine lv_dup hx hb d_NRunner_operateLong_1 rfl ?_
      refine pf_get (v := .int lo) (C := "BigRunner$Runner") (T := FT8) (N := 13) hx hb (hw8 hB _) (fun _ h9 => h9) hown hK hP (lo_in hL t_X (by decide)) eX rfl 11 (by decide) (wd_347 hB _) rfl d_NRunner_operateLong_2 ?_
      refine lv_iconst (v := nI 1) hx hb d_NRunner_operateLong_5 (by decide) ?_
      refine lv_iadd hx hb d_NRunner_operateLong_6 ?_
      refine pf_put (v := .int (lo + ((nI 1)))) (ty := .int) (fs' := [.ref pr, .ref (g.lk X 1), .int (nI ix), .ref (g.lk X 3), .ref (g.lk X 4), .ref (g.lk X 5), .ref (g.lk X 6), .ref (g.lk X 7), .int (nI os), .int (nI st), .int mo, .int (lo + ((nI 1))), .int (nI tr)]) (C := "BigRunner$Runner") (T := FT8) (N := 13) hx hb (hw8 hB _) (fun _ h9 => h9) TY8 ok8 nm8 hown hK hP hD hS (lo_in hL t_X (by decide)) eX rfl 11 (by decide) (wd_347 hB _) rfl (by decide +kernel) rfl rfl (Nat.le_of_ble_eq_true rfl) rfl d_NRunner_operateLong_7 (fun f617 H locs e618 k619 hP hD hS => ?_)
      have eN := (k619 (g.lk (g.lk pr 2) n) (tg_ne (lo_e25 hL _ (lo_k7_2 hL _ t_pr) _ (by omega)) t_X (by decide))).trans eN
      have eNx := (k619 (g.lk (g.lk pr 2) le) (tg_ne (lo_e25 hL _ (lo_k7_2 hL _ t_pr) _ (by omega)) t_X (by decide))).trans eNx
      have eax := (k619 (g.lk (g.lk (g.lk pr 2) le) 6) (tg_ne (lo_k6_6 hL _ (lo_e25 hL _ (lo_k7_2 hL _ t_pr) _ (by omega))) t_X (by decide))).trans eax
      have ebx := (k619 (g.lk (g.lk (g.lk (g.lk pr 2) le) 6) 2) (tg_ne (lo_k5_2 hL _ (lo_k6_6 hL _ (lo_e25 hL _ (lo_k7_2 hL _ t_pr) _ (by omega)))) t_X (by decide))).trans ebx
      have eNy := (k619 (g.lk (g.lk pr 2) ri) (tg_ne (lo_e25 hL _ (lo_k7_2 hL _ t_pr) _ (by omega)) t_X (by decide))).trans eNy
      have eay := (k619 (g.lk (g.lk (g.lk pr 2) ri) 6) (tg_ne (lo_k6_6 hL _ (lo_e25 hL _ (lo_k7_2 hL _ t_pr) _ (by omega))) t_X (by decide))).trans eay
      have eby := (k619 (g.lk (g.lk (g.lk (g.lk pr 2) ri) 6) 2) (tg_ne (lo_k5_2 hL _ (lo_k6_6 hL _ (lo_e25 hL _ (lo_k7_2 hL _ t_pr) _ (by omega)))) t_X (by decide))).trans eby
      have hu : ∀ b, b ≠ X → b ≠ (g.lk (g.lk (g.lk pr 2) n) 6) → b ≠ (g.lk (g.lk (g.lk (g.lk pr 2) n) 6) 2) → b ≠ (g.lk (g.lk (g.lk pr 2) le) 6) → b ≠ (g.lk (g.lk (g.lk (g.lk pr 2) le) 6) 2) → b ≠ (g.lk (g.lk (g.lk pr 2) ri) 6) → b ≠ (g.lk (g.lk (g.lk (g.lk pr 2) ri) 6) 2) → b ≠ (g.lk X 6) → b ≠ (g.lk (g.lk X 6) 0) → b ≠ (g.lk (g.lk X 6) 1) → f617 b = f b := fun b q0 q1 q2 q3 q4 q5 q6 q7 q8 q9 => (k619 b q0).trans (hu b q0 q1 q2 q3 q4 q5 q6 q7 q8 q9)
      have hk620 : ∀ b, b ≠ X → f617 b = f b := k619
      refine lv_aload_n hx hb d_NRunner_operateLong_10 rfl (lv_at hl 0 rfl) ?_
      refine pf_get (v := .ref pr) (C := "BigRunner$Runner") (T := FT8) (N := 13) hx hb (hw8 hB _) (fun _ h9 => h9) hown hK hP (lo_in hL t_X (by decide)) e618 rfl 0 (by decide) (wd_330 hB _) rfl d_NRunner_operateLong_11 ?_
      obtain ⟨sc_622, nc_623, e621, c624, c625⟩ := oc_7.of t_pr (hI.1 pr)
      replace e621 := (hk620 pr (tg_ne t_pr t_X (by decide))).trans e621
      refine pf_get (v := .ref (g.lk pr 2)) (C := "BigRunner$Program") (T := FT6) (N := 6) hx hb (hw6 hB _) (fun _ h9 => h9) hown hK hP (lo_in hL t_pr (by decide)) e621 rfl 2 (by decide) (wd_249 hB _) rfl d_NRunner_operateLong_14 ?_
      refine lv_aload_n hx hb d_NRunner_operateLong_17 rfl (lv_at hl 1 rfl) ?_
      refine pf_get (v := .int (nI le)) (C := "BigRunner$Node") (T := FT5) (N := 7) hx hb (hw5 hB _) (fun _ h9 => h9) hown hK hP (lo_in hL (lo_e25 hL _ (lo_k7_2 hL _ t_pr) _ (by omega)) (by decide)) eN rfl 1 (by decide) (wd_208 hB _) rfl d_NRunner_operateLong_18 ?_
      have e626 := oc_25.of (lo_k7_2 hL _ t_pr) (hI.1 (g.lk pr 2))
      replace e626 := (hk620 (g.lk pr 2) (tg_ne (lo_k7_2 hL _ t_pr) t_X (by decide))).trans e626
      refine pf_aald (i := le) hx hb hK hP (lo_in hL (lo_k7_2 hL _ t_pr) (by decide)) e626 (lo_t25 hL _ (lo_k7_2 hL _ t_pr)) (by omega) (by decide) d_NRunner_operateLong_21 ?_
      have hI627 := iv_1 hI hL t_X (by decide) hk620 (oc_9.mk t_X (⟨pr, ix, os, st, mo, ((lo + ((nI 1)))), tr, e618, t_pr, (by omega), (by omega), (by omega), (by omega)⟩))
      refine pcc_r (va_runV (C := "BigRunner$Node") (As := []) (rest := []) ⟨hx, hb, hml, hown, tb_nil⟩ (v_widenedL l g H.size f617 ((g.lk (g.lk pr 2) le)) kx1 kx2 kx3 mx hL (lo_e25 hL _ (lo_k7_2 hL _ t_pr) _ (by omega)) hI627.1 eNx) ⟨(callB_of 0 (tb_one (wd_761 hB _)) tb_good1 rfl rfl rfl (wd_77 hB _) (wd_758 hB _) (by decide +kernel) ⟨Nat.le_of_ble_eq_true rfl, Nat.le_of_ble_eq_true rfl⟩), (wd_759 hB _), (wd_760 hB _)⟩ ⟨pe_bl, pg_recv (ci := 5) hK hP (lo_in hL (lo_e25 hL _ (lo_k7_2 hL _ t_pr) _ (by omega)) (by decide)) eNx rfl, pe_pre hB hK hP hD⟩ rfl rfl hl.1 rfl (lv_room (Nat.le_of_ble_eq_true rfl)) d_NRunner_operateLong_22 ⟨Nat.le_of_ble_eq_true rfl, Nat.le_of_ble_eq_true rfl⟩) hS (fun r628 f629 H locs hq630 hP hD hS => ?_)
      obtain ⟨ra_631, rfl⟩ := hq630
      subst ra_631
      refine lv_astore_n (lv' := [(2, .ref (g.lk (g.lk (g.lk pr 2) le) 6)), (0, .ref X), (1, .ref (g.lk (g.lk pr 2) n))]) hx hb d_NRunner_operateLong_25 rfl hl (by decide) rfl (fun ls hl => ?_)
      refine lv_aload_n hx hb d_NRunner_operateLong_26 rfl (lv_at hl 1 rfl) ?_
      refine pf_get (v := .ref pr) (C := "BigRunner$Runner") (T := FT8) (N := 13) hx hb (hw8 hB _) (fun _ h9 => h9) hown hK hP (lo_in hL t_X (by decide)) e618 rfl 0 (by decide) (wd_330 hB _) rfl d_NRunner_operateLong_27 ?_
      refine pf_get (v := .ref (g.lk pr 2)) (C := "BigRunner$Program") (T := FT6) (N := 6) hx hb (hw6 hB _) (fun _ h9 => h9) hown hK hP (lo_in hL t_pr (by decide)) e621 rfl 2 (by decide) (wd_249 hB _) rfl d_NRunner_operateLong_30 ?_
      refine lv_aload_n hx hb d_NRunner_operateLong_33 rfl (lv_at hl 2 rfl) ?_
      refine pf_get (v := .int (nI ri)) (C := "BigRunner$Node") (T := FT5) (N := 7) hx hb (hw5 hB _) (fun _ h9 => h9) hown hK hP (lo_in hL (lo_e25 hL _ (lo_k7_2 hL _ t_pr) _ (by omega)) (by decide)) eN rfl 2 (by decide) (wd_212 hB _) rfl d_NRunner_operateLong_34 ?_
      refine pf_aald (i := ri) hx hb hK hP (lo_in hL (lo_k7_2 hL _ t_pr) (by decide)) e626 (lo_t25 hL _ (lo_k7_2 hL _ t_pr)) (by omega) (by decide) d_NRunner_operateLong_37 ?_
      refine pcc_r (va_runV (C := "BigRunner$Node") (As := []) (rest := []) ⟨hx, hb, hml, hown, tb_nil⟩ (v_widenedL l g H.size f617 ((g.lk (g.lk pr 2) ri)) ky1 ky2 ky3 my hL (lo_e25 hL _ (lo_k7_2 hL _ t_pr) _ (by omega)) hI627.1 eNy) ⟨(callB_of 0 (tb_one (wd_761 hB _)) tb_good1 rfl rfl rfl (wd_77 hB _) (wd_758 hB _) (by decide +kernel) ⟨Nat.le_of_ble_eq_true rfl, Nat.le_of_ble_eq_true rfl⟩), (wd_759 hB _), (wd_760 hB _)⟩ ⟨pe_bl, pg_recv (ci := 5) hK hP (lo_in hL (lo_e25 hL _ (lo_k7_2 hL _ t_pr) _ (by omega)) (by decide)) eNy rfl, pe_pre hB hK hP hD⟩ rfl rfl hl.1 rfl (lv_room (Nat.le_of_ble_eq_true rfl)) d_NRunner_operateLong_38 ⟨Nat.le_of_ble_eq_true rfl, Nat.le_of_ble_eq_true rfl⟩) hS (fun r632 f633 H locs hq634 hP hD hS => ?_)
      obtain ⟨ra_635, rfl⟩ := hq634
      subst ra_635
      refine lv_astore_n (lv' := [(3, .ref (g.lk (g.lk (g.lk pr 2) ri) 6)), (2, .ref (g.lk (g.lk (g.lk pr 2) le) 6)), (0, .ref X), (1, .ref (g.lk (g.lk pr 2) n))]) hx hb d_NRunner_operateLong_41 rfl hl (by decide) rfl (fun ls hl => ?_)
      refine lv_iconst (v := nI 1) hx hb d_NRunner_operateLong_42 (by decide) ?_
      refine lv_istore (lv' := [(4, .int (nI 1)), (3, .ref (g.lk (g.lk (g.lk pr 2) ri) 6)), (2, .ref (g.lk (g.lk (g.lk pr 2) le) 6)), (0, .ref X), (1, .ref (g.lk (g.lk pr 2) n))]) hx hb d_NRunner_operateLong_43 hl (by decide) rfl (fun ls hl => ?_)
      refine lv_aload_n hx hb d_NRunner_operateLong_45 rfl (lv_at hl 4 rfl) ?_
      refine pf_get (v := .int (nI 6)) (C := "BigRunner$Node") (T := FT5) (N := 7) hx hb (hw5 hB _) (fun _ h9 => h9) hown hK hP (lo_in hL (lo_e25 hL _ (lo_k7_2 hL _ t_pr) _ (by omega)) (by decide)) eN rfl 0 (by decide) (wd_204 hB _) rfl d_NRunner_operateLong_46 ?_
      refine lv_tableOut (tgt := 147) hx hb d_NRunner_operateLong_49 (by rw [nI_toInt (by omega)]; omega) (by decide) ?_
      refine lv_aload_n hx hb d_NRunner_operateLong_147 rfl (lv_at hl 1 rfl) ?_
      refine pf_get (v := .int sgy) (C := "BigRunner$LongNumber") (T := FT4) (N := 3) hx hb (hw4 hB _) (fun _ h9 => h9) hown hK hP (lo_in hL (lo_k6_6 hL _ (lo_e25 hL _ (lo_k7_2 hL _ t_pr) _ (by omega))) (by decide)) eay rfl 0 (by decide) (wd_189 hB _) rfl d_NRunner_operateLong_148 ?_
      refine lv_if_ne (tgt := 156) hx hb d_NRunner_operateLong_151 (by decide) (fun b636 => ?_) (fun b636 => ?_)
      · skip
        have hsy9 : ¬ sgy = nI 0 := b636
        have hvy9 : vy ≠ 0 := fun z9 => hsy9 ((LNV_0s hFy.1).mpr (LNV_z hFy.1 z9))
        refine lv_aload_n hx hb d_NRunner_operateLong_156 rfl (lv_at hl 3 rfl) ?_
        refine pf_get (v := .ref (g.lk X 6)) (C := "BigRunner$Runner") (T := FT8) (N := 13) hx hb (hw8 hB _) (fun _ h9 => h9) hown hK hP (lo_in hL t_X (by decide)) e618 rfl 6 (by decide) (wd_338 hB _) rfl d_NRunner_operateLong_157 ?_
        refine lv_aload_n hx hb d_NRunner_operateLong_160 rfl (lv_at hl 2 rfl) ?_
        refine lv_aload_n hx hb d_NRunner_operateLong_161 rfl (lv_at hl 1 rfl) ?_
        refine lv_aload_n hx hb d_NRunner_operateLong_162 rfl (lv_at hl 4 rfl) ?_
        refine pf_get (v := .ref (g.lk (g.lk (g.lk pr 2) n) 6)) (C := "BigRunner$Node") (T := FT5) (N := 7) hx hb (hw5 hB _) (fun _ h9 => h9) hown hK hP (lo_in hL (lo_e25 hL _ (lo_k7_2 hL _ t_pr) _ (by omega)) (by decide)) eN rfl 6 (by decide) (wd_224 hB _) rfl d_NRunner_operateLong_163 ?_
        refine lv_aload_n hx hb d_NRunner_operateLong_166 rfl (lv_at hl 4 rfl) ?_
        refine pf_get (v := .int (nI 6)) (C := "BigRunner$Node") (T := FT5) (N := 7) hx hb (hw5 hB _) (fun _ h9 => h9) hown hK hP (lo_in hL (lo_e25 hL _ (lo_k7_2 hL _ t_pr) _ (by omega)) (by decide)) eN rfl 0 (by decide) (wd_204 hB _) rfl d_NRunner_operateLong_167 ?_
        refine lv_bipush (v := nI 7) hx hb d_NRunner_operateLong_170 (by decide) ?_
        refine lv_icmp_ne (tgt := 179) hx hb d_NRunner_operateLong_172 (by decide) (fun b637 => ?_) (fun b637 => ?_)
        · skip
          replace b637 := mt (nI_eq (a := 6) (b := 7) (by omega) (by omega)).mpr b637
          refine lv_iconst (v := nI 0) hx hb d_NRunner_operateLong_179 (by decide) ?_
          obtain ⟨n_639, e638, c640⟩ := oc_4.of (lo_k9_6 hL _ t_X) (hI627.1 (g.lk X 6))
          refine pcc_v (va_runV (C := "BigRunner$LongDivision") (As := [.ref (g.lk (g.lk (g.lk pr 2) le) 6), .ref (g.lk (g.lk (g.lk pr 2) ri) 6), .ref (g.lk (g.lk (g.lk pr 2) n) 6), .int (nI 0)]) (rest := []) ⟨hx, hb, hml, hown, tb_nil⟩ (v_divide0 l g H.size f617 ((g.lk X 6)) ((g.lk (g.lk (g.lk pr 2) le) 6)) sgx nx dx vx ((g.lk (g.lk (g.lk pr 2) ri) 6)) sgy ny dy vy ((g.lk (g.lk (g.lk pr 2) n) 6)) hL (lo_k9_6 hL _ t_X) (lo_k6_6 hL _ (lo_e25 hL _ (lo_k7_2 hL _ t_pr) _ (by omega))) (lo_k6_6 hL _ (lo_e25 hL _ (lo_k7_2 hL _ t_pr) _ (by omega))) (lo_k6_6 hL _ (lo_e25 hL _ (lo_k7_2 hL _ t_pr) _ (by omega))) hI627 eax ebx hFx eay eby hFy (tn_ne ((lo_n6 hL _ (lo_e25 hL _ (lo_k7_2 hL _ t_pr) _ (by omega))).trans (lo_n25 hL _ (lo_k7_2 hL _ t_pr) _ (by omega))) ((lo_n6 hL _ (lo_e25 hL _ (lo_k7_2 hL _ t_pr) _ (by omega))).trans (lo_n25 hL _ (lo_k7_2 hL _ t_pr) _ (by omega))) (by omega)) (tn_ne ((lo_n6 hL _ (lo_e25 hL _ (lo_k7_2 hL _ t_pr) _ (by omega))).trans (lo_n25 hL _ (lo_k7_2 hL _ t_pr) _ (by omega))) ((lo_n6 hL _ (lo_e25 hL _ (lo_k7_2 hL _ t_pr) _ (by omega))).trans (lo_n25 hL _ (lo_k7_2 hL _ t_pr) _ (by omega))) (by omega)) (Nat.pos_of_ne_zero (fun z9 => hsy9 ((LNV_0s hFy.1).mpr z9)))) ⟨(callB_of 4 (tb_one (wd_806 hB _)) tb_good1 rfl rfl rfl (wd_81 hB _) (wd_803 hB _) (by decide +kernel) ⟨Nat.le_of_ble_eq_true rfl, Nat.le_of_ble_eq_true rfl⟩), (wd_804 hB _), (wd_805 hB _)⟩ ⟨pe_bl, pg_recv (ci := 3) hK hP (lo_in hL (lo_k9_6 hL _ t_X) (by decide)) e638 rfl, pe_pre hB hK hP hD⟩ rfl rfl hl.1 rfl (lv_room (Nat.le_of_ble_eq_true rfl)) d_NRunner_operateLong_180 ⟨Nat.le_of_ble_eq_true rfl, Nat.le_of_ble_eq_true rfl⟩) hS (fun f642 H locs hq643 hP hD hS => ?_)
          obtain ⟨lv_644, hI1_645, hk1_646⟩ := hq643
          have hu : ∀ b, b ≠ X → b ≠ (g.lk (g.lk (g.lk pr 2) n) 6) → b ≠ (g.lk (g.lk (g.lk (g.lk pr 2) n) 6) 2) → b ≠ (g.lk (g.lk (g.lk pr 2) le) 6) → b ≠ (g.lk (g.lk (g.lk (g.lk pr 2) le) 6) 2) → b ≠ (g.lk (g.lk (g.lk pr 2) ri) 6) → b ≠ (g.lk (g.lk (g.lk (g.lk pr 2) ri) 6) 2) → b ≠ (g.lk X 6) → b ≠ (g.lk (g.lk X 6) 0) → b ≠ (g.lk (g.lk X 6) 1) → f642 b = f b := fun b q0 q1 q2 q3 q4 q5 q6 q7 q8 q9 => (hk1_646 b q1 q2 q7 q8 q9).trans (hu b q0 q1 q2 q3 q4 q5 q6 q7 q8 q9)
          have eN := (hk1_646 (g.lk (g.lk pr 2) n) (tg_ne (lo_e25 hL _ (lo_k7_2 hL _ t_pr) _ (by omega)) (lo_k6_6 hL _ (lo_e25 hL _ (lo_k7_2 hL _ t_pr) _ (by omega))) (by decide)) (tg_ne (lo_e25 hL _ (lo_k7_2 hL _ t_pr) _ (by omega)) (lo_k5_2 hL _ (lo_k6_6 hL _ (lo_e25 hL _ (lo_k7_2 hL _ t_pr) _ (by omega)))) (by decide)) (tg_ne (lo_e25 hL _ (lo_k7_2 hL _ t_pr) _ (by omega)) (lo_k9_6 hL _ t_X) (by decide)) (tg_ne (lo_e25 hL _ (lo_k7_2 hL _ t_pr) _ (by omega)) (lo_k4_0 hL _ (lo_k9_6 hL _ t_X)) (by decide)) (tg_ne (lo_e25 hL _ (lo_k7_2 hL _ t_pr) _ (by omega)) (lo_k4_1 hL _ (lo_k9_6 hL _ t_X)) (by decide))).trans eN
          have eNx := (hk1_646 (g.lk (g.lk pr 2) le) (tg_ne (lo_e25 hL _ (lo_k7_2 hL _ t_pr) _ (by omega)) (lo_k6_6 hL _ (lo_e25 hL _ (lo_k7_2 hL _ t_pr) _ (by omega))) (by decide)) (tg_ne (lo_e25 hL _ (lo_k7_2 hL _ t_pr) _ (by omega)) (lo_k5_2 hL _ (lo_k6_6 hL _ (lo_e25 hL _ (lo_k7_2 hL _ t_pr) _ (by omega)))) (by decide)) (tg_ne (lo_e25 hL _ (lo_k7_2 hL _ t_pr) _ (by omega)) (lo_k9_6 hL _ t_X) (by decide)) (tg_ne (lo_e25 hL _ (lo_k7_2 hL _ t_pr) _ (by omega)) (lo_k4_0 hL _ (lo_k9_6 hL _ t_X)) (by decide)) (tg_ne (lo_e25 hL _ (lo_k7_2 hL _ t_pr) _ (by omega)) (lo_k4_1 hL _ (lo_k9_6 hL _ t_X)) (by decide))).trans eNx
          have eax := (hk1_646 (g.lk (g.lk (g.lk pr 2) le) 6) (tn_ne ((lo_n6 hL _ (lo_e25 hL _ (lo_k7_2 hL _ t_pr) _ (by omega))).trans (lo_n25 hL _ (lo_k7_2 hL _ t_pr) _ (by omega))) ((lo_n6 hL _ (lo_e25 hL _ (lo_k7_2 hL _ t_pr) _ (by omega))).trans (lo_n25 hL _ (lo_k7_2 hL _ t_pr) _ (by omega))) (by omega)) (tg_ne (lo_k6_6 hL _ (lo_e25 hL _ (lo_k7_2 hL _ t_pr) _ (by omega))) (lo_k5_2 hL _ (lo_k6_6 hL _ (lo_e25 hL _ (lo_k7_2 hL _ t_pr) _ (by omega)))) (by decide)) (tg_ne (lo_k6_6 hL _ (lo_e25 hL _ (lo_k7_2 hL _ t_pr) _ (by omega))) (lo_k9_6 hL _ t_X) (by decide)) (tg_ne (lo_k6_6 hL _ (lo_e25 hL _ (lo_k7_2 hL _ t_pr) _ (by omega))) (lo_k4_0 hL _ (lo_k9_6 hL _ t_X)) (by decide)) (tg_ne (lo_k6_6 hL _ (lo_e25 hL _ (lo_k7_2 hL _ t_pr) _ (by omega))) (lo_k4_1 hL _ (lo_k9_6 hL _ t_X)) (by decide))).trans eax
          have ebx := (hk1_646 (g.lk (g.lk (g.lk (g.lk pr 2) le) 6) 2) (tg_ne (lo_k5_2 hL _ (lo_k6_6 hL _ (lo_e25 hL _ (lo_k7_2 hL _ t_pr) _ (by omega)))) (lo_k6_6 hL _ (lo_e25 hL _ (lo_k7_2 hL _ t_pr) _ (by omega))) (by decide)) (fun q9 => (tn_ne ((lo_n6 hL _ (lo_e25 hL _ (lo_k7_2 hL _ t_pr) _ (by omega))).trans (lo_n25 hL _ (lo_k7_2 hL _ t_pr) _ (by omega))) ((lo_n6 hL _ (lo_e25 hL _ (lo_k7_2 hL _ t_pr) _ (by omega))).trans (lo_n25 hL _ (lo_k7_2 hL _ t_pr) _ (by omega))) (by omega)) (lo_inj5 hL _ _ (lo_k6_6 hL _ (lo_e25 hL _ (lo_k7_2 hL _ t_pr) _ (by omega))) (lo_k6_6 hL _ (lo_e25 hL _ (lo_k7_2 hL _ t_pr) _ (by omega))) q9)) (tg_ne (lo_k5_2 hL _ (lo_k6_6 hL _ (lo_e25 hL _ (lo_k7_2 hL _ t_pr) _ (by omega)))) (lo_k9_6 hL _ t_X) (by decide)) (tg_ne (lo_k5_2 hL _ (lo_k6_6 hL _ (lo_e25 hL _ (lo_k7_2 hL _ t_pr) _ (by omega)))) (lo_k4_0 hL _ (lo_k9_6 hL _ t_X)) (by decide)) (tg_ne (lo_k5_2 hL _ (lo_k6_6 hL _ (lo_e25 hL _ (lo_k7_2 hL _ t_pr) _ (by omega)))) (lo_k4_1 hL _ (lo_k9_6 hL _ t_X)) (by decide))).trans ebx
          have eNy := (hk1_646 (g.lk (g.lk pr 2) ri) (tg_ne (lo_e25 hL _ (lo_k7_2 hL _ t_pr) _ (by omega)) (lo_k6_6 hL _ (lo_e25 hL _ (lo_k7_2 hL _ t_pr) _ (by omega))) (by decide)) (tg_ne (lo_e25 hL _ (lo_k7_2 hL _ t_pr) _ (by omega)) (lo_k5_2 hL _ (lo_k6_6 hL _ (lo_e25 hL _ (lo_k7_2 hL _ t_pr) _ (by omega)))) (by decide)) (tg_ne (lo_e25 hL _ (lo_k7_2 hL _ t_pr) _ (by omega)) (lo_k9_6 hL _ t_X) (by decide)) (tg_ne (lo_e25 hL _ (lo_k7_2 hL _ t_pr) _ (by omega)) (lo_k4_0 hL _ (lo_k9_6 hL _ t_X)) (by decide)) (tg_ne (lo_e25 hL _ (lo_k7_2 hL _ t_pr) _ (by omega)) (lo_k4_1 hL _ (lo_k9_6 hL _ t_X)) (by decide))).trans eNy
          have eay := (hk1_646 (g.lk (g.lk (g.lk pr 2) ri) 6) (tn_ne ((lo_n6 hL _ (lo_e25 hL _ (lo_k7_2 hL _ t_pr) _ (by omega))).trans (lo_n25 hL _ (lo_k7_2 hL _ t_pr) _ (by omega))) ((lo_n6 hL _ (lo_e25 hL _ (lo_k7_2 hL _ t_pr) _ (by omega))).trans (lo_n25 hL _ (lo_k7_2 hL _ t_pr) _ (by omega))) (by omega)) (tg_ne (lo_k6_6 hL _ (lo_e25 hL _ (lo_k7_2 hL _ t_pr) _ (by omega))) (lo_k5_2 hL _ (lo_k6_6 hL _ (lo_e25 hL _ (lo_k7_2 hL _ t_pr) _ (by omega)))) (by decide)) (tg_ne (lo_k6_6 hL _ (lo_e25 hL _ (lo_k7_2 hL _ t_pr) _ (by omega))) (lo_k9_6 hL _ t_X) (by decide)) (tg_ne (lo_k6_6 hL _ (lo_e25 hL _ (lo_k7_2 hL _ t_pr) _ (by omega))) (lo_k4_0 hL _ (lo_k9_6 hL _ t_X)) (by decide)) (tg_ne (lo_k6_6 hL _ (lo_e25 hL _ (lo_k7_2 hL _ t_pr) _ (by omega))) (lo_k4_1 hL _ (lo_k9_6 hL _ t_X)) (by decide))).trans eay
          have eby := (hk1_646 (g.lk (g.lk (g.lk (g.lk pr 2) ri) 6) 2) (tg_ne (lo_k5_2 hL _ (lo_k6_6 hL _ (lo_e25 hL _ (lo_k7_2 hL _ t_pr) _ (by omega)))) (lo_k6_6 hL _ (lo_e25 hL _ (lo_k7_2 hL _ t_pr) _ (by omega))) (by decide)) (fun q9 => (tn_ne ((lo_n6 hL _ (lo_e25 hL _ (lo_k7_2 hL _ t_pr) _ (by omega))).trans (lo_n25 hL _ (lo_k7_2 hL _ t_pr) _ (by omega))) ((lo_n6 hL _ (lo_e25 hL _ (lo_k7_2 hL _ t_pr) _ (by omega))).trans (lo_n25 hL _ (lo_k7_2 hL _ t_pr) _ (by omega))) (by omega)) (lo_inj5 hL _ _ (lo_k6_6 hL _ (lo_e25 hL _ (lo_k7_2 hL _ t_pr) _ (by omega))) (lo_k6_6 hL _ (lo_e25 hL _ (lo_k7_2 hL _ t_pr) _ (by omega))) q9)) (tg_ne (lo_k5_2 hL _ (lo_k6_6 hL _ (lo_e25 hL _ (lo_k7_2 hL _ t_pr) _ (by omega)))) (lo_k9_6 hL _ t_X) (by decide)) (tg_ne (lo_k5_2 hL _ (lo_k6_6 hL _ (lo_e25 hL _ (lo_k7_2 hL _ t_pr) _ (by omega)))) (lo_k4_0 hL _ (lo_k9_6 hL _ t_X)) (by decide)) (tg_ne (lo_k5_2 hL _ (lo_k6_6 hL _ (lo_e25 hL _ (lo_k7_2 hL _ t_pr) _ (by omega)))) (lo_k4_1 hL _ (lo_k9_6 hL _ t_X)) (by decide))).trans eby
          have e618 := (hk1_646 X (tg_ne t_X (lo_k6_6 hL _ (lo_e25 hL _ (lo_k7_2 hL _ t_pr) _ (by omega))) (by decide)) (tg_ne t_X (lo_k5_2 hL _ (lo_k6_6 hL _ (lo_e25 hL _ (lo_k7_2 hL _ t_pr) _ (by omega)))) (by decide)) (tg_ne t_X (lo_k9_6 hL _ t_X) (by decide)) (tg_ne t_X (lo_k4_0 hL _ (lo_k9_6 hL _ t_X)) (by decide)) (tg_ne t_X (lo_k4_1 hL _ (lo_k9_6 hL _ t_X)) (by decide))).trans e618
          have e621 := (hk1_646 pr (tg_ne t_pr (lo_k6_6 hL _ (lo_e25 hL _ (lo_k7_2 hL _ t_pr) _ (by omega))) (by decide)) (tg_ne t_pr (lo_k5_2 hL _ (lo_k6_6 hL _ (lo_e25 hL _ (lo_k7_2 hL _ t_pr) _ (by omega)))) (by decide)) (tg_ne t_pr (lo_k9_6 hL _ t_X) (by decide)) (tg_ne t_pr (lo_k4_0 hL _ (lo_k9_6 hL _ t_X)) (by decide)) (tg_ne t_pr (lo_k4_1 hL _ (lo_k9_6 hL _ t_X)) (by decide))).trans e621
          have e626 := (hk1_646 (g.lk pr 2) (tg_ne (lo_k7_2 hL _ t_pr) (lo_k6_6 hL _ (lo_e25 hL _ (lo_k7_2 hL _ t_pr) _ (by omega))) (by decide)) (tg_ne (lo_k7_2 hL _ t_pr) (lo_k5_2 hL _ (lo_k6_6 hL _ (lo_e25 hL _ (lo_k7_2 hL _ t_pr) _ (by omega)))) (by decide)) (tg_ne (lo_k7_2 hL _ t_pr) (lo_k9_6 hL _ t_X) (by decide)) (tg_ne (lo_k7_2 hL _ t_pr) (lo_k4_0 hL _ (lo_k9_6 hL _ t_X)) (by decide)) (tg_ne (lo_k7_2 hL _ t_pr) (lo_k4_1 hL _ (lo_k9_6 hL _ t_X)) (by decide))).trans e626
          obtain ⟨sg647, nn648, dd649, e650, e651, hN652⟩ := lv_644
          have c653 : ∀ i, i < 15 → ∃ k, k < 1000000000 ∧ dd649 i = nI k := hN652.2.1
          have hnn648 : nn648 ≤ 15 := hN652.1
          refine lv_iload hx hb d_NRunner_operateLong_183 (lv_at hl 0 rfl) ?_
          refine lv_if_eq (tgt := 192) hx hb d_NRunner_operateLong_185 (by decide) (fun b654 => ?_) (fun b654 => ?_)
          · skip
            replace b654 := (nI_eq (a := 1) (b := 0) (by omega) (by omega)).mp b654
            exfalso; omega
          · skip
            replace b654 := mt (nI_eq (a := 1) (b := 0) (by omega) (by omega)).mpr b654
            refine lv_iconst (v := nI 0) hx hb d_NRunner_operateLong_188 (by decide) ?_
            refine lv_goto (tgt := 193) hx hb d_NRunner_operateLong_189 (by decide) ?_
            exact pe_iret hx hb hr hlocks hK hP hD hS d_NRunner_operateLong_193 ⟨⟨(lo + ((nI 1))), e618⟩, (congrArg nI (otr_0 (w := 5) (x := vx) (y := vy) (by decide) (Or.inr hvy9) (td_le htx).1).symm), (fun _ => ⟨_, _, _, e650, e651, hN652⟩), hI1_645, hu⟩
        · skip
          replace b637 := (nI_eq (a := 6) (b := 7) (by omega) (by omega)).mp b637
          exfalso; omega
      · skip
        have hsy8 : sgy = nI 0 := by first | exact b636 | exact Decidable.not_not.mp b636
        have hvy8 : vy = 0 := LNV_v0 hFy.1 hsy8
        refine lv_iconst (v := nI 1) hx hb d_NRunner_operateLong_154 (by decide) ?_
        exact pe_iret hx hb hr hlocks hK hP hD hS d_NRunner_operateLong_155 ⟨⟨(lo + ((nI 1))), e618⟩, (congrArg nI (otr_1 (by decide) (by decide) hvy8).symm), (fun z9 => absurd (z9.symm.trans (otr_1 (by decide) (by decide) hvy8)) (by decide)), hI627, hu⟩
    · skip
      obtain ⟨kx1, kx2, kx3, mx, eNx, hsx, hlx, htx⟩ := hVx
      obtain ⟨sgx, nx, dx, eax, ebx, hNx⟩ := hlx rfl
      have hFx : LNF sgx nx dx vx := ⟨hNx, htx⟩
      have cbx : ∀ i, i < 15 → ∃ k, k < 1000000000 ∧ dx i = nI k := hNx.2.1
      have hnx : nx ≤ 15 := hNx.1
      obtain ⟨ky1, ky2, ky3, my, eNy, hsy, hly, hty⟩ := hVy
      refine lv_aload_n hx hb d_NRunner_operateLong_0 rfl (lv_at hl 0 rfl) ?_
      refine lv_dup hx hb d_NRunner_operateLong_1 rfl ?_
      refine pf_get (v := .int lo) (C := "BigRunner$Runner") (T := FT8) (N := 13) hx hb (hw8 hB _) (fun _ h9 => h9) hown hK hP (lo_in hL t_X (by decide)) eX rfl 11 (by decide) (wd_347 hB _) rfl d_NRunner_operateLong_2 ?_
      refine lv_iconst (v := nI 1) hx hb d_NRunner_operateLong_5 (by decide) ?_
      refine lv_iadd hx hb d_NRunner_operateLong_6 ?_
      refine pf_put (v := .int (lo + ((nI 1)))) (ty := .int) (fs' := [.ref pr, .ref (g.lk X 1), .int (nI ix), .ref (g.lk X 3), .ref (g.lk X 4), .ref (g.lk X 5), .ref (g.lk X 6), .ref (g.lk X 7), .int (nI os), .int (nI st), .int mo, .int (lo + ((nI 1))), .int (nI tr)]) (C := "BigRunner$Runner") (T := FT8) (N := 13) hx hb (hw8 hB _) (fun _ h9 => h9) TY8 ok8 nm8 hown hK hP hD hS (lo_in hL t_X (by decide)) eX rfl 11 (by decide) (wd_347 hB _) rfl (by decide +kernel) rfl rfl (Nat.le_of_ble_eq_true rfl) rfl d_NRunner_operateLong_7 (fun f655 H locs e656 k657 hP hD hS => ?_)
      have eN := (k657 (g.lk (g.lk pr 2) n) (tg_ne (lo_e25 hL _ (lo_k7_2 hL _ t_pr) _ (by omega)) t_X (by decide))).trans eN
      have eNx := (k657 (g.lk (g.lk pr 2) le) (tg_ne (lo_e25 hL _ (lo_k7_2 hL _ t_pr) _ (by omega)) t_X (by decide))).trans eNx
      have eax := (k657 (g.lk (g.lk (g.lk pr 2) le) 6) (tg_ne (lo_k6_6 hL _ (lo_e25 hL _ (lo_k7_2 hL _ t_pr) _ (by omega))) t_X (by decide))).trans eax
      have ebx := (k657 (g.lk (g.lk (g.lk (g.lk pr 2) le) 6) 2) (tg_ne (lo_k5_2 hL _ (lo_k6_6 hL _ (lo_e25 hL _ (lo_k7_2 hL _ t_pr) _ (by omega)))) t_X (by decide))).trans ebx
      have eNy := (k657 (g.lk (g.lk pr 2) ri) (tg_ne (lo_e25 hL _ (lo_k7_2 hL _ t_pr) _ (by omega)) t_X (by decide))).trans eNy
      have hu : ∀ b, b ≠ X → b ≠ (g.lk (g.lk (g.lk pr 2) n) 6) → b ≠ (g.lk (g.lk (g.lk (g.lk pr 2) n) 6) 2) → b ≠ (g.lk (g.lk (g.lk pr 2) le) 6) → b ≠ (g.lk (g.lk (g.lk (g.lk pr 2) le) 6) 2) → b ≠ (g.lk (g.lk (g.lk pr 2) ri) 6) → b ≠ (g.lk (g.lk (g.lk (g.lk pr 2) ri) 6) 2) → b ≠ (g.lk X 6) → b ≠ (g.lk (g.lk X 6) 0) → b ≠ (g.lk (g.lk X 6) 1) → f655 b = f b := fun b q0 q1 q2 q3 q4 q5 q6 q7 q8 q9 => (k657 b q0).trans (hu b q0 q1 q2 q3 q4 q5 q6 q7 q8 q9)
      have hk658 : ∀ b, b ≠ X → f655 b = f b := k657
      refine lv_aload_n hx hb d_NRunner_operateLong_10 rfl (lv_at hl 0 rfl) ?_
      refine pf_get (v := .ref pr) (C := "BigRunner$Runner") (T := FT8) (N := 13) hx hb (hw8 hB _) (fun _ h9 => h9) hown hK hP (lo_in hL t_X (by decide)) e656 rfl 0 (by decide) (wd_330 hB _) rfl d_NRunner_operateLong_11 ?_
      obtain ⟨sc_660, nc_661, e659, c662, c663⟩ := oc_7.of t_pr (hI.1 pr)
      replace e659 := (hk658 pr (tg_ne t_pr t_X (by decide))).trans e659
      refine pf_get (v := .ref (g.lk pr 2)) (C := "BigRunner$Program") (T := FT6) (N := 6) hx hb (hw6 hB _) (fun _ h9 => h9) hown hK hP (lo_in hL t_pr (by decide)) e659 rfl 2 (by decide) (wd_249 hB _) rfl d_NRunner_operateLong_14 ?_
      refine lv_aload_n hx hb d_NRunner_operateLong_17 rfl (lv_at hl 1 rfl) ?_
      refine pf_get (v := .int (nI le)) (C := "BigRunner$Node") (T := FT5) (N := 7) hx hb (hw5 hB _) (fun _ h9 => h9) hown hK hP (lo_in hL (lo_e25 hL _ (lo_k7_2 hL _ t_pr) _ (by omega)) (by decide)) eN rfl 1 (by decide) (wd_208 hB _) rfl d_NRunner_operateLong_18 ?_
      have e664 := oc_25.of (lo_k7_2 hL _ t_pr) (hI.1 (g.lk pr 2))
      replace e664 := (hk658 (g.lk pr 2) (tg_ne (lo_k7_2 hL _ t_pr) t_X (by decide))).trans e664
      refine pf_aald (i := le) hx hb hK hP (lo_in hL (lo_k7_2 hL _ t_pr) (by decide)) e664 (lo_t25 hL _ (lo_k7_2 hL _ t_pr)) (by omega) (by decide) d_NRunner_operateLong_21 ?_
      have hI665 := iv_1 hI hL t_X (by decide) hk658 (oc_9.mk t_X (⟨pr, ix, os, st, mo, ((lo + ((nI 1)))), tr, e656, t_pr, (by omega), (by omega), (by omega), (by omega)⟩))
      refine pcc_r (va_runV (C := "BigRunner$Node") (As := []) (rest := []) ⟨hx, hb, hml, hown, tb_nil⟩ (v_widenedL l g H.size f655 ((g.lk (g.lk pr 2) le)) kx1 kx2 kx3 mx hL (lo_e25 hL _ (lo_k7_2 hL _ t_pr) _ (by omega)) hI665.1 eNx) ⟨(callB_of 0 (tb_one (wd_761 hB _)) tb_good1 rfl rfl rfl (wd_77 hB _) (wd_758 hB _) (by decide +kernel) ⟨Nat.le_of_ble_eq_true rfl, Nat.le_of_ble_eq_true rfl⟩), (wd_759 hB _), (wd_760 hB _)⟩ ⟨pe_bl, pg_recv (ci := 5) hK hP (lo_in hL (lo_e25 hL _ (lo_k7_2 hL _ t_pr) _ (by omega)) (by decide)) eNx rfl, pe_pre hB hK hP hD⟩ rfl rfl hl.1 rfl (lv_room (Nat.le_of_ble_eq_true rfl)) d_NRunner_operateLong_22 ⟨Nat.le_of_ble_eq_true rfl, Nat.le_of_ble_eq_true rfl⟩) hS (fun r666 f667 H locs hq668 hP hD hS => ?_)
      obtain ⟨ra_669, rfl⟩ := hq668
      subst ra_669
      refine lv_astore_n (lv' := [(2, .ref (g.lk (g.lk (g.lk pr 2) le) 6)), (0, .ref X), (1, .ref (g.lk (g.lk pr 2) n))]) hx hb d_NRunner_operateLong_25 rfl hl (by decide) rfl (fun ls hl => ?_)
      refine lv_aload_n hx hb d_NRunner_operateLong_26 rfl (lv_at hl 1 rfl) ?_
      refine pf_get (v := .ref pr) (C := "BigRunner$Runner") (T := FT8) (N := 13) hx hb (hw8 hB _) (fun _ h9 => h9) hown hK hP (lo_in hL t_X (by decide)) e656 rfl 0 (by decide) (wd_330 hB _) rfl d_NRunner_operateLong_27 ?_
      refine pf_get (v := .ref (g.lk pr 2)) (C := "BigRunner$Program") (T := FT6) (N := 6) hx hb (hw6 hB _) (fun _ h9 => h9) hown hK hP (lo_in hL t_pr (by decide)) e659 rfl 2 (by decide) (wd_249 hB _) rfl d_NRunner_operateLong_30 ?_
      refine lv_aload_n hx hb d_NRunner_operateLong_33 rfl (lv_at hl 2 rfl) ?_
      refine pf_get (v := .int (nI ri)) (C := "BigRunner$Node") (T := FT5) (N := 7) hx hb (hw5 hB _) (fun _ h9 => h9) hown hK hP (lo_in hL (lo_e25 hL _ (lo_k7_2 hL _ t_pr) _ (by omega)) (by decide)) eN rfl 2 (by decide) (wd_212 hB _) rfl d_NRunner_operateLong_34 ?_
      refine pf_aald (i := ri) hx hb hK hP (lo_in hL (lo_k7_2 hL _ t_pr) (by decide)) e664 (lo_t25 hL _ (lo_k7_2 hL _ t_pr)) (by omega) (by decide) d_NRunner_operateLong_37 ?_
      refine pcc_r (va_runV (C := "BigRunner$Node") (As := []) (rest := []) ⟨hx, hb, hml, hown, tb_nil⟩ (v_widenedS l g H.size f655 ((g.lk (g.lk pr 2) ri)) ky1 ky2 ky3 my hL (lo_e25 hL _ (lo_k7_2 hL _ t_pr) _ (by omega)) hI665 eNy (by rw [(hsy rfl).1]; exact (hsy rfl).2)) ⟨(callB_of 0 (tb_one (wd_761 hB _)) tb_good1 rfl rfl rfl (wd_77 hB _) (wd_758 hB _) (by decide +kernel) ⟨Nat.le_of_ble_eq_true rfl, Nat.le_of_ble_eq_true rfl⟩), (wd_759 hB _), (wd_760 hB _)⟩ ⟨pe_bl, pg_recv (ci := 5) hK hP (lo_in hL (lo_e25 hL _ (lo_k7_2 hL _ t_pr) _ (by omega)) (by decide)) eNy rfl, pe_pre hB hK hP hD⟩ rfl rfl hl.1 rfl (lv_room (Nat.le_of_ble_eq_true rfl)) d_NRunner_operateLong_38 ⟨Nat.le_of_ble_eq_true rfl, Nat.le_of_ble_eq_true rfl⟩) hS (fun r670 f671 H locs hq672 hP hD hS => ?_)
      obtain ⟨ra_673, lv_674, hI1_675, hk1_676⟩ := hq672
      subst ra_673
      have hu : ∀ b, b ≠ X → b ≠ (g.lk (g.lk (g.lk pr 2) n) 6) → b ≠ (g.lk (g.lk (g.lk (g.lk pr 2) n) 6) 2) → b ≠ (g.lk (g.lk (g.lk pr 2) le) 6) → b ≠ (g.lk (g.lk (g.lk (g.lk pr 2) le) 6) 2) → b ≠ (g.lk (g.lk (g.lk pr 2) ri) 6) → b ≠ (g.lk (g.lk (g.lk (g.lk pr 2) ri) 6) 2) → b ≠ (g.lk X 6) → b ≠ (g.lk (g.lk X 6) 0) → b ≠ (g.lk (g.lk X 6) 1) → f671 b = f b := fun b q0 q1 q2 q3 q4 q5 q6 q7 q8 q9 => (hk1_676 b q5 q6).trans (hu b q0 q1 q2 q3 q4 q5 q6 q7 q8 q9)
      have eN := (hk1_676 (g.lk (g.lk pr 2) n) (tg_ne (lo_e25 hL _ (lo_k7_2 hL _ t_pr) _ (by omega)) (lo_k6_6 hL _ (lo_e25 hL _ (lo_k7_2 hL _ t_pr) _ (by omega))) (by decide)) (tg_ne (lo_e25 hL _ (lo_k7_2 hL _ t_pr) _ (by omega)) (lo_k5_2 hL _ (lo_k6_6 hL _ (lo_e25 hL _ (lo_k7_2 hL _ t_pr) _ (by omega)))) (by decide))).trans eN
      have eNx := (hk1_676 (g.lk (g.lk pr 2) le) (tg_ne (lo_e25 hL _ (lo_k7_2 hL _ t_pr) _ (by omega)) (lo_k6_6 hL _ (lo_e25 hL _ (lo_k7_2 hL _ t_pr) _ (by omega))) (by decide)) (tg_ne (lo_e25 hL _ (lo_k7_2 hL _ t_pr) _ (by omega)) (lo_k5_2 hL _ (lo_k6_6 hL _ (lo_e25 hL _ (lo_k7_2 hL _ t_pr) _ (by omega)))) (by decide))).trans eNx
      have eax := (hk1_676 (g.lk (g.lk (g.lk pr 2) le) 6) (tn_ne ((lo_n6 hL _ (lo_e25 hL _ (lo_k7_2 hL _ t_pr) _ (by omega))).trans (lo_n25 hL _ (lo_k7_2 hL _ t_pr) _ (by omega))) ((lo_n6 hL _ (lo_e25 hL _ (lo_k7_2 hL _ t_pr) _ (by omega))).trans (lo_n25 hL _ (lo_k7_2 hL _ t_pr) _ (by omega))) (by omega)) (tg_ne (lo_k6_6 hL _ (lo_e25 hL _ (lo_k7_2 hL _ t_pr) _ (by omega))) (lo_k5_2 hL _ (lo_k6_6 hL _ (lo_e25 hL _ (lo_k7_2 hL _ t_pr) _ (by omega)))) (by decide))).trans eax
      have ebx := (hk1_676 (g.lk (g.lk (g.lk (g.lk pr 2) le) 6) 2) (tg_ne (lo_k5_2 hL _ (lo_k6_6 hL _ (lo_e25 hL _ (lo_k7_2 hL _ t_pr) _ (by omega)))) (lo_k6_6 hL _ (lo_e25 hL _ (lo_k7_2 hL _ t_pr) _ (by omega))) (by decide)) (fun q9 => (tn_ne ((lo_n6 hL _ (lo_e25 hL _ (lo_k7_2 hL _ t_pr) _ (by omega))).trans (lo_n25 hL _ (lo_k7_2 hL _ t_pr) _ (by omega))) ((lo_n6 hL _ (lo_e25 hL _ (lo_k7_2 hL _ t_pr) _ (by omega))).trans (lo_n25 hL _ (lo_k7_2 hL _ t_pr) _ (by omega))) (by omega)) (lo_inj5 hL _ _ (lo_k6_6 hL _ (lo_e25 hL _ (lo_k7_2 hL _ t_pr) _ (by omega))) (lo_k6_6 hL _ (lo_e25 hL _ (lo_k7_2 hL _ t_pr) _ (by omega))) q9))).trans ebx
      have eNy := (hk1_676 (g.lk (g.lk pr 2) ri) (tg_ne (lo_e25 hL _ (lo_k7_2 hL _ t_pr) _ (by omega)) (lo_k6_6 hL _ (lo_e25 hL _ (lo_k7_2 hL _ t_pr) _ (by omega))) (by decide)) (tg_ne (lo_e25 hL _ (lo_k7_2 hL _ t_pr) _ (by omega)) (lo_k5_2 hL _ (lo_k6_6 hL _ (lo_e25 hL _ (lo_k7_2 hL _ t_pr) _ (by omega)))) (by decide))).trans eNy
      have e656 := (hk1_676 X (tg_ne t_X (lo_k6_6 hL _ (lo_e25 hL _ (lo_k7_2 hL _ t_pr) _ (by omega))) (by decide)) (tg_ne t_X (lo_k5_2 hL _ (lo_k6_6 hL _ (lo_e25 hL _ (lo_k7_2 hL _ t_pr) _ (by omega)))) (by decide))).trans e656
      have e659 := (hk1_676 pr (tg_ne t_pr (lo_k6_6 hL _ (lo_e25 hL _ (lo_k7_2 hL _ t_pr) _ (by omega))) (by decide)) (tg_ne t_pr (lo_k5_2 hL _ (lo_k6_6 hL _ (lo_e25 hL _ (lo_k7_2 hL _ t_pr) _ (by omega)))) (by decide))).trans e659
      have e664 := (hk1_676 (g.lk pr 2) (tg_ne (lo_k7_2 hL _ t_pr) (lo_k6_6 hL _ (lo_e25 hL _ (lo_k7_2 hL _ t_pr) _ (by omega))) (by decide)) (tg_ne (lo_k7_2 hL _ t_pr) (lo_k5_2 hL _ (lo_k6_6 hL _ (lo_e25 hL _ (lo_k7_2 hL _ t_pr) _ (by omega)))) (by decide))).trans e664
      obtain ⟨sg677, nn678, dd679, e680, e681, hN682⟩ := lv_674
      have c683 : ∀ i, i < 15 → ∃ k, k < 1000000000 ∧ dd679 i = nI k := hN682.2.1
      have hnn678 : nn678 ≤ 15 := hN682.1
      refine lv_astore_n (lv' := [(3, .ref (g.lk (g.lk (g.lk pr 2) ri) 6)), (2, .ref (g.lk (g.lk (g.lk pr 2) le) 6)), (0, .ref X), (1, .ref (g.lk (g.lk pr 2) n))]) hx hb d_NRunner_operateLong_41 rfl hl (by decide) rfl (fun ls hl => ?_)
      have hFy : LNF sg677 nn678 dd679 vy := ⟨LNV_cast hN682 (hsy rfl).1, hty⟩
      refine lv_iconst (v := nI 1) hx hb d_NRunner_operateLong_42 (by decide) ?_
      refine lv_istore (lv' := [(4, .int (nI 1)), (3, .ref (g.lk (g.lk (g.lk pr 2) ri) 6)), (2, .ref (g.lk (g.lk (g.lk pr 2) le) 6)), (0, .ref X), (1, .ref (g.lk (g.lk pr 2) n))]) hx hb d_NRunner_operateLong_43 hl (by decide) rfl (fun ls hl => ?_)
      refine lv_aload_n hx hb d_NRunner_operateLong_45 rfl (lv_at hl 4 rfl) ?_
      refine pf_get (v := .int (nI 6)) (C := "BigRunner$Node") (T := FT5) (N := 7) hx hb (hw5 hB _) (fun _ h9 => h9) hown hK hP (lo_in hL (lo_e25 hL _ (lo_k7_2 hL _ t_pr) _ (by omega)) (by decide)) eN rfl 0 (by decide) (wd_204 hB _) rfl d_NRunner_operateLong_46 ?_
      refine lv_tableOut (tgt := 147) hx hb d_NRunner_operateLong_49 (by rw [nI_toInt (by omega)]; omega) (by decide) ?_
      refine lv_aload_n hx hb d_NRunner_operateLong_147 rfl (lv_at hl 1 rfl) ?_
      refine pf_get (v := .int sg677) (C := "BigRunner$LongNumber") (T := FT4) (N := 3) hx hb (hw4 hB _) (fun _ h9 => h9) hown hK hP (lo_in hL (lo_k6_6 hL _ (lo_e25 hL _ (lo_k7_2 hL _ t_pr) _ (by omega))) (by decide)) e680 rfl 0 (by decide) (wd_189 hB _) rfl d_NRunner_operateLong_148 ?_
      refine lv_if_ne (tgt := 156) hx hb d_NRunner_operateLong_151 (by decide) (fun b684 => ?_) (fun b684 => ?_)
      · skip
        have hsy9 : ¬ sg677 = nI 0 := b684
        have hvy9 : vy ≠ 0 := fun z9 => hsy9 ((LNV_0s hFy.1).mpr (LNV_z hFy.1 z9))
        refine lv_aload_n hx hb d_NRunner_operateLong_156 rfl (lv_at hl 3 rfl) ?_
        refine pf_get (v := .ref (g.lk X 6)) (C := "BigRunner$Runner") (T := FT8) (N := 13) hx hb (hw8 hB _) (fun _ h9 => h9) hown hK hP (lo_in hL t_X (by decide)) e656 rfl 6 (by decide) (wd_338 hB _) rfl d_NRunner_operateLong_157 ?_
        refine lv_aload_n hx hb d_NRunner_operateLong_160 rfl (lv_at hl 2 rfl) ?_
        refine lv_aload_n hx hb d_NRunner_operateLong_161 rfl (lv_at hl 1 rfl) ?_
        refine lv_aload_n hx hb d_NRunner_operateLong_162 rfl (lv_at hl 4 rfl) ?_
        refine pf_get (v := .ref (g.lk (g.lk (g.lk pr 2) n) 6)) (C := "BigRunner$Node") (T := FT5) (N := 7) hx hb (hw5 hB _) (fun _ h9 => h9) hown hK hP (lo_in hL (lo_e25 hL _ (lo_k7_2 hL _ t_pr) _ (by omega)) (by decide)) eN rfl 6 (by decide) (wd_224 hB _) rfl d_NRunner_operateLong_163 ?_
        refine lv_aload_n hx hb d_NRunner_operateLong_166 rfl (lv_at hl 4 rfl) ?_
        refine pf_get (v := .int (nI 6)) (C := "BigRunner$Node") (T := FT5) (N := 7) hx hb (hw5 hB _) (fun _ h9 => h9) hown hK hP (lo_in hL (lo_e25 hL _ (lo_k7_2 hL _ t_pr) _ (by omega)) (by decide)) eN rfl 0 (by decide) (wd_204 hB _) rfl d_NRunner_operateLong_167 ?_
        refine lv_bipush (v := nI 7) hx hb d_NRunner_operateLong_170 (by decide) ?_
        refine lv_icmp_ne (tgt := 179) hx hb d_NRunner_operateLong_172 (by decide) (fun b685 => ?_) (fun b685 => ?_)
        · skip
          replace b685 := mt (nI_eq (a := 6) (b := 7) (by omega) (by omega)).mpr b685
          refine lv_iconst (v := nI 0) hx hb d_NRunner_operateLong_179 (by decide) ?_
          obtain ⟨n_687, e686, c688⟩ := oc_4.of (lo_k9_6 hL _ t_X) (hI1_675.1 (g.lk X 6))
          refine pcc_v (va_runV (C := "BigRunner$LongDivision") (As := [.ref (g.lk (g.lk (g.lk pr 2) le) 6), .ref (g.lk (g.lk (g.lk pr 2) ri) 6), .ref (g.lk (g.lk (g.lk pr 2) n) 6), .int (nI 0)]) (rest := []) ⟨hx, hb, hml, hown, tb_nil⟩ (v_divide0 l g H.size f671 ((g.lk X 6)) ((g.lk (g.lk (g.lk pr 2) le) 6)) sgx nx dx vx ((g.lk (g.lk (g.lk pr 2) ri) 6)) sg677 nn678 dd679 vy ((g.lk (g.lk (g.lk pr 2) n) 6)) hL (lo_k9_6 hL _ t_X) (lo_k6_6 hL _ (lo_e25 hL _ (lo_k7_2 hL _ t_pr) _ (by omega))) (lo_k6_6 hL _ (lo_e25 hL _ (lo_k7_2 hL _ t_pr) _ (by omega))) (lo_k6_6 hL _ (lo_e25 hL _ (lo_k7_2 hL _ t_pr) _ (by omega))) hI1_675 eax ebx hFx e680 e681 hFy (tn_ne ((lo_n6 hL _ (lo_e25 hL _ (lo_k7_2 hL _ t_pr) _ (by omega))).trans (lo_n25 hL _ (lo_k7_2 hL _ t_pr) _ (by omega))) ((lo_n6 hL _ (lo_e25 hL _ (lo_k7_2 hL _ t_pr) _ (by omega))).trans (lo_n25 hL _ (lo_k7_2 hL _ t_pr) _ (by omega))) (by omega)) (tn_ne ((lo_n6 hL _ (lo_e25 hL _ (lo_k7_2 hL _ t_pr) _ (by omega))).trans (lo_n25 hL _ (lo_k7_2 hL _ t_pr) _ (by omega))) ((lo_n6 hL _ (lo_e25 hL _ (lo_k7_2 hL _ t_pr) _ (by omega))).trans (lo_n25 hL _ (lo_k7_2 hL _ t_pr) _ (by omega))) (by omega)) (Nat.pos_of_ne_zero (fun z9 => hsy9 ((LNV_0s hFy.1).mpr z9)))) ⟨(callB_of 4 (tb_one (wd_806 hB _)) tb_good1 rfl rfl rfl (wd_81 hB _) (wd_803 hB _) (by decide +kernel) ⟨Nat.le_of_ble_eq_true rfl, Nat.le_of_ble_eq_true rfl⟩), (wd_804 hB _), (wd_805 hB _)⟩ ⟨pe_bl, pg_recv (ci := 3) hK hP (lo_in hL (lo_k9_6 hL _ t_X) (by decide)) e686 rfl, pe_pre hB hK hP hD⟩ rfl rfl hl.1 rfl (lv_room (Nat.le_of_ble_eq_true rfl)) d_NRunner_operateLong_180 ⟨Nat.le_of_ble_eq_true rfl, Nat.le_of_ble_eq_true rfl⟩) hS (fun f690 H locs hq691 hP hD hS => ?_)
          obtain ⟨lv_692, hI1_693, hk1_694⟩ := hq691
          have hu : ∀ b, b ≠ X → b ≠ (g.lk (g.lk (g.lk pr 2) n) 6) → b ≠ (g.lk (g.lk (g.lk (g.lk pr 2) n) 6) 2) → b ≠ (g.lk (g.lk (g.lk pr 2) le) 6) → b ≠ (g.lk (g.lk (g.lk (g.lk pr 2) le) 6) 2) → b ≠ (g.lk (g.lk (g.lk pr 2) ri) 6) → b ≠ (g.lk (g.lk (g.lk (g.lk pr 2) ri) 6) 2) → b ≠ (g.lk X 6) → b ≠ (g.lk (g.lk X 6) 0) → b ≠ (g.lk (g.lk X 6) 1) → f690 b = f b := fun b q0 q1 q2 q3 q4 q5 q6 q7 q8 q9 => (hk1_694 b q1 q2 q7 q8 q9).trans (hu b q0 q1 q2 q3 q4 q5 q6 q7 q8 q9)
          have eN := (hk1_694 (g.lk (g.lk pr 2) n) (tg_ne (lo_e25 hL _ (lo_k7_2 hL _ t_pr) _ (by omega)) (lo_k6_6 hL _ (lo_e25 hL _ (lo_k7_2 hL _ t_pr) _ (by omega))) (by decide)) (tg_ne (lo_e25 hL _ (lo_k7_2 hL _ t_pr) _ (by omega)) (lo_k5_2 hL _ (lo_k6_6 hL _ (lo_e25 hL _ (lo_k7_2 hL _ t_pr) _ (by omega)))) (by decide)) (tg_ne (lo_e25 hL _ (lo_k7_2 hL _ t_pr) _ (by omega)) (lo_k9_6 hL _ t_X) (by decide)) (tg_ne (lo_e25 hL _ (lo_k7_2 hL _ t_pr) _ (by omega)) (lo_k4_0 hL _ (lo_k9_6 hL _ t_X)) (by decide)) (tg_ne (lo_e25 hL _ (lo_k7_2 hL _ t_pr) _ (by omega)) (lo_k4_1 hL _ (lo_k9_6 hL _ t_X)) (by decide))).trans eN
          have eNx := (hk1_694 (g.lk (g.lk pr 2) le) (tg_ne (lo_e25 hL _ (lo_k7_2 hL _ t_pr) _ (by omega)) (lo_k6_6 hL _ (lo_e25 hL _ (lo_k7_2 hL _ t_pr) _ (by omega))) (by decide)) (tg_ne (lo_e25 hL _ (lo_k7_2 hL _ t_pr) _ (by omega)) (lo_k5_2 hL _ (lo_k6_6 hL _ (lo_e25 hL _ (lo_k7_2 hL _ t_pr) _ (by omega)))) (by decide)) (tg_ne (lo_e25 hL _ (lo_k7_2 hL _ t_pr) _ (by omega)) (lo_k9_6 hL _ t_X) (by decide)) (tg_ne (lo_e25 hL _ (lo_k7_2 hL _ t_pr) _ (by omega)) (lo_k4_0 hL _ (lo_k9_6 hL _ t_X)) (by decide)) (tg_ne (lo_e25 hL _ (lo_k7_2 hL _ t_pr) _ (by omega)) (lo_k4_1 hL _ (lo_k9_6 hL _ t_X)) (by decide))).trans eNx
          have eax := (hk1_694 (g.lk (g.lk (g.lk pr 2) le) 6) (tn_ne ((lo_n6 hL _ (lo_e25 hL _ (lo_k7_2 hL _ t_pr) _ (by omega))).trans (lo_n25 hL _ (lo_k7_2 hL _ t_pr) _ (by omega))) ((lo_n6 hL _ (lo_e25 hL _ (lo_k7_2 hL _ t_pr) _ (by omega))).trans (lo_n25 hL _ (lo_k7_2 hL _ t_pr) _ (by omega))) (by omega)) (tg_ne (lo_k6_6 hL _ (lo_e25 hL _ (lo_k7_2 hL _ t_pr) _ (by omega))) (lo_k5_2 hL _ (lo_k6_6 hL _ (lo_e25 hL _ (lo_k7_2 hL _ t_pr) _ (by omega)))) (by decide)) (tg_ne (lo_k6_6 hL _ (lo_e25 hL _ (lo_k7_2 hL _ t_pr) _ (by omega))) (lo_k9_6 hL _ t_X) (by decide)) (tg_ne (lo_k6_6 hL _ (lo_e25 hL _ (lo_k7_2 hL _ t_pr) _ (by omega))) (lo_k4_0 hL _ (lo_k9_6 hL _ t_X)) (by decide)) (tg_ne (lo_k6_6 hL _ (lo_e25 hL _ (lo_k7_2 hL _ t_pr) _ (by omega))) (lo_k4_1 hL _ (lo_k9_6 hL _ t_X)) (by decide))).trans eax
          have ebx := (hk1_694 (g.lk (g.lk (g.lk (g.lk pr 2) le) 6) 2) (tg_ne (lo_k5_2 hL _ (lo_k6_6 hL _ (lo_e25 hL _ (lo_k7_2 hL _ t_pr) _ (by omega)))) (lo_k6_6 hL _ (lo_e25 hL _ (lo_k7_2 hL _ t_pr) _ (by omega))) (by decide)) (fun q9 => (tn_ne ((lo_n6 hL _ (lo_e25 hL _ (lo_k7_2 hL _ t_pr) _ (by omega))).trans (lo_n25 hL _ (lo_k7_2 hL _ t_pr) _ (by omega))) ((lo_n6 hL _ (lo_e25 hL _ (lo_k7_2 hL _ t_pr) _ (by omega))).trans (lo_n25 hL _ (lo_k7_2 hL _ t_pr) _ (by omega))) (by omega)) (lo_inj5 hL _ _ (lo_k6_6 hL _ (lo_e25 hL _ (lo_k7_2 hL _ t_pr) _ (by omega))) (lo_k6_6 hL _ (lo_e25 hL _ (lo_k7_2 hL _ t_pr) _ (by omega))) q9)) (tg_ne (lo_k5_2 hL _ (lo_k6_6 hL _ (lo_e25 hL _ (lo_k7_2 hL _ t_pr) _ (by omega)))) (lo_k9_6 hL _ t_X) (by decide)) (tg_ne (lo_k5_2 hL _ (lo_k6_6 hL _ (lo_e25 hL _ (lo_k7_2 hL _ t_pr) _ (by omega)))) (lo_k4_0 hL _ (lo_k9_6 hL _ t_X)) (by decide)) (tg_ne (lo_k5_2 hL _ (lo_k6_6 hL _ (lo_e25 hL _ (lo_k7_2 hL _ t_pr) _ (by omega)))) (lo_k4_1 hL _ (lo_k9_6 hL _ t_X)) (by decide))).trans ebx
          have eNy := (hk1_694 (g.lk (g.lk pr 2) ri) (tg_ne (lo_e25 hL _ (lo_k7_2 hL _ t_pr) _ (by omega)) (lo_k6_6 hL _ (lo_e25 hL _ (lo_k7_2 hL _ t_pr) _ (by omega))) (by decide)) (tg_ne (lo_e25 hL _ (lo_k7_2 hL _ t_pr) _ (by omega)) (lo_k5_2 hL _ (lo_k6_6 hL _ (lo_e25 hL _ (lo_k7_2 hL _ t_pr) _ (by omega)))) (by decide)) (tg_ne (lo_e25 hL _ (lo_k7_2 hL _ t_pr) _ (by omega)) (lo_k9_6 hL _ t_X) (by decide)) (tg_ne (lo_e25 hL _ (lo_k7_2 hL _ t_pr) _ (by omega)) (lo_k4_0 hL _ (lo_k9_6 hL _ t_X)) (by decide)) (tg_ne (lo_e25 hL _ (lo_k7_2 hL _ t_pr) _ (by omega)) (lo_k4_1 hL _ (lo_k9_6 hL _ t_X)) (by decide))).trans eNy
          have e656 := (hk1_694 X (tg_ne t_X (lo_k6_6 hL _ (lo_e25 hL _ (lo_k7_2 hL _ t_pr) _ (by omega))) (by decide)) (tg_ne t_X (lo_k5_2 hL _ (lo_k6_6 hL _ (lo_e25 hL _ (lo_k7_2 hL _ t_pr) _ (by omega)))) (by decide)) (tg_ne t_X (lo_k9_6 hL _ t_X) (by decide)) (tg_ne t_X (lo_k4_0 hL _ (lo_k9_6 hL _ t_X)) (by decide)) (tg_ne t_X (lo_k4_1 hL _ (lo_k9_6 hL _ t_X)) (by decide))).trans e656
          have e659 := (hk1_694 pr (tg_ne t_pr (lo_k6_6 hL _ (lo_e25 hL _ (lo_k7_2 hL _ t_pr) _ (by omega))) (by decide)) (tg_ne t_pr (lo_k5_2 hL _ (lo_k6_6 hL _ (lo_e25 hL _ (lo_k7_2 hL _ t_pr) _ (by omega)))) (by decide)) (tg_ne t_pr (lo_k9_6 hL _ t_X) (by decide)) (tg_ne t_pr (lo_k4_0 hL _ (lo_k9_6 hL _ t_X)) (by decide)) (tg_ne t_pr (lo_k4_1 hL _ (lo_k9_6 hL _ t_X)) (by decide))).trans e659
          have e664 := (hk1_694 (g.lk pr 2) (tg_ne (lo_k7_2 hL _ t_pr) (lo_k6_6 hL _ (lo_e25 hL _ (lo_k7_2 hL _ t_pr) _ (by omega))) (by decide)) (tg_ne (lo_k7_2 hL _ t_pr) (lo_k5_2 hL _ (lo_k6_6 hL _ (lo_e25 hL _ (lo_k7_2 hL _ t_pr) _ (by omega)))) (by decide)) (tg_ne (lo_k7_2 hL _ t_pr) (lo_k9_6 hL _ t_X) (by decide)) (tg_ne (lo_k7_2 hL _ t_pr) (lo_k4_0 hL _ (lo_k9_6 hL _ t_X)) (by decide)) (tg_ne (lo_k7_2 hL _ t_pr) (lo_k4_1 hL _ (lo_k9_6 hL _ t_X)) (by decide))).trans e664
          have e680 := (hk1_694 (g.lk (g.lk (g.lk pr 2) ri) 6) (tn_ne ((lo_n6 hL _ (lo_e25 hL _ (lo_k7_2 hL _ t_pr) _ (by omega))).trans (lo_n25 hL _ (lo_k7_2 hL _ t_pr) _ (by omega))) ((lo_n6 hL _ (lo_e25 hL _ (lo_k7_2 hL _ t_pr) _ (by omega))).trans (lo_n25 hL _ (lo_k7_2 hL _ t_pr) _ (by omega))) (by omega)) (tg_ne (lo_k6_6 hL _ (lo_e25 hL _ (lo_k7_2 hL _ t_pr) _ (by omega))) (lo_k5_2 hL _ (lo_k6_6 hL _ (lo_e25 hL _ (lo_k7_2 hL _ t_pr) _ (by omega)))) (by decide)) (tg_ne (lo_k6_6 hL _ (lo_e25 hL _ (lo_k7_2 hL _ t_pr) _ (by omega))) (lo_k9_6 hL _ t_X) (by decide)) (tg_ne (lo_k6_6 hL _ (lo_e25 hL _ (lo_k7_2 hL _ t_pr) _ (by omega))) (lo_k4_0 hL _ (lo_k9_6 hL _ t_X)) (by decide)) (tg_ne (lo_k6_6 hL _ (lo_e25 hL _ (lo_k7_2 hL _ t_pr) _ (by omega))) (lo_k4_1 hL _ (lo_k9_6 hL _ t_X)) (by decide))).trans e680
          have e681 := (hk1_694 (g.lk (g.lk (g.lk (g.lk pr 2) ri) 6) 2) (tg_ne (lo_k5_2 hL _ (lo_k6_6 hL _ (lo_e25 hL _ (lo_k7_2 hL _ t_pr) _ (by omega)))) (lo_k6_6 hL _ (lo_e25 hL _ (lo_k7_2 hL _ t_pr) _ (by omega))) (by decide)) (fun q9 => (tn_ne ((lo_n6 hL _ (lo_e25 hL _ (lo_k7_2 hL _ t_pr) _ (by omega))).trans (lo_n25 hL _ (lo_k7_2 hL _ t_pr) _ (by omega))) ((lo_n6 hL _ (lo_e25 hL _ (lo_k7_2 hL _ t_pr) _ (by omega))).trans (lo_n25 hL _ (lo_k7_2 hL _ t_pr) _ (by omega))) (by omega)) (lo_inj5 hL _ _ (lo_k6_6 hL _ (lo_e25 hL _ (lo_k7_2 hL _ t_pr) _ (by omega))) (lo_k6_6 hL _ (lo_e25 hL _ (lo_k7_2 hL _ t_pr) _ (by omega))) q9)) (tg_ne (lo_k5_2 hL _ (lo_k6_6 hL _ (lo_e25 hL _ (lo_k7_2 hL _ t_pr) _ (by omega)))) (lo_k9_6 hL _ t_X) (by decide)) (tg_ne (lo_k5_2 hL _ (lo_k6_6 hL _ (lo_e25 hL _ (lo_k7_2 hL _ t_pr) _ (by omega)))) (lo_k4_0 hL _ (lo_k9_6 hL _ t_X)) (by decide)) (tg_ne (lo_k5_2 hL _ (lo_k6_6 hL _ (lo_e25 hL _ (lo_k7_2 hL _ t_pr) _ (by omega)))) (lo_k4_1 hL _ (lo_k9_6 hL _ t_X)) (by decide))).trans e681
          obtain ⟨sg695, nn696, dd697, e698, e699, hN700⟩ := lv_692
          have c701 : ∀ i, i < 15 → ∃ k, k < 1000000000 ∧ dd697 i = nI k := hN700.2.1
          have hnn696 : nn696 ≤ 15 := hN700.1
          refine lv_iload hx hb d_NRunner_operateLong_183 (lv_at hl 0 rfl) ?_
          refine lv_if_eq (tgt := 192) hx hb d_NRunner_operateLong_185 (by decide) (fun b702 => ?_) (fun b702 => ?_)
          · skip
            replace b702 := (nI_eq (a := 1) (b := 0) (by omega) (by omega)).mp b702
            exfalso; omega
          · skip
            replace b702 := mt (nI_eq (a := 1) (b := 0) (by omega) (by omega)).mpr b702
            refine lv_iconst (v := nI 0) hx hb d_NRunner_operateLong_188 (by decide) ?_
            refine lv_goto (tgt := 193) hx hb d_NRunner_operateLong_189 (by decide) ?_
            exact pe_iret hx hb hr hlocks hK hP hD hS d_NRunner_operateLong_193 ⟨⟨(lo + ((nI 1))), e656⟩, (congrArg nI (otr_0 (w := 5) (x := vx) (y := vy) (by decide) (Or.inr hvy9) (td_le htx).1).symm), (fun _ => ⟨_, _, _, e698, e699, hN700⟩), hI1_693, hu⟩
        · skip
          replace b685 := (nI_eq (a := 6) (b := 7) (by omega) (by omega)).mp b685
          exfalso; omega
      · skip
        have hsy8 : sg677 = nI 0 := by first | exact b684 | exact Decidable.not_not.mp b684
        have hvy8 : vy = 0 := LNV_v0 hFy.1 hsy8
        refine lv_iconst (v := nI 1) hx hb d_NRunner_operateLong_154 (by decide) ?_
        exact pe_iret hx hb hr hlocks hK hP hD hS d_NRunner_operateLong_155 ⟨⟨(lo + ((nI 1))), e656⟩, (congrArg nI (otr_1 (by decide) (by decide) hvy8).symm), (fun z9 => absurd (z9.symm.trans (otr_1 (by decide) (by decide) hvy8)) (by decide)), hI1_675, hu⟩
    · skip
      obtain ⟨kx1, kx2, kx3, mx, eNx, hsx, hlx, htx⟩ := hVx
      obtain ⟨ky1, ky2, ky3, my, eNy, hsy, hly, hty⟩ := hVy
      obtain ⟨sgy, ny, dy, eay, eby, hNy⟩ := hly rfl
      have hFy : LNF sgy ny dy vy := ⟨hNy, hty⟩
      have cby : ∀ i, i < 15 → ∃ k, k < 1000000000 ∧ dy i = nI k := hNy.2.1
      have hny : ny ≤ 15 := hNy.1
      refine lv_aload_n hx hb d_NRunner_operateLong_0 rfl (lv_at hl 0 rfl) ?_
      refine lv_dup hx hb d_NRunner_operateLong_1 rfl ?_
      refine pf_get (v := .int lo) (C := "BigRunner$Runner") (T := FT8) (N := 13) hx hb (hw8 hB _) (fun _ h9 => h9) hown hK hP (lo_in hL t_X (by decide)) eX rfl 11 (by decide) (wd_347 hB _) rfl d_NRunner_operateLong_2 ?_
      refine lv_iconst (v := nI 1) hx hb d_NRunner_operateLong_5 (by decide) ?_
      refine lv_iadd hx hb d_NRunner_operateLong_6 ?_
      refine pf_put (v := .int (lo + ((nI 1)))) (ty := .int) (fs' := [.ref pr, .ref (g.lk X 1), .int (nI ix), .ref (g.lk X 3), .ref (g.lk X 4), .ref (g.lk X 5), .ref (g.lk X 6), .ref (g.lk X 7), .int (nI os), .int (nI st), .int mo, .int (lo + ((nI 1))), .int (nI tr)]) (C := "BigRunner$Runner") (T := FT8) (N := 13) hx hb (hw8 hB _) (fun _ h9 => h9) TY8 ok8 nm8 hown hK hP hD hS (lo_in hL t_X (by decide)) eX rfl 11 (by decide) (wd_347 hB _) rfl (by decide +kernel) rfl rfl (Nat.le_of_ble_eq_true rfl) rfl d_NRunner_operateLong_7 (fun f703 H locs e704 k705 hP hD hS => ?_)
      have eN := (k705 (g.lk (g.lk pr 2) n) (tg_ne (lo_e25 hL _ (lo_k7_2 hL _ t_pr) _ (by omega)) t_X (by decide))).trans eN
      have eNx := (k705 (g.lk (g.lk pr 2) le) (tg_ne (lo_e25 hL _ (lo_k7_2 hL _ t_pr) _ (by omega)) t_X (by decide))).trans eNx
      have eNy := (k705 (g.lk (g.lk pr 2) ri) (tg_ne (lo_e25 hL _ (lo_k7_2 hL _ t_pr) _ (by omega)) t_X (by decide))).trans eNy
      have eay := (k705 (g.lk (g.lk (g.lk pr 2) ri) 6) (tg_ne (lo_k6_6 hL _ (lo_e25 hL _ (lo_k7_2 hL _ t_pr) _ (by omega))) t_X (by decide))).trans eay
      have eby := (k705 (g.lk (g.lk (g.lk (g.lk pr 2) ri) 6) 2) (tg_ne (lo_k5_2 hL _ (lo_k6_6 hL _ (lo_e25 hL _ (lo_k7_2 hL _ t_pr) _ (by omega)))) t_X (by decide))).trans eby
      have hu : ∀ b, b ≠ X → b ≠ (g.lk (g.lk (g.lk pr 2) n) 6) → b ≠ (g.lk (g.lk (g.lk (g.lk pr 2) n) 6) 2) → b ≠ (g.lk (g.lk (g.lk pr 2) le) 6) → b ≠ (g.lk (g.lk (g.lk (g.lk pr 2) le) 6) 2) → b ≠ (g.lk (g.lk (g.lk pr 2) ri) 6) → b ≠ (g.lk (g.lk (g.lk (g.lk pr 2) ri) 6) 2) → b ≠ (g.lk X 6) → b ≠ (g.lk (g.lk X 6) 0) → b ≠ (g.lk (g.lk X 6) 1) → f703 b = f b := fun b q0 q1 q2 q3 q4 q5 q6 q7 q8 q9 => (k705 b q0).trans (hu b q0 q1 q2 q3 q4 q5 q6 q7 q8 q9)
      have hk706 : ∀ b, b ≠ X → f703 b = f b := k705
      refine lv_aload_n hx hb d_NRunner_operateLong_10 rfl (lv_at hl 0 rfl) ?_
      refine pf_get (v := .ref pr) (C := "BigRunner$Runner") (T := FT8) (N := 13) hx hb (hw8 hB _) (fun _ h9 => h9) hown hK hP (lo_in hL t_X (by decide)) e704 rfl 0 (by decide) (wd_330 hB _) rfl d_NRunner_operateLong_11 ?_
      obtain ⟨sc_708, nc_709, e707, c710, c711⟩ := oc_7.of t_pr (hI.1 pr)
      replace e707 := (hk706 pr (tg_ne t_pr t_X (by decide))).trans e707
      refine pf_get (v := .ref (g.lk pr 2)) (C := "BigRunner$Program") (T := FT6) (N := 6) hx hb (hw6 hB _) (fun _ h9 => h9) hown hK hP (lo_in hL t_pr (by decide)) e707 rfl 2 (by decide) (wd_249 hB _) rfl d_NRunner_operateLong_14 ?_
      refine lv_aload_n hx hb d_NRunner_operateLong_17 rfl (lv_at hl 1 rfl) ?_
      refine pf_get (v := .int (nI le)) (C := "BigRunner$Node") (T := FT5) (N := 7) hx hb (hw5 hB _) (fun _ h9 => h9) hown hK hP (lo_in hL (lo_e25 hL _ (lo_k7_2 hL _ t_pr) _ (by omega)) (by decide)) eN rfl 1 (by decide) (wd_208 hB _) rfl d_NRunner_operateLong_18 ?_
      have e712 := oc_25.of (lo_k7_2 hL _ t_pr) (hI.1 (g.lk pr 2))
      replace e712 := (hk706 (g.lk pr 2) (tg_ne (lo_k7_2 hL _ t_pr) t_X (by decide))).trans e712
      refine pf_aald (i := le) hx hb hK hP (lo_in hL (lo_k7_2 hL _ t_pr) (by decide)) e712 (lo_t25 hL _ (lo_k7_2 hL _ t_pr)) (by omega) (by decide) d_NRunner_operateLong_21 ?_
      have hI713 := iv_1 hI hL t_X (by decide) hk706 (oc_9.mk t_X (⟨pr, ix, os, st, mo, ((lo + ((nI 1)))), tr, e704, t_pr, (by omega), (by omega), (by omega), (by omega)⟩))
      refine pcc_r (va_runV (C := "BigRunner$Node") (As := []) (rest := []) ⟨hx, hb, hml, hown, tb_nil⟩ (v_widenedS l g H.size f703 ((g.lk (g.lk pr 2) le)) kx1 kx2 kx3 mx hL (lo_e25 hL _ (lo_k7_2 hL _ t_pr) _ (by omega)) hI713 eNx (by rw [(hsx rfl).1]; exact (hsx rfl).2)) ⟨(callB_of 0 (tb_one (wd_761 hB _)) tb_good1 rfl rfl rfl (wd_77 hB _) (wd_758 hB _) (by decide +kernel) ⟨Nat.le_of_ble_eq_true rfl, Nat.le_of_ble_eq_true rfl⟩), (wd_759 hB _), (wd_760 hB _)⟩ ⟨pe_bl, pg_recv (ci := 5) hK hP (lo_in hL (lo_e25 hL _ (lo_k7_2 hL _ t_pr) _ (by omega)) (by decide)) eNx rfl, pe_pre hB hK hP hD⟩ rfl rfl hl.1 rfl (lv_room (Nat.le_of_ble_eq_true rfl)) d_NRunner_operateLong_22 ⟨Nat.le_of_ble_eq_true rfl, Nat.le_of_ble_eq_true rfl⟩) hS (fun r714 f715 H locs hq716 hP hD hS => ?_)
      obtain ⟨ra_717, lv_718, hI1_719, hk1_720⟩ := hq716
      subst ra_717
      have hu : ∀ b, b ≠ X → b ≠ (g.lk (g.lk (g.lk pr 2) n) 6) → b ≠ (g.lk (g.lk (g.lk (g.lk pr 2) n) 6) 2) → b ≠ (g.lk (g.lk (g.lk pr 2) le) 6) → b ≠ (g.lk (g.lk (g.lk (g.lk pr 2) le) 6) 2) → b ≠ (g.lk (g.lk (g.lk pr 2) ri) 6) → b ≠ (g.lk (g.lk (g.lk (g.lk pr 2) ri) 6) 2) → b ≠ (g.lk X 6) → b ≠ (g.lk (g.lk X 6) 0) → b ≠ (g.lk (g.lk X 6) 1) → f715 b = f b := fun b q0 q1 q2 q3 q4 q5 q6 q7 q8 q9 => (hk1_720 b q3 q4).trans (hu b q0 q1 q2 q3 q4 q5 q6 q7 q8 q9)
      have eN := (hk1_720 (g.lk (g.lk pr 2) n) (tg_ne (lo_e25 hL _ (lo_k7_2 hL _ t_pr) _ (by omega)) (lo_k6_6 hL _ (lo_e25 hL _ (lo_k7_2 hL _ t_pr) _ (by omega))) (by decide)) (tg_ne (lo_e25 hL _ (lo_k7_2 hL _ t_pr) _ (by omega)) (lo_k5_2 hL _ (lo_k6_6 hL _ (lo_e25 hL _ (lo_k7_2 hL _ t_pr) _ (by omega)))) (by decide))).trans eN
      have eNx := (hk1_720 (g.lk (g.lk pr 2) le) (tg_ne (lo_e25 hL _ (lo_k7_2 hL _ t_pr) _ (by omega)) (lo_k6_6 hL _ (lo_e25 hL _ (lo_k7_2 hL _ t_pr) _ (by omega))) (by decide)) (tg_ne (lo_e25 hL _ (lo_k7_2 hL _ t_pr) _ (by omega)) (lo_k5_2 hL _ (lo_k6_6 hL _ (lo_e25 hL _ (lo_k7_2 hL _ t_pr) _ (by omega)))) (by decide))).trans eNx
      have eNy := (hk1_720 (g.lk (g.lk pr 2) ri) (tg_ne (lo_e25 hL _ (lo_k7_2 hL _ t_pr) _ (by omega)) (lo_k6_6 hL _ (lo_e25 hL _ (lo_k7_2 hL _ t_pr) _ (by omega))) (by decide)) (tg_ne (lo_e25 hL _ (lo_k7_2 hL _ t_pr) _ (by omega)) (lo_k5_2 hL _ (lo_k6_6 hL _ (lo_e25 hL _ (lo_k7_2 hL _ t_pr) _ (by omega)))) (by decide))).trans eNy
      have eay := (hk1_720 (g.lk (g.lk (g.lk pr 2) ri) 6) (tn_ne ((lo_n6 hL _ (lo_e25 hL _ (lo_k7_2 hL _ t_pr) _ (by omega))).trans (lo_n25 hL _ (lo_k7_2 hL _ t_pr) _ (by omega))) ((lo_n6 hL _ (lo_e25 hL _ (lo_k7_2 hL _ t_pr) _ (by omega))).trans (lo_n25 hL _ (lo_k7_2 hL _ t_pr) _ (by omega))) (by omega)) (tg_ne (lo_k6_6 hL _ (lo_e25 hL _ (lo_k7_2 hL _ t_pr) _ (by omega))) (lo_k5_2 hL _ (lo_k6_6 hL _ (lo_e25 hL _ (lo_k7_2 hL _ t_pr) _ (by omega)))) (by decide))).trans eay
      have eby := (hk1_720 (g.lk (g.lk (g.lk (g.lk pr 2) ri) 6) 2) (tg_ne (lo_k5_2 hL _ (lo_k6_6 hL _ (lo_e25 hL _ (lo_k7_2 hL _ t_pr) _ (by omega)))) (lo_k6_6 hL _ (lo_e25 hL _ (lo_k7_2 hL _ t_pr) _ (by omega))) (by decide)) (fun q9 => (tn_ne ((lo_n6 hL _ (lo_e25 hL _ (lo_k7_2 hL _ t_pr) _ (by omega))).trans (lo_n25 hL _ (lo_k7_2 hL _ t_pr) _ (by omega))) ((lo_n6 hL _ (lo_e25 hL _ (lo_k7_2 hL _ t_pr) _ (by omega))).trans (lo_n25 hL _ (lo_k7_2 hL _ t_pr) _ (by omega))) (by omega)) (lo_inj5 hL _ _ (lo_k6_6 hL _ (lo_e25 hL _ (lo_k7_2 hL _ t_pr) _ (by omega))) (lo_k6_6 hL _ (lo_e25 hL _ (lo_k7_2 hL _ t_pr) _ (by omega))) q9))).trans eby
      have e704 := (hk1_720 X (tg_ne t_X (lo_k6_6 hL _ (lo_e25 hL _ (lo_k7_2 hL _ t_pr) _ (by omega))) (by decide)) (tg_ne t_X (lo_k5_2 hL _ (lo_k6_6 hL _ (lo_e25 hL _ (lo_k7_2 hL _ t_pr) _ (by omega)))) (by decide))).trans e704
      have e707 := (hk1_720 pr (tg_ne t_pr (lo_k6_6 hL _ (lo_e25 hL _ (lo_k7_2 hL _ t_pr) _ (by omega))) (by decide)) (tg_ne t_pr (lo_k5_2 hL _ (lo_k6_6 hL _ (lo_e25 hL _ (lo_k7_2 hL _ t_pr) _ (by omega)))) (by decide))).trans e707
      have e712 := (hk1_720 (g.lk pr 2) (tg_ne (lo_k7_2 hL _ t_pr) (lo_k6_6 hL _ (lo_e25 hL _ (lo_k7_2 hL _ t_pr) _ (by omega))) (by decide)) (tg_ne (lo_k7_2 hL _ t_pr) (lo_k5_2 hL _ (lo_k6_6 hL _ (lo_e25 hL _ (lo_k7_2 hL _ t_pr) _ (by omega)))) (by decide))).trans e712
      obtain ⟨sg721, nn722, dd723, e724, e725, hN726⟩ := lv_718
      have c727 : ∀ i, i < 15 → ∃ k, k < 1000000000 ∧ dd723 i = nI k := hN726.2.1
      have hnn722 : nn722 ≤ 15 := hN726.1
      refine lv_astore_n (lv' := [(2, .ref (g.lk (g.lk (g.lk pr 2) le) 6)), (0, .ref X), (1, .ref (g.lk (g.lk pr 2) n))]) hx hb d_NRunner_operateLong_25 rfl hl (by decide) rfl (fun ls hl => ?_)
      have hFx : LNF sg721 nn722 dd723 vx := ⟨LNV_cast hN726 (hsx rfl).1, htx⟩
      refine lv_aload_n hx hb d_NRunner_operateLong_26 rfl (lv_at hl 1 rfl) ?_
      refine pf_get (v := .ref pr) (C := "BigRunner$Runner") (T := FT8) (N := 13) hx hb (hw8 hB _) (fun _ h9 => h9) hown hK hP (lo_in hL t_X (by decide)) e704 rfl 0 (by decide) (wd_330 hB _) rfl d_NRunner_operateLong_27 ?_
      refine pf_get (v := .ref (g.lk pr 2)) (C := "BigRunner$Program") (T := FT6) (N := 6) hx hb (hw6 hB _) (fun _ h9 => h9) hown hK hP (lo_in hL t_pr (by decide)) e707 rfl 2 (by decide) (wd_249 hB _) rfl d_NRunner_operateLong_30 ?_
      refine lv_aload_n hx hb d_NRunner_operateLong_33 rfl (lv_at hl 2 rfl) ?_
      refine pf_get (v := .int (nI ri)) (C := "BigRunner$Node") (T := FT5) (N := 7) hx hb (hw5 hB _) (fun _ h9 => h9) hown hK hP (lo_in hL (lo_e25 hL _ (lo_k7_2 hL _ t_pr) _ (by omega)) (by decide)) eN rfl 2 (by decide) (wd_212 hB _) rfl d_NRunner_operateLong_34 ?_
      refine pf_aald (i := ri) hx hb hK hP (lo_in hL (lo_k7_2 hL _ t_pr) (by decide)) e712 (lo_t25 hL _ (lo_k7_2 hL _ t_pr)) (by omega) (by decide) d_NRunner_operateLong_37 ?_
      refine pcc_r (va_runV (C := "BigRunner$Node") (As := []) (rest := []) ⟨hx, hb, hml, hown, tb_nil⟩ (v_widenedL l g H.size f715 ((g.lk (g.lk pr 2) ri)) ky1 ky2 ky3 my hL (lo_e25 hL _ (lo_k7_2 hL _ t_pr) _ (by omega)) hI1_719.1 eNy) ⟨(callB_of 0 (tb_one (wd_761 hB _)) tb_good1 rfl rfl rfl (wd_77 hB _) (wd_758 hB _) (by decide +kernel) ⟨Nat.le_of_ble_eq_true rfl, Nat.le_of_ble_eq_true rfl⟩), (wd_759 hB _), (wd_760 hB _)⟩ ⟨pe_bl, pg_recv (ci := 5) hK hP (lo_in hL (lo_e25 hL _ (lo_k7_2 hL _ t_pr) _ (by omega)) (by decide)) eNy rfl, pe_pre hB hK hP hD⟩ rfl rfl hl.1 rfl (lv_room (Nat.le_of_ble_eq_true rfl)) d_NRunner_operateLong_38 ⟨Nat.le_of_ble_eq_true rfl, Nat.le_of_ble_eq_true rfl⟩) hS (fun r728 f729 H locs hq730 hP hD hS => ?_)
      obtain ⟨ra_731, rfl⟩ := hq730
      subst ra_731
      refine lv_astore_n (lv' := [(3, .ref (g.lk (g.lk (g.lk pr 2) ri) 6)), (2, .ref (g.lk (g.lk (g.lk pr 2) le) 6)), (0, .ref X), (1, .ref (g.lk (g.lk pr 2) n))]) hx hb d_NRunner_operateLong_41 rfl hl (by decide) rfl (fun ls hl => ?_)
      refine lv_iconst (v := nI 1) hx hb d_NRunner_operateLong_42 (by decide) ?_
      refine lv_istore (lv' := [(4, .int (nI 1)), (3, .ref (g.lk (g.lk (g.lk pr 2) ri) 6)), (2, .ref (g.lk (g.lk (g.lk pr 2) le) 6)), (0, .ref X), (1, .ref (g.lk (g.lk pr 2) n))]) hx hb d_NRunner_operateLong_43 hl (by decide) rfl (fun ls hl => ?_)
      refine lv_aload_n hx hb d_NRunner_operateLong_45 rfl (lv_at hl 4 rfl) ?_
      refine pf_get (v := .int (nI 6)) (C := "BigRunner$Node") (T := FT5) (N := 7) hx hb (hw5 hB _) (fun _ h9 => h9) hown hK hP (lo_in hL (lo_e25 hL _ (lo_k7_2 hL _ t_pr) _ (by omega)) (by decide)) eN rfl 0 (by decide) (wd_204 hB _) rfl d_NRunner_operateLong_46 ?_
      refine lv_tableOut (tgt := 147) hx hb d_NRunner_operateLong_49 (by rw [nI_toInt (by omega)]; omega) (by decide) ?_
      refine lv_aload_n hx hb d_NRunner_operateLong_147 rfl (lv_at hl 1 rfl) ?_
      refine pf_get (v := .int sgy) (C := "BigRunner$LongNumber") (T := FT4) (N := 3) hx hb (hw4 hB _) (fun _ h9 => h9) hown hK hP (lo_in hL (lo_k6_6 hL _ (lo_e25 hL _ (lo_k7_2 hL _ t_pr) _ (by omega))) (by decide)) eay rfl 0 (by decide) (wd_189 hB _) rfl d_NRunner_operateLong_148 ?_
      refine lv_if_ne (tgt := 156) hx hb d_NRunner_operateLong_151 (by decide) (fun b732 => ?_) (fun b732 => ?_)
      · skip
        have hsy9 : ¬ sgy = nI 0 := b732
        have hvy9 : vy ≠ 0 := fun z9 => hsy9 ((LNV_0s hFy.1).mpr (LNV_z hFy.1 z9))
        refine lv_aload_n hx hb d_NRunner_operateLong_156 rfl (lv_at hl 3 rfl) ?_
        refine pf_get (v := .ref (g.lk X 6)) (C := "BigRunner$Runner") (T := FT8) (N := 13) hx hb (hw8 hB _) (fun _ h9 => h9) hown hK hP (lo_in hL t_X (by decide)) e704 rfl 6 (by decide) (wd_338 hB _) rfl d_NRunner_operateLong_157 ?_
        refine lv_aload_n hx hb d_NRunner_operateLong_160 rfl (lv_at hl 2 rfl) ?_
        refine lv_aload_n hx hb d_NRunner_operateLong_161 rfl (lv_at hl 1 rfl) ?_
        refine lv_aload_n hx hb d_NRunner_operateLong_162 rfl (lv_at hl 4 rfl) ?_
        refine pf_get (v := .ref (g.lk (g.lk (g.lk pr 2) n) 6)) (C := "BigRunner$Node") (T := FT5) (N := 7) hx hb (hw5 hB _) (fun _ h9 => h9) hown hK hP (lo_in hL (lo_e25 hL _ (lo_k7_2 hL _ t_pr) _ (by omega)) (by decide)) eN rfl 6 (by decide) (wd_224 hB _) rfl d_NRunner_operateLong_163 ?_
        refine lv_aload_n hx hb d_NRunner_operateLong_166 rfl (lv_at hl 4 rfl) ?_
        refine pf_get (v := .int (nI 6)) (C := "BigRunner$Node") (T := FT5) (N := 7) hx hb (hw5 hB _) (fun _ h9 => h9) hown hK hP (lo_in hL (lo_e25 hL _ (lo_k7_2 hL _ t_pr) _ (by omega)) (by decide)) eN rfl 0 (by decide) (wd_204 hB _) rfl d_NRunner_operateLong_167 ?_
        refine lv_bipush (v := nI 7) hx hb d_NRunner_operateLong_170 (by decide) ?_
        refine lv_icmp_ne (tgt := 179) hx hb d_NRunner_operateLong_172 (by decide) (fun b733 => ?_) (fun b733 => ?_)
        · skip
          replace b733 := mt (nI_eq (a := 6) (b := 7) (by omega) (by omega)).mpr b733
          refine lv_iconst (v := nI 0) hx hb d_NRunner_operateLong_179 (by decide) ?_
          obtain ⟨n_735, e734, c736⟩ := oc_4.of (lo_k9_6 hL _ t_X) (hI1_719.1 (g.lk X 6))
          refine pcc_v (va_runV (C := "BigRunner$LongDivision") (As := [.ref (g.lk (g.lk (g.lk pr 2) le) 6), .ref (g.lk (g.lk (g.lk pr 2) ri) 6), .ref (g.lk (g.lk (g.lk pr 2) n) 6), .int (nI 0)]) (rest := []) ⟨hx, hb, hml, hown, tb_nil⟩ (v_divide0 l g H.size f715 ((g.lk X 6)) ((g.lk (g.lk (g.lk pr 2) le) 6)) sg721 nn722 dd723 vx ((g.lk (g.lk (g.lk pr 2) ri) 6)) sgy ny dy vy ((g.lk (g.lk (g.lk pr 2) n) 6)) hL (lo_k9_6 hL _ t_X) (lo_k6_6 hL _ (lo_e25 hL _ (lo_k7_2 hL _ t_pr) _ (by omega))) (lo_k6_6 hL _ (lo_e25 hL _ (lo_k7_2 hL _ t_pr) _ (by omega))) (lo_k6_6 hL _ (lo_e25 hL _ (lo_k7_2 hL _ t_pr) _ (by omega))) hI1_719 e724 e725 hFx eay eby hFy (tn_ne ((lo_n6 hL _ (lo_e25 hL _ (lo_k7_2 hL _ t_pr) _ (by omega))).trans (lo_n25 hL _ (lo_k7_2 hL _ t_pr) _ (by omega))) ((lo_n6 hL _ (lo_e25 hL _ (lo_k7_2 hL _ t_pr) _ (by omega))).trans (lo_n25 hL _ (lo_k7_2 hL _ t_pr) _ (by omega))) (by omega)) (tn_ne ((lo_n6 hL _ (lo_e25 hL _ (lo_k7_2 hL _ t_pr) _ (by omega))).trans (lo_n25 hL _ (lo_k7_2 hL _ t_pr) _ (by omega))) ((lo_n6 hL _ (lo_e25 hL _ (lo_k7_2 hL _ t_pr) _ (by omega))).trans (lo_n25 hL _ (lo_k7_2 hL _ t_pr) _ (by omega))) (by omega)) (Nat.pos_of_ne_zero (fun z9 => hsy9 ((LNV_0s hFy.1).mpr z9)))) ⟨(callB_of 4 (tb_one (wd_806 hB _)) tb_good1 rfl rfl rfl (wd_81 hB _) (wd_803 hB _) (by decide +kernel) ⟨Nat.le_of_ble_eq_true rfl, Nat.le_of_ble_eq_true rfl⟩), (wd_804 hB _), (wd_805 hB _)⟩ ⟨pe_bl, pg_recv (ci := 3) hK hP (lo_in hL (lo_k9_6 hL _ t_X) (by decide)) e734 rfl, pe_pre hB hK hP hD⟩ rfl rfl hl.1 rfl (lv_room (Nat.le_of_ble_eq_true rfl)) d_NRunner_operateLong_180 ⟨Nat.le_of_ble_eq_true rfl, Nat.le_of_ble_eq_true rfl⟩) hS (fun f738 H locs hq739 hP hD hS => ?_)
          obtain ⟨lv_740, hI1_741, hk1_742⟩ := hq739
          have hu : ∀ b, b ≠ X → b ≠ (g.lk (g.lk (g.lk pr 2) n) 6) → b ≠ (g.lk (g.lk (g.lk (g.lk pr 2) n) 6) 2) → b ≠ (g.lk (g.lk (g.lk pr 2) le) 6) → b ≠ (g.lk (g.lk (g.lk (g.lk pr 2) le) 6) 2) → b ≠ (g.lk (g.lk (g.lk pr 2) ri) 6) → b ≠ (g.lk (g.lk (g.lk (g.lk pr 2) ri) 6) 2) → b ≠ (g.lk X 6) → b ≠ (g.lk (g.lk X 6) 0) → b ≠ (g.lk (g.lk X 6) 1) → f738 b = f b := fun b q0 q1 q2 q3 q4 q5 q6 q7 q8 q9 => (hk1_742 b q1 q2 q7 q8 q9).trans (hu b q0 q1 q2 q3 q4 q5 q6 q7 q8 q9)
          have eN := (hk1_742 (g.lk (g.lk pr 2) n) (tg_ne (lo_e25 hL _ (lo_k7_2 hL _ t_pr) _ (by omega)) (lo_k6_6 hL _ (lo_e25 hL _ (lo_k7_2 hL _ t_pr) _ (by omega))) (by decide)) (tg_ne (lo_e25 hL _ (lo_k7_2 hL _ t_pr) _ (by omega)) (lo_k5_2 hL _ (lo_k6_6 hL _ (lo_e25 hL _ (lo_k7_2 hL _ t_pr) _ (by omega)))) (by decide)) (tg_ne (lo_e25 hL _ (lo_k7_2 hL _ t_pr) _ (by omega)) (lo_k9_6 hL _ t_X) (by decide)) (tg_ne (lo_e25 hL _ (lo_k7_2 hL _ t_pr) _ (by omega)) (lo_k4_0 hL _ (lo_k9_6 hL _ t_X)) (by decide)) (tg_ne (lo_e25 hL _ (lo_k7_2 hL _ t_pr) _ (by omega)) (lo_k4_1 hL _ (lo_k9_6 hL _ t_X)) (by decide))).trans eN
          have eNx := (hk1_742 (g.lk (g.lk pr 2) le) (tg_ne (lo_e25 hL _ (lo_k7_2 hL _ t_pr) _ (by omega)) (lo_k6_6 hL _ (lo_e25 hL _ (lo_k7_2 hL _ t_pr) _ (by omega))) (by decide)) (tg_ne (lo_e25 hL _ (lo_k7_2 hL _ t_pr) _ (by omega)) (lo_k5_2 hL _ (lo_k6_6 hL _ (lo_e25 hL _ (lo_k7_2 hL _ t_pr) _ (by omega)))) (by decide)) (tg_ne (lo_e25 hL _ (lo_k7_2 hL _ t_pr) _ (by omega)) (lo_k9_6 hL _ t_X) (by decide)) (tg_ne (lo_e25 hL _ (lo_k7_2 hL _ t_pr) _ (by omega)) (lo_k4_0 hL _ (lo_k9_6 hL _ t_X)) (by decide)) (tg_ne (lo_e25 hL _ (lo_k7_2 hL _ t_pr) _ (by omega)) (lo_k4_1 hL _ (lo_k9_6 hL _ t_X)) (by decide))).trans eNx
          have eNy := (hk1_742 (g.lk (g.lk pr 2) ri) (tg_ne (lo_e25 hL _ (lo_k7_2 hL _ t_pr) _ (by omega)) (lo_k6_6 hL _ (lo_e25 hL _ (lo_k7_2 hL _ t_pr) _ (by omega))) (by decide)) (tg_ne (lo_e25 hL _ (lo_k7_2 hL _ t_pr) _ (by omega)) (lo_k5_2 hL _ (lo_k6_6 hL _ (lo_e25 hL _ (lo_k7_2 hL _ t_pr) _ (by omega)))) (by decide)) (tg_ne (lo_e25 hL _ (lo_k7_2 hL _ t_pr) _ (by omega)) (lo_k9_6 hL _ t_X) (by decide)) (tg_ne (lo_e25 hL _ (lo_k7_2 hL _ t_pr) _ (by omega)) (lo_k4_0 hL _ (lo_k9_6 hL _ t_X)) (by decide)) (tg_ne (lo_e25 hL _ (lo_k7_2 hL _ t_pr) _ (by omega)) (lo_k4_1 hL _ (lo_k9_6 hL _ t_X)) (by decide))).trans eNy
          have eay := (hk1_742 (g.lk (g.lk (g.lk pr 2) ri) 6) (tn_ne ((lo_n6 hL _ (lo_e25 hL _ (lo_k7_2 hL _ t_pr) _ (by omega))).trans (lo_n25 hL _ (lo_k7_2 hL _ t_pr) _ (by omega))) ((lo_n6 hL _ (lo_e25 hL _ (lo_k7_2 hL _ t_pr) _ (by omega))).trans (lo_n25 hL _ (lo_k7_2 hL _ t_pr) _ (by omega))) (by omega)) (tg_ne (lo_k6_6 hL _ (lo_e25 hL _ (lo_k7_2 hL _ t_pr) _ (by omega))) (lo_k5_2 hL _ (lo_k6_6 hL _ (lo_e25 hL _ (lo_k7_2 hL _ t_pr) _ (by omega)))) (by decide)) (tg_ne (lo_k6_6 hL _ (lo_e25 hL _ (lo_k7_2 hL _ t_pr) _ (by omega))) (lo_k9_6 hL _ t_X) (by decide)) (tg_ne (lo_k6_6 hL _ (lo_e25 hL _ (lo_k7_2 hL _ t_pr) _ (by omega))) (lo_k4_0 hL _ (lo_k9_6 hL _ t_X)) (by decide)) (tg_ne (lo_k6_6 hL _ (lo_e25 hL _ (lo_k7_2 hL _ t_pr) _ (by omega))) (lo_k4_1 hL _ (lo_k9_6 hL _ t_X)) (by decide))).trans eay
          have eby := (hk1_742 (g.lk (g.lk (g.lk (g.lk pr 2) ri) 6) 2) (tg_ne (lo_k5_2 hL _ (lo_k6_6 hL _ (lo_e25 hL _ (lo_k7_2 hL _ t_pr) _ (by omega)))) (lo_k6_6 hL _ (lo_e25 hL _ (lo_k7_2 hL _ t_pr) _ (by omega))) (by decide)) (fun q9 => (tn_ne ((lo_n6 hL _ (lo_e25 hL _ (lo_k7_2 hL _ t_pr) _ (by omega))).trans (lo_n25 hL _ (lo_k7_2 hL _ t_pr) _ (by omega))) ((lo_n6 hL _ (lo_e25 hL _ (lo_k7_2 hL _ t_pr) _ (by omega))).trans (lo_n25 hL _ (lo_k7_2 hL _ t_pr) _ (by omega))) (by omega)) (lo_inj5 hL _ _ (lo_k6_6 hL _ (lo_e25 hL _ (lo_k7_2 hL _ t_pr) _ (by omega))) (lo_k6_6 hL _ (lo_e25 hL _ (lo_k7_2 hL _ t_pr) _ (by omega))) q9)) (tg_ne (lo_k5_2 hL _ (lo_k6_6 hL _ (lo_e25 hL _ (lo_k7_2 hL _ t_pr) _ (by omega)))) (lo_k9_6 hL _ t_X) (by decide)) (tg_ne (lo_k5_2 hL _ (lo_k6_6 hL _ (lo_e25 hL _ (lo_k7_2 hL _ t_pr) _ (by omega)))) (lo_k4_0 hL _ (lo_k9_6 hL _ t_X)) (by decide)) (tg_ne (lo_k5_2 hL _ (lo_k6_6 hL _ (lo_e25 hL _ (lo_k7_2 hL _ t_pr) _ (by omega)))) (lo_k4_1 hL _ (lo_k9_6 hL _ t_X)) (by decide))).trans eby
          have e704 := (hk1_742 X (tg_ne t_X (lo_k6_6 hL _ (lo_e25 hL _ (lo_k7_2 hL _ t_pr) _ (by omega))) (by decide)) (tg_ne t_X (lo_k5_2 hL _ (lo_k6_6 hL _ (lo_e25 hL _ (lo_k7_2 hL _ t_pr) _ (by omega)))) (by decide)) (tg_ne t_X (lo_k9_6 hL _ t_X) (by decide)) (tg_ne t_X (lo_k4_0 hL _ (lo_k9_6 hL _ t_X)) (by decide)) (tg_ne t_X (lo_k4_1 hL _ (lo_k9_6 hL _ t_X)) (by decide))).trans e704
          have e707 := (hk1_742 pr (tg_ne t_pr (lo_k6_6 hL _ (lo_e25 hL _ (lo_k7_2 hL _ t_pr) _ (by omega))) (by decide)) (tg_ne t_pr (lo_k5_2 hL _ (lo_k6_6 hL _ (lo_e25 hL _ (lo_k7_2 hL _ t_pr) _ (by omega)))) (by decide)) (tg_ne t_pr (lo_k9_6 hL _ t_X) (by decide)) (tg_ne t_pr (lo_k4_0 hL _ (lo_k9_6 hL _ t_X)) (by decide)) (tg_ne t_pr (lo_k4_1 hL _ (lo_k9_6 hL _ t_X)) (by decide))).trans e707
          have e712 := (hk1_742 (g.lk pr 2) (tg_ne (lo_k7_2 hL _ t_pr) (lo_k6_6 hL _ (lo_e25 hL _ (lo_k7_2 hL _ t_pr) _ (by omega))) (by decide)) (tg_ne (lo_k7_2 hL _ t_pr) (lo_k5_2 hL _ (lo_k6_6 hL _ (lo_e25 hL _ (lo_k7_2 hL _ t_pr) _ (by omega)))) (by decide)) (tg_ne (lo_k7_2 hL _ t_pr) (lo_k9_6 hL _ t_X) (by decide)) (tg_ne (lo_k7_2 hL _ t_pr) (lo_k4_0 hL _ (lo_k9_6 hL _ t_X)) (by decide)) (tg_ne (lo_k7_2 hL _ t_pr) (lo_k4_1 hL _ (lo_k9_6 hL _ t_X)) (by decide))).trans e712
          have e724 := (hk1_742 (g.lk (g.lk (g.lk pr 2) le) 6) (tn_ne ((lo_n6 hL _ (lo_e25 hL _ (lo_k7_2 hL _ t_pr) _ (by omega))).trans (lo_n25 hL _ (lo_k7_2 hL _ t_pr) _ (by omega))) ((lo_n6 hL _ (lo_e25 hL _ (lo_k7_2 hL _ t_pr) _ (by omega))).trans (lo_n25 hL _ (lo_k7_2 hL _ t_pr) _ (by omega))) (by omega)) (tg_ne (lo_k6_6 hL _ (lo_e25 hL _ (lo_k7_2 hL _ t_pr) _ (by omega))) (lo_k5_2 hL _ (lo_k6_6 hL _ (lo_e25 hL _ (lo_k7_2 hL _ t_pr) _ (by omega)))) (by decide)) (tg_ne (lo_k6_6 hL _ (lo_e25 hL _ (lo_k7_2 hL _ t_pr) _ (by omega))) (lo_k9_6 hL _ t_X) (by decide)) (tg_ne (lo_k6_6 hL _ (lo_e25 hL _ (lo_k7_2 hL _ t_pr) _ (by omega))) (lo_k4_0 hL _ (lo_k9_6 hL _ t_X)) (by decide)) (tg_ne (lo_k6_6 hL _ (lo_e25 hL _ (lo_k7_2 hL _ t_pr) _ (by omega))) (lo_k4_1 hL _ (lo_k9_6 hL _ t_X)) (by decide))).trans e724
          have e725 := (hk1_742 (g.lk (g.lk (g.lk (g.lk pr 2) le) 6) 2) (tg_ne (lo_k5_2 hL _ (lo_k6_6 hL _ (lo_e25 hL _ (lo_k7_2 hL _ t_pr) _ (by omega)))) (lo_k6_6 hL _ (lo_e25 hL _ (lo_k7_2 hL _ t_pr) _ (by omega))) (by decide)) (fun q9 => (tn_ne ((lo_n6 hL _ (lo_e25 hL _ (lo_k7_2 hL _ t_pr) _ (by omega))).trans (lo_n25 hL _ (lo_k7_2 hL _ t_pr) _ (by omega))) ((lo_n6 hL _ (lo_e25 hL _ (lo_k7_2 hL _ t_pr) _ (by omega))).trans (lo_n25 hL _ (lo_k7_2 hL _ t_pr) _ (by omega))) (by omega)) (lo_inj5 hL _ _ (lo_k6_6 hL _ (lo_e25 hL _ (lo_k7_2 hL _ t_pr) _ (by omega))) (lo_k6_6 hL _ (lo_e25 hL _ (lo_k7_2 hL _ t_pr) _ (by omega))) q9)) (tg_ne (lo_k5_2 hL _ (lo_k6_6 hL _ (lo_e25 hL _ (lo_k7_2 hL _ t_pr) _ (by omega)))) (lo_k9_6 hL _ t_X) (by decide)) (tg_ne (lo_k5_2 hL _ (lo_k6_6 hL _ (lo_e25 hL _ (lo_k7_2 hL _ t_pr) _ (by omega)))) (lo_k4_0 hL _ (lo_k9_6 hL _ t_X)) (by decide)) (tg_ne (lo_k5_2 hL _ (lo_k6_6 hL _ (lo_e25 hL _ (lo_k7_2 hL _ t_pr) _ (by omega)))) (lo_k4_1 hL _ (lo_k9_6 hL _ t_X)) (by decide))).trans e725
          obtain ⟨sg743, nn744, dd745, e746, e747, hN748⟩ := lv_740
          have c749 : ∀ i, i < 15 → ∃ k, k < 1000000000 ∧ dd745 i = nI k := hN748.2.1
          have hnn744 : nn744 ≤ 15 := hN748.1
          refine lv_iload hx hb d_NRunner_operateLong_183 (lv_at hl 0 rfl) ?_
          refine lv_if_eq (tgt := 192) hx hb d_NRunner_operateLong_185 (by decide) (fun b750 => ?_) (fun b750 => ?_)
          · skip
            replace b750 := (nI_eq (a := 1) (b := 0) (by omega) (by omega)).mp b750
            exfalso; omega
          · skip
            replace b750 := mt (nI_eq (a := 1) (b := 0) (by omega) (by omega)).mpr b750
            refine lv_iconst (v := nI 0) hx hb d_NRunner_operateLong_188 (by decide) ?_
            refine lv_goto (tgt := 193) hx hb d_NRunner_operateLong_189 (by decide) ?_
            exact pe_iret hx hb hr hlocks hK hP hD hS d_NRunner_operateLong_193 ⟨⟨(lo + ((nI 1))), e704⟩, (congrArg nI (otr_0 (w := 5) (x := vx) (y := vy) (by decide) (Or.inr hvy9) (td_le htx).1).symm), (fun _ => ⟨_, _, _, e746, e747, hN748⟩), hI1_741, hu⟩
        · skip
          replace b733 := (nI_eq (a := 6) (b := 7) (by omega) (by omega)).mp b733
          exfalso; omega
      · skip
        have hsy8 : sgy = nI 0 := by first | exact b732 | exact Decidable.not_not.mp b732
        have hvy8 : vy = 0 := LNV_v0 hFy.1 hsy8
        refine lv_iconst (v := nI 1) hx hb d_NRunner_operateLong_154 (by decide) ?_
        exact pe_iret hx hb hr hlocks hK hP hD hS d_NRunner_operateLong_155 ⟨⟨(lo + ((nI 1))), e704⟩, (congrArg nI (otr_1 (by decide) (by decide) hvy8).symm), (fun z9 => absurd (z9.symm.trans (otr_1 (by decide) (by decide) hvy8)) (by decide)), hI1_719, hu⟩
    · skip
      obtain ⟨kx1, kx2, kx3, mx, eNx, hsx, hlx, htx⟩ := hVx
      obtain ⟨ky1, ky2, ky3, my, eNy, hsy, hly, hty⟩ := hVy
      refine lv_aload_n hx hb d_NRunner_operateLong_0 rfl (lv_at hl 0 rfl) ?_
      refine lv_dup hx hb d_NRunner_operateLong_1 rfl ?_
      refine pf_get (v := .int lo) (C := "BigRunner$Runner") (T := FT8) (N := 13) hx hb (hw8 hB _) (fun _ h9 => h9) hown hK hP (lo_in hL t_X (by decide)) eX rfl 11 (by decide) (wd_347 hB _) rfl d_NRunner_operateLong_2 ?_
      refine lv_iconst (v := nI 1) hx hb d_NRunner_operateLong_5 (by decide) ?_
      refine lv_iadd hx hb d_NRunner_operateLong_6 ?_
      refine pf_put (v := .int (lo + ((nI 1)))) (ty := .int) (fs' := [.ref pr, .ref (g.lk X 1), .int (nI ix), .ref (g.lk X 3), .ref (g.lk X 4), .ref (g.lk X 5), .ref (g.lk X 6), .ref (g.lk X 7), .int (nI os), .int (nI st), .int mo, .int (lo + ((nI 1))), .int (nI tr)]) (C := "BigRunner$Runner") (T := FT8) (N := 13) hx hb (hw8 hB _) (fun _ h9 => h9) TY8 ok8 nm8 hown hK hP hD hS (lo_in hL t_X (by decide)) eX rfl 11 (by decide) (wd_347 hB _) rfl (by decide +kernel) rfl rfl (Nat.le_of_ble_eq_true rfl) rfl d_NRunner_operateLong_7 (fun f751 H locs e752 k753 hP hD hS => ?_)
      have eN := (k753 (g.lk (g.lk pr 2) n) (tg_ne (lo_e25 hL _ (lo_k7_2 hL _ t_pr) _ (by omega)) t_X (by decide))).trans eN
      have eNx := (k753 (g.lk (g.lk pr 2) le) (tg_ne (lo_e25 hL _ (lo_k7_2 hL _ t_pr) _ (by omega)) t_X (by decide))).trans eNx
      have eNy := (k753 (g.lk (g.lk pr 2) ri) (tg_ne (lo_e25 hL _ (lo_k7_2 hL _ t_pr) _ (by omega)) t_X (by decide))).trans eNy
      have hu : ∀ b, b ≠ X → b ≠ (g.lk (g.lk (g.lk pr 2) n) 6) → b ≠ (g.lk (g.lk (g.lk (g.lk pr 2) n) 6) 2) → b ≠ (g.lk (g.lk (g.lk pr 2) le) 6) → b ≠ (g.lk (g.lk (g.lk (g.lk pr 2) le) 6) 2) → b ≠ (g.lk (g.lk (g.lk pr 2) ri) 6) → b ≠ (g.lk (g.lk (g.lk (g.lk pr 2) ri) 6) 2) → b ≠ (g.lk X 6) → b ≠ (g.lk (g.lk X 6) 0) → b ≠ (g.lk (g.lk X 6) 1) → f751 b = f b := fun b q0 q1 q2 q3 q4 q5 q6 q7 q8 q9 => (k753 b q0).trans (hu b q0 q1 q2 q3 q4 q5 q6 q7 q8 q9)
      have hk754 : ∀ b, b ≠ X → f751 b = f b := k753
      refine lv_aload_n hx hb d_NRunner_operateLong_10 rfl (lv_at hl 0 rfl) ?_
      refine pf_get (v := .ref pr) (C := "BigRunner$Runner") (T := FT8) (N := 13) hx hb (hw8 hB _) (fun _ h9 => h9) hown hK hP (lo_in hL t_X (by decide)) e752 rfl 0 (by decide) (wd_330 hB _) rfl d_NRunner_operateLong_11 ?_
      obtain ⟨sc_756, nc_757, e755, c758, c759⟩ := oc_7.of t_pr (hI.1 pr)
      replace e755 := (hk754 pr (tg_ne t_pr t_X (by decide))).trans e755
      refine pf_get (v := .ref (g.lk pr 2)) (C := "BigRunner$Program") (T := FT6) (N := 6) hx hb (hw6 hB _) (fun _ h9 => h9) hown hK hP (lo_in hL t_pr (by decide)) e755 rfl 2 (by decide) (wd_249 hB _) rfl d_NRunner_operateLong_14 ?_
      refine lv_aload_n hx hb d_NRunner_operateLong_17 rfl (lv_at hl 1 rfl) ?_
      refine pf_get (v := .int (nI le)) (C := "BigRunner$Node") (T := FT5) (N := 7) hx hb (hw5 hB _) (fun _ h9 => h9) hown hK hP (lo_in hL (lo_e25 hL _ (lo_k7_2 hL _ t_pr) _ (by omega)) (by decide)) eN rfl 1 (by decide) (wd_208 hB _) rfl d_NRunner_operateLong_18 ?_
      have e760 := oc_25.of (lo_k7_2 hL _ t_pr) (hI.1 (g.lk pr 2))
      replace e760 := (hk754 (g.lk pr 2) (tg_ne (lo_k7_2 hL _ t_pr) t_X (by decide))).trans e760
      refine pf_aald (i := le) hx hb hK hP (lo_in hL (lo_k7_2 hL _ t_pr) (by decide)) e760 (lo_t25 hL _ (lo_k7_2 hL _ t_pr)) (by omega) (by decide) d_NRunner_operateLong_21 ?_
      have hI761 := iv_1 hI hL t_X (by decide) hk754 (oc_9.mk t_X (⟨pr, ix, os, st, mo, ((lo + ((nI 1)))), tr, e752, t_pr, (by omega), (by omega), (by omega), (by omega)⟩))
      refine pcc_r (va_runV (C := "BigRunner$Node") (As := []) (rest := []) ⟨hx, hb, hml, hown, tb_nil⟩ (v_widenedS l g H.size f751 ((g.lk (g.lk pr 2) le)) kx1 kx2 kx3 mx hL (lo_e25 hL _ (lo_k7_2 hL _ t_pr) _ (by omega)) hI761 eNx (by rw [(hsx rfl).1]; exact (hsx rfl).2)) ⟨(callB_of 0 (tb_one (wd_761 hB _)) tb_good1 rfl rfl rfl (wd_77 hB _) (wd_758 hB _) (by decide +kernel) ⟨Nat.le_of_ble_eq_true rfl, Nat.le_of_ble_eq_true rfl⟩), (wd_759 hB _), (wd_760 hB _)⟩ ⟨pe_bl, pg_recv (ci := 5) hK hP (lo_in hL (lo_e25 hL _ (lo_k7_2 hL _ t_pr) _ (by omega)) (by decide)) eNx rfl, pe_pre hB hK hP hD⟩ rfl rfl hl.1 rfl (lv_room (Nat.le_of_ble_eq_true rfl)) d_NRunner_operateLong_22 ⟨Nat.le_of_ble_eq_true rfl, Nat.le_of_ble_eq_true rfl⟩) hS (fun r762 f763 H locs hq764 hP hD hS => ?_)
      obtain ⟨ra_765, lv_766, hI1_767, hk1_768⟩ := hq764
      subst ra_765
      have hu : ∀ b, b ≠ X → b ≠ (g.lk (g.lk (g.lk pr 2) n) 6) → b ≠ (g.lk (g.lk (g.lk (g.lk pr 2) n) 6) 2) → b ≠ (g.lk (g.lk (g.lk pr 2) le) 6) → b ≠ (g.lk (g.lk (g.lk (g.lk pr 2) le) 6) 2) → b ≠ (g.lk (g.lk (g.lk pr 2) ri) 6) → b ≠ (g.lk (g.lk (g.lk (g.lk pr 2) ri) 6) 2) → b ≠ (g.lk X 6) → b ≠ (g.lk (g.lk X 6) 0) → b ≠ (g.lk (g.lk X 6) 1) → f763 b = f b := fun b q0 q1 q2 q3 q4 q5 q6 q7 q8 q9 => (hk1_768 b q3 q4).trans (hu b q0 q1 q2 q3 q4 q5 q6 q7 q8 q9)
      have eN := (hk1_768 (g.lk (g.lk pr 2) n) (tg_ne (lo_e25 hL _ (lo_k7_2 hL _ t_pr) _ (by omega)) (lo_k6_6 hL _ (lo_e25 hL _ (lo_k7_2 hL _ t_pr) _ (by omega))) (by decide)) (tg_ne (lo_e25 hL _ (lo_k7_2 hL _ t_pr) _ (by omega)) (lo_k5_2 hL _ (lo_k6_6 hL _ (lo_e25 hL _ (lo_k7_2 hL _ t_pr) _ (by omega)))) (by decide))).trans eN
      have eNx := (hk1_768 (g.lk (g.lk pr 2) le) (tg_ne (lo_e25 hL _ (lo_k7_2 hL _ t_pr) _ (by omega)) (lo_k6_6 hL _ (lo_e25 hL _ (lo_k7_2 hL _ t_pr) _ (by omega))) (by decide)) (tg_ne (lo_e25 hL _ (lo_k7_2 hL _ t_pr) _ (by omega)) (lo_k5_2 hL _ (lo_k6_6 hL _ (lo_e25 hL _ (lo_k7_2 hL _ t_pr) _ (by omega)))) (by decide))).trans eNx
      have eNy := (hk1_768 (g.lk (g.lk pr 2) ri) (tg_ne (lo_e25 hL _ (lo_k7_2 hL _ t_pr) _ (by omega)) (lo_k6_6 hL _ (lo_e25 hL _ (lo_k7_2 hL _ t_pr) _ (by omega))) (by decide)) (tg_ne (lo_e25 hL _ (lo_k7_2 hL _ t_pr) _ (by omega)) (lo_k5_2 hL _ (lo_k6_6 hL _ (lo_e25 hL _ (lo_k7_2 hL _ t_pr) _ (by omega)))) (by decide))).trans eNy
      have e752 := (hk1_768 X (tg_ne t_X (lo_k6_6 hL _ (lo_e25 hL _ (lo_k7_2 hL _ t_pr) _ (by omega))) (by decide)) (tg_ne t_X (lo_k5_2 hL _ (lo_k6_6 hL _ (lo_e25 hL _ (lo_k7_2 hL _ t_pr) _ (by omega)))) (by decide))).trans e752
      have e755 := (hk1_768 pr (tg_ne t_pr (lo_k6_6 hL _ (lo_e25 hL _ (lo_k7_2 hL _ t_pr) _ (by omega))) (by decide)) (tg_ne t_pr (lo_k5_2 hL _ (lo_k6_6 hL _ (lo_e25 hL _ (lo_k7_2 hL _ t_pr) _ (by omega)))) (by decide))).trans e755
      have e760 := (hk1_768 (g.lk pr 2) (tg_ne (lo_k7_2 hL _ t_pr) (lo_k6_6 hL _ (lo_e25 hL _ (lo_k7_2 hL _ t_pr) _ (by omega))) (by decide)) (tg_ne (lo_k7_2 hL _ t_pr) (lo_k5_2 hL _ (lo_k6_6 hL _ (lo_e25 hL _ (lo_k7_2 hL _ t_pr) _ (by omega)))) (by decide))).trans e760
      obtain ⟨sg769, nn770, dd771, e772, e773, hN774⟩ := lv_766
      have c775 : ∀ i, i < 15 → ∃ k, k < 1000000000 ∧ dd771 i = nI k := hN774.2.1
      have hnn770 : nn770 ≤ 15 := hN774.1
      refine lv_astore_n (lv' := [(2, .ref (g.lk (g.lk (g.lk pr 2) le) 6)), (0, .ref X), (1, .ref (g.lk (g.lk pr 2) n))]) hx hb d_NRunner_operateLong_25 rfl hl (by decide) rfl (fun ls hl => ?_)
      have hFx : LNF sg769 nn770 dd771 vx := ⟨LNV_cast hN774 (hsx rfl).1, htx⟩
      refine lv_aload_n hx hb d_NRunner_operateLong_26 rfl (lv_at hl 1 rfl) ?_
      refine pf_get (v := .ref pr) (C := "BigRunner$Runner") (T := FT8) (N := 13) hx hb (hw8 hB _) (fun _ h9 => h9) hown hK hP (lo_in hL t_X (by decide)) e752 rfl 0 (by decide) (wd_330 hB _) rfl d_NRunner_operateLong_27 ?_
      refine pf_get (v := .ref (g.lk pr 2)) (C := "BigRunner$Program") (T := FT6) (N := 6) hx hb (hw6 hB _) (fun _ h9 => h9) hown hK hP (lo_in hL t_pr (by decide)) e755 rfl 2 (by decide) (wd_249 hB _) rfl d_NRunner_operateLong_30 ?_
      refine lv_aload_n hx hb d_NRunner_operateLong_33 rfl (lv_at hl 2 rfl) ?_
      refine pf_get (v := .int (nI ri)) (C := "BigRunner$Node") (T := FT5) (N := 7) hx hb (hw5 hB _) (fun _ h9 => h9) hown hK hP (lo_in hL (lo_e25 hL _ (lo_k7_2 hL _ t_pr) _ (by omega)) (by decide)) eN rfl 2 (by decide) (wd_212 hB _) rfl d_NRunner_operateLong_34 ?_
      refine pf_aald (i := ri) hx hb hK hP (lo_in hL (lo_k7_2 hL _ t_pr) (by decide)) e760 (lo_t25 hL _ (lo_k7_2 hL _ t_pr)) (by omega) (by decide) d_NRunner_operateLong_37 ?_
      refine pcc_r (va_runV (C := "BigRunner$Node") (As := []) (rest := []) ⟨hx, hb, hml, hown, tb_nil⟩ (v_widenedS l g H.size f763 ((g.lk (g.lk pr 2) ri)) ky1 ky2 ky3 my hL (lo_e25 hL _ (lo_k7_2 hL _ t_pr) _ (by omega)) hI1_767 eNy (by rw [(hsy rfl).1]; exact (hsy rfl).2)) ⟨(callB_of 0 (tb_one (wd_761 hB _)) tb_good1 rfl rfl rfl (wd_77 hB _) (wd_758 hB _) (by decide +kernel) ⟨Nat.le_of_ble_eq_true rfl, Nat.le_of_ble_eq_true rfl⟩), (wd_759 hB _), (wd_760 hB _)⟩ ⟨pe_bl, pg_recv (ci := 5) hK hP (lo_in hL (lo_e25 hL _ (lo_k7_2 hL _ t_pr) _ (by omega)) (by decide)) eNy rfl, pe_pre hB hK hP hD⟩ rfl rfl hl.1 rfl (lv_room (Nat.le_of_ble_eq_true rfl)) d_NRunner_operateLong_38 ⟨Nat.le_of_ble_eq_true rfl, Nat.le_of_ble_eq_true rfl⟩) hS (fun r776 f777 H locs hq778 hP hD hS => ?_)
      obtain ⟨ra_779, lv_780, hI1_781, hk1_782⟩ := hq778
      subst ra_779
      have hu : ∀ b, b ≠ X → b ≠ (g.lk (g.lk (g.lk pr 2) n) 6) → b ≠ (g.lk (g.lk (g.lk (g.lk pr 2) n) 6) 2) → b ≠ (g.lk (g.lk (g.lk pr 2) le) 6) → b ≠ (g.lk (g.lk (g.lk (g.lk pr 2) le) 6) 2) → b ≠ (g.lk (g.lk (g.lk pr 2) ri) 6) → b ≠ (g.lk (g.lk (g.lk (g.lk pr 2) ri) 6) 2) → b ≠ (g.lk X 6) → b ≠ (g.lk (g.lk X 6) 0) → b ≠ (g.lk (g.lk X 6) 1) → f777 b = f b := fun b q0 q1 q2 q3 q4 q5 q6 q7 q8 q9 => (hk1_782 b q5 q6).trans (hu b q0 q1 q2 q3 q4 q5 q6 q7 q8 q9)
      have eN := (hk1_782 (g.lk (g.lk pr 2) n) (tg_ne (lo_e25 hL _ (lo_k7_2 hL _ t_pr) _ (by omega)) (lo_k6_6 hL _ (lo_e25 hL _ (lo_k7_2 hL _ t_pr) _ (by omega))) (by decide)) (tg_ne (lo_e25 hL _ (lo_k7_2 hL _ t_pr) _ (by omega)) (lo_k5_2 hL _ (lo_k6_6 hL _ (lo_e25 hL _ (lo_k7_2 hL _ t_pr) _ (by omega)))) (by decide))).trans eN
      have eNx := (hk1_782 (g.lk (g.lk pr 2) le) (tg_ne (lo_e25 hL _ (lo_k7_2 hL _ t_pr) _ (by omega)) (lo_k6_6 hL _ (lo_e25 hL _ (lo_k7_2 hL _ t_pr) _ (by omega))) (by decide)) (tg_ne (lo_e25 hL _ (lo_k7_2 hL _ t_pr) _ (by omega)) (lo_k5_2 hL _ (lo_k6_6 hL _ (lo_e25 hL _ (lo_k7_2 hL _ t_pr) _ (by omega)))) (by decide))).trans eNx
      have eNy := (hk1_782 (g.lk (g.lk pr 2) ri) (tg_ne (lo_e25 hL _ (lo_k7_2 hL _ t_pr) _ (by omega)) (lo_k6_6 hL _ (lo_e25 hL _ (lo_k7_2 hL _ t_pr) _ (by omega))) (by decide)) (tg_ne (lo_e25 hL _ (lo_k7_2 hL _ t_pr) _ (by omega)) (lo_k5_2 hL _ (lo_k6_6 hL _ (lo_e25 hL _ (lo_k7_2 hL _ t_pr) _ (by omega)))) (by decide))).trans eNy
      have e752 := (hk1_782 X (tg_ne t_X (lo_k6_6 hL _ (lo_e25 hL _ (lo_k7_2 hL _ t_pr) _ (by omega))) (by decide)) (tg_ne t_X (lo_k5_2 hL _ (lo_k6_6 hL _ (lo_e25 hL _ (lo_k7_2 hL _ t_pr) _ (by omega)))) (by decide))).trans e752
      have e755 := (hk1_782 pr (tg_ne t_pr (lo_k6_6 hL _ (lo_e25 hL _ (lo_k7_2 hL _ t_pr) _ (by omega))) (by decide)) (tg_ne t_pr (lo_k5_2 hL _ (lo_k6_6 hL _ (lo_e25 hL _ (lo_k7_2 hL _ t_pr) _ (by omega)))) (by decide))).trans e755
      have e760 := (hk1_782 (g.lk pr 2) (tg_ne (lo_k7_2 hL _ t_pr) (lo_k6_6 hL _ (lo_e25 hL _ (lo_k7_2 hL _ t_pr) _ (by omega))) (by decide)) (tg_ne (lo_k7_2 hL _ t_pr) (lo_k5_2 hL _ (lo_k6_6 hL _ (lo_e25 hL _ (lo_k7_2 hL _ t_pr) _ (by omega)))) (by decide))).trans e760
      have e772 := (hk1_782 (g.lk (g.lk (g.lk pr 2) le) 6) (tn_ne ((lo_n6 hL _ (lo_e25 hL _ (lo_k7_2 hL _ t_pr) _ (by omega))).trans (lo_n25 hL _ (lo_k7_2 hL _ t_pr) _ (by omega))) ((lo_n6 hL _ (lo_e25 hL _ (lo_k7_2 hL _ t_pr) _ (by omega))).trans (lo_n25 hL _ (lo_k7_2 hL _ t_pr) _ (by omega))) (by omega)) (tg_ne (lo_k6_6 hL _ (lo_e25 hL _ (lo_k7_2 hL _ t_pr) _ (by omega))) (lo_k5_2 hL _ (lo_k6_6 hL _ (lo_e25 hL _ (lo_k7_2 hL _ t_pr) _ (by omega)))) (by decide))).trans e772
      have e773 := (hk1_782 (g.lk (g.lk (g.lk (g.lk pr 2) le) 6) 2) (tg_ne (lo_k5_2 hL _ (lo_k6_6 hL _ (lo_e25 hL _ (lo_k7_2 hL _ t_pr) _ (by omega)))) (lo_k6_6 hL _ (lo_e25 hL _ (lo_k7_2 hL _ t_pr) _ (by omega))) (by decide)) (fun q9 => (tn_ne ((lo_n6 hL _ (lo_e25 hL _ (lo_k7_2 hL _ t_pr) _ (by omega))).trans (lo_n25 hL _ (lo_k7_2 hL _ t_pr) _ (by omega))) ((lo_n6 hL _ (lo_e25 hL _ (lo_k7_2 hL _ t_pr) _ (by omega))).trans (lo_n25 hL _ (lo_k7_2 hL _ t_pr) _ (by omega))) (by omega)) (lo_inj5 hL _ _ (lo_k6_6 hL _ (lo_e25 hL _ (lo_k7_2 hL _ t_pr) _ (by omega))) (lo_k6_6 hL _ (lo_e25 hL _ (lo_k7_2 hL _ t_pr) _ (by omega))) q9))).trans e773
      obtain ⟨sg783, nn784, dd785, e786, e787, hN788⟩ := lv_780
      have c789 : ∀ i, i < 15 → ∃ k, k < 1000000000 ∧ dd785 i = nI k := hN788.2.1
      have hnn784 : nn784 ≤ 15 := hN788.1
      refine lv_astore_n (lv' := [(3, .ref (g.lk (g.lk (g.lk pr 2) ri) 6)), (2, .ref (g.lk (g.lk (g.lk pr 2) le) 6)), (0, .ref X), (1, .ref (g.lk (g.lk pr 2) n))]) hx hb d_NRunner_operateLong_41 rfl hl (by decide) rfl (fun ls hl => ?_)
      have hFy : LNF sg783 nn784 dd785 vy := ⟨LNV_cast hN788 (hsy rfl).1, hty⟩
      refine lv_iconst (v := nI 1) hx hb d_NRunner_operateLong_42 (by decide) ?_
      refine lv_istore (lv' := [(4, .int (nI 1)), (3, .ref (g.lk (g.lk (g.lk pr 2) ri) 6)), (2, .ref (g.lk (g.lk (g.lk pr 2) le) 6)), (0, .ref X), (1, .ref (g.lk (g.lk pr 2) n))]) hx hb d_NRunner_operateLong_43 hl (by decide) rfl (fun ls hl => ?_)
      refine lv_aload_n hx hb d_NRunner_operateLong_45 rfl (lv_at hl 4 rfl) ?_
      refine pf_get (v := .int (nI 6)) (C := "BigRunner$Node") (T := FT5) (N := 7) hx hb (hw5 hB _) (fun _ h9 => h9) hown hK hP (lo_in hL (lo_e25 hL _ (lo_k7_2 hL _ t_pr) _ (by omega)) (by decide)) eN rfl 0 (by decide) (wd_204 hB _) rfl d_NRunner_operateLong_46 ?_
      refine lv_tableOut (tgt := 147) hx hb d_NRunner_operateLong_49 (by rw [nI_toInt (by omega)]; omega) (by decide) ?_
      refine lv_aload_n hx hb d_NRunner_operateLong_147 rfl (lv_at hl 1 rfl) ?_
      refine pf_get (v := .int sg783) (C := "BigRunner$LongNumber") (T := FT4) (N := 3) hx hb (hw4 hB _) (fun _ h9 => h9) hown hK hP (lo_in hL (lo_k6_6 hL _ (lo_e25 hL _ (lo_k7_2 hL _ t_pr) _ (by omega))) (by decide)) e786 rfl 0 (by decide) (wd_189 hB _) rfl d_NRunner_operateLong_148 ?_
      refine lv_if_ne (tgt := 156) hx hb d_NRunner_operateLong_151 (by decide) (fun b790 => ?_) (fun b790 => ?_)
      · skip
        have hsy9 : ¬ sg783 = nI 0 := b790
        have hvy9 : vy ≠ 0 := fun z9 => hsy9 ((LNV_0s hFy.1).mpr (LNV_z hFy.1 z9))
        refine lv_aload_n hx hb d_NRunner_operateLong_156 rfl (lv_at hl 3 rfl) ?_
        refine pf_get (v := .ref (g.lk X 6)) (C := "BigRunner$Runner") (T := FT8) (N := 13) hx hb (hw8 hB _) (fun _ h9 => h9) hown hK hP (lo_in hL t_X (by decide)) e752 rfl 6 (by decide) (wd_338 hB _) rfl d_NRunner_operateLong_157 ?_
        refine lv_aload_n hx hb d_NRunner_operateLong_160 rfl (lv_at hl 2 rfl) ?_
        refine lv_aload_n hx hb d_NRunner_operateLong_161 rfl (lv_at hl 1 rfl) ?_
        refine lv_aload_n hx hb d_NRunner_operateLong_162 rfl (lv_at hl 4 rfl) ?_
        refine pf_get (v := .ref (g.lk (g.lk (g.lk pr 2) n) 6)) (C := "BigRunner$Node") (T := FT5) (N := 7) hx hb (hw5 hB _) (fun _ h9 => h9) hown hK hP (lo_in hL (lo_e25 hL _ (lo_k7_2 hL _ t_pr) _ (by omega)) (by decide)) eN rfl 6 (by decide) (wd_224 hB _) rfl d_NRunner_operateLong_163 ?_
        refine lv_aload_n hx hb d_NRunner_operateLong_166 rfl (lv_at hl 4 rfl) ?_
        refine pf_get (v := .int (nI 6)) (C := "BigRunner$Node") (T := FT5) (N := 7) hx hb (hw5 hB _) (fun _ h9 => h9) hown hK hP (lo_in hL (lo_e25 hL _ (lo_k7_2 hL _ t_pr) _ (by omega)) (by decide)) eN rfl 0 (by decide) (wd_204 hB _) rfl d_NRunner_operateLong_167 ?_
        refine lv_bipush (v := nI 7) hx hb d_NRunner_operateLong_170 (by decide) ?_
        refine lv_icmp_ne (tgt := 179) hx hb d_NRunner_operateLong_172 (by decide) (fun b791 => ?_) (fun b791 => ?_)
        · skip
          replace b791 := mt (nI_eq (a := 6) (b := 7) (by omega) (by omega)).mpr b791
          refine lv_iconst (v := nI 0) hx hb d_NRunner_operateLong_179 (by decide) ?_
          obtain ⟨n_793, e792, c794⟩ := oc_4.of (lo_k9_6 hL _ t_X) (hI1_781.1 (g.lk X 6))
          refine pcc_v (va_runV (C := "BigRunner$LongDivision") (As := [.ref (g.lk (g.lk (g.lk pr 2) le) 6), .ref (g.lk (g.lk (g.lk pr 2) ri) 6), .ref (g.lk (g.lk (g.lk pr 2) n) 6), .int (nI 0)]) (rest := []) ⟨hx, hb, hml, hown, tb_nil⟩ (v_divide0 l g H.size f777 ((g.lk X 6)) ((g.lk (g.lk (g.lk pr 2) le) 6)) sg769 nn770 dd771 vx ((g.lk (g.lk (g.lk pr 2) ri) 6)) sg783 nn784 dd785 vy ((g.lk (g.lk (g.lk pr 2) n) 6)) hL (lo_k9_6 hL _ t_X) (lo_k6_6 hL _ (lo_e25 hL _ (lo_k7_2 hL _ t_pr) _ (by omega))) (lo_k6_6 hL _ (lo_e25 hL _ (lo_k7_2 hL _ t_pr) _ (by omega))) (lo_k6_6 hL _ (lo_e25 hL _ (lo_k7_2 hL _ t_pr) _ (by omega))) hI1_781 e772 e773 hFx e786 e787 hFy (tn_ne ((lo_n6 hL _ (lo_e25 hL _ (lo_k7_2 hL _ t_pr) _ (by omega))).trans (lo_n25 hL _ (lo_k7_2 hL _ t_pr) _ (by omega))) ((lo_n6 hL _ (lo_e25 hL _ (lo_k7_2 hL _ t_pr) _ (by omega))).trans (lo_n25 hL _ (lo_k7_2 hL _ t_pr) _ (by omega))) (by omega)) (tn_ne ((lo_n6 hL _ (lo_e25 hL _ (lo_k7_2 hL _ t_pr) _ (by omega))).trans (lo_n25 hL _ (lo_k7_2 hL _ t_pr) _ (by omega))) ((lo_n6 hL _ (lo_e25 hL _ (lo_k7_2 hL _ t_pr) _ (by omega))).trans (lo_n25 hL _ (lo_k7_2 hL _ t_pr) _ (by omega))) (by omega)) (Nat.pos_of_ne_zero (fun z9 => hsy9 ((LNV_0s hFy.1).mpr z9)))) ⟨(callB_of 4 (tb_one (wd_806 hB _)) tb_good1 rfl rfl rfl (wd_81 hB _) (wd_803 hB _) (by decide +kernel) ⟨Nat.le_of_ble_eq_true rfl, Nat.le_of_ble_eq_true rfl⟩), (wd_804 hB _), (wd_805 hB _)⟩ ⟨pe_bl, pg_recv (ci := 3) hK hP (lo_in hL (lo_k9_6 hL _ t_X) (by decide)) e792 rfl, pe_pre hB hK hP hD⟩ rfl rfl hl.1 rfl (lv_room (Nat.le_of_ble_eq_true rfl)) d_NRunner_operateLong_180 ⟨Nat.le_of_ble_eq_true rfl, Nat.le_of_ble_eq_true rfl⟩) hS (fun f796 H locs hq797 hP hD hS => ?_)
          obtain ⟨lv_798, hI1_799, hk1_800⟩ := hq797
          have hu : ∀ b, b ≠ X → b ≠ (g.lk (g.lk (g.lk pr 2) n) 6) → b ≠ (g.lk (g.lk (g.lk (g.lk pr 2) n) 6) 2) → b ≠ (g.lk (g.lk (g.lk pr 2) le) 6) → b ≠ (g.lk (g.lk (g.lk (g.lk pr 2) le) 6) 2) → b ≠ (g.lk (g.lk (g.lk pr 2) ri) 6) → b ≠ (g.lk (g.lk (g.lk (g.lk pr 2) ri) 6) 2) → b ≠ (g.lk X 6) → b ≠ (g.lk (g.lk X 6) 0) → b ≠ (g.lk (g.lk X 6) 1) → f796 b = f b := fun b q0 q1 q2 q3 q4 q5 q6 q7 q8 q9 => (hk1_800 b q1 q2 q7 q8 q9).trans (hu b q0 q1 q2 q3 q4 q5 q6 q7 q8 q9)
          have eN := (hk1_800 (g.lk (g.lk pr 2) n) (tg_ne (lo_e25 hL _ (lo_k7_2 hL _ t_pr) _ (by omega)) (lo_k6_6 hL _ (lo_e25 hL _ (lo_k7_2 hL _ t_pr) _ (by omega))) (by decide)) (tg_ne (lo_e25 hL _ (lo_k7_2 hL _ t_pr) _ (by omega)) (lo_k5_2 hL _ (lo_k6_6 hL _ (lo_e25 hL _ (lo_k7_2 hL _ t_pr) _ (by omega)))) (by decide)) (tg_ne (lo_e25 hL _ (lo_k7_2 hL _ t_pr) _ (by omega)) (lo_k9_6 hL _ t_X) (by decide)) (tg_ne (lo_e25 hL _ (lo_k7_2 hL _ t_pr) _ (by omega)) (lo_k4_0 hL _ (lo_k9_6 hL _ t_X)) (by decide)) (tg_ne (lo_e25 hL _ (lo_k7_2 hL _ t_pr) _ (by omega)) (lo_k4_1 hL _ (lo_k9_6 hL _ t_X)) (by decide))).trans eN
          have eNx := (hk1_800 (g.lk (g.lk pr 2) le) (tg_ne (lo_e25 hL _ (lo_k7_2 hL _ t_pr) _ (by omega)) (lo_k6_6 hL _ (lo_e25 hL _ (lo_k7_2 hL _ t_pr) _ (by omega))) (by decide)) (tg_ne (lo_e25 hL _ (lo_k7_2 hL _ t_pr) _ (by omega)) (lo_k5_2 hL _ (lo_k6_6 hL _ (lo_e25 hL _ (lo_k7_2 hL _ t_pr) _ (by omega)))) (by decide)) (tg_ne (lo_e25 hL _ (lo_k7_2 hL _ t_pr) _ (by omega)) (lo_k9_6 hL _ t_X) (by decide)) (tg_ne (lo_e25 hL _ (lo_k7_2 hL _ t_pr) _ (by omega)) (lo_k4_0 hL _ (lo_k9_6 hL _ t_X)) (by decide)) (tg_ne (lo_e25 hL _ (lo_k7_2 hL _ t_pr) _ (by omega)) (lo_k4_1 hL _ (lo_k9_6 hL _ t_X)) (by decide))).trans eNx
          have eNy := (hk1_800 (g.lk (g.lk pr 2) ri) (tg_ne (lo_e25 hL _ (lo_k7_2 hL _ t_pr) _ (by omega)) (lo_k6_6 hL _ (lo_e25 hL _ (lo_k7_2 hL _ t_pr) _ (by omega))) (by decide)) (tg_ne (lo_e25 hL _ (lo_k7_2 hL _ t_pr) _ (by omega)) (lo_k5_2 hL _ (lo_k6_6 hL _ (lo_e25 hL _ (lo_k7_2 hL _ t_pr) _ (by omega)))) (by decide)) (tg_ne (lo_e25 hL _ (lo_k7_2 hL _ t_pr) _ (by omega)) (lo_k9_6 hL _ t_X) (by decide)) (tg_ne (lo_e25 hL _ (lo_k7_2 hL _ t_pr) _ (by omega)) (lo_k4_0 hL _ (lo_k9_6 hL _ t_X)) (by decide)) (tg_ne (lo_e25 hL _ (lo_k7_2 hL _ t_pr) _ (by omega)) (lo_k4_1 hL _ (lo_k9_6 hL _ t_X)) (by decide))).trans eNy
          have e752 := (hk1_800 X (tg_ne t_X (lo_k6_6 hL _ (lo_e25 hL _ (lo_k7_2 hL _ t_pr) _ (by omega))) (by decide)) (tg_ne t_X (lo_k5_2 hL _ (lo_k6_6 hL _ (lo_e25 hL _ (lo_k7_2 hL _ t_pr) _ (by omega)))) (by decide)) (tg_ne t_X (lo_k9_6 hL _ t_X) (by decide)) (tg_ne t_X (lo_k4_0 hL _ (lo_k9_6 hL _ t_X)) (by decide)) (tg_ne t_X (lo_k4_1 hL _ (lo_k9_6 hL _ t_X)) (by decide))).trans e752
          have e755 := (hk1_800 pr (tg_ne t_pr (lo_k6_6 hL _ (lo_e25 hL _ (lo_k7_2 hL _ t_pr) _ (by omega))) (by decide)) (tg_ne t_pr (lo_k5_2 hL _ (lo_k6_6 hL _ (lo_e25 hL _ (lo_k7_2 hL _ t_pr) _ (by omega)))) (by decide)) (tg_ne t_pr (lo_k9_6 hL _ t_X) (by decide)) (tg_ne t_pr (lo_k4_0 hL _ (lo_k9_6 hL _ t_X)) (by decide)) (tg_ne t_pr (lo_k4_1 hL _ (lo_k9_6 hL _ t_X)) (by decide))).trans e755
          have e760 := (hk1_800 (g.lk pr 2) (tg_ne (lo_k7_2 hL _ t_pr) (lo_k6_6 hL _ (lo_e25 hL _ (lo_k7_2 hL _ t_pr) _ (by omega))) (by decide)) (tg_ne (lo_k7_2 hL _ t_pr) (lo_k5_2 hL _ (lo_k6_6 hL _ (lo_e25 hL _ (lo_k7_2 hL _ t_pr) _ (by omega)))) (by decide)) (tg_ne (lo_k7_2 hL _ t_pr) (lo_k9_6 hL _ t_X) (by decide)) (tg_ne (lo_k7_2 hL _ t_pr) (lo_k4_0 hL _ (lo_k9_6 hL _ t_X)) (by decide)) (tg_ne (lo_k7_2 hL _ t_pr) (lo_k4_1 hL _ (lo_k9_6 hL _ t_X)) (by decide))).trans e760
          have e772 := (hk1_800 (g.lk (g.lk (g.lk pr 2) le) 6) (tn_ne ((lo_n6 hL _ (lo_e25 hL _ (lo_k7_2 hL _ t_pr) _ (by omega))).trans (lo_n25 hL _ (lo_k7_2 hL _ t_pr) _ (by omega))) ((lo_n6 hL _ (lo_e25 hL _ (lo_k7_2 hL _ t_pr) _ (by omega))).trans (lo_n25 hL _ (lo_k7_2 hL _ t_pr) _ (by omega))) (by omega)) (tg_ne (lo_k6_6 hL _ (lo_e25 hL _ (lo_k7_2 hL _ t_pr) _ (by omega))) (lo_k5_2 hL _ (lo_k6_6 hL _ (lo_e25 hL _ (lo_k7_2 hL _ t_pr) _ (by omega)))) (by decide)) (tg_ne (lo_k6_6 hL _ (lo_e25 hL _ (lo_k7_2 hL _ t_pr) _ (by omega))) (lo_k9_6 hL _ t_X) (by decide)) (tg_ne (lo_k6_6 hL _ (lo_e25 hL _ (lo_k7_2 hL _ t_pr) _ (by omega))) (lo_k4_0 hL _ (lo_k9_6 hL _ t_X)) (by decide)) (tg_ne (lo_k6_6 hL _ (lo_e25 hL _ (lo_k7_2 hL _ t_pr) _ (by omega))) (lo_k4_1 hL _ (lo_k9_6 hL _ t_X)) (by decide))).trans e772
          have e773 := (hk1_800 (g.lk (g.lk (g.lk (g.lk pr 2) le) 6) 2) (tg_ne (lo_k5_2 hL _ (lo_k6_6 hL _ (lo_e25 hL _ (lo_k7_2 hL _ t_pr) _ (by omega)))) (lo_k6_6 hL _ (lo_e25 hL _ (lo_k7_2 hL _ t_pr) _ (by omega))) (by decide)) (fun q9 => (tn_ne ((lo_n6 hL _ (lo_e25 hL _ (lo_k7_2 hL _ t_pr) _ (by omega))).trans (lo_n25 hL _ (lo_k7_2 hL _ t_pr) _ (by omega))) ((lo_n6 hL _ (lo_e25 hL _ (lo_k7_2 hL _ t_pr) _ (by omega))).trans (lo_n25 hL _ (lo_k7_2 hL _ t_pr) _ (by omega))) (by omega)) (lo_inj5 hL _ _ (lo_k6_6 hL _ (lo_e25 hL _ (lo_k7_2 hL _ t_pr) _ (by omega))) (lo_k6_6 hL _ (lo_e25 hL _ (lo_k7_2 hL _ t_pr) _ (by omega))) q9)) (tg_ne (lo_k5_2 hL _ (lo_k6_6 hL _ (lo_e25 hL _ (lo_k7_2 hL _ t_pr) _ (by omega)))) (lo_k9_6 hL _ t_X) (by decide)) (tg_ne (lo_k5_2 hL _ (lo_k6_6 hL _ (lo_e25 hL _ (lo_k7_2 hL _ t_pr) _ (by omega)))) (lo_k4_0 hL _ (lo_k9_6 hL _ t_X)) (by decide)) (tg_ne (lo_k5_2 hL _ (lo_k6_6 hL _ (lo_e25 hL _ (lo_k7_2 hL _ t_pr) _ (by omega)))) (lo_k4_1 hL _ (lo_k9_6 hL _ t_X)) (by decide))).trans e773
          have e786 := (hk1_800 (g.lk (g.lk (g.lk pr 2) ri) 6) (tn_ne ((lo_n6 hL _ (lo_e25 hL _ (lo_k7_2 hL _ t_pr) _ (by omega))).trans (lo_n25 hL _ (lo_k7_2 hL _ t_pr) _ (by omega))) ((lo_n6 hL _ (lo_e25 hL _ (lo_k7_2 hL _ t_pr) _ (by omega))).trans (lo_n25 hL _ (lo_k7_2 hL _ t_pr) _ (by omega))) (by omega)) (tg_ne (lo_k6_6 hL _ (lo_e25 hL _ (lo_k7_2 hL _ t_pr) _ (by omega))) (lo_k5_2 hL _ (lo_k6_6 hL _ (lo_e25 hL _ (lo_k7_2 hL _ t_pr) _ (by omega)))) (by decide)) (tg_ne (lo_k6_6 hL _ (lo_e25 hL _ (lo_k7_2 hL _ t_pr) _ (by omega))) (lo_k9_6 hL _ t_X) (by decide)) (tg_ne (lo_k6_6 hL _ (lo_e25 hL _ (lo_k7_2 hL _ t_pr) _ (by omega))) (lo_k4_0 hL _ (lo_k9_6 hL _ t_X)) (by decide)) (tg_ne (lo_k6_6 hL _ (lo_e25 hL _ (lo_k7_2 hL _ t_pr) _ (by omega))) (lo_k4_1 hL _ (lo_k9_6 hL _ t_X)) (by decide))).trans e786
          have e787 := (hk1_800 (g.lk (g.lk (g.lk (g.lk pr 2) ri) 6) 2) (tg_ne (lo_k5_2 hL _ (lo_k6_6 hL _ (lo_e25 hL _ (lo_k7_2 hL _ t_pr) _ (by omega)))) (lo_k6_6 hL _ (lo_e25 hL _ (lo_k7_2 hL _ t_pr) _ (by omega))) (by decide)) (fun q9 => (tn_ne ((lo_n6 hL _ (lo_e25 hL _ (lo_k7_2 hL _ t_pr) _ (by omega))).trans (lo_n25 hL _ (lo_k7_2 hL _ t_pr) _ (by omega))) ((lo_n6 hL _ (lo_e25 hL _ (lo_k7_2 hL _ t_pr) _ (by omega))).trans (lo_n25 hL _ (lo_k7_2 hL _ t_pr) _ (by omega))) (by omega)) (lo_inj5 hL _ _ (lo_k6_6 hL _ (lo_e25 hL _ (lo_k7_2 hL _ t_pr) _ (by omega))) (lo_k6_6 hL _ (lo_e25 hL _ (lo_k7_2 hL _ t_pr) _ (by omega))) q9)) (tg_ne (lo_k5_2 hL _ (lo_k6_6 hL _ (lo_e25 hL _ (lo_k7_2 hL _ t_pr) _ (by omega)))) (lo_k9_6 hL _ t_X) (by decide)) (tg_ne (lo_k5_2 hL _ (lo_k6_6 hL _ (lo_e25 hL _ (lo_k7_2 hL _ t_pr) _ (by omega)))) (lo_k4_0 hL _ (lo_k9_6 hL _ t_X)) (by decide)) (tg_ne (lo_k5_2 hL _ (lo_k6_6 hL _ (lo_e25 hL _ (lo_k7_2 hL _ t_pr) _ (by omega)))) (lo_k4_1 hL _ (lo_k9_6 hL _ t_X)) (by decide))).trans e787
          obtain ⟨sg801, nn802, dd803, e804, e805, hN806⟩ := lv_798
          have c807 : ∀ i, i < 15 → ∃ k, k < 1000000000 ∧ dd803 i = nI k := hN806.2.1
          have hnn802 : nn802 ≤ 15 := hN806.1
          refine lv_iload hx hb d_NRunner_operateLong_183 (lv_at hl 0 rfl) ?_
          refine lv_if_eq (tgt := 192) hx hb d_NRunner_operateLong_185 (by decide) (fun b808 => ?_) (fun b808 => ?_)
          · skip
            replace b808 := (nI_eq (a := 1) (b := 0) (by omega) (by omega)).mp b808
            exfalso; omega
          · skip
            replace b808 := mt (nI_eq (a := 1) (b := 0) (by omega) (by omega)).mpr b808
            refine lv_iconst (v := nI 0) hx hb d_NRunner_operateLong_188 (by decide) ?_
            refine lv_goto (tgt := 193) hx hb d_NRunner_operateLong_189 (by decide) ?_
            exact pe_iret hx hb hr hlocks hK hP hD hS d_NRunner_operateLong_193 ⟨⟨(lo + ((nI 1))), e752⟩, (congrArg nI (otr_0 (w := 5) (x := vx) (y := vy) (by decide) (Or.inr hvy9) (td_le htx).1).symm), (fun _ => ⟨_, _, _, e804, e805, hN806⟩), hI1_799, hu⟩
        · skip
          replace b791 := (nI_eq (a := 6) (b := 7) (by omega) (by omega)).mp b791
          exfalso; omega
      · skip
        have hsy8 : sg783 = nI 0 := by first | exact b790 | exact Decidable.not_not.mp b790
        have hvy8 : vy = 0 := LNV_v0 hFy.1 hsy8
        refine lv_iconst (v := nI 1) hx hb d_NRunner_operateLong_154 (by decide) ?_
        exact pe_iret hx hb hr hlocks hK hP hD hS d_NRunner_operateLong_155 ⟨⟨(lo + ((nI 1))), e752⟩, (congrArg nI (otr_1 (by decide) (by decide) hvy8).symm), (fun z9 => absurd (z9.symm.trans (otr_1 (by decide) (by decide) hvy8)) (by decide)), hI1_781, hu⟩
  · skip
    rw [show km 6 = 7 from rfl] at eN
    rcases hsx with rfl | rfl <;> rcases hsy with rfl | rfl
    · skip
      obtain ⟨kx1, kx2, kx3, mx, eNx, hsx, hlx, htx⟩ := hVx
      obtain ⟨sgx, nx, dx, eax, ebx, hNx⟩ := hlx rfl
      have hFx : LNF sgx nx dx vx := ⟨hNx, htx⟩
      have cbx : ∀ i, i < 15 → ∃ k, k < 1000000000 ∧ dx i = nI k := hNx.2.1
      have hnx : nx ≤ 15 := hNx.1
      obtain ⟨ky1, ky2, ky3, my, eNy, hsy, hly, hty⟩ := hVy
      obtain ⟨sgy, ny, dy, eay, eby, hNy⟩ := hly rfl
      have hFy : LNF sgy ny dy vy := ⟨hNy, hty⟩
      have cby : ∀ i, i < 15 → ∃ k, k < 1000000000 ∧ dy i = nI k := hNy.2.1
      have hny : ny ≤ 15 := hNy.1
      refine lv_aload_n hx hb d_NRunner_operateLong_0 rfl (lv_at hl 0 rfl) ?_
      refine lv_dup hx hb d_NRunner_operateLong_1 rfl ?_
      refine pf_get (v := .int lo) (C := "BigRunner$Runner") (T := FT8) (N := 13) hx hb (hw8 hB _) (fun _ h9 => h9) hown hK hP (lo_in hL t_X (by decide)) eX rfl 11 (by decide) (wd_347 hB _) rfl d_NRunner_operateLong_2 ?_
      refine lv_iconst (v := nI 1) hx hb d_NRunner_operateLong_5 (by decide) ?_
      refine lv_iadd hx hb d_NRunner_operateLong_6 ?_
      refine pf_put (v := .int (lo + ((nI 1)))) (ty := .int) (fs' := [.ref pr, .ref (g.lk X 1), .int (nI ix), .ref (g.lk X 3), .ref (g.lk X 4), .ref (g.lk X 5), .ref (g.lk X 6), .ref (g.lk X 7), .int (nI os), .int (nI st), .int mo, .int (lo + ((nI 1))), .int (nI tr)]) (C := "BigRunner$Runner") (T := FT8) (N := 13) hx hb (hw8 hB _) (fun _ h9 => h9) TY8 ok8 nm8 hown hK hP hD hS (lo_in hL t_X (by decide)) eX rfl 11 (by decide) (wd_347 hB _) rfl (by decide +kernel) rfl rfl (Nat.le_of_ble_eq_true rfl) rfl d_NRunner_operateLong_7 (fun f809 H locs e810 k811 hP hD hS => ?_)
      have eN := (k811 (g.lk (g.lk pr 2) n) (tg_ne (lo_e25 hL _ (lo_k7_2 hL _ t_pr) _ (by omega)) t_X (by decide))).trans eN
      have eNx := (k811 (g.lk (g.lk pr 2) le) (tg_ne (lo_e25 hL _ (lo_k7_2 hL _ t_pr) _ (by omega)) t_X (by decide))).trans eNx
      have eax := (k811 (g.lk (g.lk (g.lk pr 2) le) 6) (tg_ne (lo_k6_6 hL _ (lo_e25 hL _ (lo_k7_2 hL _ t_pr) _ (by omega))) t_X (by decide))).trans eax
      have ebx := (k811 (g.lk (g.lk (g.lk (g.lk pr 2) le) 6) 2) (tg_ne (lo_k5_2 hL _ (lo_k6_6 hL _ (lo_e25 hL _ (lo_k7_2 hL _ t_pr) _ (by omega)))) t_X (by decide))).trans ebx
      have eNy := (k811 (g.lk (g.lk pr 2) ri) (tg_ne (lo_e25 hL _ (lo_k7_2 hL _ t_pr) _ (by omega)) t_X (by decide))).trans eNy
      have eay := (k811 (g.lk (g.lk (g.lk pr 2) ri) 6) (tg_ne (lo_k6_6 hL _ (lo_e25 hL _ (lo_k7_2 hL _ t_pr) _ (by omega))) t_X (by decide))).trans eay
      have eby := (k811 (g.lk (g.lk (g.lk (g.lk pr 2) ri) 6) 2) (tg_ne (lo_k5_2 hL _ (lo_k6_6 hL _ (lo_e25 hL _ (lo_k7_2 hL _ t_pr) _ (by omega)))) t_X (by decide))).trans eby
      have hu : ∀ b, b ≠ X → b ≠ (g.lk (g.lk (g.lk pr 2) n) 6) → b ≠ (g.lk (g.lk (g.lk (g.lk pr 2) n) 6) 2) → b ≠ (g.lk (g.lk (g.lk pr 2) le) 6) → b ≠ (g.lk (g.lk (g.lk (g.lk pr 2) le) 6) 2) → b ≠ (g.lk (g.lk (g.lk pr 2) ri) 6) → b ≠ (g.lk (g.lk (g.lk (g.lk pr 2) ri) 6) 2) → b ≠ (g.lk X 6) → b ≠ (g.lk (g.lk X 6) 0) → b ≠ (g.lk (g.lk X 6) 1) → f809 b = f b := fun b q0 q1 q2 q3 q4 q5 q6 q7 q8 q9 => (k811 b q0).trans (hu b q0 q1 q2 q3 q4 q5 q6 q7 q8 q9)
      have hk812 : ∀ b, b ≠ X → f809 b = f b := k811
      refine lv_aload_n hx hb d_NRunner_operateLong_10 rfl (lv_at hl 0 rfl) ?_
      refine pf_get (v := .ref pr) (C := "BigRunner$Runner") (T := FT8) (N := 13) hx hb (hw8 hB _) (fun _ h9 => h9) hown hK hP (lo_in hL t_X (by decide)) e810 rfl 0 (by decide) (wd_330 hB _) rfl d_NRunner_operateLong_11 ?_
      obtain ⟨sc_814, nc_815, e813, c816, c817⟩ := oc_7.of t_pr (hI.1 pr)
      replace e813 := (hk812 pr (tg_ne t_pr t_X (by decide))).trans e813
      refine pf_get (v := .ref (g.lk pr 2)) (C := "BigRunner$Program") (T := FT6) (N := 6) hx hb (hw6 hB _) (fun _ h9 => h9) hown hK hP (lo_in hL t_pr (by decide)) e813 rfl 2 (by decide) (wd_249 hB _) rfl d_NRunner_operateLong_14 ?_
      refine lv_aload_n hx hb d_NRunner_operateLong_17 rfl (lv_at hl 1 rfl) ?_
      refine pf_get (v := .int (nI le)) (C := "BigRunner$Node") (T := FT5) (N := 7) hx hb (hw5 hB _) (fun _ h9 => h9) hown hK hP (lo_in hL (lo_e25 hL _ (lo_k7_2 hL _ t_pr) _ (by omega)) (by decide)) eN rfl 1 (by decide) (wd_208 hB _) rfl d_NRunner_operateLong_18 ?_
      have e818 := oc_25.of (lo_k7_2 hL _ t_pr) (hI.1 (g.lk pr 2))
      replace e818 := (hk812 (g.lk pr 2) (tg_ne (lo_k7_2 hL _ t_pr) t_X (by decide))).trans e818
      refine pf_aald (i := le) hx hb hK hP (lo_in hL (lo_k7_2 hL _ t_pr) (by decide)) e818 (lo_t25 hL _ (lo_k7_2 hL _ t_pr)) (by omega) (by decide) d_NRunner_operateLong_21 ?_
      have hI819 := iv_1 hI hL t_X (by decide) hk812 (oc_9.mk t_X (⟨pr, ix, os, st, mo, ((lo + ((nI 1)))), tr, e810, t_pr, (by omega), (by omega), (by omega), (by omega)⟩))
      refine pcc_r (va_runV (C := "BigRunner$Node") (As := []) (rest := []) ⟨hx, hb, hml, hown, tb_nil⟩ (v_widenedL l g H.size f809 ((g.lk (g.lk pr 2) le)) kx1 kx2 kx3 mx hL (lo_e25 hL _ (lo_k7_2 hL _ t_pr) _ (by omega)) hI819.1 eNx) ⟨(callB_of 0 (tb_one (wd_761 hB _)) tb_good1 rfl rfl rfl (wd_77 hB _) (wd_758 hB _) (by decide +kernel) ⟨Nat.le_of_ble_eq_true rfl, Nat.le_of_ble_eq_true rfl⟩), (wd_759 hB _), (wd_760 hB _)⟩ ⟨pe_bl, pg_recv (ci := 5) hK hP (lo_in hL (lo_e25 hL _ (lo_k7_2 hL _ t_pr) _ (by omega)) (by decide)) eNx rfl, pe_pre hB hK hP hD⟩ rfl rfl hl.1 rfl (lv_room (Nat.le_of_ble_eq_true rfl)) d_NRunner_operateLong_22 ⟨Nat.le_of_ble_eq_true rfl, Nat.le_of_ble_eq_true rfl⟩) hS (fun r820 f821 H locs hq822 hP hD hS => ?_)
      obtain ⟨ra_823, rfl⟩ := hq822
      subst ra_823
      refine lv_astore_n (lv' := [(2, .ref (g.lk (g.lk (g.lk pr 2) le) 6)), (0, .ref X), (1, .ref (g.lk (g.lk pr 2) n))]) hx hb d_NRunner_operateLong_25 rfl hl (by decide) rfl (fun ls hl => ?_)
      refine lv_aload_n hx hb d_NRunner_operateLong_26 rfl (lv_at hl 1 rfl) ?_
      refine pf_get (v := .ref pr) (C := "BigRunner$Runner") (T := FT8) (N := 13) hx hb (hw8 hB _) (fun _ h9 => h9) hown hK hP (lo_in hL t_X (by decide)) e810 rfl 0 (by decide) (wd_330 hB _) rfl d_NRunner_operateLong_27 ?_
      refine pf_get (v := .ref (g.lk pr 2)) (C := "BigRunner$Program") (T := FT6) (N := 6) hx hb (hw6 hB _) (fun _ h9 => h9) hown hK hP (lo_in hL t_pr (by decide)) e813 rfl 2 (by decide) (wd_249 hB _) rfl d_NRunner_operateLong_30 ?_
      refine lv_aload_n hx hb d_NRunner_operateLong_33 rfl (lv_at hl 2 rfl) ?_
      refine pf_get (v := .int (nI ri)) (C := "BigRunner$Node") (T := FT5) (N := 7) hx hb (hw5 hB _) (fun _ h9 => h9) hown hK hP (lo_in hL (lo_e25 hL _ (lo_k7_2 hL _ t_pr) _ (by omega)) (by decide)) eN rfl 2 (by decide) (wd_212 hB _) rfl d_NRunner_operateLong_34 ?_
      refine pf_aald (i := ri) hx hb hK hP (lo_in hL (lo_k7_2 hL _ t_pr) (by decide)) e818 (lo_t25 hL _ (lo_k7_2 hL _ t_pr)) (by omega) (by decide) d_NRunner_operateLong_37 ?_
      refine pcc_r (va_runV (C := "BigRunner$Node") (As := []) (rest := []) ⟨hx, hb, hml, hown, tb_nil⟩ (v_widenedL l g H.size f809 ((g.lk (g.lk pr 2) ri)) ky1 ky2 ky3 my hL (lo_e25 hL _ (lo_k7_2 hL _ t_pr) _ (by omega)) hI819.1 eNy) ⟨(callB_of 0 (tb_one (wd_761 hB _)) tb_good1 rfl rfl rfl (wd_77 hB _) (wd_758 hB _) (by decide +kernel) ⟨Nat.le_of_ble_eq_true rfl, Nat.le_of_ble_eq_true rfl⟩), (wd_759 hB _), (wd_760 hB _)⟩ ⟨pe_bl, pg_recv (ci := 5) hK hP (lo_in hL (lo_e25 hL _ (lo_k7_2 hL _ t_pr) _ (by omega)) (by decide)) eNy rfl, pe_pre hB hK hP hD⟩ rfl rfl hl.1 rfl (lv_room (Nat.le_of_ble_eq_true rfl)) d_NRunner_operateLong_38 ⟨Nat.le_of_ble_eq_true rfl, Nat.le_of_ble_eq_true rfl⟩) hS (fun r824 f825 H locs hq826 hP hD hS => ?_)
      obtain ⟨ra_827, rfl⟩ := hq826
      subst ra_827
      refine lv_astore_n (lv' := [(3, .ref (g.lk (g.lk (g.lk pr 2) ri) 6)), (2, .ref (g.lk (g.lk (g.lk pr 2) le) 6)), (0, .ref X), (1, .ref (g.lk (g.lk pr 2) n))]) hx hb d_NRunner_operateLong_41 rfl hl (by decide) rfl (fun ls hl => ?_)
      refine lv_iconst (v := nI 1) hx hb d_NRunner_operateLong_42 (by decide) ?_
      refine lv_istore (lv' := [(4, .int (nI 1)), (3, .ref (g.lk (g.lk (g.lk pr 2) ri) 6)), (2, .ref (g.lk (g.lk (g.lk pr 2) le) 6)), (0, .ref X), (1, .ref (g.lk (g.lk pr 2) n))]) hx hb d_NRunner_operateLong_43 hl (by decide) rfl (fun ls hl => ?_)
      refine lv_aload_n hx hb d_NRunner_operateLong_45 rfl (lv_at hl 4 rfl) ?_
      refine pf_get (v := .int (nI 7)) (C := "BigRunner$Node") (T := FT5) (N := 7) hx hb (hw5 hB _) (fun _ h9 => h9) hown hK hP (lo_in hL (lo_e25 hL _ (lo_k7_2 hL _ t_pr) _ (by omega)) (by decide)) eN rfl 0 (by decide) (wd_204 hB _) rfl d_NRunner_operateLong_46 ?_
      refine lv_tableOut (tgt := 147) hx hb d_NRunner_operateLong_49 (by rw [nI_toInt (by omega)]; omega) (by decide) ?_
      refine lv_aload_n hx hb d_NRunner_operateLong_147 rfl (lv_at hl 1 rfl) ?_
      refine pf_get (v := .int sgy) (C := "BigRunner$LongNumber") (T := FT4) (N := 3) hx hb (hw4 hB _) (fun _ h9 => h9) hown hK hP (lo_in hL (lo_k6_6 hL _ (lo_e25 hL _ (lo_k7_2 hL _ t_pr) _ (by omega))) (by decide)) eay rfl 0 (by decide) (wd_189 hB _) rfl d_NRunner_operateLong_148 ?_
      refine lv_if_ne (tgt := 156) hx hb d_NRunner_operateLong_151 (by decide) (fun b828 => ?_) (fun b828 => ?_)
      · skip
        have hsy9 : ¬ sgy = nI 0 := b828
        have hvy9 : vy ≠ 0 := fun z9 => hsy9 ((LNV_0s hFy.1).mpr (LNV_z hFy.1 z9))
        refine lv_aload_n hx hb d_NRunner_operateLong_156 rfl (lv_at hl 3 rfl) ?_
        refine pf_get (v := .ref (g.lk X 6)) (C := "BigRunner$Runner") (T := FT8) (N := 13) hx hb (hw8 hB _) (fun _ h9 => h9) hown hK hP (lo_in hL t_X (by decide)) e810 rfl 6 (by decide) (wd_338 hB _) rfl d_NRunner_operateLong_157 ?_
        refine lv_aload_n hx hb d_NRunner_operateLong_160 rfl (lv_at hl 2 rfl) ?_
        refine lv_aload_n hx hb d_NRunner_operateLong_161 rfl (lv_at hl 1 rfl) ?_
        refine lv_aload_n hx hb d_NRunner_operateLong_162 rfl (lv_at hl 4 rfl) ?_
        refine pf_get (v := .ref (g.lk (g.lk (g.lk pr 2) n) 6)) (C := "BigRunner$Node") (T := FT5) (N := 7) hx hb (hw5 hB _) (fun _ h9 => h9) hown hK hP (lo_in hL (lo_e25 hL _ (lo_k7_2 hL _ t_pr) _ (by omega)) (by decide)) eN rfl 6 (by decide) (wd_224 hB _) rfl d_NRunner_operateLong_163 ?_
        refine lv_aload_n hx hb d_NRunner_operateLong_166 rfl (lv_at hl 4 rfl) ?_
        refine pf_get (v := .int (nI 7)) (C := "BigRunner$Node") (T := FT5) (N := 7) hx hb (hw5 hB _) (fun _ h9 => h9) hown hK hP (lo_in hL (lo_e25 hL _ (lo_k7_2 hL _ t_pr) _ (by omega)) (by decide)) eN rfl 0 (by decide) (wd_204 hB _) rfl d_NRunner_operateLong_167 ?_
        refine lv_bipush (v := nI 7) hx hb d_NRunner_operateLong_170 (by decide) ?_
        refine lv_icmp_ne (tgt := 179) hx hb d_NRunner_operateLong_172 (by decide) (fun b829 => ?_) (fun b829 => ?_)
        · skip
          replace b829 := mt (nI_eq (a := 7) (b := 7) (by omega) (by omega)).mpr b829
          exfalso; omega
        · skip
          replace b829 := (nI_eq (a := 7) (b := 7) (by omega) (by omega)).mp b829
          refine lv_iconst (v := nI 1) hx hb d_NRunner_operateLong_175 (by decide) ?_
          refine lv_goto (tgt := 180) hx hb d_NRunner_operateLong_176 (by decide) ?_
          obtain ⟨n_831, e830, c832⟩ := oc_4.of (lo_k9_6 hL _ t_X) (hI819.1 (g.lk X 6))
          refine pcc_v (va_runV (C := "BigRunner$LongDivision") (As := [.ref (g.lk (g.lk (g.lk pr 2) le) 6), .ref (g.lk (g.lk (g.lk pr 2) ri) 6), .ref (g.lk (g.lk (g.lk pr 2) n) 6), .int (nI 1)]) (rest := []) ⟨hx, hb, hml, hown, tb_nil⟩ (v_divide1 l g H.size f809 ((g.lk X 6)) ((g.lk (g.lk (g.lk pr 2) le) 6)) sgx nx dx vx ((g.lk (g.lk (g.lk pr 2) ri) 6)) sgy ny dy vy ((g.lk (g.lk (g.lk pr 2) n) 6)) hL (lo_k9_6 hL _ t_X) (lo_k6_6 hL _ (lo_e25 hL _ (lo_k7_2 hL _ t_pr) _ (by omega))) (lo_k6_6 hL _ (lo_e25 hL _ (lo_k7_2 hL _ t_pr) _ (by omega))) (lo_k6_6 hL _ (lo_e25 hL _ (lo_k7_2 hL _ t_pr) _ (by omega))) hI819 eax ebx hFx eay eby hFy (tn_ne ((lo_n6 hL _ (lo_e25 hL _ (lo_k7_2 hL _ t_pr) _ (by omega))).trans (lo_n25 hL _ (lo_k7_2 hL _ t_pr) _ (by omega))) ((lo_n6 hL _ (lo_e25 hL _ (lo_k7_2 hL _ t_pr) _ (by omega))).trans (lo_n25 hL _ (lo_k7_2 hL _ t_pr) _ (by omega))) (by omega)) (tn_ne ((lo_n6 hL _ (lo_e25 hL _ (lo_k7_2 hL _ t_pr) _ (by omega))).trans (lo_n25 hL _ (lo_k7_2 hL _ t_pr) _ (by omega))) ((lo_n6 hL _ (lo_e25 hL _ (lo_k7_2 hL _ t_pr) _ (by omega))).trans (lo_n25 hL _ (lo_k7_2 hL _ t_pr) _ (by omega))) (by omega)) (Nat.pos_of_ne_zero (fun z9 => hsy9 ((LNV_0s hFy.1).mpr z9)))) ⟨(callB_of 4 (tb_one (wd_806 hB _)) tb_good1 rfl rfl rfl (wd_81 hB _) (wd_803 hB _) (by decide +kernel) ⟨Nat.le_of_ble_eq_true rfl, Nat.le_of_ble_eq_true rfl⟩), (wd_804 hB _), (wd_805 hB _)⟩ ⟨pe_bl, pg_recv (ci := 3) hK hP (lo_in hL (lo_k9_6 hL _ t_X) (by decide)) e830 rfl, pe_pre hB hK hP hD⟩ rfl rfl hl.1 rfl (lv_room (Nat.le_of_ble_eq_true rfl)) d_NRunner_operateLong_180 ⟨Nat.le_of_ble_eq_true rfl, Nat.le_of_ble_eq_true rfl⟩) hS (fun f834 H locs hq835 hP hD hS => ?_)
          obtain ⟨lv_836, hI1_837, hk1_838⟩ := hq835
          have hu : ∀ b, b ≠ X → b ≠ (g.lk (g.lk (g.lk pr 2) n) 6) → b ≠ (g.lk (g.lk (g.lk (g.lk pr 2) n) 6) 2) → b ≠ (g.lk (g.lk (g.lk pr 2) le) 6) → b ≠ (g.lk (g.lk (g.lk (g.lk pr 2) le) 6) 2) → b ≠ (g.lk (g.lk (g.lk pr 2) ri) 6) → b ≠ (g.lk (g.lk (g.lk (g.lk pr 2) ri) 6) 2) → b ≠ (g.lk X 6) → b ≠ (g.lk (g.lk X 6) 0) → b ≠ (g.lk (g.lk X 6) 1) → f834 b = f b := fun b q0 q1 q2 q3 q4 q5 q6 q7 q8 q9 => (hk1_838 b q1 q2 q7 q8 q9).trans (hu b q0 q1 q2 q3 q4 q5 q6 q7 q8 q9)
          have eN := (hk1_838 (g.lk (g.lk pr 2) n) (tg_ne (lo_e25 hL _ (lo_k7_2 hL _ t_pr) _ (by omega)) (lo_k6_6 hL _ (lo_e25 hL _ (lo_k7_2 hL _ t_pr) _ (by omega))) (by decide)) (tg_ne (lo_e25 hL _ (lo_k7_2 hL _ t_pr) _ (by omega)) (lo_k5_2 hL _ (lo_k6_6 hL _ (lo_e25 hL _ (lo_k7_2 hL _ t_pr) _ (by omega)))) (by decide)) (tg_ne (lo_e25 hL _ (lo_k7_2 hL _ t_pr) _ (by omega)) (lo_k9_6 hL _ t_X) (by decide)) (tg_ne (lo_e25 hL _ (lo_k7_2 hL _ t_pr) _ (by omega)) (lo_k4_0 hL _ (lo_k9_6 hL _ t_X)) (by decide)) (tg_ne (lo_e25 hL _ (lo_k7_2 hL _ t_pr) _ (by omega)) (lo_k4_1 hL _ (lo_k9_6 hL _ t_X)) (by decide))).trans eN
          have eNx := (hk1_838 (g.lk (g.lk pr 2) le) (tg_ne (lo_e25 hL _ (lo_k7_2 hL _ t_pr) _ (by omega)) (lo_k6_6 hL _ (lo_e25 hL _ (lo_k7_2 hL _ t_pr) _ (by omega))) (by decide)) (tg_ne (lo_e25 hL _ (lo_k7_2 hL _ t_pr) _ (by omega)) (lo_k5_2 hL _ (lo_k6_6 hL _ (lo_e25 hL _ (lo_k7_2 hL _ t_pr) _ (by omega)))) (by decide)) (tg_ne (lo_e25 hL _ (lo_k7_2 hL _ t_pr) _ (by omega)) (lo_k9_6 hL _ t_X) (by decide)) (tg_ne (lo_e25 hL _ (lo_k7_2 hL _ t_pr) _ (by omega)) (lo_k4_0 hL _ (lo_k9_6 hL _ t_X)) (by decide)) (tg_ne (lo_e25 hL _ (lo_k7_2 hL _ t_pr) _ (by omega)) (lo_k4_1 hL _ (lo_k9_6 hL _ t_X)) (by decide))).trans eNx
          have eax := (hk1_838 (g.lk (g.lk (g.lk pr 2) le) 6) (tn_ne ((lo_n6 hL _ (lo_e25 hL _ (lo_k7_2 hL _ t_pr) _ (by omega))).trans (lo_n25 hL _ (lo_k7_2 hL _ t_pr) _ (by omega))) ((lo_n6 hL _ (lo_e25 hL _ (lo_k7_2 hL _ t_pr) _ (by omega))).trans (lo_n25 hL _ (lo_k7_2 hL _ t_pr) _ (by omega))) (by omega)) (tg_ne (lo_k6_6 hL _ (lo_e25 hL _ (lo_k7_2 hL _ t_pr) _ (by omega))) (lo_k5_2 hL _ (lo_k6_6 hL _ (lo_e25 hL _ (lo_k7_2 hL _ t_pr) _ (by omega)))) (by decide)) (tg_ne (lo_k6_6 hL _ (lo_e25 hL _ (lo_k7_2 hL _ t_pr) _ (by omega))) (lo_k9_6 hL _ t_X) (by decide)) (tg_ne (lo_k6_6 hL _ (lo_e25 hL _ (lo_k7_2 hL _ t_pr) _ (by omega))) (lo_k4_0 hL _ (lo_k9_6 hL _ t_X)) (by decide)) (tg_ne (lo_k6_6 hL _ (lo_e25 hL _ (lo_k7_2 hL _ t_pr) _ (by omega))) (lo_k4_1 hL _ (lo_k9_6 hL _ t_X)) (by decide))).trans eax
          have ebx := (hk1_838 (g.lk (g.lk (g.lk (g.lk pr 2) le) 6) 2) (tg_ne (lo_k5_2 hL _ (lo_k6_6 hL _ (lo_e25 hL _ (lo_k7_2 hL _ t_pr) _ (by omega)))) (lo_k6_6 hL _ (lo_e25 hL _ (lo_k7_2 hL _ t_pr) _ (by omega))) (by decide)) (fun q9 => (tn_ne ((lo_n6 hL _ (lo_e25 hL _ (lo_k7_2 hL _ t_pr) _ (by omega))).trans (lo_n25 hL _ (lo_k7_2 hL _ t_pr) _ (by omega))) ((lo_n6 hL _ (lo_e25 hL _ (lo_k7_2 hL _ t_pr) _ (by omega))).trans (lo_n25 hL _ (lo_k7_2 hL _ t_pr) _ (by omega))) (by omega)) (lo_inj5 hL _ _ (lo_k6_6 hL _ (lo_e25 hL _ (lo_k7_2 hL _ t_pr) _ (by omega))) (lo_k6_6 hL _ (lo_e25 hL _ (lo_k7_2 hL _ t_pr) _ (by omega))) q9)) (tg_ne (lo_k5_2 hL _ (lo_k6_6 hL _ (lo_e25 hL _ (lo_k7_2 hL _ t_pr) _ (by omega)))) (lo_k9_6 hL _ t_X) (by decide)) (tg_ne (lo_k5_2 hL _ (lo_k6_6 hL _ (lo_e25 hL _ (lo_k7_2 hL _ t_pr) _ (by omega)))) (lo_k4_0 hL _ (lo_k9_6 hL _ t_X)) (by decide)) (tg_ne (lo_k5_2 hL _ (lo_k6_6 hL _ (lo_e25 hL _ (lo_k7_2 hL _ t_pr) _ (by omega)))) (lo_k4_1 hL _ (lo_k9_6 hL _ t_X)) (by decide))).trans ebx
          have eNy := (hk1_838 (g.lk (g.lk pr 2) ri) (tg_ne (lo_e25 hL _ (lo_k7_2 hL _ t_pr) _ (by omega)) (lo_k6_6 hL _ (lo_e25 hL _ (lo_k7_2 hL _ t_pr) _ (by omega))) (by decide)) (tg_ne (lo_e25 hL _ (lo_k7_2 hL _ t_pr) _ (by omega)) (lo_k5_2 hL _ (lo_k6_6 hL _ (lo_e25 hL _ (lo_k7_2 hL _ t_pr) _ (by omega)))) (by decide)) (tg_ne (lo_e25 hL _ (lo_k7_2 hL _ t_pr) _ (by omega)) (lo_k9_6 hL _ t_X) (by decide)) (tg_ne (lo_e25 hL _ (lo_k7_2 hL _ t_pr) _ (by omega)) (lo_k4_0 hL _ (lo_k9_6 hL _ t_X)) (by decide)) (tg_ne (lo_e25 hL _ (lo_k7_2 hL _ t_pr) _ (by omega)) (lo_k4_1 hL _ (lo_k9_6 hL _ t_X)) (by decide))).trans eNy
          have eay := (hk1_838 (g.lk (g.lk (g.lk pr 2) ri) 6) (tn_ne ((lo_n6 hL _ (lo_e25 hL _ (lo_k7_2 hL _ t_pr) _ (by omega))).trans (lo_n25 hL _ (lo_k7_2 hL _ t_pr) _ (by omega))) ((lo_n6 hL _ (lo_e25 hL _ (lo_k7_2 hL _ t_pr) _ (by omega))).trans (lo_n25 hL _ (lo_k7_2 hL _ t_pr) _ (by omega))) (by omega)) (tg_ne (lo_k6_6 hL _ (lo_e25 hL _ (lo_k7_2 hL _ t_pr) _ (by omega))) (lo_k5_2 hL _ (lo_k6_6 hL _ (lo_e25 hL _ (lo_k7_2 hL _ t_pr) _ (by omega)))) (by decide)) (tg_ne (lo_k6_6 hL _ (lo_e25 hL _ (lo_k7_2 hL _ t_pr) _ (by omega))) (lo_k9_6 hL _ t_X) (by decide)) (tg_ne (lo_k6_6 hL _ (lo_e25 hL _ (lo_k7_2 hL _ t_pr) _ (by omega))) (lo_k4_0 hL _ (lo_k9_6 hL _ t_X)) (by decide)) (tg_ne (lo_k6_6 hL _ (lo_e25 hL _ (lo_k7_2 hL _ t_pr) _ (by omega))) (lo_k4_1 hL _ (lo_k9_6 hL _ t_X)) (by decide))).trans eay
          have eby := (hk1_838 (g.lk (g.lk (g.lk (g.lk pr 2) ri) 6) 2) (tg_ne (lo_k5_2 hL _ (lo_k6_6 hL _ (lo_e25 hL _ (lo_k7_2 hL _ t_pr) _ (by omega)))) (lo_k6_6 hL _ (lo_e25 hL _ (lo_k7_2 hL _ t_pr) _ (by omega))) (by decide)) (fun q9 => (tn_ne ((lo_n6 hL _ (lo_e25 hL _ (lo_k7_2 hL _ t_pr) _ (by omega))).trans (lo_n25 hL _ (lo_k7_2 hL _ t_pr) _ (by omega))) ((lo_n6 hL _ (lo_e25 hL _ (lo_k7_2 hL _ t_pr) _ (by omega))).trans (lo_n25 hL _ (lo_k7_2 hL _ t_pr) _ (by omega))) (by omega)) (lo_inj5 hL _ _ (lo_k6_6 hL _ (lo_e25 hL _ (lo_k7_2 hL _ t_pr) _ (by omega))) (lo_k6_6 hL _ (lo_e25 hL _ (lo_k7_2 hL _ t_pr) _ (by omega))) q9)) (tg_ne (lo_k5_2 hL _ (lo_k6_6 hL _ (lo_e25 hL _ (lo_k7_2 hL _ t_pr) _ (by omega)))) (lo_k9_6 hL _ t_X) (by decide)) (tg_ne (lo_k5_2 hL _ (lo_k6_6 hL _ (lo_e25 hL _ (lo_k7_2 hL _ t_pr) _ (by omega)))) (lo_k4_0 hL _ (lo_k9_6 hL _ t_X)) (by decide)) (tg_ne (lo_k5_2 hL _ (lo_k6_6 hL _ (lo_e25 hL _ (lo_k7_2 hL _ t_pr) _ (by omega)))) (lo_k4_1 hL _ (lo_k9_6 hL _ t_X)) (by decide))).trans eby
          have e810 := (hk1_838 X (tg_ne t_X (lo_k6_6 hL _ (lo_e25 hL _ (lo_k7_2 hL _ t_pr) _ (by omega))) (by decide)) (tg_ne t_X (lo_k5_2 hL _ (lo_k6_6 hL _ (lo_e25 hL _ (lo_k7_2 hL _ t_pr) _ (by omega)))) (by decide)) (tg_ne t_X (lo_k9_6 hL _ t_X) (by decide)) (tg_ne t_X (lo_k4_0 hL _ (lo_k9_6 hL _ t_X)) (by decide)) (tg_ne t_X (lo_k4_1 hL _ (lo_k9_6 hL _ t_X)) (by decide))).trans e810
          have e813 := (hk1_838 pr (tg_ne t_pr (lo_k6_6 hL _ (lo_e25 hL _ (lo_k7_2 hL _ t_pr) _ (by omega))) (by decide)) (tg_ne t_pr (lo_k5_2 hL _ (lo_k6_6 hL _ (lo_e25 hL _ (lo_k7_2 hL _ t_pr) _ (by omega)))) (by decide)) (tg_ne t_pr (lo_k9_6 hL _ t_X) (by decide)) (tg_ne t_pr (lo_k4_0 hL _ (lo_k9_6 hL _ t_X)) (by decide)) (tg_ne t_pr (lo_k4_1 hL _ (lo_k9_6 hL _ t_X)) (by decide))).trans e813
          have e818 := (hk1_838 (g.lk pr 2) (tg_ne (lo_k7_2 hL _ t_pr) (lo_k6_6 hL _ (lo_e25 hL _ (lo_k7_2 hL _ t_pr) _ (by omega))) (by decide)) (tg_ne (lo_k7_2 hL _ t_pr) (lo_k5_2 hL _ (lo_k6_6 hL _ (lo_e25 hL _ (lo_k7_2 hL _ t_pr) _ (by omega)))) (by decide)) (tg_ne (lo_k7_2 hL _ t_pr) (lo_k9_6 hL _ t_X) (by decide)) (tg_ne (lo_k7_2 hL _ t_pr) (lo_k4_0 hL _ (lo_k9_6 hL _ t_X)) (by decide)) (tg_ne (lo_k7_2 hL _ t_pr) (lo_k4_1 hL _ (lo_k9_6 hL _ t_X)) (by decide))).trans e818
          obtain ⟨sg839, nn840, dd841, e842, e843, hN844⟩ := lv_836
          have c845 : ∀ i, i < 15 → ∃ k, k < 1000000000 ∧ dd841 i = nI k := hN844.2.1
          have hnn840 : nn840 ≤ 15 := hN844.1
          refine lv_iload hx hb d_NRunner_operateLong_183 (lv_at hl 0 rfl) ?_
          refine lv_if_eq (tgt := 192) hx hb d_NRunner_operateLong_185 (by decide) (fun b846 => ?_) (fun b846 => ?_)
          · skip
            replace b846 := (nI_eq (a := 1) (b := 0) (by omega) (by omega)).mp b846
            exfalso; omega
          · skip
            replace b846 := mt (nI_eq (a := 1) (b := 0) (by omega) (by omega)).mpr b846
            refine lv_iconst (v := nI 0) hx hb d_NRunner_operateLong_188 (by decide) ?_
            refine lv_goto (tgt := 193) hx hb d_NRunner_operateLong_189 (by decide) ?_
            exact pe_iret hx hb hr hlocks hK hP hD hS d_NRunner_operateLong_193 ⟨⟨(lo + ((nI 1))), e810⟩, (congrArg nI (otr_0 (w := 6) (x := vx) (y := vy) (by decide) (Or.inr hvy9) (td_le htx).2).symm), (fun _ => ⟨_, _, _, e842, e843, hN844⟩), hI1_837, hu⟩
      · skip
        have hsy8 : sgy = nI 0 := by first | exact b828 | exact Decidable.not_not.mp b828
        have hvy8 : vy = 0 := LNV_v0 hFy.1 hsy8
        refine lv_iconst (v := nI 1) hx hb d_NRunner_operateLong_154 (by decide) ?_
        exact pe_iret hx hb hr hlocks hK hP hD hS d_NRunner_operateLong_155 ⟨⟨(lo + ((nI 1))), e810⟩, (congrArg nI (otr_1 (by decide) (by decide) hvy8).symm), (fun z9 => absurd (z9.symm.trans (otr_1 (by decide) (by decide) hvy8)) (by decide)), hI819, hu⟩
    · skip
      obtain ⟨kx1, kx2, kx3, mx, eNx, hsx, hlx, htx⟩ := hVx
      obtain ⟨sgx, nx, dx, eax, ebx, hNx⟩ := hlx rfl
      have hFx : LNF sgx nx dx vx := ⟨hNx, htx⟩
      have cbx : ∀ i, i < 15 → ∃ k, k < 1000000000 ∧ dx i = nI k := hNx.2.1
      have hnx : nx ≤ 15 := hNx.1
      obtain ⟨ky1, ky2, ky3, my, eNy, hsy, hly, hty⟩ := hVy
      refine lv_aload_n hx hb d_NRunner_operateLong_0 rfl (lv_at hl 0 rfl) ?_
      refine lv_dup hx hb d_NRunner_operateLong_1 rfl ?_
      refine pf_get (v := .int lo) (C := "BigRunner$Runner") (T := FT8) (N := 13) hx hb (hw8 hB _) (fun _ h9 => h9) hown hK hP (lo_in hL t_X (by decide)) eX rfl 11 (by decide) (wd_347 hB _) rfl d_NRunner_operateLong_2 ?_
      refine lv_iconst (v := nI 1) hx hb d_NRunner_operateLong_5 (by decide) ?_
      refine lv_iadd hx hb d_NRunner_operateLong_6 ?_
      refine pf_put (v := .int (lo + ((nI 1)))) (ty := .int) (fs' := [.ref pr, .ref (g.lk X 1), .int (nI ix), .ref (g.lk X 3), .ref (g.lk X 4), .ref (g.lk X 5), .ref (g.lk X 6), .ref (g.lk X 7), .int (nI os), .int (nI st), .int mo, .int (lo + ((nI 1))), .int (nI tr)]) (C := "BigRunner$Runner") (T := FT8) (N := 13) hx hb (hw8 hB _) (fun _ h9 => h9) TY8 ok8 nm8 hown hK hP hD hS (lo_in hL t_X (by decide)) eX rfl 11 (by decide) (wd_347 hB _) rfl (by decide +kernel) rfl rfl (Nat.le_of_ble_eq_true rfl) rfl d_NRunner_operateLong_7 (fun f847 H locs e848 k849 hP hD hS => ?_)
      have eN := (k849 (g.lk (g.lk pr 2) n) (tg_ne (lo_e25 hL _ (lo_k7_2 hL _ t_pr) _ (by omega)) t_X (by decide))).trans eN
      have eNx := (k849 (g.lk (g.lk pr 2) le) (tg_ne (lo_e25 hL _ (lo_k7_2 hL _ t_pr) _ (by omega)) t_X (by decide))).trans eNx
      have eax := (k849 (g.lk (g.lk (g.lk pr 2) le) 6) (tg_ne (lo_k6_6 hL _ (lo_e25 hL _ (lo_k7_2 hL _ t_pr) _ (by omega))) t_X (by decide))).trans eax
      have ebx := (k849 (g.lk (g.lk (g.lk (g.lk pr 2) le) 6) 2) (tg_ne (lo_k5_2 hL _ (lo_k6_6 hL _ (lo_e25 hL _ (lo_k7_2 hL _ t_pr) _ (by omega)))) t_X (by decide))).trans ebx
      have eNy := (k849 (g.lk (g.lk pr 2) ri) (tg_ne (lo_e25 hL _ (lo_k7_2 hL _ t_pr) _ (by omega)) t_X (by decide))).trans eNy
      have hu : ∀ b, b ≠ X → b ≠ (g.lk (g.lk (g.lk pr 2) n) 6) → b ≠ (g.lk (g.lk (g.lk (g.lk pr 2) n) 6) 2) → b ≠ (g.lk (g.lk (g.lk pr 2) le) 6) → b ≠ (g.lk (g.lk (g.lk (g.lk pr 2) le) 6) 2) → b ≠ (g.lk (g.lk (g.lk pr 2) ri) 6) → b ≠ (g.lk (g.lk (g.lk (g.lk pr 2) ri) 6) 2) → b ≠ (g.lk X 6) → b ≠ (g.lk (g.lk X 6) 0) → b ≠ (g.lk (g.lk X 6) 1) → f847 b = f b := fun b q0 q1 q2 q3 q4 q5 q6 q7 q8 q9 => (k849 b q0).trans (hu b q0 q1 q2 q3 q4 q5 q6 q7 q8 q9)
      have hk850 : ∀ b, b ≠ X → f847 b = f b := k849
      refine lv_aload_n hx hb d_NRunner_operateLong_10 rfl (lv_at hl 0 rfl) ?_
      refine pf_get (v := .ref pr) (C := "BigRunner$Runner") (T := FT8) (N := 13) hx hb (hw8 hB _) (fun _ h9 => h9) hown hK hP (lo_in hL t_X (by decide)) e848 rfl 0 (by decide) (wd_330 hB _) rfl d_NRunner_operateLong_11 ?_
      obtain ⟨sc_852, nc_853, e851, c854, c855⟩ := oc_7.of t_pr (hI.1 pr)
      replace e851 := (hk850 pr (tg_ne t_pr t_X (by decide))).trans e851
      refine pf_get (v := .ref (g.lk pr 2)) (C := "BigRunner$Program") (T := FT6) (N := 6) hx hb (hw6 hB _) (fun _ h9 => h9) hown hK hP (lo_in hL t_pr (by decide)) e851 rfl 2 (by decide) (wd_249 hB _) rfl d_NRunner_operateLong_14 ?_
      refine lv_aload_n hx hb d_NRunner_operateLong_17 rfl (lv_at hl 1 rfl) ?_
      refine pf_get (v := .int (nI le)) (C := "BigRunner$Node") (T := FT5) (N := 7) hx hb (hw5 hB _) (fun _ h9 => h9) hown hK hP (lo_in hL (lo_e25 hL _ (lo_k7_2 hL _ t_pr) _ (by omega)) (by decide)) eN rfl 1 (by decide) (wd_208 hB _) rfl d_NRunner_operateLong_18 ?_
      have e856 := oc_25.of (lo_k7_2 hL _ t_pr) (hI.1 (g.lk pr 2))
      replace e856 := (hk850 (g.lk pr 2) (tg_ne (lo_k7_2 hL _ t_pr) t_X (by decide))).trans e856
      refine pf_aald (i := le) hx hb hK hP (lo_in hL (lo_k7_2 hL _ t_pr) (by decide)) e856 (lo_t25 hL _ (lo_k7_2 hL _ t_pr)) (by omega) (by decide) d_NRunner_operateLong_21 ?_
      have hI857 := iv_1 hI hL t_X (by decide) hk850 (oc_9.mk t_X (⟨pr, ix, os, st, mo, ((lo + ((nI 1)))), tr, e848, t_pr, (by omega), (by omega), (by omega), (by omega)⟩))
      refine pcc_r (va_runV (C := "BigRunner$Node") (As := []) (rest := []) ⟨hx, hb, hml, hown, tb_nil⟩ (v_widenedL l g H.size f847 ((g.lk (g.lk pr 2) le)) kx1 kx2 kx3 mx hL (lo_e25 hL _ (lo_k7_2 hL _ t_pr) _ (by omega)) hI857.1 eNx) ⟨(callB_of 0 (tb_one (wd_761 hB _)) tb_good1 rfl rfl rfl (wd_77 hB _) (wd_758 hB _) (by decide +kernel) ⟨Nat.le_of_ble_eq_true rfl, Nat.le_of_ble_eq_true rfl⟩), (wd_759 hB _), (wd_760 hB _)⟩ ⟨pe_bl, pg_recv (ci := 5) hK hP (lo_in hL (lo_e25 hL _ (lo_k7_2 hL _ t_pr) _ (by omega)) (by decide)) eNx rfl, pe_pre hB hK hP hD⟩ rfl rfl hl.1 rfl (lv_room (Nat.le_of_ble_eq_true rfl)) d_NRunner_operateLong_22 ⟨Nat.le_of_ble_eq_true rfl, Nat.le_of_ble_eq_true rfl⟩) hS (fun r858 f859 H locs hq860 hP hD hS => ?_)
      obtain ⟨ra_861, rfl⟩ := hq860
      subst ra_861
      refine lv_astore_n (lv' := [(2, .ref (g.lk (g.lk (g.lk pr 2) le) 6)), (0, .ref X), (1, .ref (g.lk (g.lk pr 2) n))]) hx hb d_NRunner_operateLong_25 rfl hl (by decide) rfl (fun ls hl => ?_)
      refine lv_aload_n hx hb d_NRunner_operateLong_26 rfl (lv_at hl 1 rfl) ?_
      refine pf_get (v := .ref pr) (C := "BigRunner$Runner") (T := FT8) (N := 13) hx hb (hw8 hB _) (fun _ h9 => h9) hown hK hP (lo_in hL t_X (by decide)) e848 rfl 0 (by decide) (wd_330 hB _) rfl d_NRunner_operateLong_27 ?_
      refine pf_get (v := .ref (g.lk pr 2)) (C := "BigRunner$Program") (T := FT6) (N := 6) hx hb (hw6 hB _) (fun _ h9 => h9) hown hK hP (lo_in hL t_pr (by decide)) e851 rfl 2 (by decide) (wd_249 hB _) rfl d_NRunner_operateLong_30 ?_
      refine lv_aload_n hx hb d_NRunner_operateLong_33 rfl (lv_at hl 2 rfl) ?_
      refine pf_get (v := .int (nI ri)) (C := "BigRunner$Node") (T := FT5) (N := 7) hx hb (hw5 hB _) (fun _ h9 => h9) hown hK hP (lo_in hL (lo_e25 hL _ (lo_k7_2 hL _ t_pr) _ (by omega)) (by decide)) eN rfl 2 (by decide) (wd_212 hB _) rfl d_NRunner_operateLong_34 ?_
      refine pf_aald (i := ri) hx hb hK hP (lo_in hL (lo_k7_2 hL _ t_pr) (by decide)) e856 (lo_t25 hL _ (lo_k7_2 hL _ t_pr)) (by omega) (by decide) d_NRunner_operateLong_37 ?_
      refine pcc_r (va_runV (C := "BigRunner$Node") (As := []) (rest := []) ⟨hx, hb, hml, hown, tb_nil⟩ (v_widenedS l g H.size f847 ((g.lk (g.lk pr 2) ri)) ky1 ky2 ky3 my hL (lo_e25 hL _ (lo_k7_2 hL _ t_pr) _ (by omega)) hI857 eNy (by rw [(hsy rfl).1]; exact (hsy rfl).2)) ⟨(callB_of 0 (tb_one (wd_761 hB _)) tb_good1 rfl rfl rfl (wd_77 hB _) (wd_758 hB _) (by decide +kernel) ⟨Nat.le_of_ble_eq_true rfl, Nat.le_of_ble_eq_true rfl⟩), (wd_759 hB _), (wd_760 hB _)⟩ ⟨pe_bl, pg_recv (ci := 5) hK hP (lo_in hL (lo_e25 hL _ (lo_k7_2 hL _ t_pr) _ (by omega)) (by decide)) eNy rfl, pe_pre hB hK hP hD⟩ rfl rfl hl.1 rfl (lv_room (Nat.le_of_ble_eq_true rfl)) d_NRunner_operateLong_38 ⟨Nat.le_of_ble_eq_true rfl, Nat.le_of_ble_eq_true rfl⟩) hS (fun r862 f863 H locs hq864 hP hD hS => ?_)
      obtain ⟨ra_865, lv_866, hI1_867, hk1_868⟩ := hq864
      subst ra_865
      have hu : ∀ b, b ≠ X → b ≠ (g.lk (g.lk (g.lk pr 2) n) 6) → b ≠ (g.lk (g.lk (g.lk (g.lk pr 2) n) 6) 2) → b ≠ (g.lk (g.lk (g.lk pr 2) le) 6) → b ≠ (g.lk (g.lk (g.lk (g.lk pr 2) le) 6) 2) → b ≠ (g.lk (g.lk (g.lk pr 2) ri) 6) → b ≠ (g.lk (g.lk (g.lk (g.lk pr 2) ri) 6) 2) → b ≠ (g.lk X 6) → b ≠ (g.lk (g.lk X 6) 0) → b ≠ (g.lk (g.lk X 6) 1) → f863 b = f b := fun b q0 q1 q2 q3 q4 q5 q6 q7 q8 q9 => (hk1_868 b q5 q6).trans (hu b q0 q1 q2 q3 q4 q5 q6 q7 q8 q9)
      have eN := (hk1_868 (g.lk (g.lk pr 2) n) (tg_ne (lo_e25 hL _ (lo_k7_2 hL _ t_pr) _ (by omega)) (lo_k6_6 hL _ (lo_e25 hL _ (lo_k7_2 hL _ t_pr) _ (by omega))) (by decide)) (tg_ne (lo_e25 hL _ (lo_k7_2 hL _ t_pr) _ (by omega)) (lo_k5_2 hL _ (lo_k6_6 hL _ (lo_e25 hL _ (lo_k7_2 hL _ t_pr) _ (by omega)))) (by decide))).trans eN
      have eNx := (hk1_868 (g.lk (g.lk pr 2) le) (tg_ne (lo_e25 hL _ (lo_k7_2 hL _ t_pr) _ (by omega)) (lo_k6_6 hL _ (lo_e25 hL _ (lo_k7_2 hL _ t_pr) _ (by omega))) (by decide)) (tg_ne (lo_e25 hL _ (lo_k7_2 hL _ t_pr) _ (by omega)) (lo_k5_2 hL _ (lo_k6_6 hL _ (lo_e25 hL _ (lo_k7_2 hL _ t_pr) _ (by omega)))) (by decide))).trans eNx
      have eax := (hk1_868 (g.lk (g.lk (g.lk pr 2) le) 6) (tn_ne ((lo_n6 hL _ (lo_e25 hL _ (lo_k7_2 hL _ t_pr) _ (by omega))).trans (lo_n25 hL _ (lo_k7_2 hL _ t_pr) _ (by omega))) ((lo_n6 hL _ (lo_e25 hL _ (lo_k7_2 hL _ t_pr) _ (by omega))).trans (lo_n25 hL _ (lo_k7_2 hL _ t_pr) _ (by omega))) (by omega)) (tg_ne (lo_k6_6 hL _ (lo_e25 hL _ (lo_k7_2 hL _ t_pr) _ (by omega))) (lo_k5_2 hL _ (lo_k6_6 hL _ (lo_e25 hL _ (lo_k7_2 hL _ t_pr) _ (by omega)))) (by decide))).trans eax
      have ebx := (hk1_868 (g.lk (g.lk (g.lk (g.lk pr 2) le) 6) 2) (tg_ne (lo_k5_2 hL _ (lo_k6_6 hL _ (lo_e25 hL _ (lo_k7_2 hL _ t_pr) _ (by omega)))) (lo_k6_6 hL _ (lo_e25 hL _ (lo_k7_2 hL _ t_pr) _ (by omega))) (by decide)) (fun q9 => (tn_ne ((lo_n6 hL _ (lo_e25 hL _ (lo_k7_2 hL _ t_pr) _ (by omega))).trans (lo_n25 hL _ (lo_k7_2 hL _ t_pr) _ (by omega))) ((lo_n6 hL _ (lo_e25 hL _ (lo_k7_2 hL _ t_pr) _ (by omega))).trans (lo_n25 hL _ (lo_k7_2 hL _ t_pr) _ (by omega))) (by omega)) (lo_inj5 hL _ _ (lo_k6_6 hL _ (lo_e25 hL _ (lo_k7_2 hL _ t_pr) _ (by omega))) (lo_k6_6 hL _ (lo_e25 hL _ (lo_k7_2 hL _ t_pr) _ (by omega))) q9))).trans ebx
      have eNy := (hk1_868 (g.lk (g.lk pr 2) ri) (tg_ne (lo_e25 hL _ (lo_k7_2 hL _ t_pr) _ (by omega)) (lo_k6_6 hL _ (lo_e25 hL _ (lo_k7_2 hL _ t_pr) _ (by omega))) (by decide)) (tg_ne (lo_e25 hL _ (lo_k7_2 hL _ t_pr) _ (by omega)) (lo_k5_2 hL _ (lo_k6_6 hL _ (lo_e25 hL _ (lo_k7_2 hL _ t_pr) _ (by omega)))) (by decide))).trans eNy
      have e848 := (hk1_868 X (tg_ne t_X (lo_k6_6 hL _ (lo_e25 hL _ (lo_k7_2 hL _ t_pr) _ (by omega))) (by decide)) (tg_ne t_X (lo_k5_2 hL _ (lo_k6_6 hL _ (lo_e25 hL _ (lo_k7_2 hL _ t_pr) _ (by omega)))) (by decide))).trans e848
      have e851 := (hk1_868 pr (tg_ne t_pr (lo_k6_6 hL _ (lo_e25 hL _ (lo_k7_2 hL _ t_pr) _ (by omega))) (by decide)) (tg_ne t_pr (lo_k5_2 hL _ (lo_k6_6 hL _ (lo_e25 hL _ (lo_k7_2 hL _ t_pr) _ (by omega)))) (by decide))).trans e851
      have e856 := (hk1_868 (g.lk pr 2) (tg_ne (lo_k7_2 hL _ t_pr) (lo_k6_6 hL _ (lo_e25 hL _ (lo_k7_2 hL _ t_pr) _ (by omega))) (by decide)) (tg_ne (lo_k7_2 hL _ t_pr) (lo_k5_2 hL _ (lo_k6_6 hL _ (lo_e25 hL _ (lo_k7_2 hL _ t_pr) _ (by omega)))) (by decide))).trans e856
      obtain ⟨sg869, nn870, dd871, e872, e873, hN874⟩ := lv_866
      have c875 : ∀ i, i < 15 → ∃ k, k < 1000000000 ∧ dd871 i = nI k := hN874.2.1
      have hnn870 : nn870 ≤ 15 := hN874.1
      refine lv_astore_n (lv' := [(3, .ref (g.lk (g.lk (g.lk pr 2) ri) 6)), (2, .ref (g.lk (g.lk (g.lk pr 2) le) 6)), (0, .ref X), (1, .ref (g.lk (g.lk pr 2) n))]) hx hb d_NRunner_operateLong_41 rfl hl (by decide) rfl (fun ls hl => ?_)
      have hFy : LNF sg869 nn870 dd871 vy := ⟨LNV_cast hN874 (hsy rfl).1, hty⟩
      refine lv_iconst (v := nI 1) hx hb d_NRunner_operateLong_42 (by decide) ?_
      refine lv_istore (lv' := [(4, .int (nI 1)), (3, .ref (g.lk (g.lk (g.lk pr 2) ri) 6)), (2, .ref (g.lk (g.lk (g.lk pr 2) le) 6)), (0, .ref X), (1, .ref (g.lk (g.lk pr 2) n))]) hx hb d_NRunner_operateLong_43 hl (by decide) rfl (fun ls hl => ?_)
      refine lv_aload_n hx hb d_NRunner_operateLong_45 rfl (lv_at hl 4 rfl) ?_
      refine pf_get (v := .int (nI 7)) (C := "BigRunner$Node") (T := FT5) (N := 7) hx hb (hw5 hB _) (fun _ h9 => h9) hown hK hP (lo_in hL (lo_e25 hL _ (lo_k7_2 hL _ t_pr) _ (by omega)) (by decide)) eN rfl 0 (by decide) (wd_204 hB _) rfl d_NRunner_operateLong_46 ?_
      refine lv_tableOut (tgt := 147) hx hb d_NRunner_operateLong_49 (by rw [nI_toInt (by omega)]; omega) (by decide) ?_
      refine lv_aload_n hx hb d_NRunner_operateLong_147 rfl (lv_at hl 1 rfl) ?_
      refine pf_get (v := .int sg869) (C := "BigRunner$LongNumber") (T := FT4) (N := 3) hx hb (hw4 hB _) (fun _ h9 => h9) hown hK hP (lo_in hL (lo_k6_6 hL _ (lo_e25 hL _ (lo_k7_2 hL _ t_pr) _ (by omega))) (by decide)) e872 rfl 0 (by decide) (wd_189 hB _) rfl d_NRunner_operateLong_148 ?_
      refine lv_if_ne (tgt := 156) hx hb d_NRunner_operateLong_151 (by decide) (fun b876 => ?_) (fun b876 => ?_)
      · skip
        have hsy9 : ¬ sg869 = nI 0 := b876
        have hvy9 : vy ≠ 0 := fun z9 => hsy9 ((LNV_0s hFy.1).mpr (LNV_z hFy.1 z9))
        refine lv_aload_n hx hb d_NRunner_operateLong_156 rfl (lv_at hl 3 rfl) ?_
        refine pf_get (v := .ref (g.lk X 6)) (C := "BigRunner$Runner") (T := FT8) (N := 13) hx hb (hw8 hB _) (fun _ h9 => h9) hown hK hP (lo_in hL t_X (by decide)) e848 rfl 6 (by decide) (wd_338 hB _) rfl d_NRunner_operateLong_157 ?_
        refine lv_aload_n hx hb d_NRunner_operateLong_160 rfl (lv_at hl 2 rfl) ?_
        refine lv_aload_n hx hb d_NRunner_operateLong_161 rfl (lv_at hl 1 rfl) ?_
        refine lv_aload_n hx hb d_NRunner_operateLong_162 rfl (lv_at hl 4 rfl) ?_
        refine pf_get (v := .ref (g.lk (g.lk (g.lk pr 2) n) 6)) (C := "BigRunner$Node") (T := FT5) (N := 7) hx hb (hw5 hB _) (fun _ h9 => h9) hown hK hP (lo_in hL (lo_e25 hL _ (lo_k7_2 hL _ t_pr) _ (by omega)) (by decide)) eN rfl 6 (by decide) (wd_224 hB _) rfl d_NRunner_operateLong_163 ?_
        refine lv_aload_n hx hb d_NRunner_operateLong_166 rfl (lv_at hl 4 rfl) ?_
        refine pf_get (v := .int (nI 7)) (C := "BigRunner$Node") (T := FT5) (N := 7) hx hb (hw5 hB _) (fun _ h9 => h9) hown hK hP (lo_in hL (lo_e25 hL _ (lo_k7_2 hL _ t_pr) _ (by omega)) (by decide)) eN rfl 0 (by decide) (wd_204 hB _) rfl d_NRunner_operateLong_167 ?_
        refine lv_bipush (v := nI 7) hx hb d_NRunner_operateLong_170 (by decide) ?_
        refine lv_icmp_ne (tgt := 179) hx hb d_NRunner_operateLong_172 (by decide) (fun b877 => ?_) (fun b877 => ?_)
        · skip
          replace b877 := mt (nI_eq (a := 7) (b := 7) (by omega) (by omega)).mpr b877
          exfalso; omega
        · skip
          replace b877 := (nI_eq (a := 7) (b := 7) (by omega) (by omega)).mp b877
          refine lv_iconst (v := nI 1) hx hb d_NRunner_operateLong_175 (by decide) ?_
          refine lv_goto (tgt := 180) hx hb d_NRunner_operateLong_176 (by decide) ?_
          obtain ⟨n_879, e878, c880⟩ := oc_4.of (lo_k9_6 hL _ t_X) (hI1_867.1 (g.lk X 6))
          refine pcc_v (va_runV (C := "BigRunner$LongDivision") (As := [.ref (g.lk (g.lk (g.lk pr 2) le) 6), .ref (g.lk (g.lk (g.lk pr 2) ri) 6), .ref (g.lk (g.lk (g.lk pr 2) n) 6), .int (nI 1)]) (rest := []) ⟨hx, hb, hml, hown, tb_nil⟩ (v_divide1 l g H.size f863 ((g.lk X 6)) ((g.lk (g.lk (g.lk pr 2) le) 6)) sgx nx dx vx ((g.lk (g.lk (g.lk pr 2) ri) 6)) sg869 nn870 dd871 vy ((g.lk (g.lk (g.lk pr 2) n) 6)) hL (lo_k9_6 hL _ t_X) (lo_k6_6 hL _ (lo_e25 hL _ (lo_k7_2 hL _ t_pr) _ (by omega))) (lo_k6_6 hL _ (lo_e25 hL _ (lo_k7_2 hL _ t_pr) _ (by omega))) (lo_k6_6 hL _ (lo_e25 hL _ (lo_k7_2 hL _ t_pr) _ (by omega))) hI1_867 eax ebx hFx e872 e873 hFy (tn_ne ((lo_n6 hL _ (lo_e25 hL _ (lo_k7_2 hL _ t_pr) _ (by omega))).trans (lo_n25 hL _ (lo_k7_2 hL _ t_pr) _ (by omega))) ((lo_n6 hL _ (lo_e25 hL _ (lo_k7_2 hL _ t_pr) _ (by omega))).trans (lo_n25 hL _ (lo_k7_2 hL _ t_pr) _ (by omega))) (by omega)) (tn_ne ((lo_n6 hL _ (lo_e25 hL _ (lo_k7_2 hL _ t_pr) _ (by omega))).trans (lo_n25 hL _ (lo_k7_2 hL _ t_pr) _ (by omega))) ((lo_n6 hL _ (lo_e25 hL _ (lo_k7_2 hL _ t_pr) _ (by omega))).trans (lo_n25 hL _ (lo_k7_2 hL _ t_pr) _ (by omega))) (by omega)) (Nat.pos_of_ne_zero (fun z9 => hsy9 ((LNV_0s hFy.1).mpr z9)))) ⟨(callB_of 4 (tb_one (wd_806 hB _)) tb_good1 rfl rfl rfl (wd_81 hB _) (wd_803 hB _) (by decide +kernel) ⟨Nat.le_of_ble_eq_true rfl, Nat.le_of_ble_eq_true rfl⟩), (wd_804 hB _), (wd_805 hB _)⟩ ⟨pe_bl, pg_recv (ci := 3) hK hP (lo_in hL (lo_k9_6 hL _ t_X) (by decide)) e878 rfl, pe_pre hB hK hP hD⟩ rfl rfl hl.1 rfl (lv_room (Nat.le_of_ble_eq_true rfl)) d_NRunner_operateLong_180 ⟨Nat.le_of_ble_eq_true rfl, Nat.le_of_ble_eq_true rfl⟩) hS (fun f882 H locs hq883 hP hD hS => ?_)
          obtain ⟨lv_884, hI1_885, hk1_886⟩ := hq883
          have hu : ∀ b, b ≠ X → b ≠ (g.lk (g.lk (g.lk pr 2) n) 6) → b ≠ (g.lk (g.lk (g.lk (g.lk pr 2) n) 6) 2) → b ≠ (g.lk (g.lk (g.lk pr 2) le) 6) → b ≠ (g.lk (g.lk (g.lk (g.lk pr 2) le) 6) 2) → b ≠ (g.lk (g.lk (g.lk pr 2) ri) 6) → b ≠ (g.lk (g.lk (g.lk (g.lk pr 2) ri) 6) 2) → b ≠ (g.lk X 6) → b ≠ (g.lk (g.lk X 6) 0) → b ≠ (g.lk (g.lk X 6) 1) → f882 b = f b := fun b q0 q1 q2 q3 q4 q5 q6 q7 q8 q9 => (hk1_886 b q1 q2 q7 q8 q9).trans (hu b q0 q1 q2 q3 q4 q5 q6 q7 q8 q9)
          have eN := (hk1_886 (g.lk (g.lk pr 2) n) (tg_ne (lo_e25 hL _ (lo_k7_2 hL _ t_pr) _ (by omega)) (lo_k6_6 hL _ (lo_e25 hL _ (lo_k7_2 hL _ t_pr) _ (by omega))) (by decide)) (tg_ne (lo_e25 hL _ (lo_k7_2 hL _ t_pr) _ (by omega)) (lo_k5_2 hL _ (lo_k6_6 hL _ (lo_e25 hL _ (lo_k7_2 hL _ t_pr) _ (by omega)))) (by decide)) (tg_ne (lo_e25 hL _ (lo_k7_2 hL _ t_pr) _ (by omega)) (lo_k9_6 hL _ t_X) (by decide)) (tg_ne (lo_e25 hL _ (lo_k7_2 hL _ t_pr) _ (by omega)) (lo_k4_0 hL _ (lo_k9_6 hL _ t_X)) (by decide)) (tg_ne (lo_e25 hL _ (lo_k7_2 hL _ t_pr) _ (by omega)) (lo_k4_1 hL _ (lo_k9_6 hL _ t_X)) (by decide))).trans eN
          have eNx := (hk1_886 (g.lk (g.lk pr 2) le) (tg_ne (lo_e25 hL _ (lo_k7_2 hL _ t_pr) _ (by omega)) (lo_k6_6 hL _ (lo_e25 hL _ (lo_k7_2 hL _ t_pr) _ (by omega))) (by decide)) (tg_ne (lo_e25 hL _ (lo_k7_2 hL _ t_pr) _ (by omega)) (lo_k5_2 hL _ (lo_k6_6 hL _ (lo_e25 hL _ (lo_k7_2 hL _ t_pr) _ (by omega)))) (by decide)) (tg_ne (lo_e25 hL _ (lo_k7_2 hL _ t_pr) _ (by omega)) (lo_k9_6 hL _ t_X) (by decide)) (tg_ne (lo_e25 hL _ (lo_k7_2 hL _ t_pr) _ (by omega)) (lo_k4_0 hL _ (lo_k9_6 hL _ t_X)) (by decide)) (tg_ne (lo_e25 hL _ (lo_k7_2 hL _ t_pr) _ (by omega)) (lo_k4_1 hL _ (lo_k9_6 hL _ t_X)) (by decide))).trans eNx
          have eax := (hk1_886 (g.lk (g.lk (g.lk pr 2) le) 6) (tn_ne ((lo_n6 hL _ (lo_e25 hL _ (lo_k7_2 hL _ t_pr) _ (by omega))).trans (lo_n25 hL _ (lo_k7_2 hL _ t_pr) _ (by omega))) ((lo_n6 hL _ (lo_e25 hL _ (lo_k7_2 hL _ t_pr) _ (by omega))).trans (lo_n25 hL _ (lo_k7_2 hL _ t_pr) _ (by omega))) (by omega)) (tg_ne (lo_k6_6 hL _ (lo_e25 hL _ (lo_k7_2 hL _ t_pr) _ (by omega))) (lo_k5_2 hL _ (lo_k6_6 hL _ (lo_e25 hL _ (lo_k7_2 hL _ t_pr) _ (by omega)))) (by decide)) (tg_ne (lo_k6_6 hL _ (lo_e25 hL _ (lo_k7_2 hL _ t_pr) _ (by omega))) (lo_k9_6 hL _ t_X) (by decide)) (tg_ne (lo_k6_6 hL _ (lo_e25 hL _ (lo_k7_2 hL _ t_pr) _ (by omega))) (lo_k4_0 hL _ (lo_k9_6 hL _ t_X)) (by decide)) (tg_ne (lo_k6_6 hL _ (lo_e25 hL _ (lo_k7_2 hL _ t_pr) _ (by omega))) (lo_k4_1 hL _ (lo_k9_6 hL _ t_X)) (by decide))).trans eax
          have ebx := (hk1_886 (g.lk (g.lk (g.lk (g.lk pr 2) le) 6) 2) (tg_ne (lo_k5_2 hL _ (lo_k6_6 hL _ (lo_e25 hL _ (lo_k7_2 hL _ t_pr) _ (by omega)))) (lo_k6_6 hL _ (lo_e25 hL _ (lo_k7_2 hL _ t_pr) _ (by omega))) (by decide)) (fun q9 => (tn_ne ((lo_n6 hL _ (lo_e25 hL _ (lo_k7_2 hL _ t_pr) _ (by omega))).trans (lo_n25 hL _ (lo_k7_2 hL _ t_pr) _ (by omega))) ((lo_n6 hL _ (lo_e25 hL _ (lo_k7_2 hL _ t_pr) _ (by omega))).trans (lo_n25 hL _ (lo_k7_2 hL _ t_pr) _ (by omega))) (by omega)) (lo_inj5 hL _ _ (lo_k6_6 hL _ (lo_e25 hL _ (lo_k7_2 hL _ t_pr) _ (by omega))) (lo_k6_6 hL _ (lo_e25 hL _ (lo_k7_2 hL _ t_pr) _ (by omega))) q9)) (tg_ne (lo_k5_2 hL _ (lo_k6_6 hL _ (lo_e25 hL _ (lo_k7_2 hL _ t_pr) _ (by omega)))) (lo_k9_6 hL _ t_X) (by decide)) (tg_ne (lo_k5_2 hL _ (lo_k6_6 hL _ (lo_e25 hL _ (lo_k7_2 hL _ t_pr) _ (by omega)))) (lo_k4_0 hL _ (lo_k9_6 hL _ t_X)) (by decide)) (tg_ne (lo_k5_2 hL _ (lo_k6_6 hL _ (lo_e25 hL _ (lo_k7_2 hL _ t_pr) _ (by omega)))) (lo_k4_1 hL _ (lo_k9_6 hL _ t_X)) (by decide))).trans ebx
          have eNy := (hk1_886 (g.lk (g.lk pr 2) ri) (tg_ne (lo_e25 hL _ (lo_k7_2 hL _ t_pr) _ (by omega)) (lo_k6_6 hL _ (lo_e25 hL _ (lo_k7_2 hL _ t_pr) _ (by omega))) (by decide)) (tg_ne (lo_e25 hL _ (lo_k7_2 hL _ t_pr) _ (by omega)) (lo_k5_2 hL _ (lo_k6_6 hL _ (lo_e25 hL _ (lo_k7_2 hL _ t_pr) _ (by omega)))) (by decide)) (tg_ne (lo_e25 hL _ (lo_k7_2 hL _ t_pr) _ (by omega)) (lo_k9_6 hL _ t_X) (by decide)) (tg_ne (lo_e25 hL _ (lo_k7_2 hL _ t_pr) _ (by omega)) (lo_k4_0 hL _ (lo_k9_6 hL _ t_X)) (by decide)) (tg_ne (lo_e25 hL _ (lo_k7_2 hL _ t_pr) _ (by omega)) (lo_k4_1 hL _ (lo_k9_6 hL _ t_X)) (by decide))).trans eNy
          have e848 := (hk1_886 X (tg_ne t_X (lo_k6_6 hL _ (lo_e25 hL _ (lo_k7_2 hL _ t_pr) _ (by omega))) (by decide)) (tg_ne t_X (lo_k5_2 hL _ (lo_k6_6 hL _ (lo_e25 hL _ (lo_k7_2 hL _ t_pr) _ (by omega)))) (by decide)) (tg_ne t_X (lo_k9_6 hL _ t_X) (by decide)) (tg_ne t_X (lo_k4_0 hL _ (lo_k9_6 hL _ t_X)) (by decide)) (tg_ne t_X (lo_k4_1 hL _ (lo_k9_6 hL _ t_X)) (by decide))).trans e848
          have e851 := (hk1_886 pr (tg_ne t_pr (lo_k6_6 hL _ (lo_e25 hL _ (lo_k7_2 hL _ t_pr) _ (by omega))) (by decide)) (tg_ne t_pr (lo_k5_2 hL _ (lo_k6_6 hL _ (lo_e25 hL _ (lo_k7_2 hL _ t_pr) _ (by omega)))) (by decide)) (tg_ne t_pr (lo_k9_6 hL _ t_X) (by decide)) (tg_ne t_pr (lo_k4_0 hL _ (lo_k9_6 hL _ t_X)) (by decide)) (tg_ne t_pr (lo_k4_1 hL _ (lo_k9_6 hL _ t_X)) (by decide))).trans e851
          have e856 := (hk1_886 (g.lk pr 2) (tg_ne (lo_k7_2 hL _ t_pr) (lo_k6_6 hL _ (lo_e25 hL _ (lo_k7_2 hL _ t_pr) _ (by omega))) (by decide)) (tg_ne (lo_k7_2 hL _ t_pr) (lo_k5_2 hL _ (lo_k6_6 hL _ (lo_e25 hL _ (lo_k7_2 hL _ t_pr) _ (by omega)))) (by decide)) (tg_ne (lo_k7_2 hL _ t_pr) (lo_k9_6 hL _ t_X) (by decide)) (tg_ne (lo_k7_2 hL _ t_pr) (lo_k4_0 hL _ (lo_k9_6 hL _ t_X)) (by decide)) (tg_ne (lo_k7_2 hL _ t_pr) (lo_k4_1 hL _ (lo_k9_6 hL _ t_X)) (by decide))).trans e856
          have e872 := (hk1_886 (g.lk (g.lk (g.lk pr 2) ri) 6) (tn_ne ((lo_n6 hL _ (lo_e25 hL _ (lo_k7_2 hL _ t_pr) _ (by omega))).trans (lo_n25 hL _ (lo_k7_2 hL _ t_pr) _ (by omega))) ((lo_n6 hL _ (lo_e25 hL _ (lo_k7_2 hL _ t_pr) _ (by omega))).trans (lo_n25 hL _ (lo_k7_2 hL _ t_pr) _ (by omega))) (by omega)) (tg_ne (lo_k6_6 hL _ (lo_e25 hL _ (lo_k7_2 hL _ t_pr) _ (by omega))) (lo_k5_2 hL _ (lo_k6_6 hL _ (lo_e25 hL _ (lo_k7_2 hL _ t_pr) _ (by omega)))) (by decide)) (tg_ne (lo_k6_6 hL _ (lo_e25 hL _ (lo_k7_2 hL _ t_pr) _ (by omega))) (lo_k9_6 hL _ t_X) (by decide)) (tg_ne (lo_k6_6 hL _ (lo_e25 hL _ (lo_k7_2 hL _ t_pr) _ (by omega))) (lo_k4_0 hL _ (lo_k9_6 hL _ t_X)) (by decide)) (tg_ne (lo_k6_6 hL _ (lo_e25 hL _ (lo_k7_2 hL _ t_pr) _ (by omega))) (lo_k4_1 hL _ (lo_k9_6 hL _ t_X)) (by decide))).trans e872
          have e873 := (hk1_886 (g.lk (g.lk (g.lk (g.lk pr 2) ri) 6) 2) (tg_ne (lo_k5_2 hL _ (lo_k6_6 hL _ (lo_e25 hL _ (lo_k7_2 hL _ t_pr) _ (by omega)))) (lo_k6_6 hL _ (lo_e25 hL _ (lo_k7_2 hL _ t_pr) _ (by omega))) (by decide)) (fun q9 => (tn_ne ((lo_n6 hL _ (lo_e25 hL _ (lo_k7_2 hL _ t_pr) _ (by omega))).trans (lo_n25 hL _ (lo_k7_2 hL _ t_pr) _ (by omega))) ((lo_n6 hL _ (lo_e25 hL _ (lo_k7_2 hL _ t_pr) _ (by omega))).trans (lo_n25 hL _ (lo_k7_2 hL _ t_pr) _ (by omega))) (by omega)) (lo_inj5 hL _ _ (lo_k6_6 hL _ (lo_e25 hL _ (lo_k7_2 hL _ t_pr) _ (by omega))) (lo_k6_6 hL _ (lo_e25 hL _ (lo_k7_2 hL _ t_pr) _ (by omega))) q9)) (tg_ne (lo_k5_2 hL _ (lo_k6_6 hL _ (lo_e25 hL _ (lo_k7_2 hL _ t_pr) _ (by omega)))) (lo_k9_6 hL _ t_X) (by decide)) (tg_ne (lo_k5_2 hL _ (lo_k6_6 hL _ (lo_e25 hL _ (lo_k7_2 hL _ t_pr) _ (by omega)))) (lo_k4_0 hL _ (lo_k9_6 hL _ t_X)) (by decide)) (tg_ne (lo_k5_2 hL _ (lo_k6_6 hL _ (lo_e25 hL _ (lo_k7_2 hL _ t_pr) _ (by omega)))) (lo_k4_1 hL _ (lo_k9_6 hL _ t_X)) (by decide))).trans e873
          obtain ⟨sg887, nn888, dd889, e890, e891, hN892⟩ := lv_884
          have c893 : ∀ i, i < 15 → ∃ k, k < 1000000000 ∧ dd889 i = nI k := hN892.2.1
          have hnn888 : nn888 ≤ 15 := hN892.1
          refine lv_iload hx hb d_NRunner_operateLong_183 (lv_at hl 0 rfl) ?_
          refine lv_if_eq (tgt := 192) hx hb d_NRunner_operateLong_185 (by decide) (fun b894 => ?_) (fun b894 => ?_)
          · skip
            replace b894 := (nI_eq (a := 1) (b := 0) (by omega) (by omega)).mp b894
            exfalso; omega
          · skip
            replace b894 := mt (nI_eq (a := 1) (b := 0) (by omega) (by omega)).mpr b894
            refine lv_iconst (v := nI 0) hx hb d_NRunner_operateLong_188 (by decide) ?_
            refine lv_goto (tgt := 193) hx hb d_NRunner_operateLong_189 (by decide) ?_
            exact pe_iret hx hb hr hlocks hK hP hD hS d_NRunner_operateLong_193 ⟨⟨(lo + ((nI 1))), e848⟩, (congrArg nI (otr_0 (w := 6) (x := vx) (y := vy) (by decide) (Or.inr hvy9) (td_le htx).2).symm), (fun _ => ⟨_, _, _, e890, e891, hN892⟩), hI1_885, hu⟩
      · skip
        have hsy8 : sg869 = nI 0 := by first | exact b876 | exact Decidable.not_not.mp b876
        have hvy8 : vy = 0 := LNV_v0 hFy.1 hsy8
        refine lv_iconst (v := nI 1) hx hb d_NRunner_operateLong_154 (by decide) ?_
        exact pe_iret hx hb hr hlocks hK hP hD hS d_NRunner_operateLong_155 ⟨⟨(lo + ((nI 1))), e848⟩, (congrArg nI (otr_1 (by decide) (by decide) hvy8).symm), (fun z9 => absurd (z9.symm.trans (otr_1 (by decide) (by decide) hvy8)) (by decide)), hI1_867, hu⟩
    · skip
      obtain ⟨kx1, kx2, kx3, mx, eNx, hsx, hlx, htx⟩ := hVx
      obtain ⟨ky1, ky2, ky3, my, eNy, hsy, hly, hty⟩ := hVy
      obtain ⟨sgy, ny, dy, eay, eby, hNy⟩ := hly rfl
      have hFy : LNF sgy ny dy vy := ⟨hNy, hty⟩
      have cby : ∀ i, i < 15 → ∃ k, k < 1000000000 ∧ dy i = nI k := hNy.2.1
      have hny : ny ≤ 15 := hNy.1
      refine lv_aload_n hx hb d_NRunner_operateLong_0 rfl (lv_at hl 0 rfl) ?_
      refine lv_dup hx hb d_NRunner_operateLong_1 rfl ?_
      refine pf_get (v := .int lo) (C := "BigRunner$Runner") (T := FT8) (N := 13) hx hb (hw8 hB _) (fun _ h9 => h9) hown hK hP (lo_in hL t_X (by decide)) eX rfl 11 (by decide) (wd_347 hB _) rfl d_NRunner_operateLong_2 ?_
      refine lv_iconst (v := nI 1) hx hb d_NRunner_operateLong_5 (by decide) ?_
      refine lv_iadd hx hb d_NRunner_operateLong_6 ?_
      refine pf_put (v := .int (lo + ((nI 1)))) (ty := .int) (fs' := [.ref pr, .ref (g.lk X 1), .int (nI ix), .ref (g.lk X 3), .ref (g.lk X 4), .ref (g.lk X 5), .ref (g.lk X 6), .ref (g.lk X 7), .int (nI os), .int (nI st), .int mo, .int (lo + ((nI 1))), .int (nI tr)]) (C := "BigRunner$Runner") (T := FT8) (N := 13) hx hb (hw8 hB _) (fun _ h9 => h9) TY8 ok8 nm8 hown hK hP hD hS (lo_in hL t_X (by decide)) eX rfl 11 (by decide) (wd_347 hB _) rfl (by decide +kernel) rfl rfl (Nat.le_of_ble_eq_true rfl) rfl d_NRunner_operateLong_7 (fun f895 H locs e896 k897 hP hD hS => ?_)
      have eN := (k897 (g.lk (g.lk pr 2) n) (tg_ne (lo_e25 hL _ (lo_k7_2 hL _ t_pr) _ (by omega)) t_X (by decide))).trans eN
      have eNx := (k897 (g.lk (g.lk pr 2) le) (tg_ne (lo_e25 hL _ (lo_k7_2 hL _ t_pr) _ (by omega)) t_X (by decide))).trans eNx
      have eNy := (k897 (g.lk (g.lk pr 2) ri) (tg_ne (lo_e25 hL _ (lo_k7_2 hL _ t_pr) _ (by omega)) t_X (by decide))).trans eNy
      have eay := (k897 (g.lk (g.lk (g.lk pr 2) ri) 6) (tg_ne (lo_k6_6 hL _ (lo_e25 hL _ (lo_k7_2 hL _ t_pr) _ (by omega))) t_X (by decide))).trans eay
      have eby := (k897 (g.lk (g.lk (g.lk (g.lk pr 2) ri) 6) 2) (tg_ne (lo_k5_2 hL _ (lo_k6_6 hL _ (lo_e25 hL _ (lo_k7_2 hL _ t_pr) _ (by omega)))) t_X (by decide))).trans eby
      have hu : ∀ b, b ≠ X → b ≠ (g.lk (g.lk (g.lk pr 2) n) 6) → b ≠ (g.lk (g.lk (g.lk (g.lk pr 2) n) 6) 2) → b ≠ (g.lk (g.lk (g.lk pr 2) le) 6) → b ≠ (g.lk (g.lk (g.lk (g.lk pr 2) le) 6) 2) → b ≠ (g.lk (g.lk (g.lk pr 2) ri) 6) → b ≠ (g.lk (g.lk (g.lk (g.lk pr 2) ri) 6) 2) → b ≠ (g.lk X 6) → b ≠ (g.lk (g.lk X 6) 0) → b ≠ (g.lk (g.lk X 6) 1) → f895 b = f b := fun b q0 q1 q2 q3 q4 q5 q6 q7 q8 q9 => (k897 b q0).trans (hu b q0 q1 q2 q3 q4 q5 q6 q7 q8 q9)
      have hk898 : ∀ b, b ≠ X → f895 b = f b := k897
      refine lv_aload_n hx hb d_NRunner_operateLong_10 rfl (lv_at hl 0 rfl) ?_
      refine pf_get (v := .ref pr) (C := "BigRunner$Runner") (T := FT8) (N := 13) hx hb (hw8 hB _) (fun _ h9 => h9) hown hK hP (lo_in hL t_X (by decide)) e896 rfl 0 (by decide) (wd_330 hB _) rfl d_NRunner_operateLong_11 ?_
      obtain ⟨sc_900, nc_901, e899, c902, c903⟩ := oc_7.of t_pr (hI.1 pr)
      replace e899 := (hk898 pr (tg_ne t_pr t_X (by decide))).trans e899
      refine pf_get (v := .ref (g.lk pr 2)) (C := "BigRunner$Program") (T := FT6) (N := 6) hx hb (hw6 hB _) (fun _ h9 => h9) hown hK hP (lo_in hL t_pr (by decide)) e899 rfl 2 (by decide) (wd_249 hB _) rfl d_NRunner_operateLong_14 ?_
      refine lv_aload_n hx hb d_NRunner_operateLong_17 rfl (lv_at hl 1 rfl) ?_
      refine pf_get (v := .int (nI le)) (C := "BigRunner$Node") (T := FT5) (N := 7) hx hb (hw5 hB _) (fun _ h9 => h9) hown hK hP (lo_in hL (lo_e25 hL _ (lo_k7_2 hL _ t_pr) _ (by omega)) (by decide)) eN rfl 1 (by decide) (wd_208 hB _) rfl d_NRunner_operateLong_18 ?_
      have e904 := oc_25.of (lo_k7_2 hL _ t_pr) (hI.1 (g.lk pr 2))
      replace e904 := (hk898 (g.lk pr 2) (tg_ne (lo_k7_2 hL _ t_pr) t_X (by decide))).trans e904
      refine pf_aald (i := le) hx hb hK hP (lo_in hL (lo_k7_2 hL _ t_pr) (by decide)) e904 (lo_t25 hL _ (lo_k7_2 hL _ t_pr)) (by omega) (by decide) d_NRunner_operateLong_21 ?_
      have hI905 := iv_1 hI hL t_X (by decide) hk898 (oc_9.mk t_X (⟨pr, ix, os, st, mo, ((lo + ((nI 1)))), tr, e896, t_pr, (by omega), (by omega), (by omega), (by omega)⟩))
      refine pcc_r (va_runV (C := "BigRunner$Node") (As := []) (rest := []) ⟨hx, hb, hml, hown, tb_nil⟩ (v_widenedS l g H.size f895 ((g.lk (g.lk pr 2) le)) kx1 kx2 kx3 mx hL (lo_e25 hL _ (lo_k7_2 hL _ t_pr) _ (by omega)) hI905 eNx (by rw [(hsx rfl).1]; exact (hsx rfl).2)) ⟨(callB_of 0 (tb_one (wd_761 hB _)) tb_good1 rfl rfl rfl (wd_77 hB _) (wd_758 hB _) (by decide +kernel) ⟨Nat.le_of_ble_eq_true rfl, Nat.le_of_ble_eq_true rfl⟩), (wd_759 hB _), (wd_760 hB _)⟩ ⟨pe_bl, pg_recv (ci := 5) hK hP (lo_in hL (lo_e25 hL _ (lo_k7_2 hL _ t_pr) _ (by omega)) (by decide)) eNx rfl, pe_pre hB hK hP hD⟩ rfl rfl hl.1 rfl (lv_room (Nat.le_of_ble_eq_true rfl)) d_NRunner_operateLong_22 ⟨Nat.le_of_ble_eq_true rfl, Nat.le_of_ble_eq_true rfl⟩) hS (fun r906 f907 H locs hq908 hP hD hS => ?_)
      obtain ⟨ra_909, lv_910, hI1_911, hk1_912⟩ := hq908
      subst ra_909
      have hu : ∀ b, b ≠ X → b ≠ (g.lk (g.lk (g.lk pr 2) n) 6) → b ≠ (g.lk (g.lk (g.lk (g.lk pr 2) n) 6) 2) → b ≠ (g.lk (g.lk (g.lk pr 2) le) 6) → b ≠ (g.lk (g.lk (g.lk (g.lk pr 2) le) 6) 2) → b ≠ (g.lk (g.lk (g.lk pr 2) ri) 6) → b ≠ (g.lk (g.lk (g.lk (g.lk pr 2) ri) 6) 2) → b ≠ (g.lk X 6) → b ≠ (g.lk (g.lk X 6) 0) → b ≠ (g.lk (g.lk X 6) 1) → f907 b = f b := fun b q0 q1 q2 q3 q4 q5 q6 q7 q8 q9 => (hk1_912 b q3 q4).trans (hu b q0 q1 q2 q3 q4 q5 q6 q7 q8 q9)
      have eN := (hk1_912 (g.lk (g.lk pr 2) n) (tg_ne (lo_e25 hL _ (lo_k7_2 hL _ t_pr) _ (by omega)) (lo_k6_6 hL _ (lo_e25 hL _ (lo_k7_2 hL _ t_pr) _ (by omega))) (by decide)) (tg_ne (lo_e25 hL _ (lo_k7_2 hL _ t_pr) _ (by omega)) (lo_k5_2 hL _ (lo_k6_6 hL _ (lo_e25 hL _ (lo_k7_2 hL _ t_pr) _ (by omega)))) (by decide))).trans eN
      have eNx := (hk1_912 (g.lk (g.lk pr 2) le) (tg_ne (lo_e25 hL _ (lo_k7_2 hL _ t_pr) _ (by omega)) (lo_k6_6 hL _ (lo_e25 hL _ (lo_k7_2 hL _ t_pr) _ (by omega))) (by decide)) (tg_ne (lo_e25 hL _ (lo_k7_2 hL _ t_pr) _ (by omega)) (lo_k5_2 hL _ (lo_k6_6 hL _ (lo_e25 hL _ (lo_k7_2 hL _ t_pr) _ (by omega)))) (by decide))).trans eNx
      have eNy := (hk1_912 (g.lk (g.lk pr 2) ri) (tg_ne (lo_e25 hL _ (lo_k7_2 hL _ t_pr) _ (by omega)) (lo_k6_6 hL _ (lo_e25 hL _ (lo_k7_2 hL _ t_pr) _ (by omega))) (by decide)) (tg_ne (lo_e25 hL _ (lo_k7_2 hL _ t_pr) _ (by omega)) (lo_k5_2 hL _ (lo_k6_6 hL _ (lo_e25 hL _ (lo_k7_2 hL _ t_pr) _ (by omega)))) (by decide))).trans eNy
      have eay := (hk1_912 (g.lk (g.lk (g.lk pr 2) ri) 6) (tn_ne ((lo_n6 hL _ (lo_e25 hL _ (lo_k7_2 hL _ t_pr) _ (by omega))).trans (lo_n25 hL _ (lo_k7_2 hL _ t_pr) _ (by omega))) ((lo_n6 hL _ (lo_e25 hL _ (lo_k7_2 hL _ t_pr) _ (by omega))).trans (lo_n25 hL _ (lo_k7_2 hL _ t_pr) _ (by omega))) (by omega)) (tg_ne (lo_k6_6 hL _ (lo_e25 hL _ (lo_k7_2 hL _ t_pr) _ (by omega))) (lo_k5_2 hL _ (lo_k6_6 hL _ (lo_e25 hL _ (lo_k7_2 hL _ t_pr) _ (by omega)))) (by decide))).trans eay
      have eby := (hk1_912 (g.lk (g.lk (g.lk (g.lk pr 2) ri) 6) 2) (tg_ne (lo_k5_2 hL _ (lo_k6_6 hL _ (lo_e25 hL _ (lo_k7_2 hL _ t_pr) _ (by omega)))) (lo_k6_6 hL _ (lo_e25 hL _ (lo_k7_2 hL _ t_pr) _ (by omega))) (by decide)) (fun q9 => (tn_ne ((lo_n6 hL _ (lo_e25 hL _ (lo_k7_2 hL _ t_pr) _ (by omega))).trans (lo_n25 hL _ (lo_k7_2 hL _ t_pr) _ (by omega))) ((lo_n6 hL _ (lo_e25 hL _ (lo_k7_2 hL _ t_pr) _ (by omega))).trans (lo_n25 hL _ (lo_k7_2 hL _ t_pr) _ (by omega))) (by omega)) (lo_inj5 hL _ _ (lo_k6_6 hL _ (lo_e25 hL _ (lo_k7_2 hL _ t_pr) _ (by omega))) (lo_k6_6 hL _ (lo_e25 hL _ (lo_k7_2 hL _ t_pr) _ (by omega))) q9))).trans eby
      have e896 := (hk1_912 X (tg_ne t_X (lo_k6_6 hL _ (lo_e25 hL _ (lo_k7_2 hL _ t_pr) _ (by omega))) (by decide)) (tg_ne t_X (lo_k5_2 hL _ (lo_k6_6 hL _ (lo_e25 hL _ (lo_k7_2 hL _ t_pr) _ (by omega)))) (by decide))).trans e896
      have e899 := (hk1_912 pr (tg_ne t_pr (lo_k6_6 hL _ (lo_e25 hL _ (lo_k7_2 hL _ t_pr) _ (by omega))) (by decide)) (tg_ne t_pr (lo_k5_2 hL _ (lo_k6_6 hL _ (lo_e25 hL _ (lo_k7_2 hL _ t_pr) _ (by omega)))) (by decide))).trans e899
      have e904 := (hk1_912 (g.lk pr 2) (tg_ne (lo_k7_2 hL _ t_pr) (lo_k6_6 hL _ (lo_e25 hL _ (lo_k7_2 hL _ t_pr) _ (by omega))) (by decide)) (tg_ne (lo_k7_2 hL _ t_pr) (lo_k5_2 hL _ (lo_k6_6 hL _ (lo_e25 hL _ (lo_k7_2 hL _ t_pr) _ (by omega)))) (by decide))).trans e904
      obtain ⟨sg913, nn914, dd915, e916, e917, hN918⟩ := lv_910
      have c919 : ∀ i, i < 15 → ∃ k, k < 1000000000 ∧ dd915 i = nI k := hN918.2.1
      have hnn914 : nn914 ≤ 15 := hN918.1
      refine lv_astore_n (lv' := [(2, .ref (g.lk (g.lk (g.lk pr 2) le) 6)), (0, .ref X), (1, .ref (g.lk (g.lk pr 2) n))]) hx hb d_NRunner_operateLong_25 rfl hl (by decide) rfl (fun ls hl => ?_)
      have hFx : LNF sg913 nn914 dd915 vx := ⟨LNV_cast hN918 (hsx rfl).1, htx⟩
      refine lv_aload_n hx hb d_NRunner_operateLong_26 rfl (lv_at hl 1 rfl) ?_
      refine pf_get (v := .ref pr) (C := "BigRunner$Runner") (T := FT8) (N := 13) hx hb (hw8 hB _) (fun _ h9 => h9) hown hK hP (lo_in hL t_X (by decide)) e896 rfl 0 (by decide) (wd_330 hB _) rfl d_NRunner_operateLong_27 ?_
      refine pf_get (v := .ref (g.lk pr 2)) (C := "BigRunner$Program") (T := FT6) (N := 6) hx hb (hw6 hB _) (fun _ h9 => h9) hown hK hP (lo_in hL t_pr (by decide)) e899 rfl 2 (by decide) (wd_249 hB _) rfl d_NRunner_operateLong_30 ?_
      refine lv_aload_n hx hb d_NRunner_operateLong_33 rfl (lv_at hl 2 rfl) ?_
      refine pf_get (v := .int (nI ri)) (C := "BigRunner$Node") (T := FT5) (N := 7) hx hb (hw5 hB _) (fun _ h9 => h9) hown hK hP (lo_in hL (lo_e25 hL _ (lo_k7_2 hL _ t_pr) _ (by omega)) (by decide)) eN rfl 2 (by decide) (wd_212 hB _) rfl d_NRunner_operateLong_34 ?_
      refine pf_aald (i := ri) hx hb hK hP (lo_in hL (lo_k7_2 hL _ t_pr) (by decide)) e904 (lo_t25 hL _ (lo_k7_2 hL _ t_pr)) (by omega) (by decide) d_NRunner_operateLong_37 ?_
      refine pcc_r (va_runV (C := "BigRunner$Node") (As := []) (rest := []) ⟨hx, hb, hml, hown, tb_nil⟩ (v_widenedL l g H.size f907 ((g.lk (g.lk pr 2) ri)) ky1 ky2 ky3 my hL (lo_e25 hL _ (lo_k7_2 hL _ t_pr) _ (by omega)) hI1_911.1 eNy) ⟨(callB_of 0 (tb_one (wd_761 hB _)) tb_good1 rfl rfl rfl (wd_77 hB _) (wd_758 hB _) (by decide +kernel) ⟨Nat.le_of_ble_eq_true rfl, Nat.le_of_ble_eq_true rfl⟩), (wd_759 hB _), (wd_760 hB _)⟩ ⟨pe_bl, pg_recv (ci := 5) hK hP (lo_in hL (lo_e25 hL _ (lo_k7_2 hL _ t_pr) _ (by omega)) (by decide)) eNy rfl, pe_pre hB hK hP hD⟩ rfl rfl hl.1 rfl (lv_room (Nat.le_of_ble_eq_true rfl)) d_NRunner_operateLong_38 ⟨Nat.le_of_ble_eq_true rfl, Nat.le_of_ble_eq_true rfl⟩) hS (fun r920 f921 H locs hq922 hP hD hS => ?_)
      obtain ⟨ra_923, rfl⟩ := hq922
      subst ra_923
      refine lv_astore_n (lv' := [(3, .ref (g.lk (g.lk (g.lk pr 2) ri) 6)), (2, .ref (g.lk (g.lk (g.lk pr 2) le) 6)), (0, .ref X), (1, .ref (g.lk (g.lk pr 2) n))]) hx hb d_NRunner_operateLong_41 rfl hl (by decide) rfl (fun ls hl => ?_)
      refine lv_iconst (v := nI 1) hx hb d_NRunner_operateLong_42 (by decide) ?_
      refine lv_istore (lv' := [(4, .int (nI 1)), (3, .ref (g.lk (g.lk (g.lk pr 2) ri) 6)), (2, .ref (g.lk (g.lk (g.lk pr 2) le) 6)), (0, .ref X), (1, .ref (g.lk (g.lk pr 2) n))]) hx hb d_NRunner_operateLong_43 hl (by decide) rfl (fun ls hl => ?_)
      refine lv_aload_n hx hb d_NRunner_operateLong_45 rfl (lv_at hl 4 rfl) ?_
      refine pf_get (v := .int (nI 7)) (C := "BigRunner$Node") (T := FT5) (N := 7) hx hb (hw5 hB _) (fun _ h9 => h9) hown hK hP (lo_in hL (lo_e25 hL _ (lo_k7_2 hL _ t_pr) _ (by omega)) (by decide)) eN rfl 0 (by decide) (wd_204 hB _) rfl d_NRunner_operateLong_46 ?_
      refine lv_tableOut (tgt := 147) hx hb d_NRunner_operateLong_49 (by rw [nI_toInt (by omega)]; omega) (by decide) ?_
      refine lv_aload_n hx hb d_NRunner_operateLong_147 rfl (lv_at hl 1 rfl) ?_
      refine pf_get (v := .int sgy) (C := "BigRunner$LongNumber") (T := FT4) (N := 3) hx hb (hw4 hB _) (fun _ h9 => h9) hown hK hP (lo_in hL (lo_k6_6 hL _ (lo_e25 hL _ (lo_k7_2 hL _ t_pr) _ (by omega))) (by decide)) eay rfl 0 (by decide) (wd_189 hB _) rfl d_NRunner_operateLong_148 ?_
      refine lv_if_ne (tgt := 156) hx hb d_NRunner_operateLong_151 (by decide) (fun b924 => ?_) (fun b924 => ?_)
      · skip
        have hsy9 : ¬ sgy = nI 0 := b924
        have hvy9 : vy ≠ 0 := fun z9 => hsy9 ((LNV_0s hFy.1).mpr (LNV_z hFy.1 z9))
        refine lv_aload_n hx hb d_NRunner_operateLong_156 rfl (lv_at hl 3 rfl) ?_
        refine pf_get (v := .ref (g.lk X 6)) (C := "BigRunner$Runner") (T := FT8) (N := 13) hx hb (hw8 hB _) (fun _ h9 => h9) hown hK hP (lo_in hL t_X (by decide)) e896 rfl 6 (by decide) (wd_338 hB _) rfl d_NRunner_operateLong_157 ?_
        refine lv_aload_n hx hb d_NRunner_operateLong_160 rfl (lv_at hl 2 rfl) ?_
        refine lv_aload_n hx hb d_NRunner_operateLong_161 rfl (lv_at hl 1 rfl) ?_
        refine lv_aload_n hx hb d_NRunner_operateLong_162 rfl (lv_at hl 4 rfl) ?_
        refine pf_get (v := .ref (g.lk (g.lk (g.lk pr 2) n) 6)) (C := "BigRunner$Node") (T := FT5) (N := 7) hx hb (hw5 hB _) (fun _ h9 => h9) hown hK hP (lo_in hL (lo_e25 hL _ (lo_k7_2 hL _ t_pr) _ (by omega)) (by decide)) eN rfl 6 (by decide) (wd_224 hB _) rfl d_NRunner_operateLong_163 ?_
        refine lv_aload_n hx hb d_NRunner_operateLong_166 rfl (lv_at hl 4 rfl) ?_
        refine pf_get (v := .int (nI 7)) (C := "BigRunner$Node") (T := FT5) (N := 7) hx hb (hw5 hB _) (fun _ h9 => h9) hown hK hP (lo_in hL (lo_e25 hL _ (lo_k7_2 hL _ t_pr) _ (by omega)) (by decide)) eN rfl 0 (by decide) (wd_204 hB _) rfl d_NRunner_operateLong_167 ?_
        refine lv_bipush (v := nI 7) hx hb d_NRunner_operateLong_170 (by decide) ?_
        refine lv_icmp_ne (tgt := 179) hx hb d_NRunner_operateLong_172 (by decide) (fun b925 => ?_) (fun b925 => ?_)
        · skip
          replace b925 := mt (nI_eq (a := 7) (b := 7) (by omega) (by omega)).mpr b925
          exfalso; omega
        · skip
          replace b925 := (nI_eq (a := 7) (b := 7) (by omega) (by omega)).mp b925
          refine lv_iconst (v := nI 1) hx hb d_NRunner_operateLong_175 (by decide) ?_
          refine lv_goto (tgt := 180) hx hb d_NRunner_operateLong_176 (by decide) ?_
          obtain ⟨n_927, e926, c928⟩ := oc_4.of (lo_k9_6 hL _ t_X) (hI1_911.1 (g.lk X 6))
          refine pcc_v (va_runV (C := "BigRunner$LongDivision") (As := [.ref (g.lk (g.lk (g.lk pr 2) le) 6), .ref (g.lk (g.lk (g.lk pr 2) ri) 6), .ref (g.lk (g.lk (g.lk pr 2) n) 6), .int (nI 1)]) (rest := []) ⟨hx, hb, hml, hown, tb_nil⟩ (v_divide1 l g H.size f907 ((g.lk X 6)) ((g.lk (g.lk (g.lk pr 2) le) 6)) sg913 nn914 dd915 vx ((g.lk (g.lk (g.lk pr 2) ri) 6)) sgy ny dy vy ((g.lk (g.lk (g.lk pr 2) n) 6)) hL (lo_k9_6 hL _ t_X) (lo_k6_6 hL _ (lo_e25 hL _ (lo_k7_2 hL _ t_pr) _ (by omega))) (lo_k6_6 hL _ (lo_e25 hL _ (lo_k7_2 hL _ t_pr) _ (by omega))) (lo_k6_6 hL _ (lo_e25 hL _ (lo_k7_2 hL _ t_pr) _ (by omega))) hI1_911 e916 e917 hFx eay eby hFy (tn_ne ((lo_n6 hL _ (lo_e25 hL _ (lo_k7_2 hL _ t_pr) _ (by omega))).trans (lo_n25 hL _ (lo_k7_2 hL _ t_pr) _ (by omega))) ((lo_n6 hL _ (lo_e25 hL _ (lo_k7_2 hL _ t_pr) _ (by omega))).trans (lo_n25 hL _ (lo_k7_2 hL _ t_pr) _ (by omega))) (by omega)) (tn_ne ((lo_n6 hL _ (lo_e25 hL _ (lo_k7_2 hL _ t_pr) _ (by omega))).trans (lo_n25 hL _ (lo_k7_2 hL _ t_pr) _ (by omega))) ((lo_n6 hL _ (lo_e25 hL _ (lo_k7_2 hL _ t_pr) _ (by omega))).trans (lo_n25 hL _ (lo_k7_2 hL _ t_pr) _ (by omega))) (by omega)) (Nat.pos_of_ne_zero (fun z9 => hsy9 ((LNV_0s hFy.1).mpr z9)))) ⟨(callB_of 4 (tb_one (wd_806 hB _)) tb_good1 rfl rfl rfl (wd_81 hB _) (wd_803 hB _) (by decide +kernel) ⟨Nat.le_of_ble_eq_true rfl, Nat.le_of_ble_eq_true rfl⟩), (wd_804 hB _), (wd_805 hB _)⟩ ⟨pe_bl, pg_recv (ci := 3) hK hP (lo_in hL (lo_k9_6 hL _ t_X) (by decide)) e926 rfl, pe_pre hB hK hP hD⟩ rfl rfl hl.1 rfl (lv_room (Nat.le_of_ble_eq_true rfl)) d_NRunner_operateLong_180 ⟨Nat.le_of_ble_eq_true rfl, Nat.le_of_ble_eq_true rfl⟩) hS (fun f930 H locs hq931 hP hD hS => ?_)
          obtain ⟨lv_932, hI1_933, hk1_934⟩ := hq931
          have hu : ∀ b, b ≠ X → b ≠ (g.lk (g.lk (g.lk pr 2) n) 6) → b ≠ (g.lk (g.lk (g.lk (g.lk pr 2) n) 6) 2) → b ≠ (g.lk (g.lk (g.lk pr 2) le) 6) → b ≠ (g.lk (g.lk (g.lk (g.lk pr 2) le) 6) 2) → b ≠ (g.lk (g.lk (g.lk pr 2) ri) 6) → b ≠ (g.lk (g.lk (g.lk (g.lk pr 2) ri) 6) 2) → b ≠ (g.lk X 6) → b ≠ (g.lk (g.lk X 6) 0) → b ≠ (g.lk (g.lk X 6) 1) → f930 b = f b := fun b q0 q1 q2 q3 q4 q5 q6 q7 q8 q9 => (hk1_934 b q1 q2 q7 q8 q9).trans (hu b q0 q1 q2 q3 q4 q5 q6 q7 q8 q9)
          have eN := (hk1_934 (g.lk (g.lk pr 2) n) (tg_ne (lo_e25 hL _ (lo_k7_2 hL _ t_pr) _ (by omega)) (lo_k6_6 hL _ (lo_e25 hL _ (lo_k7_2 hL _ t_pr) _ (by omega))) (by decide)) (tg_ne (lo_e25 hL _ (lo_k7_2 hL _ t_pr) _ (by omega)) (lo_k5_2 hL _ (lo_k6_6 hL _ (lo_e25 hL _ (lo_k7_2 hL _ t_pr) _ (by omega)))) (by decide)) (tg_ne (lo_e25 hL _ (lo_k7_2 hL _ t_pr) _ (by omega)) (lo_k9_6 hL _ t_X) (by decide)) (tg_ne (lo_e25 hL _ (lo_k7_2 hL _ t_pr) _ (by omega)) (lo_k4_0 hL _ (lo_k9_6 hL _ t_X)) (by decide)) (tg_ne (lo_e25 hL _ (lo_k7_2 hL _ t_pr) _ (by omega)) (lo_k4_1 hL _ (lo_k9_6 hL _ t_X)) (by decide))).trans eN
          have eNx := (hk1_934 (g.lk (g.lk pr 2) le) (tg_ne (lo_e25 hL _ (lo_k7_2 hL _ t_pr) _ (by omega)) (lo_k6_6 hL _ (lo_e25 hL _ (lo_k7_2 hL _ t_pr) _ (by omega))) (by decide)) (tg_ne (lo_e25 hL _ (lo_k7_2 hL _ t_pr) _ (by omega)) (lo_k5_2 hL _ (lo_k6_6 hL _ (lo_e25 hL _ (lo_k7_2 hL _ t_pr) _ (by omega)))) (by decide)) (tg_ne (lo_e25 hL _ (lo_k7_2 hL _ t_pr) _ (by omega)) (lo_k9_6 hL _ t_X) (by decide)) (tg_ne (lo_e25 hL _ (lo_k7_2 hL _ t_pr) _ (by omega)) (lo_k4_0 hL _ (lo_k9_6 hL _ t_X)) (by decide)) (tg_ne (lo_e25 hL _ (lo_k7_2 hL _ t_pr) _ (by omega)) (lo_k4_1 hL _ (lo_k9_6 hL _ t_X)) (by decide))).trans eNx
          have eNy := (hk1_934 (g.lk (g.lk pr 2) ri) (tg_ne (lo_e25 hL _ (lo_k7_2 hL _ t_pr) _ (by omega)) (lo_k6_6 hL _ (lo_e25 hL _ (lo_k7_2 hL _ t_pr) _ (by omega))) (by decide)) (tg_ne (lo_e25 hL _ (lo_k7_2 hL _ t_pr) _ (by omega)) (lo_k5_2 hL _ (lo_k6_6 hL _ (lo_e25 hL _ (lo_k7_2 hL _ t_pr) _ (by omega)))) (by decide)) (tg_ne (lo_e25 hL _ (lo_k7_2 hL _ t_pr) _ (by omega)) (lo_k9_6 hL _ t_X) (by decide)) (tg_ne (lo_e25 hL _ (lo_k7_2 hL _ t_pr) _ (by omega)) (lo_k4_0 hL _ (lo_k9_6 hL _ t_X)) (by decide)) (tg_ne (lo_e25 hL _ (lo_k7_2 hL _ t_pr) _ (by omega)) (lo_k4_1 hL _ (lo_k9_6 hL _ t_X)) (by decide))).trans eNy
          have eay := (hk1_934 (g.lk (g.lk (g.lk pr 2) ri) 6) (tn_ne ((lo_n6 hL _ (lo_e25 hL _ (lo_k7_2 hL _ t_pr) _ (by omega))).trans (lo_n25 hL _ (lo_k7_2 hL _ t_pr) _ (by omega))) ((lo_n6 hL _ (lo_e25 hL _ (lo_k7_2 hL _ t_pr) _ (by omega))).trans (lo_n25 hL _ (lo_k7_2 hL _ t_pr) _ (by omega))) (by omega)) (tg_ne (lo_k6_6 hL _ (lo_e25 hL _ (lo_k7_2 hL _ t_pr) _ (by omega))) (lo_k5_2 hL _ (lo_k6_6 hL _ (lo_e25 hL _ (lo_k7_2 hL _ t_pr) _ (by omega)))) (by decide)) (tg_ne (lo_k6_6 hL _ (lo_e25 hL _ (lo_k7_2 hL _ t_pr) _ (by omega))) (lo_k9_6 hL _ t_X) (by decide)) (tg_ne (lo_k6_6 hL _ (lo_e25 hL _ (lo_k7_2 hL _ t_pr) _ (by omega))) (lo_k4_0 hL _ (lo_k9_6 hL _ t_X)) (by decide)) (tg_ne (lo_k6_6 hL _ (lo_e25 hL _ (lo_k7_2 hL _ t_pr) _ (by omega))) (lo_k4_1 hL _ (lo_k9_6 hL _ t_X)) (by decide))).trans eay
          have eby := (hk1_934 (g.lk (g.lk (g.lk (g.lk pr 2) ri) 6) 2) (tg_ne (lo_k5_2 hL _ (lo_k6_6 hL _ (lo_e25 hL _ (lo_k7_2 hL _ t_pr) _ (by omega)))) (lo_k6_6 hL _ (lo_e25 hL _ (lo_k7_2 hL _ t_pr) _ (by omega))) (by decide)) (fun q9 => (tn_ne ((lo_n6 hL _ (lo_e25 hL _ (lo_k7_2 hL _ t_pr) _ (by omega))).trans (lo_n25 hL _ (lo_k7_2 hL _ t_pr) _ (by omega))) ((lo_n6 hL _ (lo_e25 hL _ (lo_k7_2 hL _ t_pr) _ (by omega))).trans (lo_n25 hL _ (lo_k7_2 hL _ t_pr) _ (by omega))) (by omega)) (lo_inj5 hL _ _ (lo_k6_6 hL _ (lo_e25 hL _ (lo_k7_2 hL _ t_pr) _ (by omega))) (lo_k6_6 hL _ (lo_e25 hL _ (lo_k7_2 hL _ t_pr) _ (by omega))) q9)) (tg_ne (lo_k5_2 hL _ (lo_k6_6 hL _ (lo_e25 hL _ (lo_k7_2 hL _ t_pr) _ (by omega)))) (lo_k9_6 hL _ t_X) (by decide)) (tg_ne (lo_k5_2 hL _ (lo_k6_6 hL _ (lo_e25 hL _ (lo_k7_2 hL _ t_pr) _ (by omega)))) (lo_k4_0 hL _ (lo_k9_6 hL _ t_X)) (by decide)) (tg_ne (lo_k5_2 hL _ (lo_k6_6 hL _ (lo_e25 hL _ (lo_k7_2 hL _ t_pr) _ (by omega)))) (lo_k4_1 hL _ (lo_k9_6 hL _ t_X)) (by decide))).trans eby
          have e896 := (hk1_934 X (tg_ne t_X (lo_k6_6 hL _ (lo_e25 hL _ (lo_k7_2 hL _ t_pr) _ (by omega))) (by decide)) (tg_ne t_X (lo_k5_2 hL _ (lo_k6_6 hL _ (lo_e25 hL _ (lo_k7_2 hL _ t_pr) _ (by omega)))) (by decide)) (tg_ne t_X (lo_k9_6 hL _ t_X) (by decide)) (tg_ne t_X (lo_k4_0 hL _ (lo_k9_6 hL _ t_X)) (by decide)) (tg_ne t_X (lo_k4_1 hL _ (lo_k9_6 hL _ t_X)) (by decide))).trans e896
          have e899 := (hk1_934 pr (tg_ne t_pr (lo_k6_6 hL _ (lo_e25 hL _ (lo_k7_2 hL _ t_pr) _ (by omega))) (by decide)) (tg_ne t_pr (lo_k5_2 hL _ (lo_k6_6 hL _ (lo_e25 hL _ (lo_k7_2 hL _ t_pr) _ (by omega)))) (by decide)) (tg_ne t_pr (lo_k9_6 hL _ t_X) (by decide)) (tg_ne t_pr (lo_k4_0 hL _ (lo_k9_6 hL _ t_X)) (by decide)) (tg_ne t_pr (lo_k4_1 hL _ (lo_k9_6 hL _ t_X)) (by decide))).trans e899
          have e904 := (hk1_934 (g.lk pr 2) (tg_ne (lo_k7_2 hL _ t_pr) (lo_k6_6 hL _ (lo_e25 hL _ (lo_k7_2 hL _ t_pr) _ (by omega))) (by decide)) (tg_ne (lo_k7_2 hL _ t_pr) (lo_k5_2 hL _ (lo_k6_6 hL _ (lo_e25 hL _ (lo_k7_2 hL _ t_pr) _ (by omega)))) (by decide)) (tg_ne (lo_k7_2 hL _ t_pr) (lo_k9_6 hL _ t_X) (by decide)) (tg_ne (lo_k7_2 hL _ t_pr) (lo_k4_0 hL _ (lo_k9_6 hL _ t_X)) (by decide)) (tg_ne (lo_k7_2 hL _ t_pr) (lo_k4_1 hL _ (lo_k9_6 hL _ t_X)) (by decide))).trans e904
          have e916 := (hk1_934 (g.lk (g.lk (g.lk pr 2) le) 6) (tn_ne ((lo_n6 hL _ (lo_e25 hL _ (lo_k7_2 hL _ t_pr) _ (by omega))).trans (lo_n25 hL _ (lo_k7_2 hL _ t_pr) _ (by omega))) ((lo_n6 hL _ (lo_e25 hL _ (lo_k7_2 hL _ t_pr) _ (by omega))).trans (lo_n25 hL _ (lo_k7_2 hL _ t_pr) _ (by omega))) (by omega)) (tg_ne (lo_k6_6 hL _ (lo_e25 hL _ (lo_k7_2 hL _ t_pr) _ (by omega))) (lo_k5_2 hL _ (lo_k6_6 hL _ (lo_e25 hL _ (lo_k7_2 hL _ t_pr) _ (by omega)))) (by decide)) (tg_ne (lo_k6_6 hL _ (lo_e25 hL _ (lo_k7_2 hL _ t_pr) _ (by omega))) (lo_k9_6 hL _ t_X) (by decide)) (tg_ne (lo_k6_6 hL _ (lo_e25 hL _ (lo_k7_2 hL _ t_pr) _ (by omega))) (lo_k4_0 hL _ (lo_k9_6 hL _ t_X)) (by decide)) (tg_ne (lo_k6_6 hL _ (lo_e25 hL _ (lo_k7_2 hL _ t_pr) _ (by omega))) (lo_k4_1 hL _ (lo_k9_6 hL _ t_X)) (by decide))).trans e916
          have e917 := (hk1_934 (g.lk (g.lk (g.lk (g.lk pr 2) le) 6) 2) (tg_ne (lo_k5_2 hL _ (lo_k6_6 hL _ (lo_e25 hL _ (lo_k7_2 hL _ t_pr) _ (by omega)))) (lo_k6_6 hL _ (lo_e25 hL _ (lo_k7_2 hL _ t_pr) _ (by omega))) (by decide)) (fun q9 => (tn_ne ((lo_n6 hL _ (lo_e25 hL _ (lo_k7_2 hL _ t_pr) _ (by omega))).trans (lo_n25 hL _ (lo_k7_2 hL _ t_pr) _ (by omega))) ((lo_n6 hL _ (lo_e25 hL _ (lo_k7_2 hL _ t_pr) _ (by omega))).trans (lo_n25 hL _ (lo_k7_2 hL _ t_pr) _ (by omega))) (by omega)) (lo_inj5 hL _ _ (lo_k6_6 hL _ (lo_e25 hL _ (lo_k7_2 hL _ t_pr) _ (by omega))) (lo_k6_6 hL _ (lo_e25 hL _ (lo_k7_2 hL _ t_pr) _ (by omega))) q9)) (tg_ne (lo_k5_2 hL _ (lo_k6_6 hL _ (lo_e25 hL _ (lo_k7_2 hL _ t_pr) _ (by omega)))) (lo_k9_6 hL _ t_X) (by decide)) (tg_ne (lo_k5_2 hL _ (lo_k6_6 hL _ (lo_e25 hL _ (lo_k7_2 hL _ t_pr) _ (by omega)))) (lo_k4_0 hL _ (lo_k9_6 hL _ t_X)) (by decide)) (tg_ne (lo_k5_2 hL _ (lo_k6_6 hL _ (lo_e25 hL _ (lo_k7_2 hL _ t_pr) _ (by omega)))) (lo_k4_1 hL _ (lo_k9_6 hL _ t_X)) (by decide))).trans e917
          obtain ⟨sg935, nn936, dd937, e938, e939, hN940⟩ := lv_932
          have c941 : ∀ i, i < 15 → ∃ k, k < 1000000000 ∧ dd937 i = nI k := hN940.2.1
          have hnn936 : nn936 ≤ 15 := hN940.1
          refine lv_iload hx hb d_NRunner_operateLong_183 (lv_at hl 0 rfl) ?_
          refine lv_if_eq (tgt := 192) hx hb d_NRunner_operateLong_185 (by decide) (fun b942 => ?_) (fun b942 => ?_)
          · skip
            replace b942 := (nI_eq (a := 1) (b := 0) (by omega) (by omega)).mp b942
            exfalso; omega
          · skip
            replace b942 := mt (nI_eq (a := 1) (b := 0) (by omega) (by omega)).mpr b942
            refine lv_iconst (v := nI 0) hx hb d_NRunner_operateLong_188 (by decide) ?_
            refine lv_goto (tgt := 193) hx hb d_NRunner_operateLong_189 (by decide) ?_
            exact pe_iret hx hb hr hlocks hK hP hD hS d_NRunner_operateLong_193 ⟨⟨(lo + ((nI 1))), e896⟩, (congrArg nI (otr_0 (w := 6) (x := vx) (y := vy) (by decide) (Or.inr hvy9) (td_le htx).2).symm), (fun _ => ⟨_, _, _, e938, e939, hN940⟩), hI1_933, hu⟩
      · skip
        have hsy8 : sgy = nI 0 := by first | exact b924 | exact Decidable.not_not.mp b924
        have hvy8 : vy = 0 := LNV_v0 hFy.1 hsy8
        refine lv_iconst (v := nI 1) hx hb d_NRunner_operateLong_154 (by decide) ?_
        exact pe_iret hx hb hr hlocks hK hP hD hS d_NRunner_operateLong_155 ⟨⟨(lo + ((nI 1))), e896⟩, (congrArg nI (otr_1 (by decide) (by decide) hvy8).symm), (fun z9 => absurd (z9.symm.trans (otr_1 (by decide) (by decide) hvy8)) (by decide)), hI1_911, hu⟩
    · skip
      obtain ⟨kx1, kx2, kx3, mx, eNx, hsx, hlx, htx⟩ := hVx
      obtain ⟨ky1, ky2, ky3, my, eNy, hsy, hly, hty⟩ := hVy
      refine lv_aload_n hx hb d_NRunner_operateLong_0 rfl (lv_at hl 0 rfl) ?_
      refine lv_dup hx hb d_NRunner_operateLong_1 rfl ?_
      refine pf_get (v := .int lo) (C := "BigRunner$Runner") (T := FT8) (N := 13) hx hb (hw8 hB _) (fun _ h9 => h9) hown hK hP (lo_in hL t_X (by decide)) eX rfl 11 (by decide) (wd_347 hB _) rfl d_NRunner_operateLong_2 ?_
      refine lv_iconst (v := nI 1) hx hb d_NRunner_operateLong_5 (by decide) ?_
      refine lv_iadd hx hb d_NRunner_operateLong_6 ?_
      refine pf_put (v := .int (lo + ((nI 1)))) (ty := .int) (fs' := [.ref pr, .ref (g.lk X 1), .int (nI ix), .ref (g.lk X 3), .ref (g.lk X 4), .ref (g.lk X 5), .ref (g.lk X 6), .ref (g.lk X 7), .int (nI os), .int (nI st), .int mo, .int (lo + ((nI 1))), .int (nI tr)]) (C := "BigRunner$Runner") (T := FT8) (N := 13) hx hb (hw8 hB _) (fun _ h9 => h9) TY8 ok8 nm8 hown hK hP hD hS (lo_in hL t_X (by decide)) eX rfl 11 (by decide) (wd_347 hB _) rfl (by decide +kernel) rfl rfl (Nat.le_of_ble_eq_true rfl) rfl d_NRunner_operateLong_7 (fun f943 H locs e944 k945 hP hD hS => ?_)
      have eN := (k945 (g.lk (g.lk pr 2) n) (tg_ne (lo_e25 hL _ (lo_k7_2 hL _ t_pr) _ (by omega)) t_X (by decide))).trans eN
      have eNx := (k945 (g.lk (g.lk pr 2) le) (tg_ne (lo_e25 hL _ (lo_k7_2 hL _ t_pr) _ (by omega)) t_X (by decide))).trans eNx
      have eNy := (k945 (g.lk (g.lk pr 2) ri) (tg_ne (lo_e25 hL _ (lo_k7_2 hL _ t_pr) _ (by omega)) t_X (by decide))).trans eNy
      have hu : ∀ b, b ≠ X → b ≠ (g.lk (g.lk (g.lk pr 2) n) 6) → b ≠ (g.lk (g.lk (g.lk (g.lk pr 2) n) 6) 2) → b ≠ (g.lk (g.lk (g.lk pr 2) le) 6) → b ≠ (g.lk (g.lk (g.lk (g.lk pr 2) le) 6) 2) → b ≠ (g.lk (g.lk (g.lk pr 2) ri) 6) → b ≠ (g.lk (g.lk (g.lk (g.lk pr 2) ri) 6) 2) → b ≠ (g.lk X 6) → b ≠ (g.lk (g.lk X 6) 0) → b ≠ (g.lk (g.lk X 6) 1) → f943 b = f b := fun b q0 q1 q2 q3 q4 q5 q6 q7 q8 q9 => (k945 b q0).trans (hu b q0 q1 q2 q3 q4 q5 q6 q7 q8 q9)
      have hk946 : ∀ b, b ≠ X → f943 b = f b := k945
      refine lv_aload_n hx hb d_NRunner_operateLong_10 rfl (lv_at hl 0 rfl) ?_
      refine pf_get (v := .ref pr) (C := "BigRunner$Runner") (T := FT8) (N := 13) hx hb (hw8 hB _) (fun _ h9 => h9) hown hK hP (lo_in hL t_X (by decide)) e944 rfl 0 (by decide) (wd_330 hB _) rfl d_NRunner_operateLong_11 ?_
      obtain ⟨sc_948, nc_949, e947, c950, c951⟩ := oc_7.of t_pr (hI.1 pr)
      replace e947 := (hk946 pr (tg_ne t_pr t_X (by decide))).trans e947
      refine pf_get (v := .ref (g.lk pr 2)) (C := "BigRunner$Program") (T := FT6) (N := 6) hx hb (hw6 hB _) (fun _ h9 => h9) hown hK hP (lo_in hL t_pr (by decide)) e947 rfl 2 (by decide) (wd_249 hB _) rfl d_NRunner_operateLong_14 ?_
      refine lv_aload_n hx hb d_NRunner_operateLong_17 rfl (lv_at hl 1 rfl) ?_
      refine pf_get (v := .int (nI le)) (C := "BigRunner$Node") (T := FT5) (N := 7) hx hb (hw5 hB _) (fun _ h9 => h9) hown hK hP (lo_in hL (lo_e25 hL _ (lo_k7_2 hL _ t_pr) _ (by omega)) (by decide)) eN rfl 1 (by decide) (wd_208 hB _) rfl d_NRunner_operateLong_18 ?_
      have e952 := oc_25.of (lo_k7_2 hL _ t_pr) (hI.1 (g.lk pr 2))
      replace e952 := (hk946 (g.lk pr 2) (tg_ne (lo_k7_2 hL _ t_pr) t_X (by decide))).trans e952
      refine pf_aald (i := le) hx hb hK hP (lo_in hL (lo_k7_2 hL _ t_pr) (by decide)) e952 (lo_t25 hL _ (lo_k7_2 hL _ t_pr)) (by omega) (by decide) d_NRunner_operateLong_21 ?_
      have hI953 := iv_1 hI hL t_X (by decide) hk946 (oc_9.mk t_X (⟨pr, ix, os, st, mo, ((lo + ((nI 1)))), tr, e944, t_pr, (by omega), (by omega), (by omega), (by omega)⟩))
      refine pcc_r (va_runV (C := "BigRunner$Node") (As := []) (rest := []) ⟨hx, hb, hml, hown, tb_nil⟩ (v_widenedS l g H.size f943 ((g.lk (g.lk pr 2) le)) kx1 kx2 kx3 mx hL (lo_e25 hL _ (lo_k7_2 hL _ t_pr) _ (by omega)) hI953 eNx (by rw [(hsx rfl).1]; exact (hsx rfl).2)) ⟨(callB_of 0 (tb_one (wd_761 hB _)) tb_good1 rfl rfl rfl (wd_77 hB _) (wd_758 hB _) (by decide +kernel) ⟨Nat.le_of_ble_eq_true rfl, Nat.le_of_ble_eq_true rfl⟩), (wd_759 hB _), (wd_760 hB _)⟩ ⟨pe_bl, pg_recv (ci := 5) hK hP (lo_in hL (lo_e25 hL _ (lo_k7_2 hL _ t_pr) _ (by omega)) (by decide)) eNx rfl, pe_pre hB hK hP hD⟩ rfl rfl hl.1 rfl (lv_room (Nat.le_of_ble_eq_true rfl)) d_NRunner_operateLong_22 ⟨Nat.le_of_ble_eq_true rfl, Nat.le_of_ble_eq_true rfl⟩) hS (fun r954 f955 H locs hq956 hP hD hS => ?_)
      obtain ⟨ra_957, lv_958, hI1_959, hk1_960⟩ := hq956
      subst ra_957
      have hu : ∀ b, b ≠ X → b ≠ (g.lk (g.lk (g.lk pr 2) n) 6) → b ≠ (g.lk (g.lk (g.lk (g.lk pr 2) n) 6) 2) → b ≠ (g.lk (g.lk (g.lk pr 2) le) 6) → b ≠ (g.lk (g.lk (g.lk (g.lk pr 2) le) 6) 2) → b ≠ (g.lk (g.lk (g.lk pr 2) ri) 6) → b ≠ (g.lk (g.lk (g.lk (g.lk pr 2) ri) 6) 2) → b ≠ (g.lk X 6) → b ≠ (g.lk (g.lk X 6) 0) → b ≠ (g.lk (g.lk X 6) 1) → f955 b = f b := fun b q0 q1 q2 q3 q4 q5 q6 q7 q8 q9 => (hk1_960 b q3 q4).trans (hu b q0 q1 q2 q3 q4 q5 q6 q7 q8 q9)
      have eN := (hk1_960 (g.lk (g.lk pr 2) n) (tg_ne (lo_e25 hL _ (lo_k7_2 hL _ t_pr) _ (by omega)) (lo_k6_6 hL _ (lo_e25 hL _ (lo_k7_2 hL _ t_pr) _ (by omega))) (by decide)) (tg_ne (lo_e25 hL _ (lo_k7_2 hL _ t_pr) _ (by omega)) (lo_k5_2 hL _ (lo_k6_6 hL _ (lo_e25 hL _ (lo_k7_2 hL _ t_pr) _ (by omega)))) (by decide))).trans eN
      have eNx := (hk1_960 (g.lk (g.lk pr 2) le) (tg_ne (lo_e25 hL _ (lo_k7_2 hL _ t_pr) _ (by omega)) (lo_k6_6 hL _ (lo_e25 hL _ (lo_k7_2 hL _ t_pr) _ (by omega))) (by decide)) (tg_ne (lo_e25 hL _ (lo_k7_2 hL _ t_pr) _ (by omega)) (lo_k5_2 hL _ (lo_k6_6 hL _ (lo_e25 hL _ (lo_k7_2 hL _ t_pr) _ (by omega)))) (by decide))).trans eNx
      have eNy := (hk1_960 (g.lk (g.lk pr 2) ri) (tg_ne (lo_e25 hL _ (lo_k7_2 hL _ t_pr) _ (by omega)) (lo_k6_6 hL _ (lo_e25 hL _ (lo_k7_2 hL _ t_pr) _ (by omega))) (by decide)) (tg_ne (lo_e25 hL _ (lo_k7_2 hL _ t_pr) _ (by omega)) (lo_k5_2 hL _ (lo_k6_6 hL _ (lo_e25 hL _ (lo_k7_2 hL _ t_pr) _ (by omega)))) (by decide))).trans eNy
      have e944 := (hk1_960 X (tg_ne t_X (lo_k6_6 hL _ (lo_e25 hL _ (lo_k7_2 hL _ t_pr) _ (by omega))) (by decide)) (tg_ne t_X (lo_k5_2 hL _ (lo_k6_6 hL _ (lo_e25 hL _ (lo_k7_2 hL _ t_pr) _ (by omega)))) (by decide))).trans e944
      have e947 := (hk1_960 pr (tg_ne t_pr (lo_k6_6 hL _ (lo_e25 hL _ (lo_k7_2 hL _ t_pr) _ (by omega))) (by decide)) (tg_ne t_pr (lo_k5_2 hL _ (lo_k6_6 hL _ (lo_e25 hL _ (lo_k7_2 hL _ t_pr) _ (by omega)))) (by decide))).trans e947
      have e952 := (hk1_960 (g.lk pr 2) (tg_ne (lo_k7_2 hL _ t_pr) (lo_k6_6 hL _ (lo_e25 hL _ (lo_k7_2 hL _ t_pr) _ (by omega))) (by decide)) (tg_ne (lo_k7_2 hL _ t_pr) (lo_k5_2 hL _ (lo_k6_6 hL _ (lo_e25 hL _ (lo_k7_2 hL _ t_pr) _ (by omega)))) (by decide))).trans e952
      obtain ⟨sg961, nn962, dd963, e964, e965, hN966⟩ := lv_958
      have c967 : ∀ i, i < 15 → ∃ k, k < 1000000000 ∧ dd963 i = nI k := hN966.2.1
      have hnn962 : nn962 ≤ 15 := hN966.1
      refine lv_astore_n (lv' := [(2, .ref (g.lk (g.lk (g.lk pr 2) le) 6)), (0, .ref X), (1, .ref (g.lk (g.lk pr 2) n))]) hx hb d_NRunner_operateLong_25 rfl hl (by decide) rfl (fun ls hl => ?_)
      have hFx : LNF sg961 nn962 dd963 vx := ⟨LNV_cast hN966 (hsx rfl).1, htx⟩
      refine lv_aload_n hx hb d_NRunner_operateLong_26 rfl (lv_at hl 1 rfl) ?_
      refine pf_get (v := .ref pr) (C := "BigRunner$Runner") (T := FT8) (N := 13) hx hb (hw8 hB _) (fun _ h9 => h9) hown hK hP (lo_in hL t_X (by decide)) e944 rfl 0 (by decide) (wd_330 hB _) rfl d_NRunner_operateLong_27 ?_
      refine pf_get (v := .ref (g.lk pr 2)) (C := "BigRunner$Program") (T := FT6) (N := 6) hx hb (hw6 hB _) (fun _ h9 => h9) hown hK hP (lo_in hL t_pr (by decide)) e947 rfl 2 (by decide) (wd_249 hB _) rfl d_NRunner_operateLong_30 ?_
      refine lv_aload_n hx hb d_NRunner_operateLong_33 rfl (lv_at hl 2 rfl) ?_
      refine pf_get (v := .int (nI ri)) (C := "BigRunner$Node") (T := FT5) (N := 7) hx hb (hw5 hB _) (fun _ h9 => h9) hown hK hP (lo_in hL (lo_e25 hL _ (lo_k7_2 hL _ t_pr) _ (by omega)) (by decide)) eN rfl 2 (by decide) (wd_212 hB _) rfl d_NRunner_operateLong_34 ?_
      refine pf_aald (i := ri) hx hb hK hP (lo_in hL (lo_k7_2 hL _ t_pr) (by decide)) e952 (lo_t25 hL _ (lo_k7_2 hL _ t_pr)) (by omega) (by decide) d_NRunner_operateLong_37 ?_
      refine pcc_r (va_runV (C := "BigRunner$Node") (As := []) (rest := []) ⟨hx, hb, hml, hown, tb_nil⟩ (v_widenedS l g H.size f955 ((g.lk (g.lk pr 2) ri)) ky1 ky2 ky3 my hL (lo_e25 hL _ (lo_k7_2 hL _ t_pr) _ (by omega)) hI1_959 eNy (by rw [(hsy rfl).1]; exact (hsy rfl).2)) ⟨(callB_of 0 (tb_one (wd_761 hB _)) tb_good1 rfl rfl rfl (wd_77 hB _) (wd_758 hB _) (by decide +kernel) ⟨Nat.le_of_ble_eq_true rfl, Nat.le_of_ble_eq_true rfl⟩), (wd_759 hB _), (wd_760 hB _)⟩ ⟨pe_bl, pg_recv (ci := 5) hK hP (lo_in hL (lo_e25 hL _ (lo_k7_2 hL _ t_pr) _ (by omega)) (by decide)) eNy rfl, pe_pre hB hK hP hD⟩ rfl rfl hl.1 rfl (lv_room (Nat.le_of_ble_eq_true rfl)) d_NRunner_operateLong_38 ⟨Nat.le_of_ble_eq_true rfl, Nat.le_of_ble_eq_true rfl⟩) hS (fun r968 f969 H locs hq970 hP hD hS => ?_)
      obtain ⟨ra_971, lv_972, hI1_973, hk1_974⟩ := hq970
      subst ra_971
      have hu : ∀ b, b ≠ X → b ≠ (g.lk (g.lk (g.lk pr 2) n) 6) → b ≠ (g.lk (g.lk (g.lk (g.lk pr 2) n) 6) 2) → b ≠ (g.lk (g.lk (g.lk pr 2) le) 6) → b ≠ (g.lk (g.lk (g.lk (g.lk pr 2) le) 6) 2) → b ≠ (g.lk (g.lk (g.lk pr 2) ri) 6) → b ≠ (g.lk (g.lk (g.lk (g.lk pr 2) ri) 6) 2) → b ≠ (g.lk X 6) → b ≠ (g.lk (g.lk X 6) 0) → b ≠ (g.lk (g.lk X 6) 1) → f969 b = f b := fun b q0 q1 q2 q3 q4 q5 q6 q7 q8 q9 => (hk1_974 b q5 q6).trans (hu b q0 q1 q2 q3 q4 q5 q6 q7 q8 q9)
      have eN := (hk1_974 (g.lk (g.lk pr 2) n) (tg_ne (lo_e25 hL _ (lo_k7_2 hL _ t_pr) _ (by omega)) (lo_k6_6 hL _ (lo_e25 hL _ (lo_k7_2 hL _ t_pr) _ (by omega))) (by decide)) (tg_ne (lo_e25 hL _ (lo_k7_2 hL _ t_pr) _ (by omega)) (lo_k5_2 hL _ (lo_k6_6 hL _ (lo_e25 hL _ (lo_k7_2 hL _ t_pr) _ (by omega)))) (by decide))).trans eN
      have eNx := (hk1_974 (g.lk (g.lk pr 2) le) (tg_ne (lo_e25 hL _ (lo_k7_2 hL _ t_pr) _ (by omega)) (lo_k6_6 hL _ (lo_e25 hL _ (lo_k7_2 hL _ t_pr) _ (by omega))) (by decide)) (tg_ne (lo_e25 hL _ (lo_k7_2 hL _ t_pr) _ (by omega)) (lo_k5_2 hL _ (lo_k6_6 hL _ (lo_e25 hL _ (lo_k7_2 hL _ t_pr) _ (by omega)))) (by decide))).trans eNx
      have eNy := (hk1_974 (g.lk (g.lk pr 2) ri) (tg_ne (lo_e25 hL _ (lo_k7_2 hL _ t_pr) _ (by omega)) (lo_k6_6 hL _ (lo_e25 hL _ (lo_k7_2 hL _ t_pr) _ (by omega))) (by decide)) (tg_ne (lo_e25 hL _ (lo_k7_2 hL _ t_pr) _ (by omega)) (lo_k5_2 hL _ (lo_k6_6 hL _ (lo_e25 hL _ (lo_k7_2 hL _ t_pr) _ (by omega)))) (by decide))).trans eNy
      have e944 := (hk1_974 X (tg_ne t_X (lo_k6_6 hL _ (lo_e25 hL _ (lo_k7_2 hL _ t_pr) _ (by omega))) (by decide)) (tg_ne t_X (lo_k5_2 hL _ (lo_k6_6 hL _ (lo_e25 hL _ (lo_k7_2 hL _ t_pr) _ (by omega)))) (by decide))).trans e944
      have e947 := (hk1_974 pr (tg_ne t_pr (lo_k6_6 hL _ (lo_e25 hL _ (lo_k7_2 hL _ t_pr) _ (by omega))) (by decide)) (tg_ne t_pr (lo_k5_2 hL _ (lo_k6_6 hL _ (lo_e25 hL _ (lo_k7_2 hL _ t_pr) _ (by omega)))) (by decide))).trans e947
      have e952 := (hk1_974 (g.lk pr 2) (tg_ne (lo_k7_2 hL _ t_pr) (lo_k6_6 hL _ (lo_e25 hL _ (lo_k7_2 hL _ t_pr) _ (by omega))) (by decide)) (tg_ne (lo_k7_2 hL _ t_pr) (lo_k5_2 hL _ (lo_k6_6 hL _ (lo_e25 hL _ (lo_k7_2 hL _ t_pr) _ (by omega)))) (by decide))).trans e952
      have e964 := (hk1_974 (g.lk (g.lk (g.lk pr 2) le) 6) (tn_ne ((lo_n6 hL _ (lo_e25 hL _ (lo_k7_2 hL _ t_pr) _ (by omega))).trans (lo_n25 hL _ (lo_k7_2 hL _ t_pr) _ (by omega))) ((lo_n6 hL _ (lo_e25 hL _ (lo_k7_2 hL _ t_pr) _ (by omega))).trans (lo_n25 hL _ (lo_k7_2 hL _ t_pr) _ (by omega))) (by omega)) (tg_ne (lo_k6_6 hL _ (lo_e25 hL _ (lo_k7_2 hL _ t_pr) _ (by omega))) (lo_k5_2 hL _ (lo_k6_6 hL _ (lo_e25 hL _ (lo_k7_2 hL _ t_pr) _ (by omega)))) (by decide))).trans e964
      have e965 := (hk1_974 (g.lk (g.lk (g.lk (g.lk pr 2) le) 6) 2) (tg_ne (lo_k5_2 hL _ (lo_k6_6 hL _ (lo_e25 hL _ (lo_k7_2 hL _ t_pr) _ (by omega)))) (lo_k6_6 hL _ (lo_e25 hL _ (lo_k7_2 hL _ t_pr) _ (by omega))) (by decide)) (fun q9 => (tn_ne ((lo_n6 hL _ (lo_e25 hL _ (lo_k7_2 hL _ t_pr) _ (by omega))).trans (lo_n25 hL _ (lo_k7_2 hL _ t_pr) _ (by omega))) ((lo_n6 hL _ (lo_e25 hL _ (lo_k7_2 hL _ t_pr) _ (by omega))).trans (lo_n25 hL _ (lo_k7_2 hL _ t_pr) _ (by omega))) (by omega)) (lo_inj5 hL _ _ (lo_k6_6 hL _ (lo_e25 hL _ (lo_k7_2 hL _ t_pr) _ (by omega))) (lo_k6_6 hL _ (lo_e25 hL _ (lo_k7_2 hL _ t_pr) _ (by omega))) q9))).trans e965
      obtain ⟨sg975, nn976, dd977, e978, e979, hN980⟩ := lv_972
      have c981 : ∀ i, i < 15 → ∃ k, k < 1000000000 ∧ dd977 i = nI k := hN980.2.1
      have hnn976 : nn976 ≤ 15 := hN980.1
      refine lv_astore_n (lv' := [(3, .ref (g.lk (g.lk (g.lk pr 2) ri) 6)), (2, .ref (g.lk (g.lk (g.lk pr 2) le) 6)), (0, .ref X), (1, .ref (g.lk (g.lk pr 2) n))]) hx hb d_NRunner_operateLong_41 rfl hl (by decide) rfl (fun ls hl => ?_)
      have hFy : LNF sg975 nn976 dd977 vy := ⟨LNV_cast hN980 (hsy rfl).1, hty⟩
      refine lv_iconst (v := nI 1) hx hb d_NRunner_operateLong_42 (by decide) ?_
      refine lv_istore (lv' := [(4, .int (nI 1)), (3, .ref (g.lk (g.lk (g.lk pr 2) ri) 6)), (2, .ref (g.lk (g.lk (g.lk pr 2) le) 6)), (0, .ref X), (1, .ref (g.lk (g.lk pr 2) n))]) hx hb d_NRunner_operateLong_43 hl (by decide) rfl (fun ls hl => ?_)
      refine lv_aload_n hx hb d_NRunner_operateLong_45 rfl (lv_at hl 4 rfl) ?_
      refine pf_get (v := .int (nI 7)) (C := "BigRunner$Node") (T := FT5) (N := 7) hx hb (hw5 hB _) (fun _ h9 => h9) hown hK hP (lo_in hL (lo_e25 hL _ (lo_k7_2 hL _ t_pr) _ (by omega)) (by decide)) eN rfl 0 (by decide) (wd_204 hB _) rfl d_NRunner_operateLong_46 ?_
      refine lv_tableOut (tgt := 147) hx hb d_NRunner_operateLong_49 (by rw [nI_toInt (by omega)]; omega) (by decide) ?_
      refine lv_aload_n hx hb d_NRunner_operateLong_147 rfl (lv_at hl 1 rfl) ?_
      refine pf_get (v := .int sg975) (C := "BigRunner$LongNumber") (T := FT4) (N := 3) hx hb (hw4 hB _) (fun _ h9 => h9) hown hK hP (lo_in hL (lo_k6_6 hL _ (lo_e25 hL _ (lo_k7_2 hL _ t_pr) _ (by omega))) (by decide)) e978 rfl 0 (by decide) (wd_189 hB _) rfl d_NRunner_operateLong_148 ?_
      refine lv_if_ne (tgt := 156) hx hb d_NRunner_operateLong_151 (by decide) (fun b982 => ?_) (fun b982 => ?_)
      · skip
        have hsy9 : ¬ sg975 = nI 0 := b982
        have hvy9 : vy ≠ 0 := fun z9 => hsy9 ((LNV_0s hFy.1).mpr (LNV_z hFy.1 z9))
        refine lv_aload_n hx hb d_NRunner_operateLong_156 rfl (lv_at hl 3 rfl) ?_
        refine pf_get (v := .ref (g.lk X 6)) (C := "BigRunner$Runner") (T := FT8) (N := 13) hx hb (hw8 hB _) (fun _ h9 => h9) hown hK hP (lo_in hL t_X (by decide)) e944 rfl 6 (by decide) (wd_338 hB _) rfl d_NRunner_operateLong_157 ?_
        refine lv_aload_n hx hb d_NRunner_operateLong_160 rfl (lv_at hl 2 rfl) ?_
        refine lv_aload_n hx hb d_NRunner_operateLong_161 rfl (lv_at hl 1 rfl) ?_
        refine lv_aload_n hx hb d_NRunner_operateLong_162 rfl (lv_at hl 4 rfl) ?_
        refine pf_get (v := .ref (g.lk (g.lk (g.lk pr 2) n) 6)) (C := "BigRunner$Node") (T := FT5) (N := 7) hx hb (hw5 hB _) (fun _ h9 => h9) hown hK hP (lo_in hL (lo_e25 hL _ (lo_k7_2 hL _ t_pr) _ (by omega)) (by decide)) eN rfl 6 (by decide) (wd_224 hB _) rfl d_NRunner_operateLong_163 ?_
        refine lv_aload_n hx hb d_NRunner_operateLong_166 rfl (lv_at hl 4 rfl) ?_
        refine pf_get (v := .int (nI 7)) (C := "BigRunner$Node") (T := FT5) (N := 7) hx hb (hw5 hB _) (fun _ h9 => h9) hown hK hP (lo_in hL (lo_e25 hL _ (lo_k7_2 hL _ t_pr) _ (by omega)) (by decide)) eN rfl 0 (by decide) (wd_204 hB _) rfl d_NRunner_operateLong_167 ?_
        refine lv_bipush (v := nI 7) hx hb d_NRunner_operateLong_170 (by decide) ?_
        refine lv_icmp_ne (tgt := 179) hx hb d_NRunner_operateLong_172 (by decide) (fun b983 => ?_) (fun b983 => ?_)
        · skip
          replace b983 := mt (nI_eq (a := 7) (b := 7) (by omega) (by omega)).mpr b983
          exfalso; omega
        · skip
          replace b983 := (nI_eq (a := 7) (b := 7) (by omega) (by omega)).mp b983
          refine lv_iconst (v := nI 1) hx hb d_NRunner_operateLong_175 (by decide) ?_
          refine lv_goto (tgt := 180) hx hb d_NRunner_operateLong_176 (by decide) ?_
          obtain ⟨n_985, e984, c986⟩ := oc_4.of (lo_k9_6 hL _ t_X) (hI1_973.1 (g.lk X 6))
          refine pcc_v (va_runV (C := "BigRunner$LongDivision") (As := [.ref (g.lk (g.lk (g.lk pr 2) le) 6), .ref (g.lk (g.lk (g.lk pr 2) ri) 6), .ref (g.lk (g.lk (g.lk pr 2) n) 6), .int (nI 1)]) (rest := []) ⟨hx, hb, hml, hown, tb_nil⟩ (v_divide1 l g H.size f969 ((g.lk X 6)) ((g.lk (g.lk (g.lk pr 2) le) 6)) sg961 nn962 dd963 vx ((g.lk (g.lk (g.lk pr 2) ri) 6)) sg975 nn976 dd977 vy ((g.lk (g.lk (g.lk pr 2) n) 6)) hL (lo_k9_6 hL _ t_X) (lo_k6_6 hL _ (lo_e25 hL _ (lo_k7_2 hL _ t_pr) _ (by omega))) (lo_k6_6 hL _ (lo_e25 hL _ (lo_k7_2 hL _ t_pr) _ (by omega))) (lo_k6_6 hL _ (lo_e25 hL _ (lo_k7_2 hL _ t_pr) _ (by omega))) hI1_973 e964 e965 hFx e978 e979 hFy (tn_ne ((lo_n6 hL _ (lo_e25 hL _ (lo_k7_2 hL _ t_pr) _ (by omega))).trans (lo_n25 hL _ (lo_k7_2 hL _ t_pr) _ (by omega))) ((lo_n6 hL _ (lo_e25 hL _ (lo_k7_2 hL _ t_pr) _ (by omega))).trans (lo_n25 hL _ (lo_k7_2 hL _ t_pr) _ (by omega))) (by omega)) (tn_ne ((lo_n6 hL _ (lo_e25 hL _ (lo_k7_2 hL _ t_pr) _ (by omega))).trans (lo_n25 hL _ (lo_k7_2 hL _ t_pr) _ (by omega))) ((lo_n6 hL _ (lo_e25 hL _ (lo_k7_2 hL _ t_pr) _ (by omega))).trans (lo_n25 hL _ (lo_k7_2 hL _ t_pr) _ (by omega))) (by omega)) (Nat.pos_of_ne_zero (fun z9 => hsy9 ((LNV_0s hFy.1).mpr z9)))) ⟨(callB_of 4 (tb_one (wd_806 hB _)) tb_good1 rfl rfl rfl (wd_81 hB _) (wd_803 hB _) (by decide +kernel) ⟨Nat.le_of_ble_eq_true rfl, Nat.le_of_ble_eq_true rfl⟩), (wd_804 hB _), (wd_805 hB _)⟩ ⟨pe_bl, pg_recv (ci := 3) hK hP (lo_in hL (lo_k9_6 hL _ t_X) (by decide)) e984 rfl, pe_pre hB hK hP hD⟩ rfl rfl hl.1 rfl (lv_room (Nat.le_of_ble_eq_true rfl)) d_NRunner_operateLong_180 ⟨Nat.le_of_ble_eq_true rfl, Nat.le_of_ble_eq_true rfl⟩) hS (fun f988 H locs hq989 hP hD hS => ?_)
          obtain ⟨lv_990, hI1_991, hk1_992⟩ := hq989
          have hu : ∀ b, b ≠ X → b ≠ (g.lk (g.lk (g.lk pr 2) n) 6) → b ≠ (g.lk (g.lk (g.lk (g.lk pr 2) n) 6) 2) → b ≠ (g.lk (g.lk (g.lk pr 2) le) 6) → b ≠ (g.lk (g.lk (g.lk (g.lk pr 2) le) 6) 2) → b ≠ (g.lk (g.lk (g.lk pr 2) ri) 6) → b ≠ (g.lk (g.lk (g.lk (g.lk pr 2) ri) 6) 2) → b ≠ (g.lk X 6) → b ≠ (g.lk (g.lk X 6) 0) → b ≠ (g.lk (g.lk X 6) 1) → f988 b = f b := fun b q0 q1 q2 q3 q4 q5 q6 q7 q8 q9 => (hk1_992 b q1 q2 q7 q8 q9).trans (hu b q0 q1 q2 q3 q4 q5 q6 q7 q8 q9)
          have eN := (hk1_992 (g.lk (g.lk pr 2) n) (tg_ne (lo_e25 hL _ (lo_k7_2 hL _ t_pr) _ (by omega)) (lo_k6_6 hL _ (lo_e25 hL _ (lo_k7_2 hL _ t_pr) _ (by omega))) (by decide)) (tg_ne (lo_e25 hL _ (lo_k7_2 hL _ t_pr) _ (by omega)) (lo_k5_2 hL _ (lo_k6_6 hL _ (lo_e25 hL _ (lo_k7_2 hL _ t_pr) _ (by omega)))) (by decide)) (tg_ne (lo_e25 hL _ (lo_k7_2 hL _ t_pr) _ (by omega)) (lo_k9_6 hL _ t_X) (by decide)) (tg_ne (lo_e25 hL _ (lo_k7_2 hL _ t_pr) _ (by omega)) (lo_k4_0 hL _ (lo_k9_6 hL _ t_X)) (by decide)) (tg_ne (lo_e25 hL _ (lo_k7_2 hL _ t_pr) _ (by omega)) (lo_k4_1 hL _ (lo_k9_6 hL _ t_X)) (by decide))).trans eN
          have eNx := (hk1_992 (g.lk (g.lk pr 2) le) (tg_ne (lo_e25 hL _ (lo_k7_2 hL _ t_pr) _ (by omega)) (lo_k6_6 hL _ (lo_e25 hL _ (lo_k7_2 hL _ t_pr) _ (by omega))) (by decide)) (tg_ne (lo_e25 hL _ (lo_k7_2 hL _ t_pr) _ (by omega)) (lo_k5_2 hL _ (lo_k6_6 hL _ (lo_e25 hL _ (lo_k7_2 hL _ t_pr) _ (by omega)))) (by decide)) (tg_ne (lo_e25 hL _ (lo_k7_2 hL _ t_pr) _ (by omega)) (lo_k9_6 hL _ t_X) (by decide)) (tg_ne (lo_e25 hL _ (lo_k7_2 hL _ t_pr) _ (by omega)) (lo_k4_0 hL _ (lo_k9_6 hL _ t_X)) (by decide)) (tg_ne (lo_e25 hL _ (lo_k7_2 hL _ t_pr) _ (by omega)) (lo_k4_1 hL _ (lo_k9_6 hL _ t_X)) (by decide))).trans eNx
          have eNy := (hk1_992 (g.lk (g.lk pr 2) ri) (tg_ne (lo_e25 hL _ (lo_k7_2 hL _ t_pr) _ (by omega)) (lo_k6_6 hL _ (lo_e25 hL _ (lo_k7_2 hL _ t_pr) _ (by omega))) (by decide)) (tg_ne (lo_e25 hL _ (lo_k7_2 hL _ t_pr) _ (by omega)) (lo_k5_2 hL _ (lo_k6_6 hL _ (lo_e25 hL _ (lo_k7_2 hL _ t_pr) _ (by omega)))) (by decide)) (tg_ne (lo_e25 hL _ (lo_k7_2 hL _ t_pr) _ (by omega)) (lo_k9_6 hL _ t_X) (by decide)) (tg_ne (lo_e25 hL _ (lo_k7_2 hL _ t_pr) _ (by omega)) (lo_k4_0 hL _ (lo_k9_6 hL _ t_X)) (by decide)) (tg_ne (lo_e25 hL _ (lo_k7_2 hL _ t_pr) _ (by omega)) (lo_k4_1 hL _ (lo_k9_6 hL _ t_X)) (by decide))).trans eNy
          have e944 := (hk1_992 X (tg_ne t_X (lo_k6_6 hL _ (lo_e25 hL _ (lo_k7_2 hL _ t_pr) _ (by omega))) (by decide)) (tg_ne t_X (lo_k5_2 hL _ (lo_k6_6 hL _ (lo_e25 hL _ (lo_k7_2 hL _ t_pr) _ (by omega)))) (by decide)) (tg_ne t_X (lo_k9_6 hL _ t_X) (by decide)) (tg_ne t_X (lo_k4_0 hL _ (lo_k9_6 hL _ t_X)) (by decide)) (tg_ne t_X (lo_k4_1 hL _ (lo_k9_6 hL _ t_X)) (by decide))).trans e944
          have e947 := (hk1_992 pr (tg_ne t_pr (lo_k6_6 hL _ (lo_e25 hL _ (lo_k7_2 hL _ t_pr) _ (by omega))) (by decide)) (tg_ne t_pr (lo_k5_2 hL _ (lo_k6_6 hL _ (lo_e25 hL _ (lo_k7_2 hL _ t_pr) _ (by omega)))) (by decide)) (tg_ne t_pr (lo_k9_6 hL _ t_X) (by decide)) (tg_ne t_pr (lo_k4_0 hL _ (lo_k9_6 hL _ t_X)) (by decide)) (tg_ne t_pr (lo_k4_1 hL _ (lo_k9_6 hL _ t_X)) (by decide))).trans e947
          have e952 := (hk1_992 (g.lk pr 2) (tg_ne (lo_k7_2 hL _ t_pr) (lo_k6_6 hL _ (lo_e25 hL _ (lo_k7_2 hL _ t_pr) _ (by omega))) (by decide)) (tg_ne (lo_k7_2 hL _ t_pr) (lo_k5_2 hL _ (lo_k6_6 hL _ (lo_e25 hL _ (lo_k7_2 hL _ t_pr) _ (by omega)))) (by decide)) (tg_ne (lo_k7_2 hL _ t_pr) (lo_k9_6 hL _ t_X) (by decide)) (tg_ne (lo_k7_2 hL _ t_pr) (lo_k4_0 hL _ (lo_k9_6 hL _ t_X)) (by decide)) (tg_ne (lo_k7_2 hL _ t_pr) (lo_k4_1 hL _ (lo_k9_6 hL _ t_X)) (by decide))).trans e952
          have e964 := (hk1_992 (g.lk (g.lk (g.lk pr 2) le) 6) (tn_ne ((lo_n6 hL _ (lo_e25 hL _ (lo_k7_2 hL _ t_pr) _ (by omega))).trans (lo_n25 hL _ (lo_k7_2 hL _ t_pr) _ (by omega))) ((lo_n6 hL _ (lo_e25 hL _ (lo_k7_2 hL _ t_pr) _ (by omega))).trans (lo_n25 hL _ (lo_k7_2 hL _ t_pr) _ (by omega))) (by omega)) (tg_ne (lo_k6_6 hL _ (lo_e25 hL _ (lo_k7_2 hL _ t_pr) _ (by omega))) (lo_k5_2 hL _ (lo_k6_6 hL _ (lo_e25 hL _ (lo_k7_2 hL _ t_pr) _ (by omega)))) (by decide)) (tg_ne (lo_k6_6 hL _ (lo_e25 hL _ (lo_k7_2 hL _ t_pr) _ (by omega))) (lo_k9_6 hL _ t_X) (by decide)) (tg_ne (lo_k6_6 hL _ (lo_e25 hL _ (lo_k7_2 hL _ t_pr) _ (by omega))) (lo_k4_0 hL _ (lo_k9_6 hL _ t_X)) (by decide)) (tg_ne (lo_k6_6 hL _ (lo_e25 hL _ (lo_k7_2 hL _ t_pr) _ (by omega))) (lo_k4_1 hL _ (lo_k9_6 hL _ t_X)) (by decide))).trans e964
          have e965 := (hk1_992 (g.lk (g.lk (g.lk (g.lk pr 2) le) 6) 2) (tg_ne (lo_k5_2 hL _ (lo_k6_6 hL _ (lo_e25 hL _ (lo_k7_2 hL _ t_pr) _ (by omega)))) (lo_k6_6 hL _ (lo_e25 hL _ (lo_k7_2 hL _ t_pr) _ (by omega))) (by decide)) (fun q9 => (tn_ne ((lo_n6 hL _ (lo_e25 hL _ (lo_k7_2 hL _ t_pr) _ (by omega))).trans (lo_n25 hL _ (lo_k7_2 hL _ t_pr) _ (by omega))) ((lo_n6 hL _ (lo_e25 hL _ (lo_k7_2 hL _ t_pr) _ (by omega))).trans (lo_n25 hL _ (lo_k7_2 hL _ t_pr) _ (by omega))) (by omega)) (lo_inj5 hL _ _ (lo_k6_6 hL _ (lo_e25 hL _ (lo_k7_2 hL _ t_pr) _ (by omega))) (lo_k6_6 hL _ (lo_e25 hL _ (lo_k7_2 hL _ t_pr) _ (by omega))) q9)) (tg_ne (lo_k5_2 hL _ (lo_k6_6 hL _ (lo_e25 hL _ (lo_k7_2 hL _ t_pr) _ (by omega)))) (lo_k9_6 hL _ t_X) (by decide)) (tg_ne (lo_k5_2 hL _ (lo_k6_6 hL _ (lo_e25 hL _ (lo_k7_2 hL _ t_pr) _ (by omega)))) (lo_k4_0 hL _ (lo_k9_6 hL _ t_X)) (by decide)) (tg_ne (lo_k5_2 hL _ (lo_k6_6 hL _ (lo_e25 hL _ (lo_k7_2 hL _ t_pr) _ (by omega)))) (lo_k4_1 hL _ (lo_k9_6 hL _ t_X)) (by decide))).trans e965
          have e978 := (hk1_992 (g.lk (g.lk (g.lk pr 2) ri) 6) (tn_ne ((lo_n6 hL _ (lo_e25 hL _ (lo_k7_2 hL _ t_pr) _ (by omega))).trans (lo_n25 hL _ (lo_k7_2 hL _ t_pr) _ (by omega))) ((lo_n6 hL _ (lo_e25 hL _ (lo_k7_2 hL _ t_pr) _ (by omega))).trans (lo_n25 hL _ (lo_k7_2 hL _ t_pr) _ (by omega))) (by omega)) (tg_ne (lo_k6_6 hL _ (lo_e25 hL _ (lo_k7_2 hL _ t_pr) _ (by omega))) (lo_k5_2 hL _ (lo_k6_6 hL _ (lo_e25 hL _ (lo_k7_2 hL _ t_pr) _ (by omega)))) (by decide)) (tg_ne (lo_k6_6 hL _ (lo_e25 hL _ (lo_k7_2 hL _ t_pr) _ (by omega))) (lo_k9_6 hL _ t_X) (by decide)) (tg_ne (lo_k6_6 hL _ (lo_e25 hL _ (lo_k7_2 hL _ t_pr) _ (by omega))) (lo_k4_0 hL _ (lo_k9_6 hL _ t_X)) (by decide)) (tg_ne (lo_k6_6 hL _ (lo_e25 hL _ (lo_k7_2 hL _ t_pr) _ (by omega))) (lo_k4_1 hL _ (lo_k9_6 hL _ t_X)) (by decide))).trans e978
          have e979 := (hk1_992 (g.lk (g.lk (g.lk (g.lk pr 2) ri) 6) 2) (tg_ne (lo_k5_2 hL _ (lo_k6_6 hL _ (lo_e25 hL _ (lo_k7_2 hL _ t_pr) _ (by omega)))) (lo_k6_6 hL _ (lo_e25 hL _ (lo_k7_2 hL _ t_pr) _ (by omega))) (by decide)) (fun q9 => (tn_ne ((lo_n6 hL _ (lo_e25 hL _ (lo_k7_2 hL _ t_pr) _ (by omega))).trans (lo_n25 hL _ (lo_k7_2 hL _ t_pr) _ (by omega))) ((lo_n6 hL _ (lo_e25 hL _ (lo_k7_2 hL _ t_pr) _ (by omega))).trans (lo_n25 hL _ (lo_k7_2 hL _ t_pr) _ (by omega))) (by omega)) (lo_inj5 hL _ _ (lo_k6_6 hL _ (lo_e25 hL _ (lo_k7_2 hL _ t_pr) _ (by omega))) (lo_k6_6 hL _ (lo_e25 hL _ (lo_k7_2 hL _ t_pr) _ (by omega))) q9)) (tg_ne (lo_k5_2 hL _ (lo_k6_6 hL _ (lo_e25 hL _ (lo_k7_2 hL _ t_pr) _ (by omega)))) (lo_k9_6 hL _ t_X) (by decide)) (tg_ne (lo_k5_2 hL _ (lo_k6_6 hL _ (lo_e25 hL _ (lo_k7_2 hL _ t_pr) _ (by omega)))) (lo_k4_0 hL _ (lo_k9_6 hL _ t_X)) (by decide)) (tg_ne (lo_k5_2 hL _ (lo_k6_6 hL _ (lo_e25 hL _ (lo_k7_2 hL _ t_pr) _ (by omega)))) (lo_k4_1 hL _ (lo_k9_6 hL _ t_X)) (by decide))).trans e979
          obtain ⟨sg993, nn994, dd995, e996, e997, hN998⟩ := lv_990
          have c999 : ∀ i, i < 15 → ∃ k, k < 1000000000 ∧ dd995 i = nI k := hN998.2.1
          have hnn994 : nn994 ≤ 15 := hN998.1
          refine lv_iload hx hb d_NRunner_operateLong_183 (lv_at hl 0 rfl) ?_
          refine lv_if_eq (tgt := 192) hx hb d_NRunner_operateLong_185 (by decide) (fun b1000 => ?_) (fun b1000 => ?_)
          · skip
            replace b1000 := (nI_eq (a := 1) (b := 0) (by omega) (by omega)).mp b1000
            exfalso; omega
          · skip
            replace b1000 := mt (nI_eq (a := 1) (b := 0) (by omega) (by omega)).mpr b1000
            refine lv_iconst (v := nI 0) hx hb d_NRunner_operateLong_188 (by decide) ?_
            refine lv_goto (tgt := 193) hx hb d_NRunner_operateLong_189 (by decide) ?_
            exact pe_iret hx hb hr hlocks hK hP hD hS d_NRunner_operateLong_193 ⟨⟨(lo + ((nI 1))), e944⟩, (congrArg nI (otr_0 (w := 6) (x := vx) (y := vy) (by decide) (Or.inr hvy9) (td_le htx).2).symm), (fun _ => ⟨_, _, _, e996, e997, hN998⟩), hI1_991, hu⟩
      · skip
        have hsy8 : sg975 = nI 0 := by first | exact b982 | exact Decidable.not_not.mp b982
        have hvy8 : vy = 0 := LNV_v0 hFy.1 hsy8
        refine lv_iconst (v := nI 1) hx hb d_NRunner_operateLong_154 (by decide) ?_
        exact pe_iret hx hb hr hlocks hK hP hD hS d_NRunner_operateLong_155 ⟨⟨(lo + ((nI 1))), e944⟩, (congrArg nI (otr_1 (by decide) (by decide) hvy8).symm), (fun z9 => absurd (z9.symm.trans (otr_1 (by decide) (by decide) hvy8)) (by decide)), hI1_973, hu⟩

