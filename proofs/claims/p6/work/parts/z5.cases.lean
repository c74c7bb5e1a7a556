theorem le4_5 {t : Nat} (h : t ≤ 4) : t = 0 ∨ t = 1 ∨ t = 2 ∨ t = 3 ∨ t = 4 := by omega
theorem gv_eq {r q : Int32} {P : Prop} (h1 : r = nI 0 ∨ r = nI 1) (h2 : r = nI 1 ↔ P) (h3 : q = nI 0 ∨ q = nI 1) (h4 : q = nI 1 ↔ P) : q = r := by
  rcases h1 with rfl | rfl
  · rcases h3 with rfl | rfl
    · rfl
    · exact (h2.mpr (h4.mp rfl)).symm
  · exact h4.mpr (h2.mp rfl)
theorem lr_B {g : Lay} {B : Nat} {e : va_E} (t : g.tg B = 1) (h : oc g B e) : ∃ fs, e = .inr (0, fs) := by
  obtain ⟨n, ld, q, -⟩ := oc_1.of t h
  exact ⟨_, q⟩
theorem lr_M {g : Lay} {M : Nat} {e : va_E} (t : g.tg M = 11) (h : oc g M e) : ∃ fs, e = .inr (10, fs) := by
  obtain ⟨a1, a2, a3, a4, a5, a6, a7, a8, a9, a10, a11, a12, a13, a14, a15, a16, a17, a18, q, -⟩ := oc_11.of t h
  exact ⟨_, q⟩
set_option maxHeartbeats 4000000 in
set_option maxRecDepth 100000 in
theorem law_c0 {p : Program} {l : Launch} {e : Env} {s : State} {m : MethodId} {below : List Frame} {meth : Method} {c : Code} {b Ls : Nat} {xs : Nat → Int32} {A : Nat → Prop} {g : Lay} {B M ob : Nat} {i cells slots : Nat} (hx : p.tables.exec = Jvm.exec) (hb : c.code = code) (hr : meth.sig.returnType = ret) (hml : c.maxLocals = 8) (hlocks : meth.locks = false) (hown : s.vm.findClass "BigRunnerLaw" = some m.cls) (hB : TB s) (hLt : l.stackTraces = false) (hTZ : TZ A s s.heap) (hA : ∀ q, s.heap.size ≤ q → A q) (hA2 : ∀ q, A q → s.heap.size ≤ q) (hX : va_X b Ls xs s s.heap) (hbl : b < s.heap.size) (hbA : ¬ A b) (hLs : Ls ≤ 1536) (hK : va_K g.D vcl g.tys s) (hL : LO g) (t_B : g.tg B = 1) (t_M : g.tg M = 11) (m_ob : ob ∈ g.LP) (t_ob : g.tg ob = 0) (y_ob : g.tys[g.tn ob]? = some (g.ac ob, .long)) (hi : i + 2 < Ls) (hc : cells + 1 ≤ room_1.cells) (hs : slots + 6 ≤ room_1.slots) (f : Nat → va_E) (n : Nat) (hT : Nat → Int32) (sg : GS) (H : Heap) (locs : List Loc) (ls : Array Slot) (hI : IV g f) (hJ : CV2 g B f n hT sg) (hM : MV2 g M f n hT sg) (hO : OB g f ob) (hl : lv_has ls 8 [(4, .int (nI i)), (3, .ref ob), (2, .ref M), (1, .ref B), (0, .ref b)]) (hP : va_P g.D vcl (va_pl g.LP f) H) (hD : va_D A (va_pl g.LP f)) (hS : va_S A s.heap H locs) (kk : ∀ (f : Nat → va_E) (n : Nat) (hT : Nat → Int32) (sg : GS) (H : Heap) (locs : List Loc) (ls : Array Slot), IV g f → CV2 g B f n hT sg → MV2 g M f n hT sg → OB g f ob → lv_has ls 8 [(4, .int (nI i)), (3, .ref ob), (2, .ref M), (1, .ref B), (0, .ref b)] → va_P g.D vcl (va_pl g.LP f) H → va_D A (va_pl g.LP f) → va_S A s.heap H locs → W p l e room_1 s m #[Value.ref b] below meth c H locs (cells + 1) (slots + 6) (lw_Z below #[Value.ref b] s) (F0 m 413 ls [])) : W p l e room_1 s m #[Value.ref b] below meth c H locs cells slots (lw_Z below #[Value.ref b] s) (F0 m 92 ls []) := by
  refine lv_aload_n hx hb d_L_law_92 rfl (lv_at hl 3 rfl) ?_
  refine lv_aload_n hx hb d_L_law_93 rfl (lv_at hl 4 rfl) ?_
  refine lv_iload hx hb d_L_law_94 (lv_at hl 0 rfl) ?_
  refine lv_iconst (v := nI 1) hx hb d_L_law_96 (by decide) ?_
  refine pf_iaddN (x := i) (y := 1) hx hb d_L_law_97 ?_
  refine va_sld hx hb hX hbl hbA hS (vp_in_nI (by omega) (by omega)) d_L_law_98 ?_
  refine lv_topi (fun z1 hz1 => ?_)
  refine lv_i2c hx hb d_L_law_99 rfl ?_
  refine lv_topi (fun c9_2 hc9_2 => ?_)
  obtain ⟨e9, he9⟩ := lr_B t_B (hI.1 B)
  refine lp_i (va_runV (C := "BigRunner") (As := [.int c9_2]) (rest := []) ⟨hx, hb, hml, hown, tb_nil⟩ (k6_ctype l g H.size f B n hT sg c9_2 hL t_B hI hJ) ⟨(callB_of 1 (tb_one (wd_397 hB _)) tb_good1 rfl rfl rfl (wd_72 hB _) (wd_394 hB _) (by decide +kernel) ⟨Nat.le_of_ble_eq_true rfl, Nat.le_of_ble_eq_true rfl⟩), (wd_395 hB _), (wd_396 hB _)⟩ ⟨pe_bl, pg_recv (ci := 0) hK hP (lo_in hL t_B (by decide)) he9 rfl, pe_pre hB hK hP hD⟩ rfl rfl hl.1 rfl (lv_room (Nat.le_of_ble_eq_true rfl)) d_L_law_100 ⟨Nat.le_of_succ_le hc, Nat.le_trans (Nat.le_add_right slots 6) hs⟩) hA hD hS (fun r3 f4 H locs hq hP hD hS => ?_)
  obtain ⟨q5, hI, hu⟩ := hq
  have hM := hM.un hL t_M hu (by decide)
  have hO := hO.un t_ob hu (by decide)
  rcases q5 with ⟨rfl, hty, hJ⟩ | ⟨rfl, hty, hJ⟩
  · skip
    refine lv_pop hx hb d_L_law_103 rfl ?_
    refine lv_aload_n hx hb d_L_law_104 rfl (lv_at hl 2 rfl) ?_
    refine lv_aload_n hx hb d_L_law_105 rfl (lv_at hl 4 rfl) ?_
    refine lv_iload hx hb d_L_law_106 (lv_at hl 0 rfl) ?_
    refine lv_iconst (v := nI 1) hx hb d_L_law_108 (by decide) ?_
    refine pf_iaddN (x := i) (y := 1) hx hb d_L_law_109 ?_
    refine va_sld hx hb hX hbl hbA hS (vp_in_nI (by omega) (by omega)) d_L_law_110 ?_
    refine lv_topi (fun z6 hz6 => ?_)
    obtain rfl : z1 = z6 := hz1.trans hz6.symm
    refine lv_i2c hx hb d_L_law_111 rfl ?_
    refine lv_topi (fun c9_7 hc9_7 => ?_)
    obtain rfl : c9_2 = c9_7 := hc9_2.trans hc9_7.symm
    obtain ⟨e9, he9⟩ := lr_M t_M (hI.1 M)
    refine lp_i (va_runV (C := "BigRunnerModel") (As := [.int c9_2]) (rest := []) ⟨hx, hb, hml, hown, tb_nil⟩ (k7_mtype l g H.size f4 M n hT sg c9_2 hL t_M hI hM) ⟨(callB_of 1 (tb_one (wd_1091 hB _)) tb_good1 rfl rfl rfl (wd_82 hB _) (wd_1088 hB _) (by decide +kernel) ⟨Nat.le_of_ble_eq_true rfl, Nat.le_of_ble_eq_true rfl⟩), (wd_1089 hB _), (wd_1090 hB _)⟩ ⟨pe_bl, pg_recv (ci := 10) hK hP (lo_in hL t_M (by decide)) he9 rfl, pe_pre hB hK hP hD⟩ rfl rfl hl.1 rfl (lv_room (Nat.le_of_ble_eq_true rfl)) d_L_law_112 ⟨Nat.le_of_succ_le hc, Nat.le_trans (Nat.le_add_right slots 6) hs⟩) hA hD hS (fun r8 f9 H locs hq hP hD hS => ?_)
    obtain ⟨q10, hI, hu⟩ := hq
    have hJ := hJ.un hL t_B hu (by decide)
    have hO := hO.un t_ob hu (by decide)
    rcases q10 with ⟨rfl, hty2, hM⟩ | ⟨rfl, hty2, hM⟩
    · skip
      refine lv_pop hx hb d_L_law_115 rfl ?_
      refine lv_goto (tgt := 413) hx hb d_L_law_116 (by decide) ?_
      refine W.widen (k := cells + 1) (n := slots + 6) (by omega) (by omega) ?_
      exact kk f9 n hT sg H _ ls hI hJ hM hO (lv_sub hl [0, 1, 2, 3, 4] rfl) hP hD hS
    · skip
      exact absurd hty2 hty
  · skip
    refine lv_pop hx hb d_L_law_103 rfl ?_
    refine lv_aload_n hx hb d_L_law_104 rfl (lv_at hl 2 rfl) ?_
    refine lv_aload_n hx hb d_L_law_105 rfl (lv_at hl 4 rfl) ?_
    refine lv_iload hx hb d_L_law_106 (lv_at hl 0 rfl) ?_
    refine lv_iconst (v := nI 1) hx hb d_L_law_108 (by decide) ?_
    refine pf_iaddN (x := i) (y := 1) hx hb d_L_law_109 ?_
    refine va_sld hx hb hX hbl hbA hS (vp_in_nI (by omega) (by omega)) d_L_law_110 ?_
    refine lv_topi (fun z11 hz11 => ?_)
    obtain rfl : z1 = z11 := hz1.trans hz11.symm
    refine lv_i2c hx hb d_L_law_111 rfl ?_
    refine lv_topi (fun c9_12 hc9_12 => ?_)
    obtain rfl : c9_2 = c9_12 := hc9_2.trans hc9_12.symm
    obtain ⟨e9, he9⟩ := lr_M t_M (hI.1 M)
    refine lp_i (va_runV (C := "BigRunnerModel") (As := [.int c9_2]) (rest := []) ⟨hx, hb, hml, hown, tb_nil⟩ (k7_mtype l g H.size f4 M n hT sg c9_2 hL t_M hI hM) ⟨(callB_of 1 (tb_one (wd_1091 hB _)) tb_good1 rfl rfl rfl (wd_82 hB _) (wd_1088 hB _) (by decide +kernel) ⟨Nat.le_of_ble_eq_true rfl, Nat.le_of_ble_eq_true rfl⟩), (wd_1089 hB _), (wd_1090 hB _)⟩ ⟨pe_bl, pg_recv (ci := 10) hK hP (lo_in hL t_M (by decide)) he9 rfl, pe_pre hB hK hP hD⟩ rfl rfl hl.1 rfl (lv_room (Nat.le_of_ble_eq_true rfl)) d_L_law_112 ⟨Nat.le_of_succ_le hc, Nat.le_trans (Nat.le_add_right slots 6) hs⟩) hA hD hS (fun r13 f14 H locs hq hP hD hS => ?_)
    obtain ⟨q15, hI, hu⟩ := hq
    have hJ := hJ.un hL t_B hu (by decide)
    have hO := hO.un t_ob hu (by decide)
    rcases q15 with ⟨rfl, hty2, hM⟩ | ⟨rfl, hty2, hM⟩
    · skip
      exact absurd hty hty2
    · skip
      refine lv_pop hx hb d_L_law_115 rfl ?_
      refine lv_goto (tgt := 413) hx hb d_L_law_116 (by decide) ?_
      refine W.widen (k := cells + 1) (n := slots + 6) (by omega) (by omega) ?_
      exact kk f14 (n + 1) (upd hT n (vp_nar .char c9_2)) sg H _ ls hI hJ hM hO (lv_sub hl [0, 1, 2, 3, 4] rfl) hP hD hS
set_option maxHeartbeats 4000000 in
set_option maxRecDepth 100000 in
theorem law_c1 {p : Program} {l : Launch} {e : Env} {s : State} {m : MethodId} {below : List Frame} {meth : Method} {c : Code} {b Ls : Nat} {xs : Nat → Int32} {A : Nat → Prop} {g : Lay} {B M ob : Nat} {i cells slots : Nat} (hx : p.tables.exec = Jvm.exec) (hb : c.code = code) (hr : meth.sig.returnType = ret) (hml : c.maxLocals = 8) (hlocks : meth.locks = false) (hown : s.vm.findClass "BigRunnerLaw" = some m.cls) (hB : TB s) (hLt : l.stackTraces = false) (hTZ : TZ A s s.heap) (hA : ∀ q, s.heap.size ≤ q → A q) (hA2 : ∀ q, A q → s.heap.size ≤ q) (hX : va_X b Ls xs s s.heap) (hbl : b < s.heap.size) (hbA : ¬ A b) (hLs : Ls ≤ 1536) (hK : va_K g.D vcl g.tys s) (hL : LO g) (t_B : g.tg B = 1) (t_M : g.tg M = 11) (m_ob : ob ∈ g.LP) (t_ob : g.tg ob = 0) (y_ob : g.tys[g.tn ob]? = some (g.ac ob, .long)) (hi : i + 2 < Ls) (hc : cells + 1 ≤ room_1.cells) (hs : slots + 6 ≤ room_1.slots) (f : Nat → va_E) (n : Nat) (hT : Nat → Int32) (sg : GS) (H : Heap) (locs : List Loc) (ls : Array Slot) (hI : IV g f) (hJ : CV2 g B f n hT sg) (hM : MV2 g M f n hT sg) (hO : OB g f ob) (hl : lv_has ls 8 [(4, .int (nI i)), (3, .ref ob), (2, .ref M), (1, .ref B), (0, .ref b)]) (hP : va_P g.D vcl (va_pl g.LP f) H) (hD : va_D A (va_pl g.LP f)) (hS : va_S A s.heap H locs) (kk : ∀ (f : Nat → va_E) (n : Nat) (hT : Nat → Int32) (sg : GS) (H : Heap) (locs : List Loc) (ls : Array Slot), IV g f → CV2 g B f n hT sg → MV2 g M f n hT sg → OB g f ob → lv_has ls 8 [(4, .int (nI i)), (3, .ref ob), (2, .ref M), (1, .ref B), (0, .ref b)] → va_P g.D vcl (va_pl g.LP f) H → va_D A (va_pl g.LP f) → va_S A s.heap H locs → W p l e room_1 s m #[Value.ref b] below meth c H locs (cells + 1) (slots + 6) (lw_Z below #[Value.ref b] s) (F0 m 413 ls [])) : W p l e room_1 s m #[Value.ref b] below meth c H locs cells slots (lw_Z below #[Value.ref b] s) (F0 m 119 ls []) := by
  refine lv_aload_n hx hb d_L_law_119 rfl (lv_at hl 3 rfl) ?_
  obtain ⟨e9, he9⟩ := lr_B t_B (hI.1 B)
  refine lp_v (va_runV (C := "BigRunner") (As := []) (rest := []) ⟨hx, hb, hml, hown, tb_nil⟩ (k6_cwipe l g H.size f B n hT sg hL t_B hI hJ) ⟨(callB_of 0 (tb_one (wd_401 hB _)) tb_good1 rfl rfl rfl (wd_72 hB _) (wd_398 hB _) (by decide +kernel) ⟨Nat.le_of_ble_eq_true rfl, Nat.le_of_ble_eq_true rfl⟩), (wd_399 hB _), (wd_400 hB _)⟩ ⟨pe_bl, pg_recv (ci := 0) hK hP (lo_in hL t_B (by decide)) he9 rfl, pe_pre hB hK hP hD⟩ rfl rfl hl.1 rfl (lv_room (Nat.le_of_ble_eq_true rfl)) d_L_law_120 ⟨Nat.le_of_succ_le hc, Nat.le_trans (Nat.le_add_right slots 6) hs⟩) hA hD hS (fun f2 H locs hq hP hD hS => ?_)
  obtain ⟨q3, hI, hu⟩ := hq
  have hM := hM.un hL t_M hu (by decide)
  have hO := hO.un t_ob hu (by decide)
  have hJ := q3
  refine lv_aload_n hx hb d_L_law_123 rfl (lv_at hl 2 rfl) ?_
  obtain ⟨e9, he9⟩ := lr_M t_M (hI.1 M)
  refine lp_v (va_runV (C := "BigRunnerModel") (As := []) (rest := []) ⟨hx, hb, hml, hown, tb_nil⟩ (k7_mwipe l g H.size f2 M n hT sg hL t_M hI hM) ⟨(callB_of 0 (tb_one (wd_1095 hB _)) tb_good1 rfl rfl rfl (wd_82 hB _) (wd_1092 hB _) (by decide +kernel) ⟨Nat.le_of_ble_eq_true rfl, Nat.le_of_ble_eq_true rfl⟩), (wd_1093 hB _), (wd_1094 hB _)⟩ ⟨pe_bl, pg_recv (ci := 10) hK hP (lo_in hL t_M (by decide)) he9 rfl, pe_pre hB hK hP hD⟩ rfl rfl hl.1 rfl (lv_room (Nat.le_of_ble_eq_true rfl)) d_L_law_124 ⟨Nat.le_of_succ_le hc, Nat.le_trans (Nat.le_add_right slots 6) hs⟩) hA hD hS (fun f5 H locs hq hP hD hS => ?_)
  obtain ⟨q6, hI, hu⟩ := hq
  have hJ := hJ.un hL t_B hu (by decide)
  have hO := hO.un t_ob hu (by decide)
  have hM := q6
  refine lv_goto (tgt := 413) hx hb d_L_law_127 (by decide) ?_
  refine W.widen (k := cells + 1) (n := slots + 6) (by omega) (by omega) ?_
  exact kk f5 0 hT sg H _ ls hI hJ hM hO (lv_sub hl [0, 1, 2, 3, 4] rfl) hP hD hS
set_option maxHeartbeats 4000000 in
set_option maxRecDepth 100000 in
theorem law_c2 {p : Program} {l : Launch} {e : Env} {s : State} {m : MethodId} {below : List Frame} {meth : Method} {c : Code} {b Ls : Nat} {xs : Nat → Int32} {A : Nat → Prop} {g : Lay} {B M ob : Nat} {i cells slots : Nat} (hx : p.tables.exec = Jvm.exec) (hb : c.code = code) (hr : meth.sig.returnType = ret) (hml : c.maxLocals = 8) (hlocks : meth.locks = false) (hown : s.vm.findClass "BigRunnerLaw" = some m.cls) (hB : TB s) (hLt : l.stackTraces = false) (hTZ : TZ A s s.heap) (hA : ∀ q, s.heap.size ≤ q → A q) (hA2 : ∀ q, A q → s.heap.size ≤ q) (hX : va_X b Ls xs s s.heap) (hbl : b < s.heap.size) (hbA : ¬ A b) (hLs : Ls ≤ 1536) (hK : va_K g.D vcl g.tys s) (hL : LO g) (t_B : g.tg B = 1) (t_M : g.tg M = 11) (m_ob : ob ∈ g.LP) (t_ob : g.tg ob = 0) (y_ob : g.tys[g.tn ob]? = some (g.ac ob, .long)) (hi : i + 2 < Ls) (hc : cells + 1 ≤ room_1.cells) (hs : slots + 6 ≤ room_1.slots) (f : Nat → va_E) (n : Nat) (hT : Nat → Int32) (sg : GS) (H : Heap) (locs : List Loc) (ls : Array Slot) (hI : IV g f) (hJ : CV2 g B f n hT sg) (hM : MV2 g M f n hT sg) (hO : OB g f ob) (hl : lv_has ls 8 [(4, .int (nI i)), (3, .ref ob), (2, .ref M), (1, .ref B), (0, .ref b)]) (hP : va_P g.D vcl (va_pl g.LP f) H) (hD : va_D A (va_pl g.LP f)) (hS : va_S A s.heap H locs) (kk : ∀ (f : Nat → va_E) (n : Nat) (hT : Nat → Int32) (sg : GS) (H : Heap) (locs : List Loc) (ls : Array Slot), IV g f → CV2 g B f n hT sg → MV2 g M f n hT sg → OB g f ob → lv_has ls 8 [(4, .int (nI i)), (3, .ref ob), (2, .ref M), (1, .ref B), (0, .ref b)] → va_P g.D vcl (va_pl g.LP f) H → va_D A (va_pl g.LP f) → va_S A s.heap H locs → W p l e room_1 s m #[Value.ref b] below meth c H locs (cells + 1) (slots + 6) (lw_Z below #[Value.ref b] s) (F0 m 413 ls [])) : W p l e room_1 s m #[Value.ref b] below meth c H locs cells slots (lw_Z below #[Value.ref b] s) (F0 m 130 ls []) := by
  refine lv_aload_n hx hb d_L_law_130 rfl (lv_at hl 3 rfl) ?_
  refine lv_aload_n hx hb d_L_law_131 rfl (lv_at hl 1 rfl) ?_
  refine lp_i (tw_runS (As := [.ref B, .ref ob]) (rest := []) (n := 2) hx hb hml hown (h6_load l g H.size f B n hT sg ob hL t_B hI hJ m_ob t_ob y_ob hO hLt) (wd_448 hB _) (wd_71 hB _) (wd_446 hB _) (wd_447 hB _) (by decide +kernel) ⟨Nat.le_of_ble_eq_true rfl, Nat.le_of_ble_eq_true rfl⟩ rfl rfl ⟨pt_bl, lp_pre hTZ hA hS hB hK hP hD⟩ rfl rfl hl.1 rfl (lv_room (Nat.le_of_ble_eq_true rfl)) d_L_law_132 ⟨hc, hs⟩) hA hD hS (fun r1 f2 H locs hq hP hD hS => ?_)
  obtain ⟨hqc, hI, hu, hO⟩ := hq
  have hM := hM.un hL t_M hu (by decide)
  rcases (Classical.em (px_s (tk hT n) 400 1 1 0 = some n)) with hpx | hpx
  · skip
    obtain ⟨rfl, hJ⟩ := hqc.1 hpx
    refine lv_istore (lv' := [(5, .int (nI 0)), (4, .int (nI i)), (3, .ref ob), (2, .ref M), (1, .ref B), (0, .ref b)]) hx hb d_L_law_135 hl (by decide) rfl (fun ls hl => ?_)
    refine lv_aload_n hx hb d_L_law_137 rfl (lv_at hl 3 rfl) ?_
    obtain ⟨e9, he9⟩ := lr_M t_M (hI.1 M)
    refine lp_i (va_runV (C := "BigRunnerModel") (As := []) (rest := []) ⟨hx, hb, hml, hown, tb_nil⟩ (k7_mload l g H.size f2 M n hT sg hL t_M hI hM) ⟨(callB_of 0 (tb_one (wd_1099 hB _)) tb_good1 rfl rfl rfl (wd_82 hB _) (wd_1096 hB _) (by decide +kernel) ⟨Nat.le_of_ble_eq_true rfl, Nat.le_of_ble_eq_true rfl⟩), (wd_1097 hB _), (wd_1098 hB _)⟩ ⟨pe_bl, pg_recv (ci := 10) hK hP (lo_in hL t_M (by decide)) he9 rfl, pe_pre hB hK hP hD⟩ rfl rfl hl.1 rfl (lv_room (Nat.le_of_ble_eq_true rfl)) d_L_law_138 ⟨hc, hs⟩) hA hD hS (fun r3 f4 H locs hq hP hD hS => ?_)
    obtain ⟨q5, hI, hu⟩ := hq
    have hJ := hJ.un hL t_B hu (by decide)
    have hO := hO.un t_ob hu (by decide)
    have hM := q5.1 hpx
    refine lv_istore (lv' := [(6, .int r3), (5, .int (nI 0)), (4, .int (nI i)), (3, .ref ob), (2, .ref M), (1, .ref B), (0, .ref b)]) hx hb d_L_law_141 hl (by decide) rfl (fun ls hl => ?_)
    refine lv_goto (tgt := 413) hx hb d_L_law_143 (by decide) ?_
    refine W.widen (k := cells + 1) (n := slots + 6) (by omega) (by omega) ?_
    exact kk f4 0 hT ((some (ox_s (tk hT n) (vc hT n) 400 1 1 0 0), PS.mk (fun _ => 0) sg.2.ins [] 0 0 0)) H _ ls hI hJ hM hO (lv_sub hl [2, 3, 4, 5, 6] rfl) hP hD hS
  · skip
    obtain ⟨rfl, hJ⟩ := hqc.2 hpx
    refine lv_istore (lv' := [(5, .int (nI 1)), (4, .int (nI i)), (3, .ref ob), (2, .ref M), (1, .ref B), (0, .ref b)]) hx hb d_L_law_135 hl (by decide) rfl (fun ls hl => ?_)
    refine lv_aload_n hx hb d_L_law_137 rfl (lv_at hl 3 rfl) ?_
    obtain ⟨e9, he9⟩ := lr_M t_M (hI.1 M)
    refine lp_i (va_runV (C := "BigRunnerModel") (As := []) (rest := []) ⟨hx, hb, hml, hown, tb_nil⟩ (k7_mload l g H.size f2 M n hT sg hL t_M hI hM) ⟨(callB_of 0 (tb_one (wd_1099 hB _)) tb_good1 rfl rfl rfl (wd_82 hB _) (wd_1096 hB _) (by decide +kernel) ⟨Nat.le_of_ble_eq_true rfl, Nat.le_of_ble_eq_true rfl⟩), (wd_1097 hB _), (wd_1098 hB _)⟩ ⟨pe_bl, pg_recv (ci := 10) hK hP (lo_in hL t_M (by decide)) he9 rfl, pe_pre hB hK hP hD⟩ rfl rfl hl.1 rfl (lv_room (Nat.le_of_ble_eq_true rfl)) d_L_law_138 ⟨hc, hs⟩) hA hD hS (fun r6 f7 H locs hq hP hD hS => ?_)
    obtain ⟨q8, hI, hu⟩ := hq
    have hJ := hJ.un hL t_B hu (by decide)
    have hO := hO.un t_ob hu (by decide)
    have hM := q8.2 hpx
    refine lv_istore (lv' := [(6, .int r6), (5, .int (nI 1)), (4, .int (nI i)), (3, .ref ob), (2, .ref M), (1, .ref B), (0, .ref b)]) hx hb d_L_law_141 hl (by decide) rfl (fun ls hl => ?_)
    refine lv_goto (tgt := 413) hx hb d_L_law_143 (by decide) ?_
    refine W.widen (k := cells + 1) (n := slots + 6) (by omega) (by omega) ?_
    exact kk f7 n hT sg H _ ls hI hJ hM hO (lv_sub hl [2, 3, 4, 5, 6] rfl) hP hD hS
set_option maxHeartbeats 4000000 in
set_option maxRecDepth 100000 in
theorem law_c3 {p : Program} {l : Launch} {e : Env} {s : State} {m : MethodId} {below : List Frame} {meth : Method} {c : Code} {b Ls : Nat} {xs : Nat → Int32} {A : Nat → Prop} {g : Lay} {B M ob : Nat} {i cells slots : Nat} (hx : p.tables.exec = Jvm.exec) (hb : c.code = code) (hr : meth.sig.returnType = ret) (hml : c.maxLocals = 8) (hlocks : meth.locks = false) (hown : s.vm.findClass "BigRunnerLaw" = some m.cls) (hB : TB s) (hLt : l.stackTraces = false) (hTZ : TZ A s s.heap) (hA : ∀ q, s.heap.size ≤ q → A q) (hA2 : ∀ q, A q → s.heap.size ≤ q) (hX : va_X b Ls xs s s.heap) (hbl : b < s.heap.size) (hbA : ¬ A b) (hLs : Ls ≤ 1536) (hK : va_K g.D vcl g.tys s) (hL : LO g) (t_B : g.tg B = 1) (t_M : g.tg M = 11) (m_ob : ob ∈ g.LP) (t_ob : g.tg ob = 0) (y_ob : g.tys[g.tn ob]? = some (g.ac ob, .long)) (hi : i + 2 < Ls) (hc : cells + 1 ≤ room_1.cells) (hs : slots + 6 ≤ room_1.slots) (f : Nat → va_E) (n : Nat) (hT : Nat → Int32) (sg : GS) (H : Heap) (locs : List Loc) (ls : Array Slot) (hI : IV g f) (hJ : CV2 g B f n hT sg) (hM : MV2 g M f n hT sg) (hO : OB g f ob) (hl : lv_has ls 8 [(4, .int (nI i)), (3, .ref ob), (2, .ref M), (1, .ref B), (0, .ref b)]) (hP : va_P g.D vcl (va_pl g.LP f) H) (hD : va_D A (va_pl g.LP f)) (hS : va_S A s.heap H locs) (kk : ∀ (f : Nat → va_E) (n : Nat) (hT : Nat → Int32) (sg : GS) (H : Heap) (locs : List Loc) (ls : Array Slot), IV g f → CV2 g B f n hT sg → MV2 g M f n hT sg → OB g f ob → lv_has ls 8 [(4, .int (nI i)), (3, .ref ob), (2, .ref M), (1, .ref B), (0, .ref b)] → va_P g.D vcl (va_pl g.LP f) H → va_D A (va_pl g.LP f) → va_S A s.heap H locs → W p l e room_1 s m #[Value.ref b] below meth c H locs (cells + 1) (slots + 6) (lw_Z below #[Value.ref b] s) (F0 m 413 ls [])) : W p l e room_1 s m #[Value.ref b] below meth c H locs cells slots (lw_Z below #[Value.ref b] s) (F0 m 146 ls []) := by
  refine lv_aload_n hx hb d_L_law_146 rfl (lv_at hl 3 rfl) ?_
  refine lv_aload_n hx hb d_L_law_147 rfl (lv_at hl 4 rfl) ?_
  refine lv_iload hx hb d_L_law_148 (lv_at hl 0 rfl) ?_
  refine lv_iconst (v := nI 1) hx hb d_L_law_150 (by decide) ?_
  refine pf_iaddN (x := i) (y := 1) hx hb d_L_law_151 ?_
  refine va_sld hx hb hX hbl hbA hS (vp_in_nI (by omega) (by omega)) d_L_law_152 ?_
  refine lv_topi (fun z1 hz1 => ?_)
  obtain ⟨e9, he9⟩ := lr_B t_B (hI.1 B)
  refine lp_i (va_runV (C := "BigRunner") (As := [.int z1]) (rest := []) ⟨hx, hb, hml, hown, tb_nil⟩ (k6_cgive l g H.size f B n hT sg z1 hL t_B hI hJ) ⟨(callB_of 1 (tb_one (wd_405 hB _)) tb_good1 rfl rfl rfl (wd_72 hB _) (wd_402 hB _) (by decide +kernel) ⟨Nat.le_of_ble_eq_true rfl, Nat.le_of_ble_eq_true rfl⟩), (wd_403 hB _), (wd_404 hB _)⟩ ⟨pe_bl, pg_recv (ci := 0) hK hP (lo_in hL t_B (by decide)) he9 rfl, pe_pre hB hK hP hD⟩ rfl rfl hl.1 rfl (lv_room (Nat.le_of_ble_eq_true rfl)) d_L_law_153 ⟨Nat.le_of_succ_le hc, Nat.le_trans (Nat.le_add_right slots 6) hs⟩) hA hD hS (fun r2 f3 H locs hq hP hD hS => ?_)
  obtain ⟨q4, hI, hu⟩ := hq
  have hM := hM.un hL t_M hu (by decide)
  have hO := hO.un t_ob hu (by decide)
  obtain ⟨hga, hgb, hJ⟩ := q4
  refine lv_pop hx hb d_L_law_156 rfl ?_
  refine lv_aload_n hx hb d_L_law_157 rfl (lv_at hl 2 rfl) ?_
  refine lv_aload_n hx hb d_L_law_158 rfl (lv_at hl 4 rfl) ?_
  refine lv_iload hx hb d_L_law_159 (lv_at hl 0 rfl) ?_
  refine lv_iconst (v := nI 1) hx hb d_L_law_161 (by decide) ?_
  refine pf_iaddN (x := i) (y := 1) hx hb d_L_law_162 ?_
  refine va_sld hx hb hX hbl hbA hS (vp_in_nI (by omega) (by omega)) d_L_law_163 ?_
  refine lv_topi (fun z5 hz5 => ?_)
  obtain rfl : z1 = z5 := hz1.trans hz5.symm
  obtain ⟨e9, he9⟩ := lr_M t_M (hI.1 M)
  refine lp_i (va_runV (C := "BigRunnerModel") (As := [.int z1]) (rest := []) ⟨hx, hb, hml, hown, tb_nil⟩ (k7_mgive l g H.size f3 M n hT sg z1 hL t_M hI hM) ⟨(callB_of 1 (tb_one (wd_1193 hB _)) tb_good1 rfl rfl rfl (wd_82 hB _) (wd_1190 hB _) (by decide +kernel) ⟨Nat.le_of_ble_eq_true rfl, Nat.le_of_ble_eq_true rfl⟩), (wd_1191 hB _), (wd_1192 hB _)⟩ ⟨pe_bl, pg_recv (ci := 10) hK hP (lo_in hL t_M (by decide)) he9 rfl, pe_pre hB hK hP hD⟩ rfl rfl hl.1 rfl (lv_room (Nat.le_of_ble_eq_true rfl)) d_L_law_164 ⟨Nat.le_of_succ_le hc, Nat.le_trans (Nat.le_add_right slots 6) hs⟩) hA hD hS (fun r6 f7 H locs hq hP hD hS => ?_)
  obtain ⟨q8, hI, hu⟩ := hq
  have hJ := hJ.un hL t_B hu (by decide)
  have hO := hO.un t_ob hu (by decide)
  obtain ⟨hgc, hgd, hM⟩ := q8
  obtain rfl : r6 = r2 := gv_eq hga hgb hgc hgd
  refine lv_pop hx hb d_L_law_167 rfl ?_
  refine lv_goto (tgt := 413) hx hb d_L_law_168 (by decide) ?_
  refine W.widen (k := cells + 1) (n := slots + 6) (by omega) (by omega) ?_
  exact kk f7 n hT ((gvG sg z1)) H _ ls hI hJ hM hO (lv_sub hl [0, 1, 2, 3, 4] rfl) hP hD hS
set_option maxHeartbeats 4000000 in
set_option maxRecDepth 100000 in
theorem law_c4 {p : Program} {l : Launch} {e : Env} {s : State} {m : MethodId} {below : List Frame} {meth : Method} {c : Code} {b Ls : Nat} {xs : Nat → Int32} {A : Nat → Prop} {g : Lay} {B M ob : Nat} {i cells slots : Nat} (hx : p.tables.exec = Jvm.exec) (hb : c.code = code) (hr : meth.sig.returnType = ret) (hml : c.maxLocals = 8) (hlocks : meth.locks = false) (hown : s.vm.findClass "BigRunnerLaw" = some m.cls) (hB : TB s) (hLt : l.stackTraces = false) (hTZ : TZ A s s.heap) (hA : ∀ q, s.heap.size ≤ q → A q) (hA2 : ∀ q, A q → s.heap.size ≤ q) (hX : va_X b Ls xs s s.heap) (hbl : b < s.heap.size) (hbA : ¬ A b) (hLs : Ls ≤ 1536) (hK : va_K g.D vcl g.tys s) (hL : LO g) (t_B : g.tg B = 1) (t_M : g.tg M = 11) (m_ob : ob ∈ g.LP) (t_ob : g.tg ob = 0) (y_ob : g.tys[g.tn ob]? = some (g.ac ob, .long)) (hi : i + 2 < Ls) (hc : cells + 1 ≤ room_1.cells) (hs : slots + 6 ≤ room_1.slots) (f : Nat → va_E) (n : Nat) (hT : Nat → Int32) (sg : GS) (H : Heap) (locs : List Loc) (ls : Array Slot) (hI : IV g f) (hJ : CV2 g B f n hT sg) (hM : MV2 g M f n hT sg) (hO : OB g f ob) (hl : lv_has ls 8 [(4, .int (nI i)), (3, .ref ob), (2, .ref M), (1, .ref B), (0, .ref b)]) (hP : va_P g.D vcl (va_pl g.LP f) H) (hD : va_D A (va_pl g.LP f)) (hS : va_S A s.heap H locs) (kk : ∀ (f : Nat → va_E) (n : Nat) (hT : Nat → Int32) (sg : GS) (H : Heap) (locs : List Loc) (ls : Array Slot), IV g f → CV2 g B f n hT sg → MV2 g M f n hT sg → OB g f ob → lv_has ls 8 [(4, .int (nI i)), (3, .ref ob), (2, .ref M), (1, .ref B), (0, .ref b)] → va_P g.D vcl (va_pl g.LP f) H → va_D A (va_pl g.LP f) → va_S A s.heap H locs → W p l e room_1 s m #[Value.ref b] below meth c H locs (cells + 1) (slots + 6) (lw_Z below #[Value.ref b] s) (F0 m 413 ls [])) : W p l e room_1 s m #[Value.ref b] below meth c H locs cells slots (lw_Z below #[Value.ref b] s) (F0 m 171 ls []) := by
  refine lv_aload_n hx hb d_L_law_171 rfl (lv_at hl 3 rfl) ?_
  refine lv_aload_n hx hb d_L_law_172 rfl (lv_at hl 4 rfl) ?_
  refine lv_iload hx hb d_L_law_173 (lv_at hl 0 rfl) ?_
  refine lv_iconst (v := nI 1) hx hb d_L_law_175 (by decide) ?_
  refine pf_iaddN (x := i) (y := 1) hx hb d_L_law_176 ?_
  refine va_sld hx hb hX hbl hbA hS (vp_in_nI (by omega) (by omega)) d_L_law_177 ?_
  refine lv_topi (fun z1 hz1 => ?_)
  refine lv_aload_n hx hb d_L_law_178 rfl (lv_at hl 1 rfl) ?_
  refine lp_i (tw_runS (As := [.ref B, .int z1, .ref ob]) (rest := []) (n := 3) hx hb hml hown (h6_run l g H.size f B n hT sg ob z1 hL t_B hI hJ m_ob t_ob y_ob hO hLt) (wd_688 hB _) (wd_71 hB _) (wd_686 hB _) (wd_687 hB _) (by decide +kernel) ⟨Nat.le_of_ble_eq_true rfl, Nat.le_of_ble_eq_true rfl⟩ rfl rfl ⟨pt_bl, lp_pre hTZ hA hS hB hK hP hD⟩ rfl rfl hl.1 rfl (lv_room (Nat.le_of_ble_eq_true rfl)) d_L_law_179 ⟨hc, hs⟩) hA hD hS (fun r2 f3 H locs hq hP hD hS => ?_)
  obtain ⟨hqc, hI, hu, hO⟩ := hq
  have hM := hM.un hL t_M hu (by decide)
  obtain ⟨hr9, hob, hk4, hk200, hJ⟩ := hqc
  rcases (le4_5 hk4) with hb3 | hb3 | hb3 | hb3 | hb3
  · skip
    rw [hb3] at hr9
    subst hr9
    have hob := hob hb3
    refine lv_istore (lv' := [(5, .int (nI 0)), (4, .int (nI i)), (3, .ref ob), (2, .ref M), (1, .ref B), (0, .ref b)]) hx hb d_L_law_182 hl (by decide) rfl (fun ls hl => ?_)
    refine lv_aload_n hx hb d_L_law_184 rfl (lv_at hl 3 rfl) ?_
    refine lv_aload_n hx hb d_L_law_185 rfl (lv_at hl 5 rfl) ?_
    refine lv_iload hx hb d_L_law_186 (lv_at hl 1 rfl) ?_
    refine lv_iconst (v := nI 1) hx hb d_L_law_188 (by decide) ?_
    refine pf_iaddN (x := i) (y := 1) hx hb d_L_law_189 ?_
    refine va_sld hx hb hX hbl hbA hS (vp_in_nI (by omega) (by omega)) d_L_law_190 ?_
    refine lv_topi (fun z4 hz4 => ?_)
    obtain rfl : z1 = z4 := hz1.trans hz4.symm
    obtain ⟨e9, he9⟩ := lr_M t_M (hI.1 M)
    refine lp_i (va_runV (C := "BigRunnerModel") (As := [.int z1]) (rest := []) ⟨hx, hb, hml, hown, tb_nil⟩ (k7_mrun l g H.size f3 M n hT sg z1 hL t_M hI hM) ⟨(callB_of 1 (tb_one (wd_1199 hB _)) tb_good1 rfl rfl rfl (wd_82 hB _) (wd_1196 hB _) (by decide +kernel) ⟨Nat.le_of_ble_eq_true rfl, Nat.le_of_ble_eq_true rfl⟩), (wd_1197 hB _), (wd_1198 hB _)⟩ ⟨pe_bl, pg_recv (ci := 10) hK hP (lo_in hL t_M (by decide)) he9 rfl, pe_pre hB hK hP hD⟩ rfl rfl hl.1 rfl (lv_room (Nat.le_of_ble_eq_true rfl)) d_L_law_191 ⟨hc, hs⟩) hA hD hS (fun r5 f6 H locs hq hP hD hS => ?_)
    obtain ⟨q7, hI, hu⟩ := hq
    have hJ := hJ.un hL t_B hu (by decide)
    have hob := hob.un t_ob hu (by decide)
    have hO := hO.un t_ob hu (by decide)
    obtain ⟨rfl, hth, hM⟩ := q7
    rw [hb3] at hth
    refine lv_istore (lv' := [(6, .int (nI ((prG sg z1).2.1))), (5, .int (nI 0)), (4, .int (nI i)), (3, .ref ob), (2, .ref M), (1, .ref B), (0, .ref b)]) hx hb d_L_law_194 hl (by decide) rfl (fun ls hl => ?_)
    refine lv_aload_n hx hb d_L_law_196 rfl (lv_at hl 4 rfl) ?_
    obtain ⟨e9, he9⟩ := lr_M t_M (hI.1 M)
    refine lp_i (va_runV (C := "BigRunnerModel") (As := []) (rest := []) ⟨hx, hb, hml, hown, tb_nil⟩ (k7_mthrown l g H.size f6 M n hT ((prG sg z1).2.2) (nI 0) hL t_M hI hM hth) ⟨(callB_of 0 (tb_one (wd_1087 hB _)) tb_good1 rfl rfl rfl (wd_82 hB _) (wd_1084 hB _) (by decide +kernel) ⟨Nat.le_of_ble_eq_true rfl, Nat.le_of_ble_eq_true rfl⟩), (wd_1085 hB _), (wd_1086 hB _)⟩ ⟨pe_bl, pg_recv (ci := 10) hK hP (lo_in hL t_M (by decide)) he9 rfl, pe_pre hB hK hP hD⟩ rfl rfl hl.1 rfl (lv_room (Nat.le_of_ble_eq_true rfl)) d_L_law_197 ⟨hc, hs⟩) hA hD hS (fun r8 f9 H locs hq hP hD hS => ?_)
    obtain ⟨q10, hI, hu⟩ := hq
    have hJ := hJ.un hL t_B hu (by decide)
    have hob := hob.un t_ob hu (by decide)
    have hO := hO.un t_ob hu (by decide)
    obtain ⟨rfl, hM⟩ := q10
    refine lv_iload hx hb d_L_law_200 (lv_at hl 1 rfl) ?_
    refine lv_icmp_eq (tgt := 207) hx hb d_L_law_202 (by decide) (fun b11 => ?_) (fun b11 => ?_)
    · skip
      replace b11 := (nI_eq (a := 0) (b := 0) (by omega) (by omega)).mp b11
      refine lv_iload hx hb d_L_law_207 (lv_at hl 1 rfl) ?_
      refine lv_if_ne (tgt := 224) hx hb d_L_law_209 (by decide) (fun b12 => ?_) (fun b12 => ?_)
      · skip
        replace b12 := mt (nI_eq (a := 0) (b := 0) (by omega) (by omega)).mpr b12
        exfalso; omega
      · skip
        replace b12 := (nI_eq (a := 0) (b := 0) (by omega) (by omega)).mp b12
        refine lv_aload_n hx hb d_L_law_212 rfl (lv_at hl 3 rfl) ?_
        refine lv_iconst (v := nI 0) hx hb d_L_law_213 (by decide) ?_
        obtain ⟨h9, e9, hv9⟩ := hob
        refine pf_lald (i := 0) hx hb hK hP m_ob e9 y_ob (by decide) (by decide) d_L_law_214 ?_
        refine lv_topl (fun z_ hz_ => ?_)
        obtain rfl : z_ = nL ((prG sg z1).2.1) := hz_.trans hv9
        refine lv_iload hx hb d_L_law_215 (lv_at hl 0 rfl) ?_
        refine pf_i2lN hx hb (by omega) d_L_law_217 ?_
        refine W.lcmp hx hb d_L_law_218 ?_
        refine lv_if_eq (tgt := 224) hx hb d_L_law_219 (by decide) (fun b13 => ?_) (fun b13 => ?_)
        · skip
          replace b13 := pl_eq.mp b13
          replace b13 := (nL_eq (a := (prG sg z1).2.1) (b := (prG sg z1).2.1) (by omega) (by omega)).mp b13
          refine lv_goto (tgt := 413) hx hb d_L_law_224 (by decide) ?_
          refine W.widen (k := cells + 1) (n := slots + 6) (by omega) (by omega) ?_
          exact kk f9 n hT ((prG sg z1).2.2) H _ ls hI hJ hM hO (lv_sub hl [2, 3, 4, 5, 6] rfl) hP hD hS
        · skip
          replace b13 := mt pl_eq.mpr b13
          replace b13 := mt (nL_eq (a := (prG sg z1).2.1) (b := (prG sg z1).2.1) (by omega) (by omega)).mpr b13
          exact absurd rfl b13
    · skip
      replace b11 := mt (nI_eq (a := 0) (b := 0) (by omega) (by omega)).mpr b11
      exfalso; omega
  · skip
    rw [hb3] at hr9
    subst hr9
    refine lv_istore (lv' := [(5, .int (nI 1)), (4, .int (nI i)), (3, .ref ob), (2, .ref M), (1, .ref B), (0, .ref b)]) hx hb d_L_law_182 hl (by decide) rfl (fun ls hl => ?_)
    refine lv_aload_n hx hb d_L_law_184 rfl (lv_at hl 3 rfl) ?_
    refine lv_aload_n hx hb d_L_law_185 rfl (lv_at hl 5 rfl) ?_
    refine lv_iload hx hb d_L_law_186 (lv_at hl 1 rfl) ?_
    refine lv_iconst (v := nI 1) hx hb d_L_law_188 (by decide) ?_
    refine pf_iaddN (x := i) (y := 1) hx hb d_L_law_189 ?_
    refine va_sld hx hb hX hbl hbA hS (vp_in_nI (by omega) (by omega)) d_L_law_190 ?_
    refine lv_topi (fun z14 hz14 => ?_)
    obtain rfl : z1 = z14 := hz1.trans hz14.symm
    obtain ⟨e9, he9⟩ := lr_M t_M (hI.1 M)
    refine lp_i (va_runV (C := "BigRunnerModel") (As := [.int z1]) (rest := []) ⟨hx, hb, hml, hown, tb_nil⟩ (k7_mrun l g H.size f3 M n hT sg z1 hL t_M hI hM) ⟨(callB_of 1 (tb_one (wd_1199 hB _)) tb_good1 rfl rfl rfl (wd_82 hB _) (wd_1196 hB _) (by decide +kernel) ⟨Nat.le_of_ble_eq_true rfl, Nat.le_of_ble_eq_true rfl⟩), (wd_1197 hB _), (wd_1198 hB _)⟩ ⟨pe_bl, pg_recv (ci := 10) hK hP (lo_in hL t_M (by decide)) he9 rfl, pe_pre hB hK hP hD⟩ rfl rfl hl.1 rfl (lv_room (Nat.le_of_ble_eq_true rfl)) d_L_law_191 ⟨hc, hs⟩) hA hD hS (fun r15 f16 H locs hq hP hD hS => ?_)
    obtain ⟨q17, hI, hu⟩ := hq
    have hJ := hJ.un hL t_B hu (by decide)
    have hO := hO.un t_ob hu (by decide)
    obtain ⟨rfl, hth, hM⟩ := q17
    rw [hb3] at hth
    refine lv_istore (lv' := [(6, .int (nI ((prG sg z1).2.1))), (5, .int (nI 1)), (4, .int (nI i)), (3, .ref ob), (2, .ref M), (1, .ref B), (0, .ref b)]) hx hb d_L_law_194 hl (by decide) rfl (fun ls hl => ?_)
    refine lv_aload_n hx hb d_L_law_196 rfl (lv_at hl 4 rfl) ?_
    obtain ⟨e9, he9⟩ := lr_M t_M (hI.1 M)
    refine lp_i (va_runV (C := "BigRunnerModel") (As := []) (rest := []) ⟨hx, hb, hml, hown, tb_nil⟩ (k7_mthrown l g H.size f16 M n hT ((prG sg z1).2.2) (nI 1) hL t_M hI hM hth) ⟨(callB_of 0 (tb_one (wd_1087 hB _)) tb_good1 rfl rfl rfl (wd_82 hB _) (wd_1084 hB _) (by decide +kernel) ⟨Nat.le_of_ble_eq_true rfl, Nat.le_of_ble_eq_true rfl⟩), (wd_1085 hB _), (wd_1086 hB _)⟩ ⟨pe_bl, pg_recv (ci := 10) hK hP (lo_in hL t_M (by decide)) he9 rfl, pe_pre hB hK hP hD⟩ rfl rfl hl.1 rfl (lv_room (Nat.le_of_ble_eq_true rfl)) d_L_law_197 ⟨hc, hs⟩) hA hD hS (fun r18 f19 H locs hq hP hD hS => ?_)
    obtain ⟨q20, hI, hu⟩ := hq
    have hJ := hJ.un hL t_B hu (by decide)
    have hO := hO.un t_ob hu (by decide)
    obtain ⟨rfl, hM⟩ := q20
    refine lv_iload hx hb d_L_law_200 (lv_at hl 1 rfl) ?_
    refine lv_icmp_eq (tgt := 207) hx hb d_L_law_202 (by decide) (fun b21 => ?_) (fun b21 => ?_)
    · skip
      replace b21 := (nI_eq (a := 1) (b := 1) (by omega) (by omega)).mp b21
      refine lv_iload hx hb d_L_law_207 (lv_at hl 1 rfl) ?_
      refine lv_if_ne (tgt := 224) hx hb d_L_law_209 (by decide) (fun b22 => ?_) (fun b22 => ?_)
      · skip
        replace b22 := mt (nI_eq (a := 1) (b := 0) (by omega) (by omega)).mpr b22
        refine lv_goto (tgt := 413) hx hb d_L_law_224 (by decide) ?_
        refine W.widen (k := cells + 1) (n := slots + 6) (by omega) (by omega) ?_
        exact kk f19 n hT ((prG sg z1).2.2) H _ ls hI hJ hM hO (lv_sub hl [2, 3, 4, 5, 6] rfl) hP hD hS
      · skip
        replace b22 := (nI_eq (a := 1) (b := 0) (by omega) (by omega)).mp b22
        exfalso; omega
    · skip
      replace b21 := mt (nI_eq (a := 1) (b := 1) (by omega) (by omega)).mpr b21
      exfalso; omega
  · skip
    rw [hb3] at hr9
    subst hr9
    refine lv_istore (lv' := [(5, .int (nI 2)), (4, .int (nI i)), (3, .ref ob), (2, .ref M), (1, .ref B), (0, .ref b)]) hx hb d_L_law_182 hl (by decide) rfl (fun ls hl => ?_)
    refine lv_aload_n hx hb d_L_law_184 rfl (lv_at hl 3 rfl) ?_
    refine lv_aload_n hx hb d_L_law_185 rfl (lv_at hl 5 rfl) ?_
    refine lv_iload hx hb d_L_law_186 (lv_at hl 1 rfl) ?_
    refine lv_iconst (v := nI 1) hx hb d_L_law_188 (by decide) ?_
    refine pf_iaddN (x := i) (y := 1) hx hb d_L_law_189 ?_
    refine va_sld hx hb hX hbl hbA hS (vp_in_nI (by omega) (by omega)) d_L_law_190 ?_
    refine lv_topi (fun z23 hz23 => ?_)
    obtain rfl : z1 = z23 := hz1.trans hz23.symm
    obtain ⟨e9, he9⟩ := lr_M t_M (hI.1 M)
    refine lp_i (va_runV (C := "BigRunnerModel") (As := [.int z1]) (rest := []) ⟨hx, hb, hml, hown, tb_nil⟩ (k7_mrun l g H.size f3 M n hT sg z1 hL t_M hI hM) ⟨(callB_of 1 (tb_one (wd_1199 hB _)) tb_good1 rfl rfl rfl (wd_82 hB _) (wd_1196 hB _) (by decide +kernel) ⟨Nat.le_of_ble_eq_true rfl, Nat.le_of_ble_eq_true rfl⟩), (wd_1197 hB _), (wd_1198 hB _)⟩ ⟨pe_bl, pg_recv (ci := 10) hK hP (lo_in hL t_M (by decide)) he9 rfl, pe_pre hB hK hP hD⟩ rfl rfl hl.1 rfl (lv_room (Nat.le_of_ble_eq_true rfl)) d_L_law_191 ⟨hc, hs⟩) hA hD hS (fun r24 f25 H locs hq hP hD hS => ?_)
    obtain ⟨q26, hI, hu⟩ := hq
    have hJ := hJ.un hL t_B hu (by decide)
    have hO := hO.un t_ob hu (by decide)
    obtain ⟨rfl, hth, hM⟩ := q26
    rw [hb3] at hth
    refine lv_istore (lv' := [(6, .int (nI ((prG sg z1).2.1))), (5, .int (nI 2)), (4, .int (nI i)), (3, .ref ob), (2, .ref M), (1, .ref B), (0, .ref b)]) hx hb d_L_law_194 hl (by decide) rfl (fun ls hl => ?_)
    refine lv_aload_n hx hb d_L_law_196 rfl (lv_at hl 4 rfl) ?_
    obtain ⟨e9, he9⟩ := lr_M t_M (hI.1 M)
    refine lp_i (va_runV (C := "BigRunnerModel") (As := []) (rest := []) ⟨hx, hb, hml, hown, tb_nil⟩ (k7_mthrown l g H.size f25 M n hT ((prG sg z1).2.2) (nI 2) hL t_M hI hM hth) ⟨(callB_of 0 (tb_one (wd_1087 hB _)) tb_good1 rfl rfl rfl (wd_82 hB _) (wd_1084 hB _) (by decide +kernel) ⟨Nat.le_of_ble_eq_true rfl, Nat.le_of_ble_eq_true rfl⟩), (wd_1085 hB _), (wd_1086 hB _)⟩ ⟨pe_bl, pg_recv (ci := 10) hK hP (lo_in hL t_M (by decide)) he9 rfl, pe_pre hB hK hP hD⟩ rfl rfl hl.1 rfl (lv_room (Nat.le_of_ble_eq_true rfl)) d_L_law_197 ⟨hc, hs⟩) hA hD hS (fun r27 f28 H locs hq hP hD hS => ?_)
    obtain ⟨q29, hI, hu⟩ := hq
    have hJ := hJ.un hL t_B hu (by decide)
    have hO := hO.un t_ob hu (by decide)
    obtain ⟨rfl, hM⟩ := q29
    refine lv_iload hx hb d_L_law_200 (lv_at hl 1 rfl) ?_
    refine lv_icmp_eq (tgt := 207) hx hb d_L_law_202 (by decide) (fun b30 => ?_) (fun b30 => ?_)
    · skip
      replace b30 := (nI_eq (a := 2) (b := 2) (by omega) (by omega)).mp b30
      refine lv_iload hx hb d_L_law_207 (lv_at hl 1 rfl) ?_
      refine lv_if_ne (tgt := 224) hx hb d_L_law_209 (by decide) (fun b31 => ?_) (fun b31 => ?_)
      · skip
        replace b31 := mt (nI_eq (a := 2) (b := 0) (by omega) (by omega)).mpr b31
        refine lv_goto (tgt := 413) hx hb d_L_law_224 (by decide) ?_
        refine W.widen (k := cells + 1) (n := slots + 6) (by omega) (by omega) ?_
        exact kk f28 n hT ((prG sg z1).2.2) H _ ls hI hJ hM hO (lv_sub hl [2, 3, 4, 5, 6] rfl) hP hD hS
      · skip
        replace b31 := (nI_eq (a := 2) (b := 0) (by omega) (by omega)).mp b31
        exfalso; omega
    · skip
      replace b30 := mt (nI_eq (a := 2) (b := 2) (by omega) (by omega)).mpr b30
      exfalso; omega
  · skip
    rw [hb3] at hr9
    subst hr9
    refine lv_istore (lv' := [(5, .int (nI 3)), (4, .int (nI i)), (3, .ref ob), (2, .ref M), (1, .ref B), (0, .ref b)]) hx hb d_L_law_182 hl (by decide) rfl (fun ls hl => ?_)
    refine lv_aload_n hx hb d_L_law_184 rfl (lv_at hl 3 rfl) ?_
    refine lv_aload_n hx hb d_L_law_185 rfl (lv_at hl 5 rfl) ?_
    refine lv_iload hx hb d_L_law_186 (lv_at hl 1 rfl) ?_
    refine lv_iconst (v := nI 1) hx hb d_L_law_188 (by decide) ?_
    refine pf_iaddN (x := i) (y := 1) hx hb d_L_law_189 ?_
    refine va_sld hx hb hX hbl hbA hS (vp_in_nI (by omega) (by omega)) d_L_law_190 ?_
    refine lv_topi (fun z32 hz32 => ?_)
    obtain rfl : z1 = z32 := hz1.trans hz32.symm
    obtain ⟨e9, he9⟩ := lr_M t_M (hI.1 M)
    refine lp_i (va_runV (C := "BigRunnerModel") (As := [.int z1]) (rest := []) ⟨hx, hb, hml, hown, tb_nil⟩ (k7_mrun l g H.size f3 M n hT sg z1 hL t_M hI hM) ⟨(callB_of 1 (tb_one (wd_1199 hB _)) tb_good1 rfl rfl rfl (wd_82 hB _) (wd_1196 hB _) (by decide +kernel) ⟨Nat.le_of_ble_eq_true rfl, Nat.le_of_ble_eq_true rfl⟩), (wd_1197 hB _), (wd_1198 hB _)⟩ ⟨pe_bl, pg_recv (ci := 10) hK hP (lo_in hL t_M (by decide)) he9 rfl, pe_pre hB hK hP hD⟩ rfl rfl hl.1 rfl (lv_room (Nat.le_of_ble_eq_true rfl)) d_L_law_191 ⟨hc, hs⟩) hA hD hS (fun r33 f34 H locs hq hP hD hS => ?_)
    obtain ⟨q35, hI, hu⟩ := hq
    have hJ := hJ.un hL t_B hu (by decide)
    have hO := hO.un t_ob hu (by decide)
    obtain ⟨rfl, hth, hM⟩ := q35
    rw [hb3] at hth
    refine lv_istore (lv' := [(6, .int (nI ((prG sg z1).2.1))), (5, .int (nI 3)), (4, .int (nI i)), (3, .ref ob), (2, .ref M), (1, .ref B), (0, .ref b)]) hx hb d_L_law_194 hl (by decide) rfl (fun ls hl => ?_)
    refine lv_aload_n hx hb d_L_law_196 rfl (lv_at hl 4 rfl) ?_
    obtain ⟨e9, he9⟩ := lr_M t_M (hI.1 M)
    refine lp_i (va_runV (C := "BigRunnerModel") (As := []) (rest := []) ⟨hx, hb, hml, hown, tb_nil⟩ (k7_mthrown l g H.size f34 M n hT ((prG sg z1).2.2) (nI 3) hL t_M hI hM hth) ⟨(callB_of 0 (tb_one (wd_1087 hB _)) tb_good1 rfl rfl rfl (wd_82 hB _) (wd_1084 hB _) (by decide +kernel) ⟨Nat.le_of_ble_eq_true rfl, Nat.le_of_ble_eq_true rfl⟩), (wd_1085 hB _), (wd_1086 hB _)⟩ ⟨pe_bl, pg_recv (ci := 10) hK hP (lo_in hL t_M (by decide)) he9 rfl, pe_pre hB hK hP hD⟩ rfl rfl hl.1 rfl (lv_room (Nat.le_of_ble_eq_true rfl)) d_L_law_197 ⟨hc, hs⟩) hA hD hS (fun r36 f37 H locs hq hP hD hS => ?_)
    obtain ⟨q38, hI, hu⟩ := hq
    have hJ := hJ.un hL t_B hu (by decide)
    have hO := hO.un t_ob hu (by decide)
    obtain ⟨rfl, hM⟩ := q38
    refine lv_iload hx hb d_L_law_200 (lv_at hl 1 rfl) ?_
    refine lv_icmp_eq (tgt := 207) hx hb d_L_law_202 (by decide) (fun b39 => ?_) (fun b39 => ?_)
    · skip
      replace b39 := (nI_eq (a := 3) (b := 3) (by omega) (by omega)).mp b39
      refine lv_iload hx hb d_L_law_207 (lv_at hl 1 rfl) ?_
      refine lv_if_ne (tgt := 224) hx hb d_L_law_209 (by decide) (fun b40 => ?_) (fun b40 => ?_)
      · skip
        replace b40 := mt (nI_eq (a := 3) (b := 0) (by omega) (by omega)).mpr b40
        refine lv_goto (tgt := 413) hx hb d_L_law_224 (by decide) ?_
        refine W.widen (k := cells + 1) (n := slots + 6) (by omega) (by omega) ?_
        exact kk f37 n hT ((prG sg z1).2.2) H _ ls hI hJ hM hO (lv_sub hl [2, 3, 4, 5, 6] rfl) hP hD hS
      · skip
        replace b40 := (nI_eq (a := 3) (b := 0) (by omega) (by omega)).mp b40
        exfalso; omega
    · skip
      replace b39 := mt (nI_eq (a := 3) (b := 3) (by omega) (by omega)).mpr b39
      exfalso; omega
  · skip
    rw [hb3] at hr9
    subst hr9
    refine lv_istore (lv' := [(5, .int (nI 4)), (4, .int (nI i)), (3, .ref ob), (2, .ref M), (1, .ref B), (0, .ref b)]) hx hb d_L_law_182 hl (by decide) rfl (fun ls hl => ?_)
    refine lv_aload_n hx hb d_L_law_184 rfl (lv_at hl 3 rfl) ?_
    refine lv_aload_n hx hb d_L_law_185 rfl (lv_at hl 5 rfl) ?_
    refine lv_iload hx hb d_L_law_186 (lv_at hl 1 rfl) ?_
    refine lv_iconst (v := nI 1) hx hb d_L_law_188 (by decide) ?_
    refine pf_iaddN (x := i) (y := 1) hx hb d_L_law_189 ?_
    refine va_sld hx hb hX hbl hbA hS (vp_in_nI (by omega) (by omega)) d_L_law_190 ?_
    refine lv_topi (fun z41 hz41 => ?_)
    obtain rfl : z1 = z41 := hz1.trans hz41.symm
    obtain ⟨e9, he9⟩ := lr_M t_M (hI.1 M)
    refine lp_i (va_runV (C := "BigRunnerModel") (As := [.int z1]) (rest := []) ⟨hx, hb, hml, hown, tb_nil⟩ (k7_mrun l g H.size f3 M n hT sg z1 hL t_M hI hM) ⟨(callB_of 1 (tb_one (wd_1199 hB _)) tb_good1 rfl rfl rfl (wd_82 hB _) (wd_1196 hB _) (by decide +kernel) ⟨Nat.le_of_ble_eq_true rfl, Nat.le_of_ble_eq_true rfl⟩), (wd_1197 hB _), (wd_1198 hB _)⟩ ⟨pe_bl, pg_recv (ci := 10) hK hP (lo_in hL t_M (by decide)) he9 rfl, pe_pre hB hK hP hD⟩ rfl rfl hl.1 rfl (lv_room (Nat.le_of_ble_eq_true rfl)) d_L_law_191 ⟨hc, hs⟩) hA hD hS (fun r42 f43 H locs hq hP hD hS => ?_)
    obtain ⟨q44, hI, hu⟩ := hq
    have hJ := hJ.un hL t_B hu (by decide)
    have hO := hO.un t_ob hu (by decide)
    obtain ⟨rfl, hth, hM⟩ := q44
    rw [hb3] at hth
    refine lv_istore (lv' := [(6, .int (nI ((prG sg z1).2.1))), (5, .int (nI 4)), (4, .int (nI i)), (3, .ref ob), (2, .ref M), (1, .ref B), (0, .ref b)]) hx hb d_L_law_194 hl (by decide) rfl (fun ls hl => ?_)
    refine lv_aload_n hx hb d_L_law_196 rfl (lv_at hl 4 rfl) ?_
    obtain ⟨e9, he9⟩ := lr_M t_M (hI.1 M)
    refine lp_i (va_runV (C := "BigRunnerModel") (As := []) (rest := []) ⟨hx, hb, hml, hown, tb_nil⟩ (k7_mthrown l g H.size f43 M n hT ((prG sg z1).2.2) (nI 4) hL t_M hI hM hth) ⟨(callB_of 0 (tb_one (wd_1087 hB _)) tb_good1 rfl rfl rfl (wd_82 hB _) (wd_1084 hB _) (by decide +kernel) ⟨Nat.le_of_ble_eq_true rfl, Nat.le_of_ble_eq_true rfl⟩), (wd_1085 hB _), (wd_1086 hB _)⟩ ⟨pe_bl, pg_recv (ci := 10) hK hP (lo_in hL t_M (by decide)) he9 rfl, pe_pre hB hK hP hD⟩ rfl rfl hl.1 rfl (lv_room (Nat.le_of_ble_eq_true rfl)) d_L_law_197 ⟨hc, hs⟩) hA hD hS (fun r45 f46 H locs hq hP hD hS => ?_)
    obtain ⟨q47, hI, hu⟩ := hq
    have hJ := hJ.un hL t_B hu (by decide)
    have hO := hO.un t_ob hu (by decide)
    obtain ⟨rfl, hM⟩ := q47
    refine lv_iload hx hb d_L_law_200 (lv_at hl 1 rfl) ?_
    refine lv_icmp_eq (tgt := 207) hx hb d_L_law_202 (by decide) (fun b48 => ?_) (fun b48 => ?_)
    · skip
      replace b48 := (nI_eq (a := 4) (b := 4) (by omega) (by omega)).mp b48
      refine lv_iload hx hb d_L_law_207 (lv_at hl 1 rfl) ?_
      refine lv_if_ne (tgt := 224) hx hb d_L_law_209 (by decide) (fun b49 => ?_) (fun b49 => ?_)
      · skip
        replace b49 := mt (nI_eq (a := 4) (b := 0) (by omega) (by omega)).mpr b49
        refine lv_goto (tgt := 413) hx hb d_L_law_224 (by decide) ?_
        refine W.widen (k := cells + 1) (n := slots + 6) (by omega) (by omega) ?_
        exact kk f46 n hT ((prG sg z1).2.2) H _ ls hI hJ hM hO (lv_sub hl [2, 3, 4, 5, 6] rfl) hP hD hS
      · skip
        replace b49 := (nI_eq (a := 4) (b := 0) (by omega) (by omega)).mp b49
        exfalso; omega
    · skip
      replace b48 := mt (nI_eq (a := 4) (b := 4) (by omega) (by omega)).mpr b48
      exfalso; omega
set_option maxHeartbeats 4000000 in
set_option maxRecDepth 100000 in
theorem law_c5 {p : Program} {l : Launch} {e : Env} {s : State} {m : MethodId} {below : List Frame} {meth : Method} {c : Code} {b Ls : Nat} {xs : Nat → Int32} {A : Nat → Prop} {g : Lay} {B M ob : Nat} {i cells slots : Nat} (hx : p.tables.exec = Jvm.exec) (hb : c.code = code) (hr : meth.sig.returnType = ret) (hml : c.maxLocals = 8) (hlocks : meth.locks = false) (hown : s.vm.findClass "BigRunnerLaw" = some m.cls) (hB : TB s) (hLt : l.stackTraces = false) (hTZ : TZ A s s.heap) (hA : ∀ q, s.heap.size ≤ q → A q) (hA2 : ∀ q, A q → s.heap.size ≤ q) (hX : va_X b Ls xs s s.heap) (hbl : b < s.heap.size) (hbA : ¬ A b) (hLs : Ls ≤ 1536) (hK : va_K g.D vcl g.tys s) (hL : LO g) (t_B : g.tg B = 1) (t_M : g.tg M = 11) (m_ob : ob ∈ g.LP) (t_ob : g.tg ob = 0) (y_ob : g.tys[g.tn ob]? = some (g.ac ob, .long)) (hi : i + 2 < Ls) (hc : cells + 1 ≤ room_1.cells) (hs : slots + 6 ≤ room_1.slots) (f : Nat → va_E) (n : Nat) (hT : Nat → Int32) (sg : GS) (H : Heap) (locs : List Loc) (ls : Array Slot) (hI : IV g f) (hJ : CV2 g B f n hT sg) (hM : MV2 g M f n hT sg) (hO : OB g f ob) (hl : lv_has ls 8 [(4, .int (nI i)), (3, .ref ob), (2, .ref M), (1, .ref B), (0, .ref b)]) (hP : va_P g.D vcl (va_pl g.LP f) H) (hD : va_D A (va_pl g.LP f)) (hS : va_S A s.heap H locs) (kk : ∀ (f : Nat → va_E) (n : Nat) (hT : Nat → Int32) (sg : GS) (H : Heap) (locs : List Loc) (ls : Array Slot), IV g f → CV2 g B f n hT sg → MV2 g M f n hT sg → OB g f ob → lv_has ls 8 [(4, .int (nI i)), (3, .ref ob), (2, .ref M), (1, .ref B), (0, .ref b)] → va_P g.D vcl (va_pl g.LP f) H → va_D A (va_pl g.LP f) → va_S A s.heap H locs → W p l e room_1 s m #[Value.ref b] below meth c H locs (cells + 1) (slots + 6) (lw_Z below #[Value.ref b] s) (F0 m 413 ls [])) : W p l e room_1 s m #[Value.ref b] below meth c H locs cells slots (lw_Z below #[Value.ref b] s) (F0 m 227 ls []) := by
  refine lv_aload_n hx hb d_L_law_227 rfl (lv_at hl 3 rfl) ?_
  refine lv_aload_n hx hb d_L_law_228 rfl (lv_at hl 4 rfl) ?_
  refine lv_iload hx hb d_L_law_229 (lv_at hl 0 rfl) ?_
  refine lv_iconst (v := nI 1) hx hb d_L_law_231 (by decide) ?_
  refine pf_iaddN (x := i) (y := 1) hx hb d_L_law_232 ?_
  refine va_sld hx hb hX hbl hbA hS (vp_in_nI (by omega) (by omega)) d_L_law_233 ?_
  refine lv_topi (fun z1 hz1 => ?_)
  obtain ⟨e9, he9⟩ := lr_B t_B (hI.1 B)
  refine lp_i (va_runV (C := "BigRunner") (As := [.int z1]) (rest := []) ⟨hx, hb, hml, hown, tb_nil⟩ (k6_clook l g H.size f B n hT sg z1 hL t_B hI hJ) ⟨(callB_of 1 (tb_one (wd_415 hB _)) tb_good1 rfl rfl rfl (wd_72 hB _) (wd_412 hB _) (by decide +kernel) ⟨Nat.le_of_ble_eq_true rfl, Nat.le_of_ble_eq_true rfl⟩), (wd_413 hB _), (wd_414 hB _)⟩ ⟨pe_bl, pg_recv (ci := 0) hK hP (lo_in hL t_B (by decide)) he9 rfl, pe_pre hB hK hP hD⟩ rfl rfl hl.1 rfl (lv_room (Nat.le_of_ble_eq_true rfl)) d_L_law_234 ⟨Nat.le_of_succ_le hc, Nat.le_trans (Nat.le_add_right slots 6) hs⟩) hA hD hS (fun r2 f3 H locs hq hP hD hS => ?_)
  obtain ⟨q4, hI, hu⟩ := hq
  have hM := hM.un hL t_M hu (by decide)
  have hO := hO.un t_ob hu (by decide)
  have hJ := q4
  refine lv_pop hx hb d_L_law_237 rfl ?_
  refine lv_aload_n hx hb d_L_law_238 rfl (lv_at hl 2 rfl) ?_
  refine lv_aload_n hx hb d_L_law_239 rfl (lv_at hl 4 rfl) ?_
  refine lv_iload hx hb d_L_law_240 (lv_at hl 0 rfl) ?_
  refine lv_iconst (v := nI 1) hx hb d_L_law_242 (by decide) ?_
  refine pf_iaddN (x := i) (y := 1) hx hb d_L_law_243 ?_
  refine va_sld hx hb hX hbl hbA hS (vp_in_nI (by omega) (by omega)) d_L_law_244 ?_
  refine lv_topi (fun z5 hz5 => ?_)
  obtain rfl : z1 = z5 := hz1.trans hz5.symm
  obtain ⟨e9, he9⟩ := lr_M t_M (hI.1 M)
  refine lp_i (va_runV (C := "BigRunnerModel") (As := [.int z1]) (rest := []) ⟨hx, hb, hml, hown, tb_nil⟩ (k7_mlook l g H.size f3 M n hT sg z1 hL t_M hI hM) ⟨(callB_of 1 (tb_one (wd_1265 hB _)) tb_good1 rfl rfl rfl (wd_82 hB _) (wd_1262 hB _) (by decide +kernel) ⟨Nat.le_of_ble_eq_true rfl, Nat.le_of_ble_eq_true rfl⟩), (wd_1263 hB _), (wd_1264 hB _)⟩ ⟨pe_bl, pg_recv (ci := 10) hK hP (lo_in hL t_M (by decide)) he9 rfl, pe_pre hB hK hP hD⟩ rfl rfl hl.1 rfl (lv_room (Nat.le_of_ble_eq_true rfl)) d_L_law_245 ⟨Nat.le_of_succ_le hc, Nat.le_trans (Nat.le_add_right slots 6) hs⟩) hA hD hS (fun r6 f7 H locs hq hP hD hS => ?_)
  obtain ⟨q8, hI, hu⟩ := hq
  have hJ := hJ.un hL t_B hu (by decide)
  have hO := hO.un t_ob hu (by decide)
  have hM := q8
  refine lv_pop hx hb d_L_law_248 rfl ?_
  refine lv_goto (tgt := 413) hx hb d_L_law_249 (by decide) ?_
  refine W.widen (k := cells + 1) (n := slots + 6) (by omega) (by omega) ?_
  exact kk f7 n hT sg H _ ls hI hJ hM hO (lv_sub hl [0, 1, 2, 3, 4] rfl) hP hD hS
set_option maxHeartbeats 4000000 in
set_option maxRecDepth 100000 in
theorem law_c6 {p : Program} {l : Launch} {e : Env} {s : State} {m : MethodId} {below : List Frame} {meth : Method} {c : Code} {b Ls : Nat} {xs : Nat → Int32} {A : Nat → Prop} {g : Lay} {B M ob : Nat} {i cells slots : Nat} (hx : p.tables.exec = Jvm.exec) (hb : c.code = code) (hr : meth.sig.returnType = ret) (hml : c.maxLocals = 8) (hlocks : meth.locks = false) (hown : s.vm.findClass "BigRunnerLaw" = some m.cls) (hB : TB s) (hLt : l.stackTraces = false) (hTZ : TZ A s s.heap) (hA : ∀ q, s.heap.size ≤ q → A q) (hA2 : ∀ q, A q → s.heap.size ≤ q) (hX : va_X b Ls xs s s.heap) (hbl : b < s.heap.size) (hbA : ¬ A b) (hLs : Ls ≤ 1536) (hK : va_K g.D vcl g.tys s) (hL : LO g) (t_B : g.tg B = 1) (t_M : g.tg M = 11) (m_ob : ob ∈ g.LP) (t_ob : g.tg ob = 0) (y_ob : g.tys[g.tn ob]? = some (g.ac ob, .long)) (hi : i + 2 < Ls) (hc : cells + 1 ≤ room_1.cells) (hs : slots + 6 ≤ room_1.slots) (f : Nat → va_E) (n : Nat) (hT : Nat → Int32) (sg : GS) (H : Heap) (locs : List Loc) (ls : Array Slot) (hI : IV g f) (hJ : CV2 g B f n hT sg) (hM : MV2 g M f n hT sg) (hO : OB g f ob) (hl : lv_has ls 8 [(4, .int (nI i)), (3, .ref ob), (2, .ref M), (1, .ref B), (0, .ref b)]) (hP : va_P g.D vcl (va_pl g.LP f) H) (hD : va_D A (va_pl g.LP f)) (hS : va_S A s.heap H locs) (kk : ∀ (f : Nat → va_E) (n : Nat) (hT : Nat → Int32) (sg : GS) (H : Heap) (locs : List Loc) (ls : Array Slot), IV g f → CV2 g B f n hT sg → MV2 g M f n hT sg → OB g f ob → lv_has ls 8 [(4, .int (nI i)), (3, .ref ob), (2, .ref M), (1, .ref B), (0, .ref b)] → va_P g.D vcl (va_pl g.LP f) H → va_D A (va_pl g.LP f) → va_S A s.heap H locs → W p l e room_1 s m #[Value.ref b] below meth c H locs (cells + 1) (slots + 6) (lw_Z below #[Value.ref b] s) (F0 m 413 ls [])) : W p l e room_1 s m #[Value.ref b] below meth c H locs cells slots (lw_Z below #[Value.ref b] s) (F0 m 252 ls []) := by
  refine lv_aload_n hx hb d_L_law_252 rfl (lv_at hl 3 rfl) ?_
  refine lv_aload_n hx hb d_L_law_253 rfl (lv_at hl 4 rfl) ?_
  refine lv_iload hx hb d_L_law_254 (lv_at hl 0 rfl) ?_
  refine lv_iconst (v := nI 1) hx hb d_L_law_256 (by decide) ?_
  refine pf_iaddN (x := i) (y := 1) hx hb d_L_law_257 ?_
  refine va_sld hx hb hX hbl hbA hS (vp_in_nI (by omega) (by omega)) d_L_law_258 ?_
  refine lv_topi (fun z1 hz1 => ?_)
  refine lv_aload_n hx hb d_L_law_259 rfl (lv_at hl 4 rfl) ?_
  refine lv_iload hx hb d_L_law_260 (lv_at hl 0 rfl) ?_
  refine lv_iconst (v := nI 2) hx hb d_L_law_262 (by decide) ?_
  refine pf_iaddN (x := i) (y := 2) hx hb d_L_law_263 ?_
  refine va_sld hx hb hX hbl hbA hS (vp_in_nI (by omega) (by omega)) d_L_law_264 ?_
  refine lv_topi (fun z2 hz2 => ?_)
  refine lv_if_eq (tgt := 272) hx hb d_L_law_265 (by decide) (fun b3 => ?_) (fun b3 => ?_)
  · skip
    refine lv_iconst (v := nI 0) hx hb d_L_law_272 (by decide) ?_
    refine lv_aload_n hx hb d_L_law_273 rfl (lv_at hl 1 rfl) ?_
    refine lp_i (tw_runS (As := [.ref B, .int z1, .int (nI 0), .ref ob]) (rest := []) (n := 4) hx hb hml hown (h6_bound l g H.size f B n hT sg ob z1 ((nI 0)) hL t_B hI hJ m_ob t_ob y_ob hO hLt) (wd_882 hB _) (wd_71 hB _) (wd_880 hB _) (wd_881 hB _) (by decide +kernel) ⟨Nat.le_of_ble_eq_true rfl, Nat.le_of_ble_eq_true rfl⟩ rfl rfl ⟨pt_bl, lp_pre hTZ hA hS hB hK hP hD⟩ rfl rfl hl.1 rfl (lv_room (Nat.le_of_ble_eq_true rfl)) d_L_law_274 ⟨hc, hs⟩) hA hD hS (fun r4 f5 H locs hq hP hD hS => ?_)
    obtain ⟨hqc, hI, hu, hO⟩ := hq
    have hM := hM.un hL t_M hu (by decide)
    have hJ := hqc
    refine lv_istore (lv' := [(5, .int r4), (4, .int (nI i)), (3, .ref ob), (2, .ref M), (1, .ref B), (0, .ref b)]) hx hb d_L_law_277 hl (by decide) rfl (fun ls hl => ?_)
    refine lv_aload_n hx hb d_L_law_279 rfl (lv_at hl 3 rfl) ?_
    refine lv_aload_n hx hb d_L_law_280 rfl (lv_at hl 5 rfl) ?_
    refine lv_iload hx hb d_L_law_281 (lv_at hl 1 rfl) ?_
    refine lv_iconst (v := nI 1) hx hb d_L_law_283 (by decide) ?_
    refine pf_iaddN (x := i) (y := 1) hx hb d_L_law_284 ?_
    refine va_sld hx hb hX hbl hbA hS (vp_in_nI (by omega) (by omega)) d_L_law_285 ?_
    refine lv_topi (fun z6 hz6 => ?_)
    obtain rfl : z1 = z6 := hz1.trans hz6.symm
    refine lv_aload_n hx hb d_L_law_286 rfl (lv_at hl 5 rfl) ?_
    refine lv_iload hx hb d_L_law_287 (lv_at hl 1 rfl) ?_
    refine lv_iconst (v := nI 2) hx hb d_L_law_289 (by decide) ?_
    refine pf_iaddN (x := i) (y := 2) hx hb d_L_law_290 ?_
    refine va_sld hx hb hX hbl hbA hS (vp_in_nI (by omega) (by omega)) d_L_law_291 ?_
    refine lv_topi (fun z7 hz7 => ?_)
    obtain rfl : z2 = z7 := hz2.trans hz7.symm
    refine lv_if_eq (tgt := 299) hx hb d_L_law_292 (by decide) (fun b8 => ?_) (fun b8 => ?_)
    · skip
      refine lv_iconst (v := nI 0) hx hb d_L_law_299 (by decide) ?_
      obtain ⟨e9, he9⟩ := lr_M t_M (hI.1 M)
      refine lp_l (va_runV (C := "BigRunnerModel") (As := [.int z1, .int (nI 0)]) (rest := []) ⟨hx, hb, hml, hown, tb_nil⟩ (k7_mbound l g H.size f5 M n hT sg z1 ((nI 0)) hL t_M hI hM) ⟨(callB_of 2 (tb_one (wd_1269 hB _)) tb_good1 rfl rfl rfl (wd_82 hB _) (wd_1266 hB _) (by decide +kernel) ⟨Nat.le_of_ble_eq_true rfl, Nat.le_of_ble_eq_true rfl⟩), (wd_1267 hB _), (wd_1268 hB _)⟩ ⟨pe_bl, pg_recv (ci := 10) hK hP (lo_in hL t_M (by decide)) he9 rfl, pe_pre hB hK hP hD⟩ rfl rfl hl.1 rfl (lv_room (Nat.le_of_ble_eq_true rfl)) d_L_law_300 ⟨hc, hs⟩) hA hD hS (fun r9 f10 H locs hq hP hD hS => ?_)
      obtain ⟨q11, hI, hu⟩ := hq
      have hJ := hJ.un hL t_B hu (by decide)
      have hO := hO.un t_ob hu (by decide)
      have hM := q11
      refine lv_lstore (lv' := [(6, .long r9), (5, .int r4), (4, .int (nI i)), (3, .ref ob), (2, .ref M), (1, .ref B), (0, .ref b)]) hx hb d_L_law_303 hl (by decide) rfl (fun ls hl => ?_)
      refine lv_goto (tgt := 413) hx hb d_L_law_305 (by decide) ?_
      refine W.widen (k := cells + 1) (n := slots + 6) (by omega) (by omega) ?_
      exact kk f10 n hT sg H _ ls hI hJ hM hO (lv_sub hl [2, 3, 4, 5, 6] rfl) hP hD hS
    · skip
      refine lv_iconst (v := nI 1) hx hb d_L_law_295 (by decide) ?_
      refine lv_goto (tgt := 300) hx hb d_L_law_296 (by decide) ?_
      obtain ⟨e9, he9⟩ := lr_M t_M (hI.1 M)
      refine lp_l (va_runV (C := "BigRunnerModel") (As := [.int z1, .int (nI 1)]) (rest := []) ⟨hx, hb, hml, hown, tb_nil⟩ (k7_mbound l g H.size f5 M n hT sg z1 ((nI 1)) hL t_M hI hM) ⟨(callB_of 2 (tb_one (wd_1269 hB _)) tb_good1 rfl rfl rfl (wd_82 hB _) (wd_1266 hB _) (by decide +kernel) ⟨Nat.le_of_ble_eq_true rfl, Nat.le_of_ble_eq_true rfl⟩), (wd_1267 hB _), (wd_1268 hB _)⟩ ⟨pe_bl, pg_recv (ci := 10) hK hP (lo_in hL t_M (by decide)) he9 rfl, pe_pre hB hK hP hD⟩ rfl rfl hl.1 rfl (lv_room (Nat.le_of_ble_eq_true rfl)) d_L_law_300 ⟨hc, hs⟩) hA hD hS (fun r12 f13 H locs hq hP hD hS => ?_)
      obtain ⟨q14, hI, hu⟩ := hq
      have hJ := hJ.un hL t_B hu (by decide)
      have hO := hO.un t_ob hu (by decide)
      have hM := q14
      refine lv_lstore (lv' := [(6, .long r12), (5, .int r4), (4, .int (nI i)), (3, .ref ob), (2, .ref M), (1, .ref B), (0, .ref b)]) hx hb d_L_law_303 hl (by decide) rfl (fun ls hl => ?_)
      refine lv_goto (tgt := 413) hx hb d_L_law_305 (by decide) ?_
      refine W.widen (k := cells + 1) (n := slots + 6) (by omega) (by omega) ?_
      exact kk f13 n hT sg H _ ls hI hJ hM hO (lv_sub hl [2, 3, 4, 5, 6] rfl) hP hD hS
  · skip
    refine lv_iconst (v := nI 1) hx hb d_L_law_268 (by decide) ?_
    refine lv_goto (tgt := 273) hx hb d_L_law_269 (by decide) ?_
    refine lv_aload_n hx hb d_L_law_273 rfl (lv_at hl 1 rfl) ?_
    refine lp_i (tw_runS (As := [.ref B, .int z1, .int (nI 1), .ref ob]) (rest := []) (n := 4) hx hb hml hown (h6_bound l g H.size f B n hT sg ob z1 ((nI 1)) hL t_B hI hJ m_ob t_ob y_ob hO hLt) (wd_882 hB _) (wd_71 hB _) (wd_880 hB _) (wd_881 hB _) (by decide +kernel) ⟨Nat.le_of_ble_eq_true rfl, Nat.le_of_ble_eq_true rfl⟩ rfl rfl ⟨pt_bl, lp_pre hTZ hA hS hB hK hP hD⟩ rfl rfl hl.1 rfl (lv_room (Nat.le_of_ble_eq_true rfl)) d_L_law_274 ⟨hc, hs⟩) hA hD hS (fun r15 f16 H locs hq hP hD hS => ?_)
    obtain ⟨hqc, hI, hu, hO⟩ := hq
    have hM := hM.un hL t_M hu (by decide)
    have hJ := hqc
    refine lv_istore (lv' := [(5, .int r15), (4, .int (nI i)), (3, .ref ob), (2, .ref M), (1, .ref B), (0, .ref b)]) hx hb d_L_law_277 hl (by decide) rfl (fun ls hl => ?_)
    refine lv_aload_n hx hb d_L_law_279 rfl (lv_at hl 3 rfl) ?_
    refine lv_aload_n hx hb d_L_law_280 rfl (lv_at hl 5 rfl) ?_
    refine lv_iload hx hb d_L_law_281 (lv_at hl 1 rfl) ?_
    refine lv_iconst (v := nI 1) hx hb d_L_law_283 (by decide) ?_
    refine pf_iaddN (x := i) (y := 1) hx hb d_L_law_284 ?_
    refine va_sld hx hb hX hbl hbA hS (vp_in_nI (by omega) (by omega)) d_L_law_285 ?_
    refine lv_topi (fun z17 hz17 => ?_)
    obtain rfl : z1 = z17 := hz1.trans hz17.symm
    refine lv_aload_n hx hb d_L_law_286 rfl (lv_at hl 5 rfl) ?_
    refine lv_iload hx hb d_L_law_287 (lv_at hl 1 rfl) ?_
    refine lv_iconst (v := nI 2) hx hb d_L_law_289 (by decide) ?_
    refine pf_iaddN (x := i) (y := 2) hx hb d_L_law_290 ?_
    refine va_sld hx hb hX hbl hbA hS (vp_in_nI (by omega) (by omega)) d_L_law_291 ?_
    refine lv_topi (fun z18 hz18 => ?_)
    obtain rfl : z2 = z18 := hz2.trans hz18.symm
    refine lv_if_eq (tgt := 299) hx hb d_L_law_292 (by decide) (fun b19 => ?_) (fun b19 => ?_)
    · skip
      refine lv_iconst (v := nI 0) hx hb d_L_law_299 (by decide) ?_
      obtain ⟨e9, he9⟩ := lr_M t_M (hI.1 M)
      refine lp_l (va_runV (C := "BigRunnerModel") (As := [.int z1, .int (nI 0)]) (rest := []) ⟨hx, hb, hml, hown, tb_nil⟩ (k7_mbound l g H.size f16 M n hT sg z1 ((nI 0)) hL t_M hI hM) ⟨(callB_of 2 (tb_one (wd_1269 hB _)) tb_good1 rfl rfl rfl (wd_82 hB _) (wd_1266 hB _) (by decide +kernel) ⟨Nat.le_of_ble_eq_true rfl, Nat.le_of_ble_eq_true rfl⟩), (wd_1267 hB _), (wd_1268 hB _)⟩ ⟨pe_bl, pg_recv (ci := 10) hK hP (lo_in hL t_M (by decide)) he9 rfl, pe_pre hB hK hP hD⟩ rfl rfl hl.1 rfl (lv_room (Nat.le_of_ble_eq_true rfl)) d_L_law_300 ⟨hc, hs⟩) hA hD hS (fun r20 f21 H locs hq hP hD hS => ?_)
      obtain ⟨q22, hI, hu⟩ := hq
      have hJ := hJ.un hL t_B hu (by decide)
      have hO := hO.un t_ob hu (by decide)
      have hM := q22
      refine lv_lstore (lv' := [(6, .long r20), (5, .int r15), (4, .int (nI i)), (3, .ref ob), (2, .ref M), (1, .ref B), (0, .ref b)]) hx hb d_L_law_303 hl (by decide) rfl (fun ls hl => ?_)
      refine lv_goto (tgt := 413) hx hb d_L_law_305 (by decide) ?_
      refine W.widen (k := cells + 1) (n := slots + 6) (by omega) (by omega) ?_
      exact kk f21 n hT sg H _ ls hI hJ hM hO (lv_sub hl [2, 3, 4, 5, 6] rfl) hP hD hS
    · skip
      refine lv_iconst (v := nI 1) hx hb d_L_law_295 (by decide) ?_
      refine lv_goto (tgt := 300) hx hb d_L_law_296 (by decide) ?_
      obtain ⟨e9, he9⟩ := lr_M t_M (hI.1 M)
      refine lp_l (va_runV (C := "BigRunnerModel") (As := [.int z1, .int (nI 1)]) (rest := []) ⟨hx, hb, hml, hown, tb_nil⟩ (k7_mbound l g H.size f16 M n hT sg z1 ((nI 1)) hL t_M hI hM) ⟨(callB_of 2 (tb_one (wd_1269 hB _)) tb_good1 rfl rfl rfl (wd_82 hB _) (wd_1266 hB _) (by decide +kernel) ⟨Nat.le_of_ble_eq_true rfl, Nat.le_of_ble_eq_true rfl⟩), (wd_1267 hB _), (wd_1268 hB _)⟩ ⟨pe_bl, pg_recv (ci := 10) hK hP (lo_in hL t_M (by decide)) he9 rfl, pe_pre hB hK hP hD⟩ rfl rfl hl.1 rfl (lv_room (Nat.le_of_ble_eq_true rfl)) d_L_law_300 ⟨hc, hs⟩) hA hD hS (fun r23 f24 H locs hq hP hD hS => ?_)
      obtain ⟨q25, hI, hu⟩ := hq
      have hJ := hJ.un hL t_B hu (by decide)
      have hO := hO.un t_ob hu (by decide)
      have hM := q25
      refine lv_lstore (lv' := [(6, .long r23), (5, .int r15), (4, .int (nI i)), (3, .ref ob), (2, .ref M), (1, .ref B), (0, .ref b)]) hx hb d_L_law_303 hl (by decide) rfl (fun ls hl => ?_)
      refine lv_goto (tgt := 413) hx hb d_L_law_305 (by decide) ?_
      refine W.widen (k := cells + 1) (n := slots + 6) (by omega) (by omega) ?_
      exact kk f24 n hT sg H _ ls hI hJ hM hO (lv_sub hl [2, 3, 4, 5, 6] rfl) hP hD hS
set_option maxHeartbeats 4000000 in
set_option maxRecDepth 100000 in
theorem law_c7 {p : Program} {l : Launch} {e : Env} {s : State} {m : MethodId} {below : List Frame} {meth : Method} {c : Code} {b Ls : Nat} {xs : Nat → Int32} {A : Nat → Prop} {g : Lay} {B M ob : Nat} {i cells slots : Nat} (hx : p.tables.exec = Jvm.exec) (hb : c.code = code) (hr : meth.sig.returnType = ret) (hml : c.maxLocals = 8) (hlocks : meth.locks = false) (hown : s.vm.findClass "BigRunnerLaw" = some m.cls) (hB : TB s) (hLt : l.stackTraces = false) (hTZ : TZ A s s.heap) (hA : ∀ q, s.heap.size ≤ q → A q) (hA2 : ∀ q, A q → s.heap.size ≤ q) (hX : va_X b Ls xs s s.heap) (hbl : b < s.heap.size) (hbA : ¬ A b) (hLs : Ls ≤ 1536) (hK : va_K g.D vcl g.tys s) (hL : LO g) (t_B : g.tg B = 1) (t_M : g.tg M = 11) (m_ob : ob ∈ g.LP) (t_ob : g.tg ob = 0) (y_ob : g.tys[g.tn ob]? = some (g.ac ob, .long)) (hi : i + 2 < Ls) (hc : cells + 1 ≤ room_1.cells) (hs : slots + 6 ≤ room_1.slots) (f : Nat → va_E) (n : Nat) (hT : Nat → Int32) (sg : GS) (H : Heap) (locs : List Loc) (ls : Array Slot) (hI : IV g f) (hJ : CV2 g B f n hT sg) (hM : MV2 g M f n hT sg) (hO : OB g f ob) (hl : lv_has ls 8 [(4, .int (nI i)), (3, .ref ob), (2, .ref M), (1, .ref B), (0, .ref b)]) (hP : va_P g.D vcl (va_pl g.LP f) H) (hD : va_D A (va_pl g.LP f)) (hS : va_S A s.heap H locs) (kk : ∀ (f : Nat → va_E) (n : Nat) (hT : Nat → Int32) (sg : GS) (H : Heap) (locs : List Loc) (ls : Array Slot), IV g f → CV2 g B f n hT sg → MV2 g M f n hT sg → OB g f ob → lv_has ls 8 [(4, .int (nI i)), (3, .ref ob), (2, .ref M), (1, .ref B), (0, .ref b)] → va_P g.D vcl (va_pl g.LP f) H → va_D A (va_pl g.LP f) → va_S A s.heap H locs → W p l e room_1 s m #[Value.ref b] below meth c H locs (cells + 1) (slots + 6) (lw_Z below #[Value.ref b] s) (F0 m 413 ls [])) : W p l e room_1 s m #[Value.ref b] below meth c H locs cells slots (lw_Z below #[Value.ref b] s) (F0 m 308 ls []) := by
  refine lv_aload_n hx hb d_L_law_308 rfl (lv_at hl 3 rfl) ?_
  refine lv_aload_n hx hb d_L_law_309 rfl (lv_at hl 4 rfl) ?_
  refine lv_iload hx hb d_L_law_310 (lv_at hl 0 rfl) ?_
  refine lv_iconst (v := nI 1) hx hb d_L_law_312 (by decide) ?_
  refine pf_iaddN (x := i) (y := 1) hx hb d_L_law_313 ?_
  refine va_sld hx hb hX hbl hbA hS (vp_in_nI (by omega) (by omega)) d_L_law_314 ?_
  refine lv_topi (fun z1 hz1 => ?_)
  obtain ⟨e9, he9⟩ := lr_B t_B (hI.1 B)
  refine lp_i (va_runV (C := "BigRunner") (As := [.int z1]) (rest := []) ⟨hx, hb, hml, hown, tb_nil⟩ (k6_csmall l g H.size f B n hT sg z1 hL t_B hI hJ) ⟨(callB_of 1 (tb_one (wd_432 hB _)) tb_good1 rfl rfl rfl (wd_72 hB _) (wd_429 hB _) (by decide +kernel) ⟨Nat.le_of_ble_eq_true rfl, Nat.le_of_ble_eq_true rfl⟩), (wd_430 hB _), (wd_431 hB _)⟩ ⟨pe_bl, pg_recv (ci := 0) hK hP (lo_in hL t_B (by decide)) he9 rfl, pe_pre hB hK hP hD⟩ rfl rfl hl.1 rfl (lv_room (Nat.le_of_ble_eq_true rfl)) d_L_law_315 ⟨Nat.le_of_succ_le hc, Nat.le_trans (Nat.le_add_right slots 6) hs⟩) hA hD hS (fun r2 f3 H locs hq hP hD hS => ?_)
  obtain ⟨q4, hI, hu⟩ := hq
  have hM := hM.un hL t_M hu (by decide)
  have hO := hO.un t_ob hu (by decide)
  have hJ := q4
  refine lv_pop hx hb d_L_law_318 rfl ?_
  refine lv_aload_n hx hb d_L_law_319 rfl (lv_at hl 2 rfl) ?_
  refine lv_aload_n hx hb d_L_law_320 rfl (lv_at hl 4 rfl) ?_
  refine lv_iload hx hb d_L_law_321 (lv_at hl 0 rfl) ?_
  refine lv_iconst (v := nI 1) hx hb d_L_law_323 (by decide) ?_
  refine pf_iaddN (x := i) (y := 1) hx hb d_L_law_324 ?_
  refine va_sld hx hb hX hbl hbA hS (vp_in_nI (by omega) (by omega)) d_L_law_325 ?_
  refine lv_topi (fun z5 hz5 => ?_)
  obtain rfl : z1 = z5 := hz1.trans hz5.symm
  obtain ⟨e9, he9⟩ := lr_M t_M (hI.1 M)
  refine lp_i (va_runV (C := "BigRunnerModel") (As := [.int z1]) (rest := []) ⟨hx, hb, hml, hown, tb_nil⟩ (k7_msmall l g H.size f3 M n hT sg z1 hL t_M hI hM) ⟨(callB_of 1 (tb_one (wd_1273 hB _)) tb_good1 rfl rfl rfl (wd_82 hB _) (wd_1270 hB _) (by decide +kernel) ⟨Nat.le_of_ble_eq_true rfl, Nat.le_of_ble_eq_true rfl⟩), (wd_1271 hB _), (wd_1272 hB _)⟩ ⟨pe_bl, pg_recv (ci := 10) hK hP (lo_in hL t_M (by decide)) he9 rfl, pe_pre hB hK hP hD⟩ rfl rfl hl.1 rfl (lv_room (Nat.le_of_ble_eq_true rfl)) d_L_law_326 ⟨Nat.le_of_succ_le hc, Nat.le_trans (Nat.le_add_right slots 6) hs⟩) hA hD hS (fun r6 f7 H locs hq hP hD hS => ?_)
  obtain ⟨q8, hI, hu⟩ := hq
  have hJ := hJ.un hL t_B hu (by decide)
  have hO := hO.un t_ob hu (by decide)
  have hM := q8
  refine lv_pop hx hb d_L_law_329 rfl ?_
  refine lv_goto (tgt := 413) hx hb d_L_law_330 (by decide) ?_
  refine W.widen (k := cells + 1) (n := slots + 6) (by omega) (by omega) ?_
  exact kk f7 n hT sg H _ ls hI hJ hM hO (lv_sub hl [0, 1, 2, 3, 4] rfl) hP hD hS
set_option maxHeartbeats 4000000 in
set_option maxRecDepth 100000 in
theorem law_c8 {p : Program} {l : Launch} {e : Env} {s : State} {m : MethodId} {below : List Frame} {meth : Method} {c : Code} {b Ls : Nat} {xs : Nat → Int32} {A : Nat → Prop} {g : Lay} {B M ob : Nat} {i cells slots : Nat} (hx : p.tables.exec = Jvm.exec) (hb : c.code = code) (hr : meth.sig.returnType = ret) (hml : c.maxLocals = 8) (hlocks : meth.locks = false) (hown : s.vm.findClass "BigRunnerLaw" = some m.cls) (hB : TB s) (hLt : l.stackTraces = false) (hTZ : TZ A s s.heap) (hA : ∀ q, s.heap.size ≤ q → A q) (hA2 : ∀ q, A q → s.heap.size ≤ q) (hX : va_X b Ls xs s s.heap) (hbl : b < s.heap.size) (hbA : ¬ A b) (hLs : Ls ≤ 1536) (hK : va_K g.D vcl g.tys s) (hL : LO g) (t_B : g.tg B = 1) (t_M : g.tg M = 11) (m_ob : ob ∈ g.LP) (t_ob : g.tg ob = 0) (y_ob : g.tys[g.tn ob]? = some (g.ac ob, .long)) (hi : i + 2 < Ls) (hc : cells + 1 ≤ room_1.cells) (hs : slots + 6 ≤ room_1.slots) (f : Nat → va_E) (n : Nat) (hT : Nat → Int32) (sg : GS) (H : Heap) (locs : List Loc) (ls : Array Slot) (hI : IV g f) (hJ : CV2 g B f n hT sg) (hM : MV2 g M f n hT sg) (hO : OB g f ob) (hl : lv_has ls 8 [(4, .int (nI i)), (3, .ref ob), (2, .ref M), (1, .ref B), (0, .ref b)]) (hP : va_P g.D vcl (va_pl g.LP f) H) (hD : va_D A (va_pl g.LP f)) (hS : va_S A s.heap H locs) (kk : ∀ (f : Nat → va_E) (n : Nat) (hT : Nat → Int32) (sg : GS) (H : Heap) (locs : List Loc) (ls : Array Slot), IV g f → CV2 g B f n hT sg → MV2 g M f n hT sg → OB g f ob → lv_has ls 8 [(4, .int (nI i)), (3, .ref ob), (2, .ref M), (1, .ref B), (0, .ref b)] → va_P g.D vcl (va_pl g.LP f) H → va_D A (va_pl g.LP f) → va_S A s.heap H locs → W p l e room_1 s m #[Value.ref b] below meth c H locs (cells + 1) (slots + 6) (lw_Z below #[Value.ref b] s) (F0 m 413 ls [])) : W p l e room_1 s m #[Value.ref b] below meth c H locs cells slots (lw_Z below #[Value.ref b] s) (F0 m 333 ls []) := by
  refine lv_aload_n hx hb d_L_law_333 rfl (lv_at hl 3 rfl) ?_
  refine lv_aload_n hx hb d_L_law_334 rfl (lv_at hl 4 rfl) ?_
  refine lv_iload hx hb d_L_law_335 (lv_at hl 0 rfl) ?_
  refine lv_iconst (v := nI 1) hx hb d_L_law_337 (by decide) ?_
  refine pf_iaddN (x := i) (y := 1) hx hb d_L_law_338 ?_
  refine va_sld hx hb hX hbl hbA hS (vp_in_nI (by omega) (by omega)) d_L_law_339 ?_
  refine lv_topi (fun z1 hz1 => ?_)
  refine lv_aload_n hx hb d_L_law_340 rfl (lv_at hl 4 rfl) ?_
  refine lv_iload hx hb d_L_law_341 (lv_at hl 0 rfl) ?_
  refine lv_iconst (v := nI 2) hx hb d_L_law_343 (by decide) ?_
  refine pf_iaddN (x := i) (y := 2) hx hb d_L_law_344 ?_
  refine va_sld hx hb hX hbl hbA hS (vp_in_nI (by omega) (by omega)) d_L_law_345 ?_
  refine lv_topi (fun z2 hz2 => ?_)
  refine lv_aload_n hx hb d_L_law_346 rfl (lv_at hl 1 rfl) ?_
  refine lp_i (tw_runS (As := [.ref B, .int z1, .int z2, .ref ob]) (rest := []) (n := 4) hx hb hml hown (h6_variable l g H.size f B n hT sg ob z1 z2 hL t_B hI hJ m_ob t_ob y_ob hO hLt) (wd_908 hB _) (wd_71 hB _) (wd_906 hB _) (wd_907 hB _) (by decide +kernel) ⟨Nat.le_of_ble_eq_true rfl, Nat.le_of_ble_eq_true rfl⟩ rfl rfl ⟨pt_bl, lp_pre hTZ hA hS hB hK hP hD⟩ rfl rfl hl.1 rfl (lv_room (Nat.le_of_ble_eq_true rfl)) d_L_law_347 ⟨hc, hs⟩) hA hD hS (fun r3 f4 H locs hq hP hD hS => ?_)
  obtain ⟨hqc, hI, hu, hO⟩ := hq
  have hM := hM.un hL t_M hu (by decide)
  have hJ := hqc
  refine lv_istore (lv' := [(5, .int r3), (4, .int (nI i)), (3, .ref ob), (2, .ref M), (1, .ref B), (0, .ref b)]) hx hb d_L_law_350 hl (by decide) rfl (fun ls hl => ?_)
  refine lv_aload_n hx hb d_L_law_352 rfl (lv_at hl 3 rfl) ?_
  refine lv_aload_n hx hb d_L_law_353 rfl (lv_at hl 5 rfl) ?_
  refine lv_iload hx hb d_L_law_354 (lv_at hl 1 rfl) ?_
  refine lv_iconst (v := nI 1) hx hb d_L_law_356 (by decide) ?_
  refine pf_iaddN (x := i) (y := 1) hx hb d_L_law_357 ?_
  refine va_sld hx hb hX hbl hbA hS (vp_in_nI (by omega) (by omega)) d_L_law_358 ?_
  refine lv_topi (fun z5 hz5 => ?_)
  obtain rfl : z1 = z5 := hz1.trans hz5.symm
  refine lv_aload_n hx hb d_L_law_359 rfl (lv_at hl 5 rfl) ?_
  refine lv_iload hx hb d_L_law_360 (lv_at hl 1 rfl) ?_
  refine lv_iconst (v := nI 2) hx hb d_L_law_362 (by decide) ?_
  refine pf_iaddN (x := i) (y := 2) hx hb d_L_law_363 ?_
  refine va_sld hx hb hX hbl hbA hS (vp_in_nI (by omega) (by omega)) d_L_law_364 ?_
  refine lv_topi (fun z6 hz6 => ?_)
  obtain rfl : z2 = z6 := hz2.trans hz6.symm
  obtain ⟨e9, he9⟩ := lr_M t_M (hI.1 M)
  refine lp_i (va_runV (C := "BigRunnerModel") (As := [.int z1, .int z2]) (rest := []) ⟨hx, hb, hml, hown, tb_nil⟩ (k7_mvariable l g H.size f4 M n hT sg z1 z2 hL t_M hI hM) ⟨(callB_of 2 (tb_one (wd_1277 hB _)) tb_good1 rfl rfl rfl (wd_82 hB _) (wd_1274 hB _) (by decide +kernel) ⟨Nat.le_of_ble_eq_true rfl, Nat.le_of_ble_eq_true rfl⟩), (wd_1275 hB _), (wd_1276 hB _)⟩ ⟨pe_bl, pg_recv (ci := 10) hK hP (lo_in hL t_M (by decide)) he9 rfl, pe_pre hB hK hP hD⟩ rfl rfl hl.1 rfl (lv_room (Nat.le_of_ble_eq_true rfl)) d_L_law_365 ⟨hc, hs⟩) hA hD hS (fun r7 f8 H locs hq hP hD hS => ?_)
  obtain ⟨q9, hI, hu⟩ := hq
  have hJ := hJ.un hL t_B hu (by decide)
  have hO := hO.un t_ob hu (by decide)
  have hM := q9
  refine lv_istore (lv' := [(6, .int r7), (5, .int r3), (4, .int (nI i)), (3, .ref ob), (2, .ref M), (1, .ref B), (0, .ref b)]) hx hb d_L_law_368 hl (by decide) rfl (fun ls hl => ?_)
  refine lv_goto (tgt := 413) hx hb d_L_law_370 (by decide) ?_
  refine W.widen (k := cells + 1) (n := slots + 6) (by omega) (by omega) ?_
  exact kk f8 n hT sg H _ ls hI hJ hM hO (lv_sub hl [2, 3, 4, 5, 6] rfl) hP hD hS
set_option maxHeartbeats 4000000 in
set_option maxRecDepth 100000 in
theorem law_c9 {p : Program} {l : Launch} {e : Env} {s : State} {m : MethodId} {below : List Frame} {meth : Method} {c : Code} {b Ls : Nat} {xs : Nat → Int32} {A : Nat → Prop} {g : Lay} {B M ob : Nat} {i cells slots : Nat} (hx : p.tables.exec = Jvm.exec) (hb : c.code = code) (hr : meth.sig.returnType = ret) (hml : c.maxLocals = 8) (hlocks : meth.locks = false) (hown : s.vm.findClass "BigRunnerLaw" = some m.cls) (hB : TB s) (hLt : l.stackTraces = false) (hTZ : TZ A s s.heap) (hA : ∀ q, s.heap.size ≤ q → A q) (hA2 : ∀ q, A q → s.heap.size ≤ q) (hX : va_X b Ls xs s s.heap) (hbl : b < s.heap.size) (hbA : ¬ A b) (hLs : Ls ≤ 1536) (hK : va_K g.D vcl g.tys s) (hL : LO g) (t_B : g.tg B = 1) (t_M : g.tg M = 11) (m_ob : ob ∈ g.LP) (t_ob : g.tg ob = 0) (y_ob : g.tys[g.tn ob]? = some (g.ac ob, .long)) (hi : i + 2 < Ls) (hc : cells + 1 ≤ room_1.cells) (hs : slots + 6 ≤ room_1.slots) (f : Nat → va_E) (n : Nat) (hT : Nat → Int32) (sg : GS) (H : Heap) (locs : List Loc) (ls : Array Slot) (hI : IV g f) (hJ : CV2 g B f n hT sg) (hM : MV2 g M f n hT sg) (hO : OB g f ob) (hl : lv_has ls 8 [(4, .int (nI i)), (3, .ref ob), (2, .ref M), (1, .ref B), (0, .ref b)]) (hP : va_P g.D vcl (va_pl g.LP f) H) (hD : va_D A (va_pl g.LP f)) (hS : va_S A s.heap H locs) (kk : ∀ (f : Nat → va_E) (n : Nat) (hT : Nat → Int32) (sg : GS) (H : Heap) (locs : List Loc) (ls : Array Slot), IV g f → CV2 g B f n hT sg → MV2 g M f n hT sg → OB g f ob → lv_has ls 8 [(4, .int (nI i)), (3, .ref ob), (2, .ref M), (1, .ref B), (0, .ref b)] → va_P g.D vcl (va_pl g.LP f) H → va_D A (va_pl g.LP f) → va_S A s.heap H locs → W p l e room_1 s m #[Value.ref b] below meth c H locs (cells + 1) (slots + 6) (lw_Z below #[Value.ref b] s) (F0 m 413 ls [])) : W p l e room_1 s m #[Value.ref b] below meth c H locs cells slots (lw_Z below #[Value.ref b] s) (F0 m 373 ls []) := by
  refine lv_aload_n hx hb d_L_law_373 rfl (lv_at hl 3 rfl) ?_
  refine lv_aload_n hx hb d_L_law_374 rfl (lv_at hl 4 rfl) ?_
  refine lv_iload hx hb d_L_law_375 (lv_at hl 0 rfl) ?_
  refine lv_iconst (v := nI 1) hx hb d_L_law_377 (by decide) ?_
  refine pf_iaddN (x := i) (y := 1) hx hb d_L_law_378 ?_
  refine va_sld hx hb hX hbl hbA hS (vp_in_nI (by omega) (by omega)) d_L_law_379 ?_
  refine lv_topi (fun z1 hz1 => ?_)
  refine lv_aload_n hx hb d_L_law_380 rfl (lv_at hl 4 rfl) ?_
  refine lv_iload hx hb d_L_law_381 (lv_at hl 0 rfl) ?_
  refine lv_iconst (v := nI 2) hx hb d_L_law_383 (by decide) ?_
  refine pf_iaddN (x := i) (y := 2) hx hb d_L_law_384 ?_
  refine va_sld hx hb hX hbl hbA hS (vp_in_nI (by omega) (by omega)) d_L_law_385 ?_
  refine lv_topi (fun z2 hz2 => ?_)
  refine lv_aload_n hx hb d_L_law_386 rfl (lv_at hl 1 rfl) ?_
  refine lp_i (tw_runS (As := [.ref B, .int z1, .int z2, .ref ob]) (rest := []) (n := 4) hx hb hml hown (h6_output l g H.size f B n hT sg ob z1 z2 hL t_B hI hJ m_ob t_ob y_ob hO hLt) (wd_930 hB _) (wd_71 hB _) (wd_928 hB _) (wd_929 hB _) (by decide +kernel) ⟨Nat.le_of_ble_eq_true rfl, Nat.le_of_ble_eq_true rfl⟩ rfl rfl ⟨pt_bl, lp_pre hTZ hA hS hB hK hP hD⟩ rfl rfl hl.1 rfl (lv_room (Nat.le_of_ble_eq_true rfl)) d_L_law_387 ⟨hc, hs⟩) hA hD hS (fun r3 f4 H locs hq hP hD hS => ?_)
  obtain ⟨hqc, hI, hu, hO⟩ := hq
  have hM := hM.un hL t_M hu (by decide)
  have hJ := hqc
  refine lv_istore (lv' := [(5, .int r3), (4, .int (nI i)), (3, .ref ob), (2, .ref M), (1, .ref B), (0, .ref b)]) hx hb d_L_law_390 hl (by decide) rfl (fun ls hl => ?_)
  refine lv_aload_n hx hb d_L_law_392 rfl (lv_at hl 3 rfl) ?_
  refine lv_aload_n hx hb d_L_law_393 rfl (lv_at hl 5 rfl) ?_
  refine lv_iload hx hb d_L_law_394 (lv_at hl 1 rfl) ?_
  refine lv_iconst (v := nI 1) hx hb d_L_law_396 (by decide) ?_
  refine pf_iaddN (x := i) (y := 1) hx hb d_L_law_397 ?_
  refine va_sld hx hb hX hbl hbA hS (vp_in_nI (by omega) (by omega)) d_L_law_398 ?_
  refine lv_topi (fun z5 hz5 => ?_)
  obtain rfl : z1 = z5 := hz1.trans hz5.symm
  refine lv_aload_n hx hb d_L_law_399 rfl (lv_at hl 5 rfl) ?_
  refine lv_iload hx hb d_L_law_400 (lv_at hl 1 rfl) ?_
  refine lv_iconst (v := nI 2) hx hb d_L_law_402 (by decide) ?_
  refine pf_iaddN (x := i) (y := 2) hx hb d_L_law_403 ?_
  refine va_sld hx hb hX hbl hbA hS (vp_in_nI (by omega) (by omega)) d_L_law_404 ?_
  refine lv_topi (fun z6 hz6 => ?_)
  obtain rfl : z2 = z6 := hz2.trans hz6.symm
  obtain ⟨e9, he9⟩ := lr_M t_M (hI.1 M)
  refine lp_i (va_runV (C := "BigRunnerModel") (As := [.int z1, .int z2]) (rest := []) ⟨hx, hb, hml, hown, tb_nil⟩ (k7_moutput l g H.size f4 M n hT sg z1 z2 hL t_M hI hM) ⟨(callB_of 2 (tb_one (wd_1284 hB _)) tb_good1 rfl rfl rfl (wd_82 hB _) (wd_1281 hB _) (by decide +kernel) ⟨Nat.le_of_ble_eq_true rfl, Nat.le_of_ble_eq_true rfl⟩), (wd_1282 hB _), (wd_1283 hB _)⟩ ⟨pe_bl, pg_recv (ci := 10) hK hP (lo_in hL t_M (by decide)) he9 rfl, pe_pre hB hK hP hD⟩ rfl rfl hl.1 rfl (lv_room (Nat.le_of_ble_eq_true rfl)) d_L_law_405 ⟨hc, hs⟩) hA hD hS (fun r7 f8 H locs hq hP hD hS => ?_)
  obtain ⟨q9, hI, hu⟩ := hq
  have hJ := hJ.un hL t_B hu (by decide)
  have hO := hO.un t_ob hu (by decide)
  have hM := q9
  refine lv_istore (lv' := [(6, .int r7), (5, .int r3), (4, .int (nI i)), (3, .ref ob), (2, .ref M), (1, .ref B), (0, .ref b)]) hx hb d_L_law_408 hl (by decide) rfl (fun ls hl => ?_)
  refine lv_goto (tgt := 413) hx hb d_L_law_410 (by decide) ?_
  refine W.widen (k := cells + 1) (n := slots + 6) (by omega) (by omega) ?_
  exact kk f8 n hT sg H _ ls hI hJ hM hO (lv_sub hl [2, 3, 4, 5, 6] rfl) hP hD hS

